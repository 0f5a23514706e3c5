/-! ===== the lemmas in plain numbers, by program ===== -/
theorem k_quaT2 {V : zVw} {i u bb l H p y d q b s o a1 a2 a3 : Int} (T0 : q_sto V 0 H p y d q b s o a1 a2 a3) (T1 : q_qry V (28 : Int) q b s o a1 a2 a3 i bb l) (T2 : q_qry V (17 : Int) q b s o a1 a2 a3 i (0 : Int) u) (C0 : 0 ≤ i - 1) (C1 : 0 ≤ p - i - 1) (C2 : 0 ≤ bb) (C3 : 0 ≤ l - u - 1) : (True) ∧ (q_qry V (28 : Int) q b s o a1 a2 a3 (i + 1) i u ∧ True) := by
  have z0 := g_k28 T1
  have z1 := g_k17 T2
  obtain ⟨⟨p1, p2, p3⟩, p4, p5⟩ := g_st0_pt T0
  have w9 := T0.1.1
  have w24 := w9.2.1
  have wH := w9.1
  exact ⟨trivial, g_qs T0 (g_Q28 (g_qT (by omega) (by omega) z0 z1 (Or.inr (by omega)))), trivial⟩
theorem k_mquT2 {V : zVw} {i u bb l p H q b s o a1 a2 a3 : Int} (T0 : q_rwo V H q b s o a1 a2 a3) (T1 : q_qry V (28 : Int) q b s o a1 a2 a3 i bb l) (T2 : q_qry V (17 : Int) q b s o a1 a2 a3 i (0 : Int) u) (C0 : 0 ≤ i - 1) (C1 : 0 ≤ p - i - 1) (C2 : 0 ≤ bb) (C3 : 0 ≤ l - u - 1) (F0 : (0 : Int) ≤ 24 ∧ (24 : Int) < j_len 78 ∧ V 78 (24) = p) : (True) ∧ (q_qry V (28 : Int) q b s o a1 a2 a3 (i + 1) i u ∧ True) := by
  have z0 := g_k28 T1
  have z1 := g_k17 T2
  have h8 := g_rwo_at T0 (i := 24) (by omega) (by omega)
  have h7 := F0.2.2
  exact ⟨trivial, g_qr T0 (g_Q28 (g_qT (by omega) (by omega) z0 z1 (Or.inr (by omega)))), trivial⟩
theorem k_quaN {V : zVw} {i u bb l H p y d q b s o a1 a2 a3 : Int} (T0 : q_sto V 0 H p y d q b s o a1 a2 a3) (T1 : q_qry V (28 : Int) q b s o a1 a2 a3 i bb l) (T2 : q_qry V (17 : Int) q b s o a1 a2 a3 i (0 : Int) u) (C0 : 0 ≤ i - 1) (C1 : 0 ≤ p - i - 1) (C2 : 0 ≤ bb) (C3 : 0 ≤ u - l) : (True) ∧ (q_qry V (28 : Int) q b s o a1 a2 a3 (i + 1) bb l ∧ True) := by
  have z0 := g_k28 T1
  have z1 := g_k17 T2
  obtain ⟨⟨p1, p2, p3⟩, p4, p5⟩ := g_st0_pt T0
  have w9 := T0.1.1
  have w24 := w9.2.1
  have wH := w9.1
  exact ⟨trivial, g_qs T0 (g_Q28 (g_qN (by omega) (by omega) z0 z1 (by omega) (by omega))), trivial⟩
theorem k_mquN {V : zVw} {i u bb l p H q b s o a1 a2 a3 : Int} (T0 : q_rwo V H q b s o a1 a2 a3) (T1 : q_qry V (28 : Int) q b s o a1 a2 a3 i bb l) (T2 : q_qry V (17 : Int) q b s o a1 a2 a3 i (0 : Int) u) (C0 : 0 ≤ i - 1) (C1 : 0 ≤ p - i - 1) (C2 : 0 ≤ bb) (C3 : 0 ≤ u - l) (F0 : (0 : Int) ≤ 24 ∧ (24 : Int) < j_len 78 ∧ V 78 (24) = p) : (True) ∧ (q_qry V (28 : Int) q b s o a1 a2 a3 (i + 1) bb l ∧ True) := by
  have z0 := g_k28 T1
  have z1 := g_k17 T2
  have h8 := g_rwo_at T0 (i := 24) (by omega) (by omega)
  have h7 := F0.2.2
  exact ⟨trivial, g_qr T0 (g_Q28 (g_qN (by omega) (by omega) z0 z1 (by omega) (by omega))), trivial⟩
theorem k_quaE {V : zVw} {i bb l H p y d q b s o a1 a2 a3 : Int} (T0 : q_sto V 0 H p y d q b s o a1 a2 a3) (T1 : q_qry V (28 : Int) q b s o a1 a2 a3 i bb l) (C0 : 0 ≤ i - p) : (True) ∧ (q_qry V (28 : Int) q b s o a1 a2 a3 p bb l ∧ True) := by
  have z0 := g_k28 T1
  obtain ⟨⟨p1, p2, p3⟩, p4, p5⟩ := g_st0_pt T0
  have w9 := T0.1.1
  have w24 := w9.2.1
  have wH := w9.1
  exact ⟨trivial, g_qs T0 (g_Q28 (g_qE p1 (by omega) z0)), trivial⟩
theorem k_mquE {V : zVw} {i bb l p H q b s o a1 a2 a3 : Int} (T0 : q_rwo V H q b s o a1 a2 a3) (T1 : q_qry V (28 : Int) q b s o a1 a2 a3 i bb l) (C0 : 0 ≤ i - p) (F0 : (0 : Int) ≤ 24 ∧ (24 : Int) < j_len 78 ∧ V 78 (24) = p) : (True) ∧ (q_qry V (28 : Int) q b s o a1 a2 a3 p bb l ∧ True) := by
  have z0 := g_k28 T1
  have h8 := g_rwo_at T0 (i := 24) (by omega) (by omega)
  have h7 := F0.2.2
  exact ⟨trivial, g_qr T0 (g_Q28 (g_qE (h7.symm.trans h8) (by omega) z0)), trivial⟩
theorem k_mqu0 {V : zVw} {H q b s o a1 a2 a3 : Int} (T0 : q_rwo V H q b s o a1 a2 a3) : (True) ∧ (q_qry V (28 : Int) q b s o a1 a2 a3 (1 : Int) (-2 : Int) (-2 : Int) ∧ True) := by
  exact ⟨trivial, g_qr T0 (g_Q28 g_q0), trivial⟩
theorem k_qeQ {V : zVw} {q p bb l bc k : Int} (T0 : q_qry V (28 : Int) q (0 : Int) (0 : Int) (0 : Int) (0 : Int) (0 : Int) (0 : Int) p bb l) (T1 : q_qry V (28 : Int) q (0 : Int) (0 : Int) (0 : Int) (0 : Int) (0 : Int) (0 : Int) p bc k) : (0 ≤ bb - bc ∧ 0 ≤ bc - bb ∧ 0 ≤ l - k ∧ 0 ≤ k - l ∧ True) ∧ (True) := by
  have h9 := g_k28 T0
  have h8 := g_k28 T1
  rw [h9] at h8
  have h7 : bb = bc := congrArg Prod.fst h8
  have h6 : l = k := congrArg Prod.snd h8
  exact ⟨⟨by omega, by omega, by omega, by omega, trivial⟩, trivial⟩
theorem k_gre0 {V : zVw} {p y d H : Int} (T0 : q_sto V 0 H p y d (0 : Int) (0 : Int) (0 : Int) (0 : Int) (0 : Int) (0 : Int) (0 : Int)) : (True) ∧ (q_qry V (29 : Int) (0 : Int) (0 : Int) (0 : Int) (0 : Int) (0 : Int) (0 : Int) (0 : Int) (0 : Int) (-2 : Int) (-2 : Int) ∧ True) := by
  exact ⟨trivial, g_qs T0 (g_Q29 g_q0), trivial⟩
theorem k_greT1 {V : zVw} {i u bb l H p y d : Int} (T0 : q_sto V 0 H p y d (0 : Int) (0 : Int) (0 : Int) (0 : Int) (0 : Int) (0 : Int) (0 : Int)) (T1 : q_qry V (29 : Int) (0 : Int) (0 : Int) (0 : Int) (0 : Int) (0 : Int) (0 : Int) (0 : Int) i bb l) (T2 : q_qry V (18 : Int) (0 : Int) (0 : Int) (0 : Int) (0 : Int) (0 : Int) (0 : Int) (0 : Int) i (0 : Int) u) (C0 : 0 ≤ i) (C1 : 0 ≤ p - i - 1) (C2 : 0 ≤ -bb - 1) : (True) ∧ (q_qry V (29 : Int) (0 : Int) (0 : Int) (0 : Int) (0 : Int) (0 : Int) (0 : Int) (0 : Int) (i + 1) i u ∧ True) := by
  have z0 := g_k29 T1
  have z1 := g_k18 T2
  obtain ⟨⟨p1, p2, p3⟩, p4, p5⟩ := g_st0_pt T0
  have w9 := T0.1.1
  have w24 := w9.2.1
  have wH := w9.1
  exact ⟨trivial, g_qs T0 (g_Q29 (g_qT (by omega) (by omega) z0 z1 (Or.inl (by omega)))), trivial⟩
theorem k_greT2 {V : zVw} {i u bb l H p y d : Int} (T0 : q_sto V 0 H p y d (0 : Int) (0 : Int) (0 : Int) (0 : Int) (0 : Int) (0 : Int) (0 : Int)) (T1 : q_qry V (29 : Int) (0 : Int) (0 : Int) (0 : Int) (0 : Int) (0 : Int) (0 : Int) (0 : Int) i bb l) (T2 : q_qry V (18 : Int) (0 : Int) (0 : Int) (0 : Int) (0 : Int) (0 : Int) (0 : Int) (0 : Int) i (0 : Int) u) (C0 : 0 ≤ i) (C1 : 0 ≤ p - i - 1) (C2 : 0 ≤ bb) (C3 : 0 ≤ l - u - 1) : (True) ∧ (q_qry V (29 : Int) (0 : Int) (0 : Int) (0 : Int) (0 : Int) (0 : Int) (0 : Int) (0 : Int) (i + 1) i u ∧ True) := by
  have z0 := g_k29 T1
  have z1 := g_k18 T2
  obtain ⟨⟨p1, p2, p3⟩, p4, p5⟩ := g_st0_pt T0
  have w9 := T0.1.1
  have w24 := w9.2.1
  have wH := w9.1
  exact ⟨trivial, g_qs T0 (g_Q29 (g_qT (by omega) (by omega) z0 z1 (Or.inr (by omega)))), trivial⟩
theorem k_greN {V : zVw} {i u bb l H p y d : Int} (T0 : q_sto V 0 H p y d (0 : Int) (0 : Int) (0 : Int) (0 : Int) (0 : Int) (0 : Int) (0 : Int)) (T1 : q_qry V (29 : Int) (0 : Int) (0 : Int) (0 : Int) (0 : Int) (0 : Int) (0 : Int) (0 : Int) i bb l) (T2 : q_qry V (18 : Int) (0 : Int) (0 : Int) (0 : Int) (0 : Int) (0 : Int) (0 : Int) (0 : Int) i (0 : Int) u) (C0 : 0 ≤ i) (C1 : 0 ≤ p - i - 1) (C2 : 0 ≤ bb) (C3 : 0 ≤ u - l) : (True) ∧ (q_qry V (29 : Int) (0 : Int) (0 : Int) (0 : Int) (0 : Int) (0 : Int) (0 : Int) (0 : Int) (i + 1) bb l ∧ True) := by
  have z0 := g_k29 T1
  have z1 := g_k18 T2
  obtain ⟨⟨p1, p2, p3⟩, p4, p5⟩ := g_st0_pt T0
  have w9 := T0.1.1
  have w24 := w9.2.1
  have wH := w9.1
  exact ⟨trivial, g_qs T0 (g_Q29 (g_qN (by omega) (by omega) z0 z1 (by omega) (by omega))), trivial⟩
theorem k_greE {V : zVw} {i bb l H p y d : Int} (T0 : q_sto V 0 H p y d (0 : Int) (0 : Int) (0 : Int) (0 : Int) (0 : Int) (0 : Int) (0 : Int)) (T1 : q_qry V (29 : Int) (0 : Int) (0 : Int) (0 : Int) (0 : Int) (0 : Int) (0 : Int) (0 : Int) i bb l) (C0 : 0 ≤ i - p) : (True) ∧ (q_qry V (29 : Int) (0 : Int) (0 : Int) (0 : Int) (0 : Int) (0 : Int) (0 : Int) (0 : Int) p bb l ∧ True) := by
  have z0 := g_k29 T1
  obtain ⟨⟨p1, p2, p3⟩, p4, p5⟩ := g_st0_pt T0
  have w9 := T0.1.1
  have w24 := w9.2.1
  have wH := w9.1
  exact ⟨trivial, g_qs T0 (g_Q29 (g_qE p1 (by omega) z0)), trivial⟩
theorem k_nstp {V : zVw} {i v w p H y d : Int} (T0 : q_sto V 0 H p y d (0 : Int) (0 : Int) (0 : Int) (0 : Int) (0 : Int) (0 : Int) (0 : Int)) (C0 : 0 ≤ i) (C1 : 0 ≤ p - i - 1) (C2 : 0 ≤ 5 - i) (F0 : (0 : Int) ≤ i + 25 ∧ (i + 25 : Int) < j_len 77 ∧ V 77 (i + 25) = w) (F1 : (0 : Int) ≤ w + 12 ∧ (w + 12 : Int) < j_len 77 ∧ V 77 (w + 12) = v) : (True) ∧ (q_qry V (18 : Int) (0 : Int) (0 : Int) (0 : Int) (0 : Int) (0 : Int) (0 : Int) (0 : Int) i (0 : Int) v ∧ True) := by
  obtain ⟨⟨p1, p2, p3⟩, p4, p5⟩ := g_st0_pt T0
  have w9 := T0.1.1
  have w24 := w9.2.1
  have wH := w9.1
  have y8 := w9.pl_lt (i := i) (by omega) (by omega)
  have y7 : g_nw V (i + 25) = V 77 (i + 25) := g_b0 (by omega) (by omega)
  have y6 : g_nw V (25 + i) = w := by rw [show 25 + i = i + 25 by omega, y7]; exact F0.2.2
  have y5 : 0 ≤ w ∧ w < 6 := by
    rw [← y6]
    exact ⟨y8.1, y8.2.2⟩
  have y4 : g_nw V (w + 12) = V 77 (w + 12) := g_b0 (by omega) (by omega)
  exact ⟨trivial, g_qs T0 (show v = g_nw V (12 + g_nw V (25 + i)) by rw [y6, show 12 + w = w + 12 by omega, y4]; exact F1.2.2.symm), trivial⟩
theorem k_nstq {V : zVw} {i v w p H y d n : Int} (T0 : q_sto V 0 H p y d (0 : Int) (0 : Int) (0 : Int) (0 : Int) (0 : Int) (0 : Int) (0 : Int)) (C0 : 0 ≤ i) (C1 : 0 ≤ n - i - 1) (C2 : 0 ≤ p - n) (C3 : 0 ≤ n - p) (C4 : 0 ≤ 5 - i) (F0 : (0 : Int) ≤ i + 25 ∧ (i + 25 : Int) < j_len 77 ∧ V 77 (i + 25) = w) (F1 : (0 : Int) ≤ w + 12 ∧ (w + 12 : Int) < j_len 77 ∧ V 77 (w + 12) = v) (F2 : (0 : Int) ≤ 24 ∧ (24 : Int) < j_len 77 ∧ V 77 (24) = n) : (True) ∧ (q_qry V (18 : Int) (0 : Int) (0 : Int) (0 : Int) (0 : Int) (0 : Int) (0 : Int) (0 : Int) i (0 : Int) v ∧ True) := by
  obtain ⟨⟨p1, p2, p3⟩, p4, p5⟩ := g_st0_pt T0
  have w9 := T0.1.1
  have w24 := w9.2.1
  have wH := w9.1
  have y8 := w9.pl_lt (i := i) (by omega) (by omega)
  have y7 : g_nw V (i + 25) = V 77 (i + 25) := g_b0 (by omega) (by omega)
  have y6 : g_nw V (25 + i) = w := by rw [show 25 + i = i + 25 by omega, y7]; exact F0.2.2
  have y5 : 0 ≤ w ∧ w < 6 := by
    rw [← y6]
    exact ⟨y8.1, y8.2.2⟩
  have y4 : g_nw V (w + 12) = V 77 (w + 12) := g_b0 (by omega) (by omega)
  exact ⟨trivial, g_qs T0 (show v = g_nw V (12 + g_nw V (25 + i)) by rw [y6, show 12 + w = w + 12 by omega, y4]; exact F1.2.2.symm), trivial⟩
theorem k_grx0 {V : zVw} {p y d H : Int} (T0 : q_sto V 0 H p y d (0 : Int) (0 : Int) (0 : Int) (0 : Int) (0 : Int) (0 : Int) (0 : Int)) : (True) ∧ (q_qry V (30 : Int) (0 : Int) (0 : Int) (0 : Int) (0 : Int) (0 : Int) (0 : Int) (0 : Int) (0 : Int) (-2 : Int) (0 : Int) ∧ True) := by
  exact ⟨trivial, g_qs T0 (g_Q30 (congrArg Prod.fst g_q0)), trivial⟩
theorem k_grxA {V : zVw} {n i bb H p y d : Int} (T0 : q_sto V 0 H p y d (0 : Int) (0 : Int) (0 : Int) (0 : Int) (0 : Int) (0 : Int) (0 : Int)) (T1 : q_qry V (30 : Int) (0 : Int) (0 : Int) (0 : Int) (0 : Int) (0 : Int) (0 : Int) (0 : Int) i bb (0 : Int)) (C0 : 0 ≤ i) (C1 : 0 ≤ n - i - 1) (C2 : 0 ≤ p - n) (C3 : 0 ≤ n - p) (C4 : 0 ≤ -bb - 1) (F0 : (0 : Int) ≤ 24 ∧ (24 : Int) < j_len 77 ∧ V 77 (24) = n) : (0 ≤ p - i - 1 ∧ True) ∧ (q_qry V (30 : Int) (0 : Int) (0 : Int) (0 : Int) (0 : Int) (0 : Int) (0 : Int) (0 : Int) (i + 1) i (0 : Int) ∧ True) := by
  have z0 := g_k30 T1
  obtain ⟨⟨p1, p2, p3⟩, p4, p5⟩ := g_st0_pt T0
  have w9 := T0.1.1
  have w24 := w9.2.1
  have wH := w9.1
  exact ⟨⟨by omega, trivial⟩, g_qs T0 (g_Q30 (g_qA' (by omega) (by omega) z0 (by omega))), trivial⟩
theorem k_grxB {V : zVw} {n i bb v w H p y d : Int} (T0 : q_sto V 0 H p y d (0 : Int) (0 : Int) (0 : Int) (0 : Int) (0 : Int) (0 : Int) (0 : Int)) (T1 : q_qry V (30 : Int) (0 : Int) (0 : Int) (0 : Int) (0 : Int) (0 : Int) (0 : Int) (0 : Int) i bb (0 : Int)) (T2 : q_qry V (18 : Int) (0 : Int) (0 : Int) (0 : Int) (0 : Int) (0 : Int) (0 : Int) (0 : Int) i (0 : Int) v) (T3 : q_qry V (18 : Int) (0 : Int) (0 : Int) (0 : Int) (0 : Int) (0 : Int) (0 : Int) (0 : Int) bb (0 : Int) w) (C0 : 0 ≤ i) (C1 : 0 ≤ n - i - 1) (C2 : 0 ≤ p - n) (C3 : 0 ≤ n - p) (C4 : 0 ≤ bb) (C5 : 0 ≤ w - v - 1) (F0 : (0 : Int) ≤ 24 ∧ (24 : Int) < j_len 77 ∧ V 77 (24) = n) : (0 ≤ p - i - 1 ∧ True) ∧ (q_qry V (30 : Int) (0 : Int) (0 : Int) (0 : Int) (0 : Int) (0 : Int) (0 : Int) (0 : Int) (i + 1) i (0 : Int) ∧ True) := by
  have z0 := g_k30 T1
  have z1 := g_k18 T2
  have z2 := g_k18 T3
  obtain ⟨⟨p1, p2, p3⟩, p4, p5⟩ := g_st0_pt T0
  have w9 := T0.1.1
  have w24 := w9.2.1
  have wH := w9.1
  exact ⟨⟨by omega, trivial⟩, g_qs T0 (g_Q30 (g_qB' (by omega) (by omega) (by omega) z0 (by omega) z1 z2 (by omega))), trivial⟩
theorem k_grxN {V : zVw} {n i bb v w H p y d : Int} (T0 : q_sto V 0 H p y d (0 : Int) (0 : Int) (0 : Int) (0 : Int) (0 : Int) (0 : Int) (0 : Int)) (T1 : q_qry V (30 : Int) (0 : Int) (0 : Int) (0 : Int) (0 : Int) (0 : Int) (0 : Int) (0 : Int) i bb (0 : Int)) (T2 : q_qry V (18 : Int) (0 : Int) (0 : Int) (0 : Int) (0 : Int) (0 : Int) (0 : Int) (0 : Int) i (0 : Int) v) (T3 : q_qry V (18 : Int) (0 : Int) (0 : Int) (0 : Int) (0 : Int) (0 : Int) (0 : Int) (0 : Int) bb (0 : Int) w) (C0 : 0 ≤ i) (C1 : 0 ≤ n - i - 1) (C2 : 0 ≤ p - n) (C3 : 0 ≤ n - p) (C4 : 0 ≤ bb) (C5 : 0 ≤ v - w) (F0 : (0 : Int) ≤ 24 ∧ (24 : Int) < j_len 77 ∧ V 77 (24) = n) : (True) ∧ (q_qry V (30 : Int) (0 : Int) (0 : Int) (0 : Int) (0 : Int) (0 : Int) (0 : Int) (0 : Int) (i + 1) bb (0 : Int) ∧ True) := by
  have z0 := g_k30 T1
  have z1 := g_k18 T2
  have z2 := g_k18 T3
  obtain ⟨⟨p1, p2, p3⟩, p4, p5⟩ := g_st0_pt T0
  have w9 := T0.1.1
  have w24 := w9.2.1
  have wH := w9.1
  exact ⟨trivial, g_qs T0 (g_Q30 (g_qC' (by omega) (by omega) (by omega) z0 (by omega) z1 z2 (by omega))), trivial⟩
theorem k_grxE {V : zVw} {n i bb H p y d : Int} (T0 : q_sto V 0 H p y d (0 : Int) (0 : Int) (0 : Int) (0 : Int) (0 : Int) (0 : Int) (0 : Int)) (T1 : q_qry V (30 : Int) (0 : Int) (0 : Int) (0 : Int) (0 : Int) (0 : Int) (0 : Int) (0 : Int) i bb (0 : Int)) (C0 : 0 ≤ i - n) (C1 : 0 ≤ p - n) (C2 : 0 ≤ n - p) (F0 : (0 : Int) ≤ 24 ∧ (24 : Int) < j_len 77 ∧ V 77 (24) = n) : (True) ∧ (q_qry V (30 : Int) (0 : Int) (0 : Int) (0 : Int) (0 : Int) (0 : Int) (0 : Int) (0 : Int) p bb (0 : Int) ∧ True) := by
  have z0 := g_k30 T1
  obtain ⟨⟨p1, p2, p3⟩, p4, p5⟩ := g_st0_pt T0
  have w9 := T0.1.1
  have w24 := w9.2.1
  have wH := w9.1
  exact ⟨trivial, g_qs T0 (g_Q30 (g_qE' p1 (by omega) z0)), trivial⟩
theorem k_qeG {V : zVw} {p bb l bc : Int} (T0 : q_qry V (29 : Int) (0 : Int) (0 : Int) (0 : Int) (0 : Int) (0 : Int) (0 : Int) (0 : Int) p bb l) (T1 : q_qry V (30 : Int) (0 : Int) (0 : Int) (0 : Int) (0 : Int) (0 : Int) (0 : Int) (0 : Int) p bc (0 : Int)) : (0 ≤ bb - bc ∧ 0 ≤ bc - bb ∧ True) ∧ (True) := by
  have h9 := g_k29 T0
  have h8 := g_k30 T1
  rw [h9] at h8
  have h7 : bb = bc := h8
  exact ⟨⟨by omega, by omega, trivial⟩, trivial⟩
theorem k_qeGN {V : zVw} {p bb l bc : Int} (T0 : q_qry V (29 : Int) (0 : Int) (0 : Int) (0 : Int) (0 : Int) (0 : Int) (0 : Int) (0 : Int) p bb l) (T1 : q_qry V (30 : Int) (0 : Int) (0 : Int) (0 : Int) (0 : Int) (0 : Int) (0 : Int) (0 : Int) p bc (0 : Int)) (C0 : 0 ≤ -bc - 1) : (0 ≤ l - bc ∧ 0 ≤ bc - l ∧ True) ∧ (True) := by
  have h9 := g_k29 T0
  have h8 := g_k30 T1
  rw [h9] at h8
  have h7 : bb = bc := h8
  have h6 := g_ar_n (by omega) h9 (by omega)
  exact ⟨⟨by omega, by omega, trivial⟩, trivial⟩
theorem k_qeGS {V : zVw} {p bb l v : Int} (T0 : q_qry V (29 : Int) (0 : Int) (0 : Int) (0 : Int) (0 : Int) (0 : Int) (0 : Int) (0 : Int) p bb l) (T1 : q_qry V (18 : Int) (0 : Int) (0 : Int) (0 : Int) (0 : Int) (0 : Int) (0 : Int) (0 : Int) bb (0 : Int) v) (C0 : 0 ≤ bb) : (0 ≤ l - v ∧ 0 ≤ v - l ∧ True) ∧ (True) := by
  have h9 := g_k29 T0
  have z1 := g_k18 T1
  have h8 := g_ar_2 (by omega) (congrArg Prod.fst h9) (by omega)
  rw [h9] at h8
  have h7 : l = v := h8.trans z1.symm
  exact ⟨⟨by omega, by omega, trivial⟩, trivial⟩
theorem k_stt0 {V : zVw} {H p y d : Int} (T0 : (1 ≤ (1 : Int) ∧ (1 : Int) ≤ 44) ∧ q_eqs V (1 : Int) H p y d) (T1 : q_sto V 0 H p y d (0 : Int) (0 : Int) (0 : Int) (0 : Int) (0 : Int) (0 : Int) (0 : Int)) : (True) ∧ (q_sto V 1 H p y d (0 : Int) (0 : Int) (0 : Int) (0 : Int) (0 : Int) (0 : Int) (0 : Int) ∧ True) := by
  have h9 := (g_eqs_kp T0.2 T1).2.2
  unfold g_fv at h9
  rw [T0.2.2.1.1, T0.2.2.1.2.1, T0.2.2.1.2.2.1, T0.2.2.1.2.2.2] at h9
  exact ⟨trivial, ⟨T1.1, h9⟩, trivial⟩
theorem k_ts5 {V : zVw} {h s H p y d q b : Int} (T0 : q_sto V 1 H p y d (0 : Int) (0 : Int) (0 : Int) (0 : Int) (0 : Int) (0 : Int) (0 : Int)) : (True) ∧ (q_sto V 1 H p y d q b s (5 : Int) (0 : Int) h (0 : Int) ∧ True) := by
  exact ⟨trivial, g_sto50 T0, trivial⟩
theorem k_celS0t {V : zVw} {h H p y d q b s o a1 a2 a3 : Int} (T0 : q_sto V 1 H p y d q b s o a1 a2 a3) (T1 : q_qry V (6 : Int) q b s o a1 a2 a3 h (0 : Int) (-1 : Int)) (C0 : 0 ≤ h) (C1 : 0 ≤ H - h - 1) (C2 : 0 ≤ 6 - H) : (True) ∧ (q_qry V (8 : Int) q b s o a1 a2 a3 (h + 12) (0 : Int) (0 : Int) ∧ True) := by
  have h9 := T0.1.1.at_no (g_k6 T1) (by omega) (by omega)
  exact ⟨trivial, g_qq T1 (show (0 : Int) = (g_F V q b s o a1 a2 a3 (g_nw V)) (h + 12) by rw [show h + 12 = 12 + h by omega]; exact h9.2.symm), trivial⟩
theorem k_o54a {V : zVw} {h u n H p y d q b s : Int} (T0 : q_sto V 1 H p y d q b s (5 : Int) n h (0 : Int)) (T1 : q_qry V (8 : Int) q b s (5 : Int) n h (0 : Int) h (0 : Int) u) (C0 : 0 ≤ h) (C1 : 0 ≤ H - h - 1) (C2 : 0 ≤ 6 - H) (C3 : 0 ≤ n) : (True) ∧ (q_qry V (8 : Int) q b s (4 : Int) n (0 : Int) H h (0 : Int) u ∧ True) := by
  have w9 : g_wf H (g_nw V) := T0.1.2.1
  have wH := w9.1
  have z0 := g_k8 T1
  have h9 : g_F V q b s 4 n 0 H (g_nw V) h = g_F V q b s 5 n h 0 (g_nw V) h := g_hs_F (by omega) (by omega) (by omega) _ (Or.inl rfl)
  exact ⟨trivial, ⟨⟨H, g_wf_F4 w9⟩, show u = g_F V q b s 4 n 0 H (g_nw V) h by rw [h9]; exact z0⟩, trivial⟩
theorem k_o54b {V : zVw} {h u n H p y d q b s : Int} (T0 : q_sto V 1 H p y d q b s (5 : Int) n h (0 : Int)) (T1 : q_qry V (8 : Int) q b s (5 : Int) n h (0 : Int) (h + 12) (0 : Int) u) (C0 : 0 ≤ h) (C1 : 0 ≤ H - h - 1) (C2 : 0 ≤ 6 - H) (C3 : 0 ≤ n) : (True) ∧ (q_qry V (8 : Int) q b s (4 : Int) n (0 : Int) H (h + 12) (0 : Int) u ∧ True) := by
  have w9 : g_wf H (g_nw V) := T0.1.2.1
  have wH := w9.1
  have z0 := g_k8 T1
  have h9 : g_F V q b s 4 n 0 H (g_nw V) (h + 12) = g_F V q b s 5 n h 0 (g_nw V) (h + 12) := g_hs_F (by omega) (by omega) (by omega) _ (Or.inr (Or.inr (Or.inl (by omega))))
  exact ⟨trivial, ⟨⟨H, g_wf_F4 w9⟩, show u = g_F V q b s 4 n 0 H (g_nw V) (h + 12) by rw [h9]; exact z0⟩, trivial⟩
theorem k_qeCq {V : zVw} {h u w q b s o a1 a2 a3 : Int} (T0 : q_qry V (8 : Int) q b s o a1 a2 a3 h (0 : Int) u) (T1 : q_qry V (8 : Int) q b s o a1 a2 a3 h (0 : Int) w) : (0 ≤ u - w ∧ 0 ≤ w - u ∧ True) ∧ (True) := by
  have h9 := g_k8 T0
  have h8 := g_k8 T1
  exact ⟨⟨by omega, by omega, trivial⟩, trivial⟩
theorem k_yeaI {V : zVw} {h v n q b s H p y d : Int} (T0 : q_sto V 0 H p y d (0 : Int) (0 : Int) (0 : Int) (0 : Int) (0 : Int) (0 : Int) (0 : Int)) : (True) ∧ (q_qry V (40 : Int) q b s (0 : Int) (0 : Int) (0 : Int) (0 : Int) (h + 6 * v + 600 * n) (0 : Int) (0 : Int) ∧ True) := by
  exact ⟨trivial, ⟨⟨H, by rw [g_F0]; exact T0.1.2.1⟩, g_Q40 g_ye0⟩, trivial⟩
theorem k_yeaY {V : zVw} {i g n v h t u x q b s : Int} (T0 : q_qry V (8 : Int) q b t (5 : Int) n h (0 : Int) h (0 : Int) u) (T1 : q_qry V (40 : Int) q b s (0 : Int) (0 : Int) (0 : Int) (0 : Int) x i g) (C0 : 0 ≤ x - 600 * n - 6 * v - h) (C1 : 0 ≤ 600 * n + 6 * v + h - x) (C2 : 0 ≤ t - i - s) (C3 : 0 ≤ i + s - t) (C4 : 0 ≤ h) (C5 : 0 ≤ 5 - h) (C6 : 0 ≤ v) (C7 : 0 ≤ 99 - v) (C8 : 0 ≤ n) (C9 : 0 ≤ i) (C10 : 0 ≤ u - v) (C11 : 0 ≤ 100 - i) : (0 ≤ 100 - g ∧ 0 ≤ g ∧ True) ∧ (q_qry V (40 : Int) q b s (0 : Int) (0 : Int) (0 : Int) (0 : Int) x (i + 1) (g + 1) ∧ True) := by
  have e6 : x % 6 = h := by omega
  have e5 : x / 6 % 100 = v := by omega
  have e4 : x / 600 = n := by omega
  have e3 : s + i = t := by omega
  have z2 : i.toNat ≤ 1000 ∨ 1000 < i.toNat := by omega
  have z9 : u = g_ys V q b t h (g_F V q b s 0 0 0 0 (g_nw V)) n.toNat h := g_k8 T0
  have z1 := g_k40 T1
  have h8 := g_ye_b (f := fun k => g_ys V q b (s + k) (x % 6) (g_F V q b s 0 0 0 0 (g_nw V)) (x / 600).toNat (x % 6)) (w := x / 6 % 100) i.toNat
  have h9 := g_ye_s (f := fun k => g_ys V q b (s + k) (x % 6) (g_F V q b s 0 0 0 0 (g_nw V)) (x / 600).toNat (x % 6)) (w := x / 6 % 100) (i := i) (by omega)
  have h7 : g_ys V q b (s + i) (x % 6) (g_F V q b s 0 0 0 0 (g_nw V)) (x / 600).toNat (x % 6) = u := by
    rw [e6, e4, e3]
    exact z9.symm
  rw [h7, ← z1] at h9
  rw [← z1] at h8
  rw [if_pos (by omega)] at h9
  exact ⟨⟨by omega, by omega, trivial⟩, g_qq T1 (g_Q40 h9.symm), trivial⟩
theorem k_yeaN {V : zVw} {i g n v h t u x q b s : Int} (T0 : q_qry V (8 : Int) q b t (5 : Int) n h (0 : Int) h (0 : Int) u) (T1 : q_qry V (40 : Int) q b s (0 : Int) (0 : Int) (0 : Int) (0 : Int) x i g) (C0 : 0 ≤ x - 600 * n - 6 * v - h) (C1 : 0 ≤ 600 * n + 6 * v + h - x) (C2 : 0 ≤ t - i - s) (C3 : 0 ≤ i + s - t) (C4 : 0 ≤ h) (C5 : 0 ≤ 5 - h) (C6 : 0 ≤ v) (C7 : 0 ≤ 99 - v) (C8 : 0 ≤ n) (C9 : 0 ≤ i) (C10 : 0 ≤ v - u - 1) : (True) ∧ (q_qry V (40 : Int) q b s (0 : Int) (0 : Int) (0 : Int) (0 : Int) x (i + 1) g ∧ True) := by
  have e6 : x % 6 = h := by omega
  have e5 : x / 6 % 100 = v := by omega
  have e4 : x / 600 = n := by omega
  have e3 : s + i = t := by omega
  have z2 : i.toNat ≤ 1000 ∨ 1000 < i.toNat := by omega
  have z9 : u = g_ys V q b t h (g_F V q b s 0 0 0 0 (g_nw V)) n.toNat h := g_k8 T0
  have z1 := g_k40 T1
  have h8 := g_ye_b (f := fun k => g_ys V q b (s + k) (x % 6) (g_F V q b s 0 0 0 0 (g_nw V)) (x / 600).toNat (x % 6)) (w := x / 6 % 100) i.toNat
  have h9 := g_ye_s (f := fun k => g_ys V q b (s + k) (x % 6) (g_F V q b s 0 0 0 0 (g_nw V)) (x / 600).toNat (x % 6)) (w := x / 6 % 100) (i := i) (by omega)
  have h7 : g_ys V q b (s + i) (x % 6) (g_F V q b s 0 0 0 0 (g_nw V)) (x / 600).toNat (x % 6) = u := by
    rw [e6, e4, e3]
    exact z9.symm
  rw [h7, ← z1] at h9
  rw [← z1] at h8
  rw [if_neg (by omega)] at h9
  exact ⟨trivial, g_qq T1 (g_Q40 ((Int.add_zero g).symm.trans h9.symm)), trivial⟩
theorem k_y0k {V : zVw} {t b H q l x : Int} (T0 : q_rwo V H (0 : Int) (0 : Int) (0 : Int) (0 : Int) (0 : Int) (0 : Int) (0 : Int)) (T1 : (1 : Int) = 1 → q_leq V l x q) (T2 : 0 ≤ l ∧ l ≠ x ∧ V 63 l = b) : (True) ∧ (q_rwo V H q b t (4 : Int) (0 : Int) (0 : Int) H ∧ True) := by
  exact ⟨trivial, g_rwo40 T0, trivial⟩
theorem k_myeI {V : zVw} {h v n H p y d q b s l x : Int} (T0 : q_sto V 0 H p y d (0 : Int) (0 : Int) (0 : Int) (0 : Int) (0 : Int) (0 : Int) (0 : Int)) (T1 : (1 : Int) = 1 → q_leq V l x q) (T2 : 0 ≤ l ∧ l ≠ x ∧ V 63 l = b) (T3 : 0 ≤ l ∧ l ≠ x ∧ V 64 l = s) : (True) ∧ (q_qry V (40 : Int) q b s (0 : Int) (0 : Int) (0 : Int) (0 : Int) (h + 6 * v + 600 * n) (0 : Int) (0 : Int) ∧ True) := by
  exact ⟨trivial, ⟨⟨H, by rw [g_F0]; exact T0.1.2.1⟩, g_Q40 g_ye0⟩, trivial⟩
theorem k_myeY {V : zVw} {i g n v h t u x H q b s : Int} (T0 : q_qry V (8 : Int) q b t (4 : Int) n (0 : Int) H h (0 : Int) u) (T1 : q_rwo V H q b t (4 : Int) n (0 : Int) H) (T2 : q_qry V (40 : Int) q b s (0 : Int) (0 : Int) (0 : Int) (0 : Int) x i g) (C0 : 0 ≤ x - 600 * n - 6 * v - h) (C1 : 0 ≤ 600 * n + 6 * v + h - x) (C2 : 0 ≤ t - i - s) (C3 : 0 ≤ i + s - t) (C4 : 0 ≤ h) (C5 : 0 ≤ 5 - h) (C6 : 0 ≤ v) (C7 : 0 ≤ 99 - v) (C8 : 0 ≤ n) (C9 : 0 ≤ i) (C10 : 0 ≤ u - v) (C11 : 0 ≤ H - h - 1) (C12 : 0 ≤ 100 - i) : (0 ≤ 100 - g ∧ 0 ≤ g ∧ True) ∧ (q_qry V (40 : Int) q b s (0 : Int) (0 : Int) (0 : Int) (0 : Int) x (i + 1) (g + 1) ∧ True) := by
  have e6 : x % 6 = h := by omega
  have e5 : x / 6 % 100 = v := by omega
  have e4 : x / 600 = n := by omega
  have e3 : s + i = t := by omega
  have z2 : i.toNat ≤ 1000 ∨ 1000 < i.toNat := by omega
  have w9 : g_wf H (g_nw V) := T1.1.2.1
  have wH := w9.1
  have y9 : g_F V q b t 4 n 0 H (g_nw V) h = g_F V q b t 5 n h 0 (g_nw V) h := g_hs_F (by omega) (by omega) (by omega) _ (Or.inl rfl)
  have z9 : u = g_ys V q b t h (g_F V q b s 0 0 0 0 (g_nw V)) n.toNat h := (g_k8 T0).trans y9
  have z1 := g_k40 T2
  have h8 := g_ye_b (f := fun k => g_ys V q b (s + k) (x % 6) (g_F V q b s 0 0 0 0 (g_nw V)) (x / 600).toNat (x % 6)) (w := x / 6 % 100) i.toNat
  have h9 := g_ye_s (f := fun k => g_ys V q b (s + k) (x % 6) (g_F V q b s 0 0 0 0 (g_nw V)) (x / 600).toNat (x % 6)) (w := x / 6 % 100) (i := i) (by omega)
  have h7 : g_ys V q b (s + i) (x % 6) (g_F V q b s 0 0 0 0 (g_nw V)) (x / 600).toNat (x % 6) = u := by
    rw [e6, e4, e3]
    exact z9.symm
  rw [h7, ← z1] at h9
  rw [← z1] at h8
  rw [if_pos (by omega)] at h9
  exact ⟨⟨by omega, by omega, trivial⟩, g_qq T2 (g_Q40 h9.symm), trivial⟩
theorem k_myeN {V : zVw} {i g n v h t u x H q b s : Int} (T0 : q_qry V (8 : Int) q b t (4 : Int) n (0 : Int) H h (0 : Int) u) (T1 : q_rwo V H q b t (4 : Int) n (0 : Int) H) (T2 : q_qry V (40 : Int) q b s (0 : Int) (0 : Int) (0 : Int) (0 : Int) x i g) (C0 : 0 ≤ x - 600 * n - 6 * v - h) (C1 : 0 ≤ 600 * n + 6 * v + h - x) (C2 : 0 ≤ t - i - s) (C3 : 0 ≤ i + s - t) (C4 : 0 ≤ h) (C5 : 0 ≤ 5 - h) (C6 : 0 ≤ v) (C7 : 0 ≤ 99 - v) (C8 : 0 ≤ n) (C9 : 0 ≤ i) (C10 : 0 ≤ v - u - 1) (C11 : 0 ≤ H - h - 1) : (True) ∧ (q_qry V (40 : Int) q b s (0 : Int) (0 : Int) (0 : Int) (0 : Int) x (i + 1) g ∧ True) := by
  have e6 : x % 6 = h := by omega
  have e5 : x / 6 % 100 = v := by omega
  have e4 : x / 600 = n := by omega
  have e3 : s + i = t := by omega
  have z2 : i.toNat ≤ 1000 ∨ 1000 < i.toNat := by omega
  have w9 : g_wf H (g_nw V) := T1.1.2.1
  have wH := w9.1
  have y9 : g_F V q b t 4 n 0 H (g_nw V) h = g_F V q b t 5 n h 0 (g_nw V) h := g_hs_F (by omega) (by omega) (by omega) _ (Or.inl rfl)
  have z9 : u = g_ys V q b t h (g_F V q b s 0 0 0 0 (g_nw V)) n.toNat h := (g_k8 T0).trans y9
  have z1 := g_k40 T2
  have h8 := g_ye_b (f := fun k => g_ys V q b (s + k) (x % 6) (g_F V q b s 0 0 0 0 (g_nw V)) (x / 600).toNat (x % 6)) (w := x / 6 % 100) i.toNat
  have h9 := g_ye_s (f := fun k => g_ys V q b (s + k) (x % 6) (g_F V q b s 0 0 0 0 (g_nw V)) (x / 600).toNat (x % 6)) (w := x / 6 % 100) (i := i) (by omega)
  have h7 : g_ys V q b (s + i) (x % 6) (g_F V q b s 0 0 0 0 (g_nw V)) (x / 600).toNat (x % 6) = u := by
    rw [e6, e4, e3]
    exact z9.symm
  rw [h7, ← z1] at h9
  rw [← z1] at h8
  rw [if_neg (by omega)] at h9
  exact ⟨trivial, g_qq T2 (g_Q40 ((Int.add_zero g).symm.trans h9.symm)), trivial⟩
theorem k_qeY {V : zVw} {x k u w q b s : Int} (T0 : q_qry V (40 : Int) q b s (0 : Int) (0 : Int) (0 : Int) (0 : Int) x k u) (T1 : q_qry V (40 : Int) q b s (0 : Int) (0 : Int) (0 : Int) (0 : Int) x k w) : (0 ≤ u - w ∧ 0 ≤ w - u ∧ True) ∧ (True) := by
  have h9 := g_k40 T0
  have h8 := g_k40 T1
  exact ⟨⟨by omega, by omega, trivial⟩, trivial⟩
theorem k_ts4 {V : zVw} {H p y d q : Int} (T0 : q_sto V 1 H p y d (0 : Int) (0 : Int) (0 : Int) (0 : Int) (0 : Int) (0 : Int) (0 : Int)) : (True) ∧ (q_sto V 1 H p y d q (0 : Int) (0 : Int) (4 : Int) (0 : Int) (0 : Int) H ∧ True) := by
  exact ⟨trivial, g_sto40 T0, trivial⟩
theorem k_nby0 {V : zVw} {w H p y d q : Int} (T0 : q_sto V 0 H p y d (0 : Int) (0 : Int) (0 : Int) (0 : Int) (0 : Int) (0 : Int) (0 : Int)) (C0 : 0 ≤ w) (C1 : 0 ≤ H) (C2 : 0 ≤ 6 - H) : (True) ∧ (q_qry V (41 : Int) q (0 : Int) (0 : Int) (0 : Int) (0 : Int) (0 : Int) (0 : Int) (10 * w + H) (0 : Int) (0 : Int) ∧ True) := by
  exact ⟨trivial, ⟨⟨H, by rw [g_F0]; exact T0.1.2.1⟩, g_Q41 (fun k k0 k1 => by omega)⟩, trivial⟩
theorem k_lasY {V : zVw} {n w x H m i q : Int} (T0 : q_mgn V q (0 : Int) (0 : Int) (4 : Int) n (0 : Int) H (-2 : Int) m) (T1 : (0 ≤ i ∧ i < m ∧ V 25 i < w ∧ ∀ t : Int, 0 ≤ t → t < i → w ≤ V 25 t) ∨ (i = -1 ∧ ∀ t : Int, 0 ≤ t → t < m → w ≤ V 25 t)) (T2 : q_qry V (41 : Int) q (0 : Int) (0 : Int) (0 : Int) (0 : Int) (0 : Int) (0 : Int) x n (0 : Int)) (C0 : 0 ≤ x - 10 * w - H) (C1 : 0 ≤ 10 * w + H - x) (C2 : 0 ≤ w) (C3 : 0 ≤ H) (C4 : 0 ≤ 6 - H) (C5 : 0 ≤ n) (C6 : 0 ≤ i) (C7 : 0 ≤ 60 - n) (C8 : 0 ≤ 999 - w) : (True) ∧ (q_qry V (42 : Int) q (0 : Int) (0 : Int) (0 : Int) (0 : Int) (0 : Int) (0 : Int) x (0 : Int) n ∧ True) := by
  have e6 : x % 10 = H := by omega
  have e5 : x / 10 = w := by omega
  have z1 := g_k41 T2
  have z9 : g_br V q (g_yr V q 0 0 (x % 10) (g_F V q 0 0 0 0 0 0 (g_nw V)) n.toNat) (x / 10) (i + 1) := by
    rw [e6, e5]
    exact g_brk1 T0 T1 (by omega) (by omega)
  exact ⟨trivial, g_qq T2 (g_Q42 (Or.inl ⟨by omega, by omega, z1, i + 1, by omega, z9⟩)), trivial⟩
theorem k_lasN {V : zVw} {n w x H m q : Int} (T0 : q_mgn V q (0 : Int) (0 : Int) (4 : Int) n (0 : Int) H (-2 : Int) m) (T1 : (0 ≤ (-1 : Int) ∧ (-1 : Int) < m ∧ V 25 (-1 : Int) < w ∧ ∀ t : Int, 0 ≤ t → t < (-1 : Int) → w ≤ V 25 t) ∨ ((-1 : Int) = -1 ∧ ∀ t : Int, 0 ≤ t → t < m → w ≤ V 25 t)) (T2 : q_qry V (41 : Int) q (0 : Int) (0 : Int) (0 : Int) (0 : Int) (0 : Int) (0 : Int) x n (0 : Int)) (C0 : 0 ≤ x - 10 * w - H) (C1 : 0 ≤ 10 * w + H - x) (C2 : 0 ≤ w) (C3 : 0 ≤ H) (C4 : 0 ≤ 6 - H) (C5 : 0 ≤ n) (C6 : 0 ≤ 999 - w) : (True) ∧ (q_qry V (41 : Int) q (0 : Int) (0 : Int) (0 : Int) (0 : Int) (0 : Int) (0 : Int) x (n + 1) (0 : Int) ∧ True) := by
  have e6 : x % 10 = H := by omega
  have e5 : x / 10 = w := by omega
  have z1 := g_k41 T2
  have z9 : g_br V q (g_yr V q 0 0 (x % 10) (g_F V q 0 0 0 0 0 0 (g_nw V)) n.toNat) (x / 10) (-1) := by
    rw [e6, e5]
    exact g_brk0 T0 T1 (by omega)
  exact ⟨trivial, g_qq T2 (g_Q41 (fun k k0 k1 => by
    by_cases c9 : k < n
    · exact z1 k k0 c9
    · rw [show k = n by omega]; exact z9)), trivial⟩
theorem k_lasZ {V : zVw} {n x q : Int} (T0 : q_qry V (41 : Int) q (0 : Int) (0 : Int) (0 : Int) (0 : Int) (0 : Int) (0 : Int) x n (0 : Int)) (C0 : 0 ≤ n - 61) : (True) ∧ (q_qry V (42 : Int) q (0 : Int) (0 : Int) (0 : Int) (0 : Int) (0 : Int) (0 : Int) x (0 : Int) (-2 : Int) ∧ True) := by
  have z1 := g_k41 T0
  exact ⟨trivial, g_qq T0 (g_Q42 (Or.inr ⟨rfl, fun k k0 k1 => z1 k k0 (by omega)⟩)), trivial⟩
theorem k_y0s {V : zVw} {H q l x : Int} (T0 : q_rwo V H (0 : Int) (0 : Int) (0 : Int) (0 : Int) (0 : Int) (0 : Int) (0 : Int)) (T1 : (1 : Int) = 1 → q_leq V l x q) : (True) ∧ (q_rwo V H q (0 : Int) (0 : Int) (4 : Int) (0 : Int) (0 : Int) H ∧ True) := by
  exact ⟨trivial, g_rwo40 T0, trivial⟩
theorem k_mnb0 {V : zVw} {w H p y d q l x : Int} (T0 : q_sto V 0 H p y d (0 : Int) (0 : Int) (0 : Int) (0 : Int) (0 : Int) (0 : Int) (0 : Int)) (T1 : (1 : Int) = 1 → q_leq V l x q) (C0 : 0 ≤ w) (C1 : 0 ≤ H) (C2 : 0 ≤ 6 - H) : (True) ∧ (q_qry V (41 : Int) q (0 : Int) (0 : Int) (0 : Int) (0 : Int) (0 : Int) (0 : Int) (10 * w + H) (0 : Int) (0 : Int) ∧ True) := by
  exact ⟨trivial, ⟨⟨H, by rw [g_F0]; exact T0.1.2.1⟩, g_Q41 (fun k k0 k1 => by omega)⟩, trivial⟩
theorem k_mlaY {V : zVw} {n w x H i q : Int} (T0 : q_rwo V H q (0 : Int) (0 : Int) (4 : Int) n (0 : Int) H) (T1 : q_qry V (3 : Int) q (0 : Int) (0 : Int) (4 : Int) n (0 : Int) H w (0 : Int) i) (T2 : q_qry V (41 : Int) q (0 : Int) (0 : Int) (0 : Int) (0 : Int) (0 : Int) (0 : Int) x n (0 : Int)) (C0 : 0 ≤ x - 10 * w - H) (C1 : 0 ≤ 10 * w + H - x) (C2 : 0 ≤ w) (C3 : 0 ≤ H) (C4 : 0 ≤ 6 - H) (C5 : 0 ≤ n) (C6 : 0 ≤ i) (C7 : 0 ≤ 60 - n) : (True) ∧ (q_qry V (42 : Int) q (0 : Int) (0 : Int) (0 : Int) (0 : Int) (0 : Int) (0 : Int) x (0 : Int) n ∧ True) := by
  have e6 : x % 10 = H := by omega
  have e5 : x / 10 = w := by omega
  have z1 := g_k41 T2
  have z9 : g_br V q (g_yr V q 0 0 (x % 10) (g_F V q 0 0 0 0 0 0 (g_nw V)) n.toNat) (x / 10) (i) := by
    rw [e6, e5]
    exact g_k3 T1
  exact ⟨trivial, g_qq T2 (g_Q42 (Or.inl ⟨by omega, by omega, z1, i, by omega, z9⟩)), trivial⟩
theorem k_mlaN {V : zVw} {n w x H q : Int} (T0 : q_rwo V H q (0 : Int) (0 : Int) (4 : Int) n (0 : Int) H) (T1 : q_qry V (3 : Int) q (0 : Int) (0 : Int) (4 : Int) n (0 : Int) H w (0 : Int) (-1 : Int)) (T2 : q_qry V (41 : Int) q (0 : Int) (0 : Int) (0 : Int) (0 : Int) (0 : Int) (0 : Int) x n (0 : Int)) (C0 : 0 ≤ x - 10 * w - H) (C1 : 0 ≤ 10 * w + H - x) (C2 : 0 ≤ w) (C3 : 0 ≤ H) (C4 : 0 ≤ 6 - H) (C5 : 0 ≤ n) : (True) ∧ (q_qry V (41 : Int) q (0 : Int) (0 : Int) (0 : Int) (0 : Int) (0 : Int) (0 : Int) x (n + 1) (0 : Int) ∧ True) := by
  have e6 : x % 10 = H := by omega
  have e5 : x / 10 = w := by omega
  have z1 := g_k41 T2
  have z9 : g_br V q (g_yr V q 0 0 (x % 10) (g_F V q 0 0 0 0 0 0 (g_nw V)) n.toNat) (x / 10) (-1) := by
    rw [e6, e5]
    exact g_k3 T1
  exact ⟨trivial, g_qq T2 (g_Q41 (fun k k0 k1 => by
    by_cases c9 : k < n
    · exact z1 k k0 c9
    · rw [show k = n by omega]; exact z9)), trivial⟩
theorem k_qeLs {V : zVw} {q x u w : Int} (T0 : q_qry V (42 : Int) q (0 : Int) (0 : Int) (0 : Int) (0 : Int) (0 : Int) (0 : Int) x (0 : Int) u) (T1 : q_qry V (42 : Int) q (0 : Int) (0 : Int) (0 : Int) (0 : Int) (0 : Int) (0 : Int) x (0 : Int) w) : (0 ≤ u - w ∧ 0 ≤ w - u ∧ True) ∧ (True) := by
  have h9 := g_la_eq (f := fun k i => g_br V q (g_yr V q 0 0 (x % 10) (g_F V q 0 0 0 0 0 0 (g_nw V)) k.toNat) (x / 10) i) (fun k i i9 a9 b9 => g_br_eq a9 b9) (g_k42 T0) (g_k42 T1)
  exact ⟨⟨by omega, by omega, trivial⟩, trivial⟩
theorem k_ts7 {V : zVw} {h N e H p y d q : Int} (T0 : q_sto V 1 H p y d (0 : Int) (0 : Int) (0 : Int) (0 : Int) (0 : Int) (0 : Int) (0 : Int)) (C0 : 0 ≤ h) (C1 : 0 ≤ 5 - h) (C2 : 0 ≤ e - 1) (C3 : 0 ≤ 60 - e) (C4 : 0 ≤ N - 1) (C5 : 0 ≤ 60 - N) : (True) ∧ (q_sto V 1 H p y d q (0 : Int) (0 : Int) (7 : Int) (0 : Int) h (64 * N + e) ∧ True) := by
  exact ⟨trivial, g_sto70 T0 (by omega) (by omega), trivial⟩
theorem k_hsu0 {V : zVw} {h N e H p y d q : Int} (T0 : q_sto V 0 H p y d (0 : Int) (0 : Int) (0 : Int) (0 : Int) (0 : Int) (0 : Int) (0 : Int)) (C0 : 0 ≤ h) (C1 : 0 ≤ 5 - h) (C2 : 0 ≤ e - 1) (C3 : 0 ≤ 60 - e) (C4 : 0 ≤ N - 1) (C5 : 0 ≤ 60 - N) : (True) ∧ (q_qry V (54 : Int) q (0 : Int) (0 : Int) (0 : Int) (0 : Int) (0 : Int) (0 : Int) (h + 512 * N + 8 * e) (0 : Int) (0 : Int) ∧ True) := by
  exact ⟨trivial, ⟨⟨H, by rw [g_F0]; exact T0.1.2.1⟩, g_Q54 rfl⟩, trivial⟩
theorem k_ageVY {V : zVw} {h i x z v w n c H p y d q b s : Int} (T0 : q_sax V 1 H p y d q b s (7 : Int) n h c h i x z) (T1 : q_qry V (20 : Int) q b s (7 : Int) n h c h (0 : Int) v) (T2 : q_qry V (21 : Int) q b s (7 : Int) n h c h (0 : Int) w) (T3 : q_qry V (6 : Int) q b s (7 : Int) n h c h (0 : Int) i) (C0 : 0 ≤ i) (C1 : 0 ≤ 5 - i) (C2 : 0 ≤ h) (C3 : 0 ≤ H - h - 1) (C4 : 0 ≤ 6 - H) (C5 : 0 ≤ p - i - 1) (C6 : 0 ≤ 6 - p) (F0 : (0 : Int) ≤ h ∧ (h : Int) < j_len 107 ∧ V 107 (h) = v) (F1 : (0 : Int) ≤ i ∧ (i : Int) < j_len 111 ∧ V 111 (i) = w) : (True) ∧ (q_sto V 1 H p y d q b s (7 : Int) n (h + 8) c ∧ True) := by
  have z0 := g_k20 T1
  have z1 := g_k21 T2
  have z2 := g_k6 T3
  obtain ⟨h9, h8⟩ := g_sax_y1 T0.1.1 T0.2 z2 (by omega) (by omega) (F0.2.2.trans z0) (fun _ => F1.2.2.trans z1)
  have h7 : g_F V q b s 7 n (h + 8) c (g_nw V) = g_y1 V q b s (g_F V q b s 7 n h c (g_nw V)) h := g_F7b (by omega) (by have := T0.1.1.1; omega)
  exact ⟨trivial, ⟨⟨by rw [h7]; exact h9, T0.1.2⟩, by rw [h7]; exact h8⟩, trivial⟩
theorem k_ageVN {V : zVw} {h x v n c H p y d q b s : Int} (T0 : q_sax V 1 H p y d q b s (7 : Int) n h c h (-1 : Int) x (0 : Int)) (T1 : q_qry V (20 : Int) q b s (7 : Int) n h c h (0 : Int) v) (T2 : q_qry V (6 : Int) q b s (7 : Int) n h c h (0 : Int) (-1 : Int)) (C0 : 0 ≤ h) (C1 : 0 ≤ H - h - 1) (C2 : 0 ≤ 6 - H) (C3 : 0 ≤ p) (C4 : 0 ≤ 6 - p) (F0 : (0 : Int) ≤ h ∧ (h : Int) < j_len 107 ∧ V 107 (h) = v) : (True) ∧ (q_sto V 1 H p y d q b s (7 : Int) n (h + 8) c ∧ True) := by
  have z0 := g_k20 T1
  have z2 := g_k6 T2
  obtain ⟨h9, h8⟩ := g_sax_y1 T0.1.1 T0.2 z2 (by omega) (by omega) (F0.2.2.trans z0) (fun z9 => by omega)
  have h7 : g_F V q b s 7 n (h + 8) c (g_nw V) = g_y1 V q b s (g_F V q b s 7 n h c (g_nw V)) h := g_F7b (by omega) (by have := T0.1.1.1; omega)
  exact ⟨trivial, ⟨⟨by rw [h7]; exact h9, T0.1.2⟩, by rw [h7]; exact h8⟩, trivial⟩
theorem k_yrV {V : zVw} {p y d n y2 h H q b s c : Int} (T0 : (mOP 110 (Int32.ofInt y) (Int32.ofInt (1 : Int))).toInt = y2) (T1 : q_sto V 1 H p y d q b s (7 : Int) n (h + 8) c) (C0 : 0 ≤ n) (C1 : 0 ≤ h) (C2 : 0 ≤ 5 - h) : (True) ∧ (q_sto V 1 H p y2 d q b s (7 : Int) n (h + 16) c ∧ True) := by
  have h9 : g_op 110 y 1 = y2 := T0
  obtain ⟨⟨p1, p2, p3⟩, p4, p5⟩ := g_st1_pt T1
  have w9 := T1.1.1
  have w24 := w9.2.1
  have wH := w9.1
  have h7 : g_F V q b s 7 n (h + 16) c (g_nw V) = g_yi (g_F V q b s 7 n (h + 8) c (g_nw V)) := g_F7c (by omega) (by omega)
  refine ⟨trivial, ⟨⟨by rw [h7]; exact w9.yi, T1.1.2⟩, ?_⟩, trivial⟩
  rw [h7]
  refine g_pt_rv w9.yi (g_sto_sup T1).yi ⟨⟨?_, ?_, ?_⟩, fun k k0 k1 => ?_, fun i i0 i1 => ?_⟩
  · rw [g_yi_o (by omega)]; exact p1
  · rw [g_yi_y, ← p2]; exact h9.symm
  · rw [g_yi_o (by omega)]; exact p3
  · rw [g_yi_o (by omega), g_yi_o (by omega)]; exact p4 k k0 k1
  · have h6 := w9.pl_lt i0 (show i < _ by omega)
    rw [g_yi_o (by omega), g_yi_o (by omega), g_yi_o (by omega)]; exact p5 i i0 i1
theorem k_saz {V : zVw} {h x H p y d q b s o a1 a2 a3 : Int} (T0 : q_sto V 1 H p y d q b s o a1 a2 a3) (T1 : q_qry V (8 : Int) q b s o a1 a2 a3 h (0 : Int) x) (C0 : 0 ≤ h) (C1 : 0 ≤ H - h - 1) (C2 : 0 ≤ 6 - H) : (True) ∧ (q_sax V 1 H p y d q b s o a1 a2 a3 h (-1 : Int) x (0 : Int) ∧ True) := by
  have z0 := g_k8 T1
  exact ⟨trivial, ⟨T0.1, g_saz T0.1.1 T0.2 z0.symm⟩, trivial⟩
theorem k_hsA {V : zVw} {n h k e N x g c r q u : Int} (T0 : q_qry V (8 : Int) q (0 : Int) (0 : Int) (7 : Int) n (h + 16) c h (0 : Int) u) (T1 : q_qry V (54 : Int) q (0 : Int) (0 : Int) (0 : Int) (0 : Int) (0 : Int) (0 : Int) x n g) (T2 : (mOP 108 (Int32.ofInt k) (Int32.ofInt e)).toInt = r) (C0 : 0 ≤ x - h - 8 * e - 512 * N) (C1 : 0 ≤ h + 8 * e + 512 * N - x) (C2 : 0 ≤ c - e - 64 * N) (C3 : 0 ≤ e + 64 * N - c) (C4 : 0 ≤ h) (C5 : 0 ≤ 5 - h) (C6 : 0 ≤ e - 1) (C7 : 0 ≤ 60 - e) (C8 : 0 ≤ N - 1) (C9 : 0 ≤ 60 - N) (C10 : 0 ≤ k - n - 1) (C11 : 0 ≤ n - k + 1) (C12 : 0 ≤ n) (C13 : 0 ≤ -r) : (0 ≤ 99 - u ∧ 0 ≤ u ∧ True) ∧ (q_qry V (54 : Int) q (0 : Int) (0 : Int) (0 : Int) (0 : Int) (0 : Int) (0 : Int) x k (g + u) ∧ True) := by
  have e6 : x % 8 = h := by omega
  have e5 : x / 8 % 64 = e := by omega
  have e4 : x / 512 = N := by omega
  have h9 : g_op 108 k e = r := T2
  have z0 : u = g_F V q 0 0 7 n (h + 16) c (g_F V q 0 0 0 0 0 0 (g_nw V)) h := g_k8 T0
  have z1 := g_k54 T1
  obtain ⟨⟨H9, w9⟩, -⟩ := id T0
  have u9 := w9.2.2.2.2.2.2.1 h (by omega) (by omega)
  have u8 : u = g_F V q 0 0 7 n (h + 16) c (g_nw V) h := g_k8 T0
  rw [e6, e5, e4] at z1
  exact ⟨⟨by omega, by omega, trivial⟩, g_qq T1 (g_Q54 (by
    rw [e6, e5, e4]
    exact g_hvY (by omega) (by omega) (by omega) (by omega) (Or.inl (by omega)) (by omega) (by omega) z0 z1)), trivial⟩
theorem k_cutA {V : zVw} {n h k e N z c r q H p y d : Int} (T0 : q_sax V 1 H p y d q (0 : Int) (0 : Int) (7 : Int) n (h + 16) c h (-1 : Int) z (0 : Int)) (T1 : (mOP 108 (Int32.ofInt k) (Int32.ofInt e)).toInt = r) (C0 : 0 ≤ c - e - 64 * N) (C1 : 0 ≤ e + 64 * N - c) (C2 : 0 ≤ k - n - 1) (C3 : 0 ≤ n - k + 1) (C4 : 0 ≤ n) (C5 : 0 ≤ -r) (C6 : 0 ≤ h) (C7 : 0 ≤ H - h - 1) (C8 : 0 ≤ 6 - H) (C9 : 0 ≤ e) (C10 : 0 ≤ 63 - e) (F0 : (0 : Int) ≤ h ∧ (h : Int) < j_len 107 ∧ V 107 (h) = 0) : (True) ∧ (q_sto V 1 H p y d q (0 : Int) (0 : Int) (7 : Int) k h c ∧ True) := by
  have h9 : g_op 108 k e = r := T1
  have h6 := T0.1.1.1
  have h5 := F0.2.2
  have c6 : c % 64 = e := by omega
  have c5 : c / 64 = N := by omega
  have h7 : g_F V q 0 0 7 k h c (g_nw V) = g_hx e N h k (g_F V q 0 0 7 n (h + 16) c (g_nw V)) := by
    rw [← c6, ← c5]
    exact g_F7d (by omega) (by omega) (by omega) (by omega)
  obtain ⟨h8, h4⟩ := g_sax_hx (e := e) (N := N) (k := k) T0.1.1 T0.2 (by omega) (by omega) h5 (Or.inl (by omega))
  exact ⟨trivial, ⟨⟨by rw [h7]; exact h8, T0.1.2⟩, by rw [h7]; exact h4⟩, trivial⟩
theorem k_hsB {V : zVw} {n h k e N x g c r q u : Int} (T0 : q_qry V (8 : Int) q (0 : Int) (0 : Int) (7 : Int) n (h + 16) c h (0 : Int) u) (T1 : q_qry V (54 : Int) q (0 : Int) (0 : Int) (0 : Int) (0 : Int) (0 : Int) (0 : Int) x n g) (T2 : (mOP 108 (Int32.ofInt k) (Int32.ofInt e)).toInt = r) (C0 : 0 ≤ x - h - 8 * e - 512 * N) (C1 : 0 ≤ h + 8 * e + 512 * N - x) (C2 : 0 ≤ c - e - 64 * N) (C3 : 0 ≤ e + 64 * N - c) (C4 : 0 ≤ h) (C5 : 0 ≤ 5 - h) (C6 : 0 ≤ e - 1) (C7 : 0 ≤ 60 - e) (C8 : 0 ≤ N - 1) (C9 : 0 ≤ 60 - N) (C10 : 0 ≤ k - n - 1) (C11 : 0 ≤ n - k + 1) (C12 : 0 ≤ n) (C13 : 0 ≤ k - N) : (0 ≤ 99 - u ∧ 0 ≤ u ∧ True) ∧ (q_qry V (54 : Int) q (0 : Int) (0 : Int) (0 : Int) (0 : Int) (0 : Int) (0 : Int) x k (g + u) ∧ True) := by
  have e6 : x % 8 = h := by omega
  have e5 : x / 8 % 64 = e := by omega
  have e4 : x / 512 = N := by omega
  have h9 : g_op 108 k e = r := T2
  have z0 : u = g_F V q 0 0 7 n (h + 16) c (g_F V q 0 0 0 0 0 0 (g_nw V)) h := g_k8 T0
  have z1 := g_k54 T1
  obtain ⟨⟨H9, w9⟩, -⟩ := id T0
  have u9 := w9.2.2.2.2.2.2.1 h (by omega) (by omega)
  have u8 : u = g_F V q 0 0 7 n (h + 16) c (g_nw V) h := g_k8 T0
  rw [e6, e5, e4] at z1
  exact ⟨⟨by omega, by omega, trivial⟩, g_qq T1 (g_Q54 (by
    rw [e6, e5, e4]
    exact g_hvY (by omega) (by omega) (by omega) (by omega) (Or.inr (by omega)) (by omega) (by omega) z0 z1)), trivial⟩
theorem k_cutB {V : zVw} {n h k e N z c r q H p y d : Int} (T0 : q_sax V 1 H p y d q (0 : Int) (0 : Int) (7 : Int) n (h + 16) c h (-1 : Int) z (0 : Int)) (T1 : (mOP 108 (Int32.ofInt k) (Int32.ofInt e)).toInt = r) (C0 : 0 ≤ c - e - 64 * N) (C1 : 0 ≤ e + 64 * N - c) (C2 : 0 ≤ k - n - 1) (C3 : 0 ≤ n - k + 1) (C4 : 0 ≤ n) (C5 : 0 ≤ k - N) (C6 : 0 ≤ h) (C7 : 0 ≤ H - h - 1) (C8 : 0 ≤ 6 - H) (C9 : 0 ≤ e) (C10 : 0 ≤ 63 - e) (F0 : (0 : Int) ≤ h ∧ (h : Int) < j_len 107 ∧ V 107 (h) = 0) : (True) ∧ (q_sto V 1 H p y d q (0 : Int) (0 : Int) (7 : Int) k h c ∧ True) := by
  have h9 : g_op 108 k e = r := T1
  have h6 := T0.1.1.1
  have h5 := F0.2.2
  have c6 : c % 64 = e := by omega
  have c5 : c / 64 = N := by omega
  have h7 : g_F V q 0 0 7 k h c (g_nw V) = g_hx e N h k (g_F V q 0 0 7 n (h + 16) c (g_nw V)) := by
    rw [← c6, ← c5]
    exact g_F7d (by omega) (by omega) (by omega) (by omega)
  obtain ⟨h8, h4⟩ := g_sax_hx (e := e) (N := N) (k := k) T0.1.1 T0.2 (by omega) (by omega) h5 (Or.inr (by omega))
  exact ⟨trivial, ⟨⟨by rw [h7]; exact h8, T0.1.2⟩, by rw [h7]; exact h4⟩, trivial⟩
theorem k_hsN {V : zVw} {n h k e N x g c r q H p y d : Int} (T0 : q_sto V 1 H p y d q (0 : Int) (0 : Int) (7 : Int) n (h + 16) c) (T1 : q_qry V (54 : Int) q (0 : Int) (0 : Int) (0 : Int) (0 : Int) (0 : Int) (0 : Int) x n g) (T2 : (mOP 108 (Int32.ofInt k) (Int32.ofInt e)).toInt = r) (C0 : 0 ≤ x - h - 8 * e - 512 * N) (C1 : 0 ≤ h + 8 * e + 512 * N - x) (C2 : 0 ≤ c - e - 64 * N) (C3 : 0 ≤ e + 64 * N - c) (C4 : 0 ≤ h) (C5 : 0 ≤ 5 - h) (C6 : 0 ≤ e - 1) (C7 : 0 ≤ 60 - e) (C8 : 0 ≤ N - 1) (C9 : 0 ≤ 60 - N) (C10 : 0 ≤ k - n - 1) (C11 : 0 ≤ n - k + 1) (C12 : 0 ≤ n) (C13 : 0 ≤ r - 1) (C14 : 0 ≤ N - k - 1) : (True) ∧ (q_qry V (54 : Int) q (0 : Int) (0 : Int) (0 : Int) (0 : Int) (0 : Int) (0 : Int) x k g ∧ True) := by
  have e6 : x % 8 = h := by omega
  have e5 : x / 8 % 64 = e := by omega
  have e4 : x / 512 = N := by omega
  have h9 : g_op 108 k e = r := T2
  have z1 := g_k54 T1
  rw [e6, e5, e4] at z1
  exact ⟨trivial, g_qq T1 (g_Q54 (by
    rw [e6, e5, e4]
    exact g_hvN (by omega) (by omega) (fun z9 => by
      rcases z9 with z9 | z9
      · omega
      · omega) z1)), trivial⟩
theorem k_cutN {V : zVw} {n h k e N c r q H p y d : Int} (T0 : q_sto V 1 H p y d q (0 : Int) (0 : Int) (7 : Int) n (h + 16) c) (T1 : (mOP 108 (Int32.ofInt k) (Int32.ofInt e)).toInt = r) (C0 : 0 ≤ c - e - 64 * N) (C1 : 0 ≤ e + 64 * N - c) (C2 : 0 ≤ k - n - 1) (C3 : 0 ≤ n - k + 1) (C4 : 0 ≤ n) (C5 : 0 ≤ r - 1) (C6 : 0 ≤ N - k - 1) (C7 : 0 ≤ h) (C8 : 0 ≤ 5 - h) (C9 : 0 ≤ e) (C10 : 0 ≤ 63 - e) : (True) ∧ (q_sto V 1 H p y d q (0 : Int) (0 : Int) (7 : Int) k h c ∧ True) := by
  have h9 : g_op 108 k e = r := T1
  have c6 : c % 64 = e := by omega
  have c5 : c / 64 = N := by omega
  have h7 : g_F V q 0 0 7 k h c (g_nw V) = g_F V q 0 0 7 n (h + 16) c (g_nw V) := by
    have h8 : g_F V q 0 0 7 k h c (g_nw V) = g_hx e N h k (g_F V q 0 0 7 n (h + 16) c (g_nw V)) := by
      rw [← c6, ← c5]
      exact g_F7d (by omega) (by omega) (by omega) (by omega)
    rw [h8]
    exact g_hx_n (fun z9 => by
      rcases z9 with z9 | z9
      · omega
      · omega)
  have t9 : q_sto V 1 H p y d q 0 0 7 k h c := by
    unfold q_sto at T0 ⊢
    rw [h7]
    exact T0
  exact ⟨trivial, t9, trivial⟩
theorem k_rmp {V : zVw} {k e r : Int} (T0 : (mOP 108 (Int32.ofInt k) (Int32.ofInt e)).toInt = r) (C0 : 0 ≤ k) (C1 : 0 ≤ 2147483647 - k) (C2 : 0 ≤ e - 1) (C3 : 0 ≤ 60 - e) : (0 ≤ r ∧ True) ∧ (True) := by
  have h9 : g_op 108 k e = r := T0
  have h8 := g_op_rem (a := k) (b := e) (by omega) (by omega) (by omega) (by omega)
  have h7 := Int.emod_nonneg k (show e ≠ 0 by omega)
  exact ⟨⟨by omega, trivial⟩, trivial⟩
theorem k_hbe0 {V : zVw} {h N H p y d q : Int} (T0 : q_sto V 0 H p y d (0 : Int) (0 : Int) (0 : Int) (0 : Int) (0 : Int) (0 : Int) (0 : Int)) (C0 : 0 ≤ h) (C1 : 0 ≤ 5 - h) (C2 : 0 ≤ N) (C3 : 0 ≤ 60 - N) : (True) ∧ (q_qry V (55 : Int) q (0 : Int) (0 : Int) (0 : Int) (0 : Int) (0 : Int) (0 : Int) (h + 8 * N) (0 : Int) (-1 : Int) ∧ True) := by
  exact ⟨trivial, ⟨⟨H, by rw [g_F0]; exact T0.1.2.1⟩, g_Q55 (by rw [show (h + 8 * N) / 512 = 0 by omega]; rfl)⟩, trivial⟩
theorem k_hbeY {V : zVw} {h N k g a b x z q : Int} (T0 : q_qry V (54 : Int) q (0 : Int) (0 : Int) (0 : Int) (0 : Int) (0 : Int) (0 : Int) z N g) (T1 : q_qry V (55 : Int) q (0 : Int) (0 : Int) (0 : Int) (0 : Int) (0 : Int) (0 : Int) x a b) (C0 : 0 ≤ x - h - 8 * N - 512 * k + 512) (C1 : 0 ≤ h + 8 * N + 512 * k - x - 512) (C2 : 0 ≤ h) (C3 : 0 ≤ 5 - h) (C4 : 0 ≤ N - 1) (C5 : 0 ≤ 60 - N) (C6 : 0 ≤ k - 1) (C7 : 0 ≤ 60 - k) (C8 : 0 ≤ z - h - 512 * N - 8 * k) (C9 : 0 ≤ h + 512 * N + 8 * k - z) (C10 : 0 ≤ g - b - 1) : (True) ∧ (q_qry V (55 : Int) q (0 : Int) (0 : Int) (0 : Int) (0 : Int) (0 : Int) (0 : Int) (x + 512) k g ∧ True) := by
  have e6 : x % 8 = h := by omega
  have e5 : x / 8 % 64 = N := by omega
  have e4 : x / 512 = k - 1 := by omega
  have d6 : (x + 512) % 8 = h := by omega
  have d5 : (x + 512) / 8 % 64 = N := by omega
  have d4 : (x + 512) / 512 = k := by omega
  have f6 : z % 8 = h := by omega
  have f5 : z / 8 % 64 = k := by omega
  have f4 : z / 512 = N := by omega
  have z0 := g_k54 T0
  rw [f6, f5, f4] at z0
  have z1 := g_k55 T1
  rw [e6, e5, e4] at z1
  exact ⟨trivial, g_qq T1 (g_Q55 (by
    rw [d6, d5, d4]
    exact g_hbY (by omega) z1 z0 (by omega))), trivial⟩
theorem k_hbeN {V : zVw} {h N k g a b x z q : Int} (T0 : q_qry V (54 : Int) q (0 : Int) (0 : Int) (0 : Int) (0 : Int) (0 : Int) (0 : Int) z N g) (T1 : q_qry V (55 : Int) q (0 : Int) (0 : Int) (0 : Int) (0 : Int) (0 : Int) (0 : Int) x a b) (C0 : 0 ≤ x - h - 8 * N - 512 * k + 512) (C1 : 0 ≤ h + 8 * N + 512 * k - x - 512) (C2 : 0 ≤ h) (C3 : 0 ≤ 5 - h) (C4 : 0 ≤ N - 1) (C5 : 0 ≤ 60 - N) (C6 : 0 ≤ k - 1) (C7 : 0 ≤ 60 - k) (C8 : 0 ≤ z - h - 512 * N - 8 * k) (C9 : 0 ≤ h + 512 * N + 8 * k - z) (C10 : 0 ≤ b - g) : (True) ∧ (q_qry V (55 : Int) q (0 : Int) (0 : Int) (0 : Int) (0 : Int) (0 : Int) (0 : Int) (x + 512) a b ∧ True) := by
  have e6 : x % 8 = h := by omega
  have e5 : x / 8 % 64 = N := by omega
  have e4 : x / 512 = k - 1 := by omega
  have d6 : (x + 512) % 8 = h := by omega
  have d5 : (x + 512) / 8 % 64 = N := by omega
  have d4 : (x + 512) / 512 = k := by omega
  have f6 : z % 8 = h := by omega
  have f5 : z / 8 % 64 = k := by omega
  have f4 : z / 512 = N := by omega
  have z0 := g_k54 T0
  rw [f6, f5, f4] at z0
  have z1 := g_k55 T1
  rw [e6, e5, e4] at z1
  exact ⟨trivial, g_qq T1 (g_Q55 (by
    rw [d6, d5, d4]
    exact g_hbN (by omega) z1 z0 (by omega))), trivial⟩
theorem k_hbeE {V : zVw} {h N k a b x q : Int} (T0 : q_qry V (55 : Int) q (0 : Int) (0 : Int) (0 : Int) (0 : Int) (0 : Int) (0 : Int) x a b) (C0 : 0 ≤ k - N - 1) (C1 : 0 ≤ N - k + 1) (C2 : 0 ≤ x - h - 8 * N - 512 * k + 512) (C3 : 0 ≤ h + 8 * N + 512 * k - x - 512) : (True) ∧ (q_qry V (55 : Int) q (0 : Int) (0 : Int) (0 : Int) (0 : Int) (0 : Int) (0 : Int) (h + 520 * N) a b ∧ True) := by
  have e9 : x = h + 520 * N := by omega
  rw [e9] at T0
  exact ⟨trivial, T0, trivial⟩
theorem k_hrW0 {V : zVw} {u b x q : Int} (T0 : q_qry V (55 : Int) q (0 : Int) (0 : Int) (0 : Int) (0 : Int) (0 : Int) (0 : Int) x u b) : (True) ∧ (q_qry V (56 : Int) q (0 : Int) (0 : Int) (0 : Int) (0 : Int) (0 : Int) (0 : Int) x (0 : Int) u ∧ True) := by
  exact ⟨trivial, g_qq T0 (g_Q56a (g_k55 T0)), trivial⟩
theorem k_hrW1 {V : zVw} {u a x q : Int} (T0 : q_qry V (55 : Int) q (0 : Int) (0 : Int) (0 : Int) (0 : Int) (0 : Int) (0 : Int) x a u) : (True) ∧ (q_qry V (56 : Int) q (0 : Int) (0 : Int) (0 : Int) (0 : Int) (0 : Int) (0 : Int) x (1 : Int) u ∧ True) := by
  exact ⟨trivial, g_qq T0 (g_Q56b (g_k55 T0)), trivial⟩
theorem k_y08 {V : zVw} {h N e H q l x : Int} (T0 : q_rwo V H (0 : Int) (0 : Int) (0 : Int) (0 : Int) (0 : Int) (0 : Int) (0 : Int)) (T1 : (1 : Int) = 1 → q_leq V l x q) (C0 : 0 ≤ h) (C1 : 0 ≤ 5 - h) (C2 : 0 ≤ e - 1) (C3 : 0 ≤ 60 - e) (C4 : 0 ≤ N - 1) (C5 : 0 ≤ 60 - N) (C6 : 0 ≤ 6 - H) (C7 : 0 ≤ H) : (True) ∧ (q_rwo V H q (0 : Int) (0 : Int) (8 : Int) (0 : Int) (0 : Int) (8 * h + 4096 * N + 64 * e + H) ∧ True) := by
  exact ⟨trivial, g_rwo80 T0, trivial⟩
theorem k_mhsu0 {V : zVw} {h N e H p y d q l x : Int} (T0 : q_sto V 0 H p y d (0 : Int) (0 : Int) (0 : Int) (0 : Int) (0 : Int) (0 : Int) (0 : Int)) (T1 : (1 : Int) = 1 → q_leq V l x q) (C0 : 0 ≤ h) (C1 : 0 ≤ 5 - h) (C2 : 0 ≤ e - 1) (C3 : 0 ≤ 60 - e) (C4 : 0 ≤ N - 1) (C5 : 0 ≤ 60 - N) : (True) ∧ (q_qry V (54 : Int) q (0 : Int) (0 : Int) (0 : Int) (0 : Int) (0 : Int) (0 : Int) (h + 512 * N + 8 * e) (0 : Int) (0 : Int) ∧ True) := by
  exact ⟨trivial, ⟨⟨H, by rw [g_F0]; exact T0.1.2.1⟩, g_Q54 rfl⟩, trivial⟩
theorem k_grnH {V : zVw} {i g w n H c q b s : Int} (T0 : q_rwo V H q b s (8 : Int) n i c) (T1 : q_grn V q b s (8 : Int) n (0 : Int) c H) (C0 : 0 ≤ i) (C1 : 0 ≤ H - i - 1) (C2 : 0 ≤ 6 - H) (F0 : (0 : Int) ≤ i ∧ (i : Int) < j_len 79 ∧ V 79 (i) = g) (F1 : (0 : Int) ≤ i ∧ (i : Int) < j_len 80 ∧ V 80 (i) = w) : (0 ≤ g ∧ 0 ≤ 99 - g ∧ 0 ≤ w ∧ 0 ≤ 99 - w ∧ True) ∧ (q_qry V (4 : Int) q b s (8 : Int) n i c (0 : Int) i g ∧ q_qry V (4 : Int) q b s (8 : Int) n i c (1 : Int) i w ∧ True) := by
  have h9 := T1 i (by omega) (by omega)
  have e9 : ∀ k9 : Int, g_lw V q k9 (g_F V q b s 8 n i c (g_nw V)) i = g_lw V q k9 (g_F V q b s 8 n 0 c (g_nw V)) i := fun k9 => by
    rw [g_F8a (a := i) (by omega) (by omega)]
    exact g_lw_ya i.toNat (by omega) (by omega)
  have l0 := g_lw_b V q 0 (g_F V q b s 8 n 0 c (g_nw V)) i
  have l1 := g_lw_b V q 1 (g_F V q b s 8 n 0 c (g_nw V)) i
  have h8 := F0.2.2
  have h7 := F1.2.2
  exact ⟨⟨by omega, by omega, by omega, by omega, trivial⟩, g_qr T0 (show g = g_lw V q 0 _ i by rw [e9]; omega), g_qr T0 (show w = g_lw V q 1 _ i by rw [e9]; omega), trivial⟩
theorem k_ymH {V : zVw} {h v w n H c q b s : Int} (T0 : q_ryx V H q b s (8 : Int) n h c h (h + 12)) (T1 : q_qry V (20 : Int) q b s (8 : Int) n h c h (0 : Int) v) (T2 : q_qry V (21 : Int) q b s (8 : Int) n h c h (0 : Int) w) (C0 : 0 ≤ h) (C1 : 0 ≤ H - h - 1) (C2 : 0 ≤ 6 - H) (F0 : (0 : Int) ≤ h ∧ (h : Int) < j_len 78 ∧ V 78 (h) = v) (F1 : (0 : Int) ≤ h + 12 ∧ (h + 12 : Int) < j_len 78 ∧ V 78 (h + 12) = w) : (True) ∧ (q_rwo V H q b s (8 : Int) n (h + 1) c ∧ True) := by
  have z0 := g_k20 T1
  have z1 := g_k21 T2
  have w9 := T0.1.1
  have h7 : g_F V q b s 8 n (h + 1) c (g_nw V) = g_y1 V q b s (g_F V q b s 8 n h c (g_nw V)) h := g_F8s (by omega) (by omega)
  have wY := w9.y1 (v := V) (q := q) (b := b) (s := s) (h := h) (by omega) (by omega)
  have sY : g_sup (g_F V q b s 8 n h c (g_nw V)) := g_F8_sup g_nw_sup (by omega) (by omega)
  refine ⟨trivial, ⟨⟨by rw [h7]; exact wY, T0.1.2⟩, ?_⟩, trivial⟩
  rw [h7]
  refine g_but_row (sY.y1 (by omega) (by omega)) T0.2 (fun i i0 i1 c9 => ?_) (fun i i0 i1 c9 => (g_y1_o (by omega) (by omega)).symm)
  rcases c9 with c9 | c9
  · rw [c9, g_y1_h]; exact F0.2.2.trans z0
  · rw [c9, F1.2.2, z1, show h + 12 = 12 + h by omega, g_y1_s]
theorem k_ymU {V : zVw} {y y2 n H c q b s : Int} (T0 : q_ryx V H q b s (8 : Int) n H c (31 : Int) (31 : Int)) (T1 : (mOP 110 (Int32.ofInt y) (Int32.ofInt (1 : Int))).toInt = y2) (T2 : q_qry V (8 : Int) q b s (8 : Int) n H c (31 : Int) (0 : Int) y) (C0 : 0 ≤ n) (C1 : 0 ≤ H) (C2 : 0 ≤ 6 - H) (F0 : (0 : Int) ≤ 31 ∧ (31 : Int) < j_len 78 ∧ V 78 (31) = y2) : (True) ∧ (q_rwo V H q b s (8 : Int) n (H + 8) c ∧ True) := by
  have h9 : g_op 110 y 1 = y2 := T1
  have z0 := g_k8 T2
  have w9 := T0.1.1
  have sY : g_sup (g_F V q b s 8 n H c (g_nw V)) := g_F8_sup g_nw_sup (by omega) (by omega)
  have h7 : g_F V q b s 8 n (H + 8) c (g_nw V) = g_yi (g_F V q b s 8 n H c (g_nw V)) := g_F8b (by omega) (by omega)
  refine ⟨trivial, ⟨⟨by rw [h7]; exact w9.yi, T0.1.2⟩, ?_⟩, trivial⟩
  rw [h7]
  refine g_but_row sY.yi T0.2 (fun i i0 i1 c9 => ?_) (fun i i0 i1 c9 => (g_yi_o (by omega)).symm)
  rw [show i = 31 by omega, g_yi_y, F0.2.2, ← z0]
  exact h9.symm
theorem k_ryxH {V : zVw} {h H q b s o a1 a2 a3 : Int} (T0 : q_rwo V H q b s o a1 a2 a3) (C0 : 0 ≤ h) (C1 : 0 ≤ 5 - h) : (True) ∧ (q_ryx V H q b s o a1 a2 a3 h h ∧ True) := by
  exact ⟨trivial, ⟨T0.1, fun i i0 i1 _ => g_rwo_at T0 i0 i1⟩, trivial⟩
theorem k_mhsA {V : zVw} {n h k e N x g c r q H u : Int} (T0 : q_rwo V H q (0 : Int) (0 : Int) (8 : Int) n (H + 8) c) (T1 : q_qry V (8 : Int) q (0 : Int) (0 : Int) (8 : Int) n (H + 8) c h (0 : Int) u) (T2 : q_qry V (54 : Int) q (0 : Int) (0 : Int) (0 : Int) (0 : Int) (0 : Int) (0 : Int) x n g) (T3 : (mOP 108 (Int32.ofInt k) (Int32.ofInt e)).toInt = r) (C0 : 0 ≤ x - h - 8 * e - 512 * N) (C1 : 0 ≤ h + 8 * e + 512 * N - x) (C2 : 0 ≤ c - 8 * h - 64 * e - 4096 * N - H) (C3 : 0 ≤ 8 * h + 64 * e + 4096 * N + H - c) (C4 : 0 ≤ H) (C5 : 0 ≤ 6 - H) (C6 : 0 ≤ h) (C7 : 0 ≤ H - h - 1) (C8 : 0 ≤ e - 1) (C9 : 0 ≤ 60 - e) (C10 : 0 ≤ N - 1) (C11 : 0 ≤ 60 - N) (C12 : 0 ≤ k - n - 1) (C13 : 0 ≤ n - k + 1) (C14 : 0 ≤ n) (C15 : 0 ≤ -r) : (0 ≤ 99 - u ∧ 0 ≤ u ∧ True) ∧ (q_qry V (54 : Int) q (0 : Int) (0 : Int) (0 : Int) (0 : Int) (0 : Int) (0 : Int) x k (g + u) ∧ True) := by
  have e6 : x % 8 = h := by omega
  have e5 : x / 8 % 64 = e := by omega
  have e4 : x / 512 = N := by omega
  have cH : c % 8 = H := by omega
  have ch : c / 8 % 8 = h := by omega
  have ce : c / 64 % 64 = e := by omega
  have cN : c / 4096 = N := by omega
  have h9 : g_op 108 k e = r := T3
  have u8 : u = g_F V q 0 0 8 n (H + 8) c (g_nw V) h := g_k8 T1
  have y9 : g_F V q 0 0 8 n (H + 8) c (g_nw V) h = g_F V q 0 0 7 n (h + 16) (e + 64 * N) (g_nw V) h := g_F8h (by omega) (by omega) (by omega) cH ch (by omega) (by omega)
  have z0 : u = g_F V q 0 0 7 n (h + 16) (e + 64 * N) (g_F V q 0 0 0 0 0 0 (g_nw V)) h := u8.trans y9
  have z1 := g_k54 T2
  obtain ⟨⟨H9, w9⟩, -⟩ := id T1
  have u9 := w9.2.2.2.2.2.2.1 h (by omega) (by omega)
  rw [e6, e5, e4] at z1
  exact ⟨⟨by omega, by omega, trivial⟩, g_qq T2 (g_Q54 (by
    rw [e6, e5, e4]
    exact g_hvY (by omega) (by omega) (by omega) (by omega) (Or.inl (by omega)) (by omega) (by omega) z0 z1)), trivial⟩
theorem k_mcutA {V : zVw} {n h k e N c r q H : Int} (T0 : q_ryx V H q (0 : Int) (0 : Int) (8 : Int) n (H + 8) c h h) (T1 : (mOP 108 (Int32.ofInt k) (Int32.ofInt e)).toInt = r) (C0 : 0 ≤ c - 8 * h - 64 * e - 4096 * N - H) (C1 : 0 ≤ 8 * h + 64 * e + 4096 * N + H - c) (C2 : 0 ≤ H) (C3 : 0 ≤ 6 - H) (C4 : 0 ≤ h) (C5 : 0 ≤ H - h - 1) (C6 : 0 ≤ e - 1) (C7 : 0 ≤ 60 - e) (C8 : 0 ≤ N - 1) (C9 : 0 ≤ 60 - N) (C10 : 0 ≤ k - n - 1) (C11 : 0 ≤ n - k + 1) (C12 : 0 ≤ n) (C13 : 0 ≤ -r) (F0 : (0 : Int) ≤ h ∧ (h : Int) < j_len 78 ∧ V 78 (h) = 0) : (True) ∧ (q_rwo V H q (0 : Int) (0 : Int) (8 : Int) k (0 : Int) c ∧ True) := by
  have cH : c % 8 = H := by omega
  have ch : c / 8 % 8 = h := by omega
  have ce : c / 64 % 64 = e := by omega
  have cN : c / 4096 = N := by omega
  have h9 : g_op 108 k e = r := T1
  have w9 := T0.1.1
  have sY : g_sup (g_F V q 0 0 8 n (H + 8) c (g_nw V)) := by
    rw [g_F8b (by omega) (by omega)]
    exact (g_F8_sup g_nw_sup (by omega) (by omega)).yi
  have h7 : g_F V q 0 0 8 k 0 c (g_nw V) = g_hx e N h k (g_F V q 0 0 8 n (H + 8) c (g_nw V)) := g_F8d (by omega) (by omega) (by omega) (by omega) cH ch ce cN
  refine ⟨trivial, ⟨⟨by rw [h7]; exact w9.hx (by omega) (by omega), T0.1.2⟩, ?_⟩, trivial⟩
  rw [h7]
  refine g_but_row sY.hx T0.2 (fun i i0 i1 c9 => ?_) (fun i i0 i1 c9 => (g_hx_o (by omega)).symm)
  rw [show i = h by omega, g_hx_y (Or.inl (by omega))]
  exact F0.2.2
theorem k_mhsB {V : zVw} {n h k e N x g c r q H u : Int} (T0 : q_rwo V H q (0 : Int) (0 : Int) (8 : Int) n (H + 8) c) (T1 : q_qry V (8 : Int) q (0 : Int) (0 : Int) (8 : Int) n (H + 8) c h (0 : Int) u) (T2 : q_qry V (54 : Int) q (0 : Int) (0 : Int) (0 : Int) (0 : Int) (0 : Int) (0 : Int) x n g) (T3 : (mOP 108 (Int32.ofInt k) (Int32.ofInt e)).toInt = r) (C0 : 0 ≤ x - h - 8 * e - 512 * N) (C1 : 0 ≤ h + 8 * e + 512 * N - x) (C2 : 0 ≤ c - 8 * h - 64 * e - 4096 * N - H) (C3 : 0 ≤ 8 * h + 64 * e + 4096 * N + H - c) (C4 : 0 ≤ H) (C5 : 0 ≤ 6 - H) (C6 : 0 ≤ h) (C7 : 0 ≤ H - h - 1) (C8 : 0 ≤ e - 1) (C9 : 0 ≤ 60 - e) (C10 : 0 ≤ N - 1) (C11 : 0 ≤ 60 - N) (C12 : 0 ≤ k - n - 1) (C13 : 0 ≤ n - k + 1) (C14 : 0 ≤ n) (C15 : 0 ≤ k - N) : (0 ≤ 99 - u ∧ 0 ≤ u ∧ True) ∧ (q_qry V (54 : Int) q (0 : Int) (0 : Int) (0 : Int) (0 : Int) (0 : Int) (0 : Int) x k (g + u) ∧ True) := by
  have e6 : x % 8 = h := by omega
  have e5 : x / 8 % 64 = e := by omega
  have e4 : x / 512 = N := by omega
  have cH : c % 8 = H := by omega
  have ch : c / 8 % 8 = h := by omega
  have ce : c / 64 % 64 = e := by omega
  have cN : c / 4096 = N := by omega
  have h9 : g_op 108 k e = r := T3
  have u8 : u = g_F V q 0 0 8 n (H + 8) c (g_nw V) h := g_k8 T1
  have y9 : g_F V q 0 0 8 n (H + 8) c (g_nw V) h = g_F V q 0 0 7 n (h + 16) (e + 64 * N) (g_nw V) h := g_F8h (by omega) (by omega) (by omega) cH ch (by omega) (by omega)
  have z0 : u = g_F V q 0 0 7 n (h + 16) (e + 64 * N) (g_F V q 0 0 0 0 0 0 (g_nw V)) h := u8.trans y9
  have z1 := g_k54 T2
  obtain ⟨⟨H9, w9⟩, -⟩ := id T1
  have u9 := w9.2.2.2.2.2.2.1 h (by omega) (by omega)
  rw [e6, e5, e4] at z1
  exact ⟨⟨by omega, by omega, trivial⟩, g_qq T2 (g_Q54 (by
    rw [e6, e5, e4]
    exact g_hvY (by omega) (by omega) (by omega) (by omega) (Or.inr (by omega)) (by omega) (by omega) z0 z1)), trivial⟩
theorem k_mcutB {V : zVw} {n h k e N c r q H : Int} (T0 : q_ryx V H q (0 : Int) (0 : Int) (8 : Int) n (H + 8) c h h) (T1 : (mOP 108 (Int32.ofInt k) (Int32.ofInt e)).toInt = r) (C0 : 0 ≤ c - 8 * h - 64 * e - 4096 * N - H) (C1 : 0 ≤ 8 * h + 64 * e + 4096 * N + H - c) (C2 : 0 ≤ H) (C3 : 0 ≤ 6 - H) (C4 : 0 ≤ h) (C5 : 0 ≤ H - h - 1) (C6 : 0 ≤ e - 1) (C7 : 0 ≤ 60 - e) (C8 : 0 ≤ N - 1) (C9 : 0 ≤ 60 - N) (C10 : 0 ≤ k - n - 1) (C11 : 0 ≤ n - k + 1) (C12 : 0 ≤ n) (C13 : 0 ≤ k - N) (F0 : (0 : Int) ≤ h ∧ (h : Int) < j_len 78 ∧ V 78 (h) = 0) : (True) ∧ (q_rwo V H q (0 : Int) (0 : Int) (8 : Int) k (0 : Int) c ∧ True) := by
  have cH : c % 8 = H := by omega
  have ch : c / 8 % 8 = h := by omega
  have ce : c / 64 % 64 = e := by omega
  have cN : c / 4096 = N := by omega
  have h9 : g_op 108 k e = r := T1
  have w9 := T0.1.1
  have sY : g_sup (g_F V q 0 0 8 n (H + 8) c (g_nw V)) := by
    rw [g_F8b (by omega) (by omega)]
    exact (g_F8_sup g_nw_sup (by omega) (by omega)).yi
  have h7 : g_F V q 0 0 8 k 0 c (g_nw V) = g_hx e N h k (g_F V q 0 0 8 n (H + 8) c (g_nw V)) := g_F8d (by omega) (by omega) (by omega) (by omega) cH ch ce cN
  refine ⟨trivial, ⟨⟨by rw [h7]; exact w9.hx (by omega) (by omega), T0.1.2⟩, ?_⟩, trivial⟩
  rw [h7]
  refine g_but_row sY.hx T0.2 (fun i i0 i1 c9 => ?_) (fun i i0 i1 c9 => (g_hx_o (by omega)).symm)
  rw [show i = h by omega, g_hx_y (Or.inr (by omega))]
  exact F0.2.2
theorem k_mhsN {V : zVw} {n h k e N x g c r q H : Int} (T0 : q_rwo V H q (0 : Int) (0 : Int) (8 : Int) n (H + 8) c) (T1 : q_qry V (54 : Int) q (0 : Int) (0 : Int) (0 : Int) (0 : Int) (0 : Int) (0 : Int) x n g) (T2 : (mOP 108 (Int32.ofInt k) (Int32.ofInt e)).toInt = r) (C0 : 0 ≤ x - h - 8 * e - 512 * N) (C1 : 0 ≤ h + 8 * e + 512 * N - x) (C2 : 0 ≤ c - 8 * h - 64 * e - 4096 * N - H) (C3 : 0 ≤ 8 * h + 64 * e + 4096 * N + H - c) (C4 : 0 ≤ H) (C5 : 0 ≤ 6 - H) (C6 : 0 ≤ h) (C7 : 0 ≤ H - h - 1) (C8 : 0 ≤ e - 1) (C9 : 0 ≤ 60 - e) (C10 : 0 ≤ N - 1) (C11 : 0 ≤ 60 - N) (C12 : 0 ≤ k - n - 1) (C13 : 0 ≤ n - k + 1) (C14 : 0 ≤ n) (C15 : 0 ≤ r - 1) (C16 : 0 ≤ N - k - 1) : (True) ∧ (q_qry V (54 : Int) q (0 : Int) (0 : Int) (0 : Int) (0 : Int) (0 : Int) (0 : Int) x k g ∧ True) := by
  have e6 : x % 8 = h := by omega
  have e5 : x / 8 % 64 = e := by omega
  have e4 : x / 512 = N := by omega
  have h9 : g_op 108 k e = r := T2
  have z1 := g_k54 T1
  rw [e6, e5, e4] at z1
  exact ⟨trivial, g_qq T1 (g_Q54 (by
    rw [e6, e5, e4]
    exact g_hvN (by omega) (by omega) (fun z9 => by
      rcases z9 with z9 | z9
      · omega
      · omega) z1)), trivial⟩
theorem k_mcutN {V : zVw} {n h k e N c r q H : Int} (T0 : q_rwo V H q (0 : Int) (0 : Int) (8 : Int) n (H + 8) c) (T1 : (mOP 108 (Int32.ofInt k) (Int32.ofInt e)).toInt = r) (C0 : 0 ≤ c - 8 * h - 64 * e - 4096 * N - H) (C1 : 0 ≤ 8 * h + 64 * e + 4096 * N + H - c) (C2 : 0 ≤ H) (C3 : 0 ≤ 6 - H) (C4 : 0 ≤ h) (C5 : 0 ≤ H - h - 1) (C6 : 0 ≤ e - 1) (C7 : 0 ≤ 60 - e) (C8 : 0 ≤ N - 1) (C9 : 0 ≤ 60 - N) (C10 : 0 ≤ k - n - 1) (C11 : 0 ≤ n - k + 1) (C12 : 0 ≤ n) (C13 : 0 ≤ r - 1) (C14 : 0 ≤ N - k - 1) : (True) ∧ (q_rwo V H q (0 : Int) (0 : Int) (8 : Int) k (0 : Int) c ∧ True) := by
  have cH : c % 8 = H := by omega
  have ch : c / 8 % 8 = h := by omega
  have ce : c / 64 % 64 = e := by omega
  have cN : c / 4096 = N := by omega
  have h9 : g_op 108 k e = r := T1
  have h7 : g_F V q 0 0 8 k 0 c (g_nw V) = g_F V q 0 0 8 n (H + 8) c (g_nw V) := by
    have h8 : g_F V q 0 0 8 k 0 c (g_nw V) = g_hx e N h k (g_F V q 0 0 8 n (H + 8) c (g_nw V)) := g_F8d (by omega) (by omega) (by omega) (by omega) cH ch ce cN
    rw [h8]
    exact g_hx_n (fun z9 => by
      rcases z9 with z9 | z9
      · omega
      · omega)
  have t9 : q_rwo V H q 0 0 8 k 0 c := by
    unfold q_rwo at T0 ⊢
    rw [h7]
    exact T0
  exact ⟨trivial, t9, trivial⟩
theorem k_mhbe0 {V : zVw} {h N H p y d q l x : Int} (T0 : q_sto V 0 H p y d (0 : Int) (0 : Int) (0 : Int) (0 : Int) (0 : Int) (0 : Int) (0 : Int)) (T1 : (1 : Int) = 1 → q_leq V l x q) (C0 : 0 ≤ h) (C1 : 0 ≤ 5 - h) (C2 : 0 ≤ N) (C3 : 0 ≤ 60 - N) : (True) ∧ (q_qry V (55 : Int) q (0 : Int) (0 : Int) (0 : Int) (0 : Int) (0 : Int) (0 : Int) (h + 8 * N) (0 : Int) (-1 : Int) ∧ True) := by
  exact ⟨trivial, ⟨⟨H, by rw [g_F0]; exact T0.1.2.1⟩, g_Q55 (by rw [show (h + 8 * N) / 512 = 0 by omega]; rfl)⟩, trivial⟩
theorem k_qeHv {V : zVw} {q x k u w : Int} (T0 : q_qry V (56 : Int) q (0 : Int) (0 : Int) (0 : Int) (0 : Int) (0 : Int) (0 : Int) x k u) (T1 : q_qry V (56 : Int) q (0 : Int) (0 : Int) (0 : Int) (0 : Int) (0 : Int) (0 : Int) x k w) : (0 ≤ u - w ∧ 0 ≤ w - u ∧ True) ∧ (True) := by
  have h9 := g_k56 T0
  have h8 := g_k56 T1
  exact ⟨⟨by omega, by omega, trivial⟩, trivial⟩
