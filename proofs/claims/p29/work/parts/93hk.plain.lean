/-! ===== the lemmas in plain numbers, by program ===== -/
theorem k_quaT2 {V : zVw} {i u bb l H p y d q b s o a1 a2 a3 : Int} (T0 : q_sto V 0 H p y d q b s o a1 a2 a3) (T1 : q_qry V (28 : Int) q b s o a1 a2 a3 i bb l) (T2 : q_qry V (17 : Int) q b s o a1 a2 a3 i (0 : Int) u) (C0 : 0 ≤ i - 1) (C1 : 0 ≤ p - i - 1) (C2 : 0 ≤ bb) (C3 : 0 ≤ l - u - 1) : (True) ∧ (q_qry V (28 : Int) q b s o a1 a2 a3 (i + 1) i u ∧ True) := by
  have z0 := g_k28 T1
  have z1 := g_k17 T2
  obtain ⟨⟨p1, p2, p3⟩, p4, p5⟩ := g_st0_pt T0
  have w9 := T0.1.1
  have w24 := w9.2.1
  have wH := w9.1
  exact ⟨trivial, g_qs T0 (g_Q28 (g_qT (by omega) (by omega) z0 z1 (Or.inr (by omega)))), trivial⟩
theorem k_mquT2 {V : zVw} {i u bb l p H q b s o a1 a2 a3 : Int} (T0 : q_rwo V H q b s o a1 a2 a3) (T1 : q_qry V (28 : Int) q b s o a1 a2 a3 i bb l) (T2 : q_qry V (17 : Int) q b s o a1 a2 a3 i (0 : Int) u) (C0 : 0 ≤ i - 1) (C1 : 0 ≤ p - i - 1) (C2 : 0 ≤ bb) (C3 : 0 ≤ l - u - 1) (F0 : (0 : Int) ≤ 24 ∧ (24 : Int) < j_len 78 ∧ V 78 (24) = p) : (True) ∧ (q_qry V (28 : Int) q b s o a1 a2 a3 (i + 1) i u ∧ True) := by
  have z0 := g_k28 T1
  have z1 := g_k17 T2
  have h8 := g_rwo_at T0 (i := 24) (by omega) (by omega)
  have h7 := F0.2.2
  exact ⟨trivial, g_qr T0 (g_Q28 (g_qT (by omega) (by omega) z0 z1 (Or.inr (by omega)))), trivial⟩
theorem k_quaN {V : zVw} {i u bb l H p y d q b s o a1 a2 a3 : Int} (T0 : q_sto V 0 H p y d q b s o a1 a2 a3) (T1 : q_qry V (28 : Int) q b s o a1 a2 a3 i bb l) (T2 : q_qry V (17 : Int) q b s o a1 a2 a3 i (0 : Int) u) (C0 : 0 ≤ i - 1) (C1 : 0 ≤ p - i - 1) (C2 : 0 ≤ bb) (C3 : 0 ≤ u - l) : (True) ∧ (q_qry V (28 : Int) q b s o a1 a2 a3 (i + 1) bb l ∧ True) := by
  have z0 := g_k28 T1
  have z1 := g_k17 T2
  obtain ⟨⟨p1, p2, p3⟩, p4, p5⟩ := g_st0_pt T0
  have w9 := T0.1.1
  have w24 := w9.2.1
  have wH := w9.1
  exact ⟨trivial, g_qs T0 (g_Q28 (g_qN (by omega) (by omega) z0 z1 (by omega) (by omega))), trivial⟩
theorem k_mquN {V : zVw} {i u bb l p H q b s o a1 a2 a3 : Int} (T0 : q_rwo V H q b s o a1 a2 a3) (T1 : q_qry V (28 : Int) q b s o a1 a2 a3 i bb l) (T2 : q_qry V (17 : Int) q b s o a1 a2 a3 i (0 : Int) u) (C0 : 0 ≤ i - 1) (C1 : 0 ≤ p - i - 1) (C2 : 0 ≤ bb) (C3 : 0 ≤ u - l) (F0 : (0 : Int) ≤ 24 ∧ (24 : Int) < j_len 78 ∧ V 78 (24) = p) : (True) ∧ (q_qry V (28 : Int) q b s o a1 a2 a3 (i + 1) bb l ∧ True) := by
  have z0 := g_k28 T1
  have z1 := g_k17 T2
  have h8 := g_rwo_at T0 (i := 24) (by omega) (by omega)
  have h7 := F0.2.2
  exact ⟨trivial, g_qr T0 (g_Q28 (g_qN (by omega) (by omega) z0 z1 (by omega) (by omega))), trivial⟩
theorem k_quaE {V : zVw} {i bb l H p y d q b s o a1 a2 a3 : Int} (T0 : q_sto V 0 H p y d q b s o a1 a2 a3) (T1 : q_qry V (28 : Int) q b s o a1 a2 a3 i bb l) (C0 : 0 ≤ i - p) : (True) ∧ (q_qry V (28 : Int) q b s o a1 a2 a3 p bb l ∧ True) := by
  have z0 := g_k28 T1
  obtain ⟨⟨p1, p2, p3⟩, p4, p5⟩ := g_st0_pt T0
  have w9 := T0.1.1
  have w24 := w9.2.1
  have wH := w9.1
  exact ⟨trivial, g_qs T0 (g_Q28 (g_qE p1 (by omega) z0)), trivial⟩
theorem k_mquE {V : zVw} {i bb l p H q b s o a1 a2 a3 : Int} (T0 : q_rwo V H q b s o a1 a2 a3) (T1 : q_qry V (28 : Int) q b s o a1 a2 a3 i bb l) (C0 : 0 ≤ i - p) (F0 : (0 : Int) ≤ 24 ∧ (24 : Int) < j_len 78 ∧ V 78 (24) = p) : (True) ∧ (q_qry V (28 : Int) q b s o a1 a2 a3 p bb l ∧ True) := by
  have z0 := g_k28 T1
  have h8 := g_rwo_at T0 (i := 24) (by omega) (by omega)
  have h7 := F0.2.2
  exact ⟨trivial, g_qr T0 (g_Q28 (g_qE (h7.symm.trans h8) (by omega) z0)), trivial⟩
theorem k_mqu0 {V : zVw} {H q b s o a1 a2 a3 : Int} (T0 : q_rwo V H q b s o a1 a2 a3) : (True) ∧ (q_qry V (28 : Int) q b s o a1 a2 a3 (1 : Int) (-2 : Int) (-2 : Int) ∧ True) := by
  exact ⟨trivial, g_qr T0 (g_Q28 g_q0), trivial⟩
theorem k_qeQ {V : zVw} {q p bb l bc k : Int} (T0 : q_qry V (28 : Int) q (0 : Int) (0 : Int) (0 : Int) (0 : Int) (0 : Int) (0 : Int) p bb l) (T1 : q_qry V (28 : Int) q (0 : Int) (0 : Int) (0 : Int) (0 : Int) (0 : Int) (0 : Int) p bc k) : (0 ≤ bb - bc ∧ 0 ≤ bc - bb ∧ 0 ≤ l - k ∧ 0 ≤ k - l ∧ True) ∧ (True) := by
  have h9 := g_k28 T0
  have h8 := g_k28 T1
  rw [h9] at h8
  have h7 : bb = bc := congrArg Prod.fst h8
  have h6 : l = k := congrArg Prod.snd h8
  exact ⟨⟨by omega, by omega, by omega, by omega, trivial⟩, trivial⟩
theorem k_gre0 {V : zVw} {p y d H : Int} (T0 : q_sto V 0 H p y d (0 : Int) (0 : Int) (0 : Int) (0 : Int) (0 : Int) (0 : Int) (0 : Int)) : (True) ∧ (q_qry V (29 : Int) (0 : Int) (0 : Int) (0 : Int) (0 : Int) (0 : Int) (0 : Int) (0 : Int) (0 : Int) (-2 : Int) (-2 : Int) ∧ True) := by
  exact ⟨trivial, g_qs T0 (g_Q29 g_q0), trivial⟩
theorem k_greT1 {V : zVw} {i u bb l H p y d : Int} (T0 : q_sto V 0 H p y d (0 : Int) (0 : Int) (0 : Int) (0 : Int) (0 : Int) (0 : Int) (0 : Int)) (T1 : q_qry V (29 : Int) (0 : Int) (0 : Int) (0 : Int) (0 : Int) (0 : Int) (0 : Int) (0 : Int) i bb l) (T2 : q_qry V (18 : Int) (0 : Int) (0 : Int) (0 : Int) (0 : Int) (0 : Int) (0 : Int) (0 : Int) i (0 : Int) u) (C0 : 0 ≤ i) (C1 : 0 ≤ p - i - 1) (C2 : 0 ≤ -bb - 1) : (True) ∧ (q_qry V (29 : Int) (0 : Int) (0 : Int) (0 : Int) (0 : Int) (0 : Int) (0 : Int) (0 : Int) (i + 1) i u ∧ True) := by
  have z0 := g_k29 T1
  have z1 := g_k18 T2
  obtain ⟨⟨p1, p2, p3⟩, p4, p5⟩ := g_st0_pt T0
  have w9 := T0.1.1
  have w24 := w9.2.1
  have wH := w9.1
  exact ⟨trivial, g_qs T0 (g_Q29 (g_qT (by omega) (by omega) z0 z1 (Or.inl (by omega)))), trivial⟩
theorem k_greT2 {V : zVw} {i u bb l H p y d : Int} (T0 : q_sto V 0 H p y d (0 : Int) (0 : Int) (0 : Int) (0 : Int) (0 : Int) (0 : Int) (0 : Int)) (T1 : q_qry V (29 : Int) (0 : Int) (0 : Int) (0 : Int) (0 : Int) (0 : Int) (0 : Int) (0 : Int) i bb l) (T2 : q_qry V (18 : Int) (0 : Int) (0 : Int) (0 : Int) (0 : Int) (0 : Int) (0 : Int) (0 : Int) i (0 : Int) u) (C0 : 0 ≤ i) (C1 : 0 ≤ p - i - 1) (C2 : 0 ≤ bb) (C3 : 0 ≤ l - u - 1) : (True) ∧ (q_qry V (29 : Int) (0 : Int) (0 : Int) (0 : Int) (0 : Int) (0 : Int) (0 : Int) (0 : Int) (i + 1) i u ∧ True) := by
  have z0 := g_k29 T1
  have z1 := g_k18 T2
  obtain ⟨⟨p1, p2, p3⟩, p4, p5⟩ := g_st0_pt T0
  have w9 := T0.1.1
  have w24 := w9.2.1
  have wH := w9.1
  exact ⟨trivial, g_qs T0 (g_Q29 (g_qT (by omega) (by omega) z0 z1 (Or.inr (by omega)))), trivial⟩
theorem k_greN {V : zVw} {i u bb l H p y d : Int} (T0 : q_sto V 0 H p y d (0 : Int) (0 : Int) (0 : Int) (0 : Int) (0 : Int) (0 : Int) (0 : Int)) (T1 : q_qry V (29 : Int) (0 : Int) (0 : Int) (0 : Int) (0 : Int) (0 : Int) (0 : Int) (0 : Int) i bb l) (T2 : q_qry V (18 : Int) (0 : Int) (0 : Int) (0 : Int) (0 : Int) (0 : Int) (0 : Int) (0 : Int) i (0 : Int) u) (C0 : 0 ≤ i) (C1 : 0 ≤ p - i - 1) (C2 : 0 ≤ bb) (C3 : 0 ≤ u - l) : (True) ∧ (q_qry V (29 : Int) (0 : Int) (0 : Int) (0 : Int) (0 : Int) (0 : Int) (0 : Int) (0 : Int) (i + 1) bb l ∧ True) := by
  have z0 := g_k29 T1
  have z1 := g_k18 T2
  obtain ⟨⟨p1, p2, p3⟩, p4, p5⟩ := g_st0_pt T0
  have w9 := T0.1.1
  have w24 := w9.2.1
  have wH := w9.1
  exact ⟨trivial, g_qs T0 (g_Q29 (g_qN (by omega) (by omega) z0 z1 (by omega) (by omega))), trivial⟩
theorem k_greE {V : zVw} {i bb l H p y d : Int} (T0 : q_sto V 0 H p y d (0 : Int) (0 : Int) (0 : Int) (0 : Int) (0 : Int) (0 : Int) (0 : Int)) (T1 : q_qry V (29 : Int) (0 : Int) (0 : Int) (0 : Int) (0 : Int) (0 : Int) (0 : Int) (0 : Int) i bb l) (C0 : 0 ≤ i - p) : (True) ∧ (q_qry V (29 : Int) (0 : Int) (0 : Int) (0 : Int) (0 : Int) (0 : Int) (0 : Int) (0 : Int) p bb l ∧ True) := by
  have z0 := g_k29 T1
  obtain ⟨⟨p1, p2, p3⟩, p4, p5⟩ := g_st0_pt T0
  have w9 := T0.1.1
  have w24 := w9.2.1
  have wH := w9.1
  exact ⟨trivial, g_qs T0 (g_Q29 (g_qE p1 (by omega) z0)), trivial⟩
theorem k_nstp {V : zVw} {i v w p H y d : Int} (T0 : q_sto V 0 H p y d (0 : Int) (0 : Int) (0 : Int) (0 : Int) (0 : Int) (0 : Int) (0 : Int)) (C0 : 0 ≤ i) (C1 : 0 ≤ p - i - 1) (C2 : 0 ≤ 5 - i) (F0 : (0 : Int) ≤ i + 25 ∧ (i + 25 : Int) < j_len 77 ∧ V 77 (i + 25) = w) (F1 : (0 : Int) ≤ w + 12 ∧ (w + 12 : Int) < j_len 77 ∧ V 77 (w + 12) = v) : (True) ∧ (q_qry V (18 : Int) (0 : Int) (0 : Int) (0 : Int) (0 : Int) (0 : Int) (0 : Int) (0 : Int) i (0 : Int) v ∧ True) := by
  obtain ⟨⟨p1, p2, p3⟩, p4, p5⟩ := g_st0_pt T0
  have w9 := T0.1.1
  have w24 := w9.2.1
  have wH := w9.1
  have y8 := w9.pl_lt (i := i) (by omega) (by omega)
  have y7 : g_nw V (i + 25) = V 77 (i + 25) := g_b0 (by omega) (by omega)
  have y6 : g_nw V (25 + i) = w := by rw [show 25 + i = i + 25 by omega, y7]; exact F0.2.2
  have y5 : 0 ≤ w ∧ w < 6 := by
    rw [← y6]
    exact ⟨y8.1, y8.2.2⟩
  have y4 : g_nw V (w + 12) = V 77 (w + 12) := g_b0 (by omega) (by omega)
  exact ⟨trivial, g_qs T0 (show v = g_nw V (12 + g_nw V (25 + i)) by rw [y6, show 12 + w = w + 12 by omega, y4]; exact F1.2.2.symm), trivial⟩
theorem k_nstq {V : zVw} {i v w p H y d n : Int} (T0 : q_sto V 0 H p y d (0 : Int) (0 : Int) (0 : Int) (0 : Int) (0 : Int) (0 : Int) (0 : Int)) (C0 : 0 ≤ i) (C1 : 0 ≤ n - i - 1) (C2 : 0 ≤ p - n) (C3 : 0 ≤ n - p) (C4 : 0 ≤ 5 - i) (F0 : (0 : Int) ≤ i + 25 ∧ (i + 25 : Int) < j_len 77 ∧ V 77 (i + 25) = w) (F1 : (0 : Int) ≤ w + 12 ∧ (w + 12 : Int) < j_len 77 ∧ V 77 (w + 12) = v) (F2 : (0 : Int) ≤ 24 ∧ (24 : Int) < j_len 77 ∧ V 77 (24) = n) : (True) ∧ (q_qry V (18 : Int) (0 : Int) (0 : Int) (0 : Int) (0 : Int) (0 : Int) (0 : Int) (0 : Int) i (0 : Int) v ∧ True) := by
  obtain ⟨⟨p1, p2, p3⟩, p4, p5⟩ := g_st0_pt T0
  have w9 := T0.1.1
  have w24 := w9.2.1
  have wH := w9.1
  have y8 := w9.pl_lt (i := i) (by omega) (by omega)
  have y7 : g_nw V (i + 25) = V 77 (i + 25) := g_b0 (by omega) (by omega)
  have y6 : g_nw V (25 + i) = w := by rw [show 25 + i = i + 25 by omega, y7]; exact F0.2.2
  have y5 : 0 ≤ w ∧ w < 6 := by
    rw [← y6]
    exact ⟨y8.1, y8.2.2⟩
  have y4 : g_nw V (w + 12) = V 77 (w + 12) := g_b0 (by omega) (by omega)
  exact ⟨trivial, g_qs T0 (show v = g_nw V (12 + g_nw V (25 + i)) by rw [y6, show 12 + w = w + 12 by omega, y4]; exact F1.2.2.symm), trivial⟩
theorem k_grx0 {V : zVw} {p y d H : Int} (T0 : q_sto V 0 H p y d (0 : Int) (0 : Int) (0 : Int) (0 : Int) (0 : Int) (0 : Int) (0 : Int)) : (True) ∧ (q_qry V (30 : Int) (0 : Int) (0 : Int) (0 : Int) (0 : Int) (0 : Int) (0 : Int) (0 : Int) (0 : Int) (-2 : Int) (0 : Int) ∧ True) := by
  exact ⟨trivial, g_qs T0 (g_Q30 (congrArg Prod.fst g_q0)), trivial⟩
theorem k_grxA {V : zVw} {n i bb H p y d : Int} (T0 : q_sto V 0 H p y d (0 : Int) (0 : Int) (0 : Int) (0 : Int) (0 : Int) (0 : Int) (0 : Int)) (T1 : q_qry V (30 : Int) (0 : Int) (0 : Int) (0 : Int) (0 : Int) (0 : Int) (0 : Int) (0 : Int) i bb (0 : Int)) (C0 : 0 ≤ i) (C1 : 0 ≤ n - i - 1) (C2 : 0 ≤ p - n) (C3 : 0 ≤ n - p) (C4 : 0 ≤ -bb - 1) (F0 : (0 : Int) ≤ 24 ∧ (24 : Int) < j_len 77 ∧ V 77 (24) = n) : (0 ≤ p - i - 1 ∧ True) ∧ (q_qry V (30 : Int) (0 : Int) (0 : Int) (0 : Int) (0 : Int) (0 : Int) (0 : Int) (0 : Int) (i + 1) i (0 : Int) ∧ True) := by
  have z0 := g_k30 T1
  obtain ⟨⟨p1, p2, p3⟩, p4, p5⟩ := g_st0_pt T0
  have w9 := T0.1.1
  have w24 := w9.2.1
  have wH := w9.1
  exact ⟨⟨by omega, trivial⟩, g_qs T0 (g_Q30 (g_qA' (by omega) (by omega) z0 (by omega))), trivial⟩
theorem k_grxB {V : zVw} {n i bb v w H p y d : Int} (T0 : q_sto V 0 H p y d (0 : Int) (0 : Int) (0 : Int) (0 : Int) (0 : Int) (0 : Int) (0 : Int)) (T1 : q_qry V (30 : Int) (0 : Int) (0 : Int) (0 : Int) (0 : Int) (0 : Int) (0 : Int) (0 : Int) i bb (0 : Int)) (T2 : q_qry V (18 : Int) (0 : Int) (0 : Int) (0 : Int) (0 : Int) (0 : Int) (0 : Int) (0 : Int) i (0 : Int) v) (T3 : q_qry V (18 : Int) (0 : Int) (0 : Int) (0 : Int) (0 : Int) (0 : Int) (0 : Int) (0 : Int) bb (0 : Int) w) (C0 : 0 ≤ i) (C1 : 0 ≤ n - i - 1) (C2 : 0 ≤ p - n) (C3 : 0 ≤ n - p) (C4 : 0 ≤ bb) (C5 : 0 ≤ w - v - 1) (F0 : (0 : Int) ≤ 24 ∧ (24 : Int) < j_len 77 ∧ V 77 (24) = n) : (0 ≤ p - i - 1 ∧ True) ∧ (q_qry V (30 : Int) (0 : Int) (0 : Int) (0 : Int) (0 : Int) (0 : Int) (0 : Int) (0 : Int) (i + 1) i (0 : Int) ∧ True) := by
  have z0 := g_k30 T1
  have z1 := g_k18 T2
  have z2 := g_k18 T3
  obtain ⟨⟨p1, p2, p3⟩, p4, p5⟩ := g_st0_pt T0
  have w9 := T0.1.1
  have w24 := w9.2.1
  have wH := w9.1
  exact ⟨⟨by omega, trivial⟩, g_qs T0 (g_Q30 (g_qB' (by omega) (by omega) (by omega) z0 (by omega) z1 z2 (by omega))), trivial⟩
theorem k_grxN {V : zVw} {n i bb v w H p y d : Int} (T0 : q_sto V 0 H p y d (0 : Int) (0 : Int) (0 : Int) (0 : Int) (0 : Int) (0 : Int) (0 : Int)) (T1 : q_qry V (30 : Int) (0 : Int) (0 : Int) (0 : Int) (0 : Int) (0 : Int) (0 : Int) (0 : Int) i bb (0 : Int)) (T2 : q_qry V (18 : Int) (0 : Int) (0 : Int) (0 : Int) (0 : Int) (0 : Int) (0 : Int) (0 : Int) i (0 : Int) v) (T3 : q_qry V (18 : Int) (0 : Int) (0 : Int) (0 : Int) (0 : Int) (0 : Int) (0 : Int) (0 : Int) bb (0 : Int) w) (C0 : 0 ≤ i) (C1 : 0 ≤ n - i - 1) (C2 : 0 ≤ p - n) (C3 : 0 ≤ n - p) (C4 : 0 ≤ bb) (C5 : 0 ≤ v - w) (F0 : (0 : Int) ≤ 24 ∧ (24 : Int) < j_len 77 ∧ V 77 (24) = n) : (True) ∧ (q_qry V (30 : Int) (0 : Int) (0 : Int) (0 : Int) (0 : Int) (0 : Int) (0 : Int) (0 : Int) (i + 1) bb (0 : Int) ∧ True) := by
  have z0 := g_k30 T1
  have z1 := g_k18 T2
  have z2 := g_k18 T3
  obtain ⟨⟨p1, p2, p3⟩, p4, p5⟩ := g_st0_pt T0
  have w9 := T0.1.1
  have w24 := w9.2.1
  have wH := w9.1
  exact ⟨trivial, g_qs T0 (g_Q30 (g_qC' (by omega) (by omega) (by omega) z0 (by omega) z1 z2 (by omega))), trivial⟩
theorem k_grxE {V : zVw} {n i bb H p y d : Int} (T0 : q_sto V 0 H p y d (0 : Int) (0 : Int) (0 : Int) (0 : Int) (0 : Int) (0 : Int) (0 : Int)) (T1 : q_qry V (30 : Int) (0 : Int) (0 : Int) (0 : Int) (0 : Int) (0 : Int) (0 : Int) (0 : Int) i bb (0 : Int)) (C0 : 0 ≤ i - n) (C1 : 0 ≤ p - n) (C2 : 0 ≤ n - p) (F0 : (0 : Int) ≤ 24 ∧ (24 : Int) < j_len 77 ∧ V 77 (24) = n) : (True) ∧ (q_qry V (30 : Int) (0 : Int) (0 : Int) (0 : Int) (0 : Int) (0 : Int) (0 : Int) (0 : Int) p bb (0 : Int) ∧ True) := by
  have z0 := g_k30 T1
  obtain ⟨⟨p1, p2, p3⟩, p4, p5⟩ := g_st0_pt T0
  have w9 := T0.1.1
  have w24 := w9.2.1
  have wH := w9.1
  exact ⟨trivial, g_qs T0 (g_Q30 (g_qE' p1 (by omega) z0)), trivial⟩
theorem k_qeG {V : zVw} {p bb l bc : Int} (T0 : q_qry V (29 : Int) (0 : Int) (0 : Int) (0 : Int) (0 : Int) (0 : Int) (0 : Int) (0 : Int) p bb l) (T1 : q_qry V (30 : Int) (0 : Int) (0 : Int) (0 : Int) (0 : Int) (0 : Int) (0 : Int) (0 : Int) p bc (0 : Int)) : (0 ≤ bb - bc ∧ 0 ≤ bc - bb ∧ True) ∧ (True) := by
  have h9 := g_k29 T0
  have h8 := g_k30 T1
  rw [h9] at h8
  have h7 : bb = bc := h8
  exact ⟨⟨by omega, by omega, trivial⟩, trivial⟩
theorem k_qeGN {V : zVw} {p bb l bc : Int} (T0 : q_qry V (29 : Int) (0 : Int) (0 : Int) (0 : Int) (0 : Int) (0 : Int) (0 : Int) (0 : Int) p bb l) (T1 : q_qry V (30 : Int) (0 : Int) (0 : Int) (0 : Int) (0 : Int) (0 : Int) (0 : Int) (0 : Int) p bc (0 : Int)) (C0 : 0 ≤ -bc - 1) : (0 ≤ l - bc ∧ 0 ≤ bc - l ∧ True) ∧ (True) := by
  have h9 := g_k29 T0
  have h8 := g_k30 T1
  rw [h9] at h8
  have h7 : bb = bc := h8
  have h6 := g_ar_n (by omega) h9 (by omega)
  exact ⟨⟨by omega, by omega, trivial⟩, trivial⟩
theorem k_qeGS {V : zVw} {p bb l v : Int} (T0 : q_qry V (29 : Int) (0 : Int) (0 : Int) (0 : Int) (0 : Int) (0 : Int) (0 : Int) (0 : Int) p bb l) (T1 : q_qry V (18 : Int) (0 : Int) (0 : Int) (0 : Int) (0 : Int) (0 : Int) (0 : Int) (0 : Int) bb (0 : Int) v) (C0 : 0 ≤ bb) : (0 ≤ l - v ∧ 0 ≤ v - l ∧ True) ∧ (True) := by
  have h9 := g_k29 T0
  have z1 := g_k18 T1
  have h8 := g_ar_2 (by omega) (congrArg Prod.fst h9) (by omega)
  rw [h9] at h8
  have h7 : l = v := h8.trans z1.symm
  exact ⟨⟨by omega, by omega, trivial⟩, trivial⟩
theorem k_stt0 {V : zVw} {H p y d : Int} (T0 : (1 ≤ (1 : Int) ∧ (1 : Int) ≤ 44) ∧ q_eqs V (1 : Int) H p y d) (T1 : q_sto V 0 H p y d (0 : Int) (0 : Int) (0 : Int) (0 : Int) (0 : Int) (0 : Int) (0 : Int)) : (True) ∧ (q_sto V 1 H p y d (0 : Int) (0 : Int) (0 : Int) (0 : Int) (0 : Int) (0 : Int) (0 : Int) ∧ True) := by
  have h9 := (g_eqs_kp T0.2 T1).2.2
  unfold g_fv at h9
  rw [T0.2.2.1.1, T0.2.2.1.2.1, T0.2.2.1.2.2.1, T0.2.2.1.2.2.2] at h9
  exact ⟨trivial, ⟨T1.1, h9⟩, trivial⟩
theorem k_ts5 {V : zVw} {h s H p y d q b : Int} (T0 : q_sto V 1 H p y d (0 : Int) (0 : Int) (0 : Int) (0 : Int) (0 : Int) (0 : Int) (0 : Int)) : (True) ∧ (q_sto V 1 H p y d q b s (5 : Int) (0 : Int) h (0 : Int) ∧ True) := by
  exact ⟨trivial, g_sto50 T0, trivial⟩
theorem k_celS0t {V : zVw} {h H p y d q b s o a1 a2 a3 : Int} (T0 : q_sto V 1 H p y d q b s o a1 a2 a3) (T1 : q_qry V (6 : Int) q b s o a1 a2 a3 h (0 : Int) (-1 : Int)) (C0 : 0 ≤ h) (C1 : 0 ≤ H - h - 1) (C2 : 0 ≤ 6 - H) : (True) ∧ (q_qry V (8 : Int) q b s o a1 a2 a3 (h + 12) (0 : Int) (0 : Int) ∧ True) := by
  have h9 := T0.1.1.at_no (g_k6 T1) (by omega) (by omega)
  exact ⟨trivial, g_qq T1 (show (0 : Int) = (g_F V q b s o a1 a2 a3 (g_nw V)) (h + 12) by rw [show h + 12 = 12 + h by omega]; exact h9.2.symm), trivial⟩
theorem k_o54a {V : zVw} {h u n H p y d q b s : Int} (T0 : q_sto V 1 H p y d q b s (5 : Int) n h (0 : Int)) (T1 : q_qry V (8 : Int) q b s (5 : Int) n h (0 : Int) h (0 : Int) u) (C0 : 0 ≤ h) (C1 : 0 ≤ H - h - 1) (C2 : 0 ≤ 6 - H) (C3 : 0 ≤ n) : (True) ∧ (q_qry V (8 : Int) q b s (4 : Int) n (0 : Int) H h (0 : Int) u ∧ True) := by
  have w9 : g_wf H (g_nw V) := T0.1.2.1
  have wH := w9.1
  have z0 := g_k8 T1
  have h9 : g_F V q b s 4 n 0 H (g_nw V) h = g_F V q b s 5 n h 0 (g_nw V) h := g_hs_F (by omega) (by omega) (by omega) _ (Or.inl rfl)
  exact ⟨trivial, ⟨⟨H, g_wf_F4 w9⟩, show u = g_F V q b s 4 n 0 H (g_nw V) h by rw [h9]; exact z0⟩, trivial⟩
theorem k_o54b {V : zVw} {h u n H p y d q b s : Int} (T0 : q_sto V 1 H p y d q b s (5 : Int) n h (0 : Int)) (T1 : q_qry V (8 : Int) q b s (5 : Int) n h (0 : Int) (h + 12) (0 : Int) u) (C0 : 0 ≤ h) (C1 : 0 ≤ H - h - 1) (C2 : 0 ≤ 6 - H) (C3 : 0 ≤ n) : (True) ∧ (q_qry V (8 : Int) q b s (4 : Int) n (0 : Int) H (h + 12) (0 : Int) u ∧ True) := by
  have w9 : g_wf H (g_nw V) := T0.1.2.1
  have wH := w9.1
  have z0 := g_k8 T1
  have h9 : g_F V q b s 4 n 0 H (g_nw V) (h + 12) = g_F V q b s 5 n h 0 (g_nw V) (h + 12) := g_hs_F (by omega) (by omega) (by omega) _ (Or.inr (Or.inr (Or.inl (by omega))))
  exact ⟨trivial, ⟨⟨H, g_wf_F4 w9⟩, show u = g_F V q b s 4 n 0 H (g_nw V) (h + 12) by rw [h9]; exact z0⟩, trivial⟩
theorem k_qeCq {V : zVw} {h u w q b s o a1 a2 a3 : Int} (T0 : q_qry V (8 : Int) q b s o a1 a2 a3 h (0 : Int) u) (T1 : q_qry V (8 : Int) q b s o a1 a2 a3 h (0 : Int) w) : (0 ≤ u - w ∧ 0 ≤ w - u ∧ True) ∧ (True) := by
  have h9 := g_k8 T0
  have h8 := g_k8 T1
  exact ⟨⟨by omega, by omega, trivial⟩, trivial⟩
theorem k_yeaI {V : zVw} {h v n q b s H p y d : Int} (T0 : q_sto V 0 H p y d (0 : Int) (0 : Int) (0 : Int) (0 : Int) (0 : Int) (0 : Int) (0 : Int)) : (True) ∧ (q_qry V (40 : Int) q b s (0 : Int) (0 : Int) (0 : Int) (0 : Int) (h + 6 * v + 600 * n) (0 : Int) (0 : Int) ∧ True) := by
  exact ⟨trivial, ⟨⟨H, by rw [g_F0]; exact T0.1.2.1⟩, g_Q40 g_ye0⟩, trivial⟩
theorem k_yeaY {V : zVw} {i g n v h t u x q b s : Int} (T0 : q_qry V (8 : Int) q b t (5 : Int) n h (0 : Int) h (0 : Int) u) (T1 : q_qry V (40 : Int) q b s (0 : Int) (0 : Int) (0 : Int) (0 : Int) x i g) (C0 : 0 ≤ x - 600 * n - 6 * v - h) (C1 : 0 ≤ 600 * n + 6 * v + h - x) (C2 : 0 ≤ t - i - s) (C3 : 0 ≤ i + s - t) (C4 : 0 ≤ h) (C5 : 0 ≤ 5 - h) (C6 : 0 ≤ v) (C7 : 0 ≤ 99 - v) (C8 : 0 ≤ n) (C9 : 0 ≤ i) (C10 : 0 ≤ u - v) (C11 : 0 ≤ 100 - i) : (0 ≤ 100 - g ∧ 0 ≤ g ∧ True) ∧ (q_qry V (40 : Int) q b s (0 : Int) (0 : Int) (0 : Int) (0 : Int) x (i + 1) (g + 1) ∧ True) := by
  have e6 : x % 6 = h := by omega
  have e5 : x / 6 % 100 = v := by omega
  have e4 : x / 600 = n := by omega
  have e3 : s + i = t := by omega
  have z2 : i.toNat ≤ 1000 ∨ 1000 < i.toNat := by omega
  have z9 : u = g_ys V q b t h (g_F V q b s 0 0 0 0 (g_nw V)) n.toNat h := g_k8 T0
  have z1 := g_k40 T1
  have h8 := g_ye_b (f := fun k => g_ys V q b (s + k) (x % 6) (g_F V q b s 0 0 0 0 (g_nw V)) (x / 600).toNat (x % 6)) (w := x / 6 % 100) i.toNat
  have h9 := g_ye_s (f := fun k => g_ys V q b (s + k) (x % 6) (g_F V q b s 0 0 0 0 (g_nw V)) (x / 600).toNat (x % 6)) (w := x / 6 % 100) (i := i) (by omega)
  have h7 : g_ys V q b (s + i) (x % 6) (g_F V q b s 0 0 0 0 (g_nw V)) (x / 600).toNat (x % 6) = u := by
    rw [e6, e4, e3]
    exact z9.symm
  rw [h7, ← z1] at h9
  rw [← z1] at h8
  rw [if_pos (by omega)] at h9
  exact ⟨⟨by omega, by omega, trivial⟩, g_qq T1 (g_Q40 h9.symm), trivial⟩
theorem k_yeaN {V : zVw} {i g n v h t u x q b s : Int} (T0 : q_qry V (8 : Int) q b t (5 : Int) n h (0 : Int) h (0 : Int) u) (T1 : q_qry V (40 : Int) q b s (0 : Int) (0 : Int) (0 : Int) (0 : Int) x i g) (C0 : 0 ≤ x - 600 * n - 6 * v - h) (C1 : 0 ≤ 600 * n + 6 * v + h - x) (C2 : 0 ≤ t - i - s) (C3 : 0 ≤ i + s - t) (C4 : 0 ≤ h) (C5 : 0 ≤ 5 - h) (C6 : 0 ≤ v) (C7 : 0 ≤ 99 - v) (C8 : 0 ≤ n) (C9 : 0 ≤ i) (C10 : 0 ≤ v - u - 1) : (True) ∧ (q_qry V (40 : Int) q b s (0 : Int) (0 : Int) (0 : Int) (0 : Int) x (i + 1) g ∧ True) := by
  have e6 : x % 6 = h := by omega
  have e5 : x / 6 % 100 = v := by omega
  have e4 : x / 600 = n := by omega
  have e3 : s + i = t := by omega
  have z2 : i.toNat ≤ 1000 ∨ 1000 < i.toNat := by omega
  have z9 : u = g_ys V q b t h (g_F V q b s 0 0 0 0 (g_nw V)) n.toNat h := g_k8 T0
  have z1 := g_k40 T1
  have h8 := g_ye_b (f := fun k => g_ys V q b (s + k) (x % 6) (g_F V q b s 0 0 0 0 (g_nw V)) (x / 600).toNat (x % 6)) (w := x / 6 % 100) i.toNat
  have h9 := g_ye_s (f := fun k => g_ys V q b (s + k) (x % 6) (g_F V q b s 0 0 0 0 (g_nw V)) (x / 600).toNat (x % 6)) (w := x / 6 % 100) (i := i) (by omega)
  have h7 : g_ys V q b (s + i) (x % 6) (g_F V q b s 0 0 0 0 (g_nw V)) (x / 600).toNat (x % 6) = u := by
    rw [e6, e4, e3]
    exact z9.symm
  rw [h7, ← z1] at h9
  rw [← z1] at h8
  rw [if_neg (by omega)] at h9
  exact ⟨trivial, g_qq T1 (g_Q40 ((Int.add_zero g).symm.trans h9.symm)), trivial⟩
theorem k_y0k {V : zVw} {t b H q l x : Int} (T0 : q_rwo V H (0 : Int) (0 : Int) (0 : Int) (0 : Int) (0 : Int) (0 : Int) (0 : Int)) (T1 : (1 : Int) = 1 → q_leq V l x q) (T2 : 0 ≤ l ∧ l ≠ x ∧ V 63 l = b) : (True) ∧ (q_rwo V H q b t (4 : Int) (0 : Int) (0 : Int) H ∧ True) := by
  exact ⟨trivial, g_rwo40 T0, trivial⟩
theorem k_myeI {V : zVw} {h v n H p y d q b s l x : Int} (T0 : q_sto V 0 H p y d (0 : Int) (0 : Int) (0 : Int) (0 : Int) (0 : Int) (0 : Int) (0 : Int)) (T1 : (1 : Int) = 1 → q_leq V l x q) (T2 : 0 ≤ l ∧ l ≠ x ∧ V 63 l = b) (T3 : 0 ≤ l ∧ l ≠ x ∧ V 64 l = s) : (True) ∧ (q_qry V (40 : Int) q b s (0 : Int) (0 : Int) (0 : Int) (0 : Int) (h + 6 * v + 600 * n) (0 : Int) (0 : Int) ∧ True) := by
  exact ⟨trivial, ⟨⟨H, by rw [g_F0]; exact T0.1.2.1⟩, g_Q40 g_ye0⟩, trivial⟩
theorem k_myeY {V : zVw} {i g n v h t u x H q b s : Int} (T0 : q_qry V (8 : Int) q b t (4 : Int) n (0 : Int) H h (0 : Int) u) (T1 : q_rwo V H q b t (4 : Int) n (0 : Int) H) (T2 : q_qry V (40 : Int) q b s (0 : Int) (0 : Int) (0 : Int) (0 : Int) x i g) (C0 : 0 ≤ x - 600 * n - 6 * v - h) (C1 : 0 ≤ 600 * n + 6 * v + h - x) (C2 : 0 ≤ t - i - s) (C3 : 0 ≤ i + s - t) (C4 : 0 ≤ h) (C5 : 0 ≤ 5 - h) (C6 : 0 ≤ v) (C7 : 0 ≤ 99 - v) (C8 : 0 ≤ n) (C9 : 0 ≤ i) (C10 : 0 ≤ u - v) (C11 : 0 ≤ H - h - 1) (C12 : 0 ≤ 100 - i) : (0 ≤ 100 - g ∧ 0 ≤ g ∧ True) ∧ (q_qry V (40 : Int) q b s (0 : Int) (0 : Int) (0 : Int) (0 : Int) x (i + 1) (g + 1) ∧ True) := by
  have e6 : x % 6 = h := by omega
  have e5 : x / 6 % 100 = v := by omega
  have e4 : x / 600 = n := by omega
  have e3 : s + i = t := by omega
  have z2 : i.toNat ≤ 1000 ∨ 1000 < i.toNat := by omega
  have w9 : g_wf H (g_nw V) := T1.1.2.1
  have wH := w9.1
  have y9 : g_F V q b t 4 n 0 H (g_nw V) h = g_F V q b t 5 n h 0 (g_nw V) h := g_hs_F (by omega) (by omega) (by omega) _ (Or.inl rfl)
  have z9 : u = g_ys V q b t h (g_F V q b s 0 0 0 0 (g_nw V)) n.toNat h := (g_k8 T0).trans y9
  have z1 := g_k40 T2
  have h8 := g_ye_b (f := fun k => g_ys V q b (s + k) (x % 6) (g_F V q b s 0 0 0 0 (g_nw V)) (x / 600).toNat (x % 6)) (w := x / 6 % 100) i.toNat
  have h9 := g_ye_s (f := fun k => g_ys V q b (s + k) (x % 6) (g_F V q b s 0 0 0 0 (g_nw V)) (x / 600).toNat (x % 6)) (w := x / 6 % 100) (i := i) (by omega)
  have h7 : g_ys V q b (s + i) (x % 6) (g_F V q b s 0 0 0 0 (g_nw V)) (x / 600).toNat (x % 6) = u := by
    rw [e6, e4, e3]
    exact z9.symm
  rw [h7, ← z1] at h9
  rw [← z1] at h8
  rw [if_pos (by omega)] at h9
  exact ⟨⟨by omega, by omega, trivial⟩, g_qq T2 (g_Q40 h9.symm), trivial⟩
theorem k_myeN {V : zVw} {i g n v h t u x H q b s : Int} (T0 : q_qry V (8 : Int) q b t (4 : Int) n (0 : Int) H h (0 : Int) u) (T1 : q_rwo V H q b t (4 : Int) n (0 : Int) H) (T2 : q_qry V (40 : Int) q b s (0 : Int) (0 : Int) (0 : Int) (0 : Int) x i g) (C0 : 0 ≤ x - 600 * n - 6 * v - h) (C1 : 0 ≤ 600 * n + 6 * v + h - x) (C2 : 0 ≤ t - i - s) (C3 : 0 ≤ i + s - t) (C4 : 0 ≤ h) (C5 : 0 ≤ 5 - h) (C6 : 0 ≤ v) (C7 : 0 ≤ 99 - v) (C8 : 0 ≤ n) (C9 : 0 ≤ i) (C10 : 0 ≤ v - u - 1) (C11 : 0 ≤ H - h - 1) : (True) ∧ (q_qry V (40 : Int) q b s (0 : Int) (0 : Int) (0 : Int) (0 : Int) x (i + 1) g ∧ True) := by
  have e6 : x % 6 = h := by omega
  have e5 : x / 6 % 100 = v := by omega
  have e4 : x / 600 = n := by omega
  have e3 : s + i = t := by omega
  have z2 : i.toNat ≤ 1000 ∨ 1000 < i.toNat := by omega
  have w9 : g_wf H (g_nw V) := T1.1.2.1
  have wH := w9.1
  have y9 : g_F V q b t 4 n 0 H (g_nw V) h = g_F V q b t 5 n h 0 (g_nw V) h := g_hs_F (by omega) (by omega) (by omega) _ (Or.inl rfl)
  have z9 : u = g_ys V q b t h (g_F V q b s 0 0 0 0 (g_nw V)) n.toNat h := (g_k8 T0).trans y9
  have z1 := g_k40 T2
  have h8 := g_ye_b (f := fun k => g_ys V q b (s + k) (x % 6) (g_F V q b s 0 0 0 0 (g_nw V)) (x / 600).toNat (x % 6)) (w := x / 6 % 100) i.toNat
  have h9 := g_ye_s (f := fun k => g_ys V q b (s + k) (x % 6) (g_F V q b s 0 0 0 0 (g_nw V)) (x / 600).toNat (x % 6)) (w := x / 6 % 100) (i := i) (by omega)
  have h7 : g_ys V q b (s + i) (x % 6) (g_F V q b s 0 0 0 0 (g_nw V)) (x / 600).toNat (x % 6) = u := by
    rw [e6, e4, e3]
    exact z9.symm
  rw [h7, ← z1] at h9
  rw [← z1] at h8
  rw [if_neg (by omega)] at h9
  exact ⟨trivial, g_qq T2 (g_Q40 ((Int.add_zero g).symm.trans h9.symm)), trivial⟩
theorem k_qeY {V : zVw} {x k u w q b s : Int} (T0 : q_qry V (40 : Int) q b s (0 : Int) (0 : Int) (0 : Int) (0 : Int) x k u) (T1 : q_qry V (40 : Int) q b s (0 : Int) (0 : Int) (0 : Int) (0 : Int) x k w) : (0 ≤ u - w ∧ 0 ≤ w - u ∧ True) ∧ (True) := by
  have h9 := g_k40 T0
  have h8 := g_k40 T1
  exact ⟨⟨by omega, by omega, trivial⟩, trivial⟩
theorem k_ts4 {V : zVw} {H p y d q : Int} (T0 : q_sto V 1 H p y d (0 : Int) (0 : Int) (0 : Int) (0 : Int) (0 : Int) (0 : Int) (0 : Int)) : (True) ∧ (q_sto V 1 H p y d q (0 : Int) (0 : Int) (4 : Int) (0 : Int) (0 : Int) H ∧ True) := by
  exact ⟨trivial, g_sto40 T0, trivial⟩
theorem k_nby0 {V : zVw} {w H p y d q : Int} (T0 : q_sto V 0 H p y d (0 : Int) (0 : Int) (0 : Int) (0 : Int) (0 : Int) (0 : Int) (0 : Int)) (C0 : 0 ≤ w) (C1 : 0 ≤ H) (C2 : 0 ≤ 6 - H) : (True) ∧ (q_qry V (41 : Int) q (0 : Int) (0 : Int) (0 : Int) (0 : Int) (0 : Int) (0 : Int) (10 * w + H) (0 : Int) (0 : Int) ∧ True) := by
  exact ⟨trivial, ⟨⟨H, by rw [g_F0]; exact T0.1.2.1⟩, g_Q41 (fun k k0 k1 => by omega)⟩, trivial⟩
theorem k_lasY {V : zVw} {n w x H m i q : Int} (T0 : q_mgn V q (0 : Int) (0 : Int) (4 : Int) n (0 : Int) H (-2 : Int) m) (T1 : (0 ≤ i ∧ i < m ∧ V 25 i < w ∧ ∀ t : Int, 0 ≤ t → t < i → w ≤ V 25 t) ∨ (i = -1 ∧ ∀ t : Int, 0 ≤ t → t < m → w ≤ V 25 t)) (T2 : q_qry V (41 : Int) q (0 : Int) (0 : Int) (0 : Int) (0 : Int) (0 : Int) (0 : Int) x n (0 : Int)) (C0 : 0 ≤ x - 10 * w - H) (C1 : 0 ≤ 10 * w + H - x) (C2 : 0 ≤ w) (C3 : 0 ≤ H) (C4 : 0 ≤ 6 - H) (C5 : 0 ≤ n) (C6 : 0 ≤ i) (C7 : 0 ≤ 60 - n) (C8 : 0 ≤ 999 - w) : (True) ∧ (q_qry V (42 : Int) q (0 : Int) (0 : Int) (0 : Int) (0 : Int) (0 : Int) (0 : Int) x (0 : Int) n ∧ True) := by
  have e6 : x % 10 = H := by omega
  have e5 : x / 10 = w := by omega
  have z1 := g_k41 T2
  have z9 : g_br V q (g_yr V q 0 0 (x % 10) (g_F V q 0 0 0 0 0 0 (g_nw V)) n.toNat) (x / 10) (i + 1) := by
    rw [e6, e5]
    exact g_brk1 T0 T1 (by omega) (by omega)
  exact ⟨trivial, g_qq T2 (g_Q42 (Or.inl ⟨by omega, by omega, z1, i + 1, by omega, z9⟩)), trivial⟩
theorem k_lasN {V : zVw} {n w x H m q : Int} (T0 : q_mgn V q (0 : Int) (0 : Int) (4 : Int) n (0 : Int) H (-2 : Int) m) (T1 : (0 ≤ (-1 : Int) ∧ (-1 : Int) < m ∧ V 25 (-1 : Int) < w ∧ ∀ t : Int, 0 ≤ t → t < (-1 : Int) → w ≤ V 25 t) ∨ ((-1 : Int) = -1 ∧ ∀ t : Int, 0 ≤ t → t < m → w ≤ V 25 t)) (T2 : q_qry V (41 : Int) q (0 : Int) (0 : Int) (0 : Int) (0 : Int) (0 : Int) (0 : Int) x n (0 : Int)) (C0 : 0 ≤ x - 10 * w - H) (C1 : 0 ≤ 10 * w + H - x) (C2 : 0 ≤ w) (C3 : 0 ≤ H) (C4 : 0 ≤ 6 - H) (C5 : 0 ≤ n) (C6 : 0 ≤ 999 - w) : (True) ∧ (q_qry V (41 : Int) q (0 : Int) (0 : Int) (0 : Int) (0 : Int) (0 : Int) (0 : Int) x (n + 1) (0 : Int) ∧ True) := by
  have e6 : x % 10 = H := by omega
  have e5 : x / 10 = w := by omega
  have z1 := g_k41 T2
  have z9 : g_br V q (g_yr V q 0 0 (x % 10) (g_F V q 0 0 0 0 0 0 (g_nw V)) n.toNat) (x / 10) (-1) := by
    rw [e6, e5]
    exact g_brk0 T0 T1 (by omega)
  exact ⟨trivial, g_qq T2 (g_Q41 (fun k k0 k1 => by
    by_cases c9 : k < n
    · exact z1 k k0 c9
    · rw [show k = n by omega]; exact z9)), trivial⟩
theorem k_lasZ {V : zVw} {n x q : Int} (T0 : q_qry V (41 : Int) q (0 : Int) (0 : Int) (0 : Int) (0 : Int) (0 : Int) (0 : Int) x n (0 : Int)) (C0 : 0 ≤ n - 61) : (True) ∧ (q_qry V (42 : Int) q (0 : Int) (0 : Int) (0 : Int) (0 : Int) (0 : Int) (0 : Int) x (0 : Int) (-2 : Int) ∧ True) := by
  have z1 := g_k41 T0
  exact ⟨trivial, g_qq T0 (g_Q42 (Or.inr ⟨rfl, fun k k0 k1 => z1 k k0 (by omega)⟩)), trivial⟩
theorem k_y0s {V : zVw} {H q l x : Int} (T0 : q_rwo V H (0 : Int) (0 : Int) (0 : Int) (0 : Int) (0 : Int) (0 : Int) (0 : Int)) (T1 : (1 : Int) = 1 → q_leq V l x q) : (True) ∧ (q_rwo V H q (0 : Int) (0 : Int) (4 : Int) (0 : Int) (0 : Int) H ∧ True) := by
  exact ⟨trivial, g_rwo40 T0, trivial⟩
theorem k_mnb0 {V : zVw} {w H p y d q l x : Int} (T0 : q_sto V 0 H p y d (0 : Int) (0 : Int) (0 : Int) (0 : Int) (0 : Int) (0 : Int) (0 : Int)) (T1 : (1 : Int) = 1 → q_leq V l x q) (C0 : 0 ≤ w) (C1 : 0 ≤ H) (C2 : 0 ≤ 6 - H) : (True) ∧ (q_qry V (41 : Int) q (0 : Int) (0 : Int) (0 : Int) (0 : Int) (0 : Int) (0 : Int) (10 * w + H) (0 : Int) (0 : Int) ∧ True) := by
  exact ⟨trivial, ⟨⟨H, by rw [g_F0]; exact T0.1.2.1⟩, g_Q41 (fun k k0 k1 => by omega)⟩, trivial⟩
theorem k_mlaY {V : zVw} {n w x H i q : Int} (T0 : q_rwo V H q (0 : Int) (0 : Int) (4 : Int) n (0 : Int) H) (T1 : q_qry V (3 : Int) q (0 : Int) (0 : Int) (4 : Int) n (0 : Int) H w (0 : Int) i) (T2 : q_qry V (41 : Int) q (0 : Int) (0 : Int) (0 : Int) (0 : Int) (0 : Int) (0 : Int) x n (0 : Int)) (C0 : 0 ≤ x - 10 * w - H) (C1 : 0 ≤ 10 * w + H - x) (C2 : 0 ≤ w) (C3 : 0 ≤ H) (C4 : 0 ≤ 6 - H) (C5 : 0 ≤ n) (C6 : 0 ≤ i) (C7 : 0 ≤ 60 - n) : (True) ∧ (q_qry V (42 : Int) q (0 : Int) (0 : Int) (0 : Int) (0 : Int) (0 : Int) (0 : Int) x (0 : Int) n ∧ True) := by
  have e6 : x % 10 = H := by omega
  have e5 : x / 10 = w := by omega
  have z1 := g_k41 T2
  have z9 : g_br V q (g_yr V q 0 0 (x % 10) (g_F V q 0 0 0 0 0 0 (g_nw V)) n.toNat) (x / 10) (i) := by
    rw [e6, e5]
    exact g_k3 T1
  exact ⟨trivial, g_qq T2 (g_Q42 (Or.inl ⟨by omega, by omega, z1, i, by omega, z9⟩)), trivial⟩
theorem k_mlaN {V : zVw} {n w x H q : Int} (T0 : q_rwo V H q (0 : Int) (0 : Int) (4 : Int) n (0 : Int) H) (T1 : q_qry V (3 : Int) q (0 : Int) (0 : Int) (4 : Int) n (0 : Int) H w (0 : Int) (-1 : Int)) (T2 : q_qry V (41 : Int) q (0 : Int) (0 : Int) (0 : Int) (0 : Int) (0 : Int) (0 : Int) x n (0 : Int)) (C0 : 0 ≤ x - 10 * w - H) (C1 : 0 ≤ 10 * w + H - x) (C2 : 0 ≤ w) (C3 : 0 ≤ H) (C4 : 0 ≤ 6 - H) (C5 : 0 ≤ n) : (True) ∧ (q_qry V (41 : Int) q (0 : Int) (0 : Int) (0 : Int) (0 : Int) (0 : Int) (0 : Int) x (n + 1) (0 : Int) ∧ True) := by
  have e6 : x % 10 = H := by omega
  have e5 : x / 10 = w := by omega
  have z1 := g_k41 T2
  have z9 : g_br V q (g_yr V q 0 0 (x % 10) (g_F V q 0 0 0 0 0 0 (g_nw V)) n.toNat) (x / 10) (-1) := by
    rw [e6, e5]
    exact g_k3 T1
  exact ⟨trivial, g_qq T2 (g_Q41 (fun k k0 k1 => by
    by_cases c9 : k < n
    · exact z1 k k0 c9
    · rw [show k = n by omega]; exact z9)), trivial⟩
theorem k_qeLs {V : zVw} {q x u w : Int} (T0 : q_qry V (42 : Int) q (0 : Int) (0 : Int) (0 : Int) (0 : Int) (0 : Int) (0 : Int) x (0 : Int) u) (T1 : q_qry V (42 : Int) q (0 : Int) (0 : Int) (0 : Int) (0 : Int) (0 : Int) (0 : Int) x (0 : Int) w) : (0 ≤ u - w ∧ 0 ≤ w - u ∧ True) ∧ (True) := by
  have h9 := g_la_eq (f := fun k i => g_br V q (g_yr V q 0 0 (x % 10) (g_F V q 0 0 0 0 0 0 (g_nw V)) k.toNat) (x / 10) i) (fun k i i9 a9 b9 => g_br_eq a9 b9) (g_k42 T0) (g_k42 T1)
  exact ⟨⟨by omega, by omega, trivial⟩, trivial⟩
theorem k_smh0 {V : zVw} {p y d H : Int} (T0 : q_sto V 0 H p y d (0 : Int) (0 : Int) (0 : Int) (0 : Int) (0 : Int) (0 : Int) (0 : Int)) : (True) ∧ (q_qry V (31 : Int) (0 : Int) (0 : Int) (0 : Int) (0 : Int) (0 : Int) (0 : Int) (0 : Int) (0 : Int) (0 : Int) (0 : Int) ∧ True) := by
  exact ⟨trivial, g_qs T0 (g_Q31 (show (0 : Int) = g_sw _ (0 : Int).toNat from rfl)), trivial⟩
theorem k_smg0 {V : zVw} {p y d H : Int} (T0 : q_sto V 0 H p y d (0 : Int) (0 : Int) (0 : Int) (0 : Int) (0 : Int) (0 : Int) (0 : Int)) : (True) ∧ (q_qry V (31 : Int) (0 : Int) (0 : Int) (0 : Int) (0 : Int) (0 : Int) (0 : Int) (0 : Int) (18 : Int) (0 : Int) (0 : Int) ∧ True) := by
  exact ⟨trivial, g_qs T0 (g_Q31 (show (0 : Int) = g_sw _ (0 : Int).toNat from rfl)), trivial⟩
theorem k_smhS {V : zVw} {i z u H p y d : Int} (T0 : q_sto V 0 H p y d (0 : Int) (0 : Int) (0 : Int) (0 : Int) (0 : Int) (0 : Int) (0 : Int)) (T1 : q_qry V (31 : Int) (0 : Int) (0 : Int) (0 : Int) (0 : Int) (0 : Int) (0 : Int) (0 : Int) (0 : Int) i z) (C0 : 0 ≤ i) (C1 : 0 ≤ H - i - 1) (C2 : 0 ≤ 6 - H) (C3 : 0 ≤ z) (C4 : 0 ≤ 594 - z) (F0 : (0 : Int) ≤ i ∧ (i : Int) < j_len 27 ∧ V 27 (i) = u) : (0 ≤ u ∧ 0 ≤ 99 - u ∧ True) ∧ (q_qry V (31 : Int) (0 : Int) (0 : Int) (0 : Int) (0 : Int) (0 : Int) (0 : Int) (0 : Int) (0 : Int) (i + 1) (z + u) ∧ True) := by
  obtain ⟨⟨p1, p2, p3⟩, p4, p5⟩ := g_st0_pt T0
  have w9 := T0.1.1
  have w24 := w9.2.1
  have wH := w9.1
  have z1 := g_k31 T1
  have h9 := g_sw_s (f := fun k => (g_F V 0 0 0 0 0 0 0 (g_nw V)) (0 + k)) (i := i) (by omega)
  have b9 := w9.2.2.2.2.2.2.1 i (by omega) (by omega)
  have h7 := (p4 i (by omega) (by omega)).1
  have h6 := F0.2.2
  have h8 : (g_F V 0 0 0 0 0 0 0 (g_nw V)) (0 + i) = u := by rw [show 0 + i = i by omega]; omega
  have b8 : 0 ≤ u ∧ u ≤ 99 := by
    rw [← h6, h7]
    exact ⟨b9.1, b9.2.1⟩
  rw [h8, ← z1, g_op_add (by omega) (by omega) (by omega) (by omega) (by omega) (by omega)] at h9
  exact ⟨⟨by omega, by omega, trivial⟩, g_qs T0 (g_Q31 h9.symm), trivial⟩
theorem k_smgS {V : zVw} {i z u w H p y d : Int} (T0 : q_sto V 0 H p y d (0 : Int) (0 : Int) (0 : Int) (0 : Int) (0 : Int) (0 : Int) (0 : Int)) (T1 : q_qry V (31 : Int) (0 : Int) (0 : Int) (0 : Int) (0 : Int) (0 : Int) (0 : Int) (0 : Int) (18 : Int) i z) (T2 : (mOP 110 (Int32.ofInt z) (Int32.ofInt u)).toInt = w) (C0 : 0 ≤ i) (C1 : 0 ≤ H - i - 1) (C2 : 0 ≤ 6 - H) (F0 : (0 : Int) ≤ i ∧ (i : Int) < j_len 28 ∧ V 28 (i) = u) : (True) ∧ (q_qry V (31 : Int) (0 : Int) (0 : Int) (0 : Int) (0 : Int) (0 : Int) (0 : Int) (0 : Int) (18 : Int) (i + 1) w ∧ True) := by
  obtain ⟨⟨p1, p2, p3⟩, p4, p5⟩ := g_st0_pt T0
  have w9 := T0.1.1
  have w24 := w9.2.1
  have wH := w9.1
  have z1 := g_k31 T1
  have h9 := g_sw_s (f := fun k => (g_F V 0 0 0 0 0 0 0 (g_nw V)) (18 + k)) (i := i) (by omega)
  have h7 := (p4 i (by omega) (by omega)).2
  have h6 := F0.2.2
  have h8 : (g_F V 0 0 0 0 0 0 0 (g_nw V)) (18 + i) = u := by omega
  have h5 : g_op 110 z u = w := T2
  rw [h8, ← z1, h5] at h9
  exact ⟨trivial, g_qs T0 (g_Q31 h9.symm), trivial⟩
theorem k_smgX {V : zVw} {i z u w H p y d : Int} (T0 : q_sto V 0 H p y d (0 : Int) (0 : Int) (0 : Int) (0 : Int) (0 : Int) (0 : Int) (0 : Int)) (T1 : q_qry V (31 : Int) (0 : Int) (0 : Int) (0 : Int) (0 : Int) (0 : Int) (0 : Int) (0 : Int) (18 : Int) i z) (C0 : 0 ≤ i) (C1 : 0 ≤ H - i - 1) (C2 : 0 ≤ 6 - H) (C3 : 0 ≤ w - z - u) (C4 : 0 ≤ z + u - w) (C5 : 0 ≤ u + 2147483648) (C6 : 0 ≤ 2147483647 - u) (C7 : 0 ≤ w + 2147483648) (C8 : 0 ≤ 2147483647 - w) (F0 : (0 : Int) ≤ i ∧ (i : Int) < j_len 28 ∧ V 28 (i) = u) : (True) ∧ (q_qry V (31 : Int) (0 : Int) (0 : Int) (0 : Int) (0 : Int) (0 : Int) (0 : Int) (0 : Int) (18 : Int) (i + 1) w ∧ True) := by
  obtain ⟨⟨p1, p2, p3⟩, p4, p5⟩ := g_st0_pt T0
  have w9 := T0.1.1
  have w24 := w9.2.1
  have wH := w9.1
  have z1 := g_k31 T1
  have h9 := g_sw_s (f := fun k => (g_F V 0 0 0 0 0 0 0 (g_nw V)) (18 + k)) (i := i) (by omega)
  have h7 := (p4 i (by omega) (by omega)).2
  have h6 := F0.2.2
  have h8 : (g_F V 0 0 0 0 0 0 0 (g_nw V)) (18 + i) = u := by omega
  have b7 := g_sw_b (f := fun k => (g_F V 0 0 0 0 0 0 0 (g_nw V)) (18 + k)) i.toNat
  rw [← z1] at b7
  rw [h8, ← z1, g_op_add (by omega) (by omega) (by omega) (by omega) (by omega) (by omega), show z + u = w by omega] at h9
  exact ⟨trivial, g_qs T0 (g_Q31 h9.symm), trivial⟩
theorem k_smE0 {V : zVw} {i z H p y d : Int} (T0 : q_sto V 0 H p y d (0 : Int) (0 : Int) (0 : Int) (0 : Int) (0 : Int) (0 : Int) (0 : Int)) (T1 : q_qry V (31 : Int) (0 : Int) (0 : Int) (0 : Int) (0 : Int) (0 : Int) (0 : Int) (0 : Int) (0 : Int) i z) (C0 : 0 ≤ i - H) (C1 : 0 ≤ H - i) (C2 : 0 ≤ i) : (True) ∧ (q_qry V (31 : Int) (0 : Int) (0 : Int) (0 : Int) (0 : Int) (0 : Int) (0 : Int) (0 : Int) (0 : Int) (6 : Int) z ∧ True) := by
  obtain ⟨⟨p1, p2, p3⟩, p4, p5⟩ := g_st0_pt T0
  have w9 := T0.1.1
  have w24 := w9.2.1
  have wH := w9.1
  have z1 := g_k31 T1
  have h9 := g_sw_ext (f := fun k => (g_F V 0 0 0 0 0 0 0 (g_nw V)) (0 + k)) (n := i.toNat) (6 - i).toNat (fun h h0 h1 => by
    have y9 := w9.2.2.2.2.2.2.2 h (by omega) (by omega)
    show (g_F V 0 0 0 0 0 0 0 (g_nw V)) (0 + h) = 0
    rw [show 0 + h = h by omega]; exact y9.1)
  rw [show i.toNat + (6 - i).toNat = (6 : Int).toNat by omega, ← z1] at h9
  exact ⟨trivial, g_qs T0 (g_Q31 h9.symm), trivial⟩
theorem k_smE18 {V : zVw} {i z H p y d : Int} (T0 : q_sto V 0 H p y d (0 : Int) (0 : Int) (0 : Int) (0 : Int) (0 : Int) (0 : Int) (0 : Int)) (T1 : q_qry V (31 : Int) (0 : Int) (0 : Int) (0 : Int) (0 : Int) (0 : Int) (0 : Int) (0 : Int) (18 : Int) i z) (C0 : 0 ≤ i - H) (C1 : 0 ≤ H - i) (C2 : 0 ≤ i) : (True) ∧ (q_qry V (31 : Int) (0 : Int) (0 : Int) (0 : Int) (0 : Int) (0 : Int) (0 : Int) (0 : Int) (18 : Int) (6 : Int) z ∧ True) := by
  obtain ⟨⟨p1, p2, p3⟩, p4, p5⟩ := g_st0_pt T0
  have w9 := T0.1.1
  have w24 := w9.2.1
  have wH := w9.1
  have z1 := g_k31 T1
  have h9 := g_sw_ext (f := fun k => (g_F V 0 0 0 0 0 0 0 (g_nw V)) (18 + k)) (n := i.toNat) (6 - i).toNat (fun h h0 h1 => by
    have y9 := w9.2.2.2.2.2.2.2 h (by omega) (by omega)
    show (g_F V 0 0 0 0 0 0 0 (g_nw V)) (18 + h) = 0
    exact y9.2)
  rw [show i.toNat + (6 - i).toNat = (6 : Int).toNat by omega, ← z1] at h9
  exact ⟨trivial, g_qs T0 (g_Q31 h9.symm), trivial⟩
theorem k_sts0 {V : zVw} {p y d H : Int} (T0 : q_sto V 0 H p y d (0 : Int) (0 : Int) (0 : Int) (0 : Int) (0 : Int) (0 : Int) (0 : Int)) : (True) ∧ (q_qry V (32 : Int) (0 : Int) (0 : Int) (0 : Int) (0 : Int) (0 : Int) (0 : Int) (0 : Int) (0 : Int) (0 : Int) (0 : Int) ∧ True) := by
  exact ⟨trivial, g_qs T0 (g_Q32 (show (0 : Int) = g_sx _ (0 : Int).toNat from rfl)), trivial⟩
theorem k_stsS {V : zVw} {i z u H p y d : Int} (T0 : q_sto V 0 H p y d (0 : Int) (0 : Int) (0 : Int) (0 : Int) (0 : Int) (0 : Int) (0 : Int)) (T1 : q_qry V (32 : Int) (0 : Int) (0 : Int) (0 : Int) (0 : Int) (0 : Int) (0 : Int) (0 : Int) i (0 : Int) z) (C0 : 0 ≤ i) (C1 : 0 ≤ p - i - 1) (C2 : 0 ≤ 6 - p) (C3 : 0 ≤ z) (C4 : 0 ≤ 99 * i - z) (F0 : (0 : Int) ≤ i ∧ (i : Int) < j_len 31 ∧ V 31 (i) = u) : (0 ≤ u ∧ 0 ≤ 99 - u ∧ 0 ≤ 99 * i - z - u + 99 ∧ 0 ≤ 594 - z - u ∧ 0 ≤ 594 - z ∧ True) ∧ (q_qry V (32 : Int) (0 : Int) (0 : Int) (0 : Int) (0 : Int) (0 : Int) (0 : Int) (0 : Int) (i + 1) (0 : Int) (z + u) ∧ True) := by
  obtain ⟨⟨p1, p2, p3⟩, p4, p5⟩ := g_st0_pt T0
  have w9 := T0.1.1
  have w24 := w9.2.1
  have wH := w9.1
  have z1 := g_k32 T1
  have h7 := (p5 i (by omega) (by omega)).2.2
  have h6 := F0.2.2
  have b8 := w9.pl_lt (i := i) (by omega) (by omega)
  have b9 := w9.2.2.2.2.2.2.1 _ b8.1 b8.2.2
  have b7 : 0 ≤ u ∧ u ≤ 99 := by omega
  have h9 := g_sx_s (A := (g_F V 0 0 0 0 0 0 0 (g_nw V))) (i := i) (by omega)
  rw [← z1, ← h7, h6] at h9
  exact ⟨⟨by omega, by omega, by omega, by omega, by omega, trivial⟩, g_qs T0 (g_Q32 h9.symm), trivial⟩
theorem k_stsE {V : zVw} {i z H p y d : Int} (T0 : q_sto V 0 H p y d (0 : Int) (0 : Int) (0 : Int) (0 : Int) (0 : Int) (0 : Int) (0 : Int)) (T1 : q_qry V (32 : Int) (0 : Int) (0 : Int) (0 : Int) (0 : Int) (0 : Int) (0 : Int) (0 : Int) i (0 : Int) z) (C0 : 0 ≤ i - p) (C1 : 0 ≤ p - i) : (True) ∧ (q_qry V (31 : Int) (0 : Int) (0 : Int) (0 : Int) (0 : Int) (0 : Int) (0 : Int) (0 : Int) (12 : Int) (6 : Int) z ∧ True) := by
  obtain ⟨⟨p1, p2, p3⟩, p4, p5⟩ := g_st0_pt T0
  have w9 := T0.1.1
  have w24 := w9.2.1
  have wH := w9.1
  have z1 := g_k32 T1
  have h9 := g_sx_all w9
  rw [show ((g_F V 0 0 0 0 0 0 0 (g_nw V)) 24).toNat = i.toNat by omega, ← z1] at h9
  exact ⟨trivial, g_qs T0 (g_Q31 h9), trivial⟩
theorem k_bip0 {V : zVw} {p y d H : Int} (T0 : q_sto V 0 H p y d (0 : Int) (0 : Int) (0 : Int) (0 : Int) (0 : Int) (0 : Int) (0 : Int)) : (True) ∧ (q_qry V (34 : Int) (0 : Int) (0 : Int) (0 : Int) (0 : Int) (0 : Int) (0 : Int) (0 : Int) (0 : Int) (0 : Int) (0 : Int) ∧ True) := by
  exact ⟨trivial, g_qs T0 (g_Q34 (show (0 : Int) = g_is _ (0 : Int).toNat from rfl)), trivial⟩
theorem k_bipS {V : zVw} {i z w x u H p y d : Int} (T0 : (mOP 102 (Int32.ofInt z) (Int32.ofInt x)).toInt = u) (T1 : (mOP 104 (Int32.ofInt (1 : Int)) (Int32.ofInt w)).toInt = x) (T2 : q_sto V 0 H p y d (0 : Int) (0 : Int) (0 : Int) (0 : Int) (0 : Int) (0 : Int) (0 : Int)) (T3 : q_qry V (34 : Int) (0 : Int) (0 : Int) (0 : Int) (0 : Int) (0 : Int) (0 : Int) (0 : Int) i (0 : Int) z) (C0 : 0 ≤ i) (C1 : 0 ≤ p - i - 1) (C2 : 0 ≤ 6 - p) (F0 : (0 : Int) ≤ i ∧ (i : Int) < j_len 29 ∧ V 29 (i) = w) : (True) ∧ (q_qry V (34 : Int) (0 : Int) (0 : Int) (0 : Int) (0 : Int) (0 : Int) (0 : Int) (0 : Int) (i + 1) (0 : Int) u ∧ True) := by
  obtain ⟨⟨p1, p2, p3⟩, p4, p5⟩ := g_st0_pt T2
  have w9 := T2.1.1
  have w24 := w9.2.1
  have wH := w9.1
  have z1 := g_k34 T3
  have h7 := (p5 i (by omega) (by omega)).1
  have h6 := F0.2.2
  have h9 := g_bip w9 (k := i.toNat) (by omega)
  rw [show ((i.toNat : Nat) : Int) = i by omega, ← h7, h6, ← z1] at h9
  have h5 : g_op 104 1 w = x := T1
  have h4 : g_op 102 z x = u := T0
  rw [h5, h4] at h9
  exact ⟨trivial, g_qs T2 (g_Q34 (by rw [show (i + 1).toNat = i.toNat + 1 by omega]; exact h9.symm)), trivial⟩
theorem k_bipE {V : zVw} {i z H p y d : Int} (T0 : q_sto V 0 H p y d (0 : Int) (0 : Int) (0 : Int) (0 : Int) (0 : Int) (0 : Int) (0 : Int)) (T1 : q_qry V (34 : Int) (0 : Int) (0 : Int) (0 : Int) (0 : Int) (0 : Int) (0 : Int) (0 : Int) i (0 : Int) z) (C0 : 0 ≤ i - p) (C1 : 0 ≤ p - i) : (True) ∧ (q_qry V (33 : Int) (0 : Int) (0 : Int) (0 : Int) (0 : Int) (0 : Int) (0 : Int) (0 : Int) (6 : Int) (0 : Int) z ∧ True) := by
  obtain ⟨⟨p1, p2, p3⟩, p4, p5⟩ := g_st0_pt T0
  have w9 := T0.1.1
  have w24 := w9.2.1
  have wH := w9.1
  have z1 := g_k34 T1
  have h9 := g_is_bt w9
  rw [show ((g_F V 0 0 0 0 0 0 0 (g_nw V)) 24).toNat = i.toNat by omega, ← z1] at h9
  exact ⟨trivial, g_qs T0 (g_Q33 h9), trivial⟩
theorem k_bih0 {V : zVw} {p y d H : Int} (T0 : q_sto V 0 H p y d (0 : Int) (0 : Int) (0 : Int) (0 : Int) (0 : Int) (0 : Int) (0 : Int)) : (True) ∧ (q_qry V (35 : Int) (0 : Int) (0 : Int) (0 : Int) (0 : Int) (0 : Int) (0 : Int) (0 : Int) (0 : Int) (0 : Int) (0 : Int) ∧ True) := by
  exact ⟨trivial, g_qs T0 (g_Q35 (show (0 : Int) = g_bt _ (0 : Int).toNat from rfl)), trivial⟩
theorem k_bihY {V : zVw} {i z x u g H p y d : Int} (T0 : (mOP 102 (Int32.ofInt z) (Int32.ofInt x)).toInt = u) (T1 : (mOP 104 (Int32.ofInt (1 : Int)) (Int32.ofInt i)).toInt = x) (T2 : q_sto V 0 H p y d (0 : Int) (0 : Int) (0 : Int) (0 : Int) (0 : Int) (0 : Int) (0 : Int)) (T3 : q_qry V (35 : Int) (0 : Int) (0 : Int) (0 : Int) (0 : Int) (0 : Int) (0 : Int) (0 : Int) i (0 : Int) z) (C0 : 0 ≤ i) (C1 : 0 ≤ H - i - 1) (C2 : 0 ≤ 6 - H) (C3 : 0 ≤ g) (C4 : 0 ≤ -g) (F0 : (0 : Int) ≤ i ∧ (i : Int) < j_len 27 ∧ V 27 (i) = g) : (True) ∧ (q_qry V (35 : Int) (0 : Int) (0 : Int) (0 : Int) (0 : Int) (0 : Int) (0 : Int) (0 : Int) (i + 1) (0 : Int) u ∧ True) := by
  obtain ⟨⟨p1, p2, p3⟩, p4, p5⟩ := g_st0_pt T2
  have w9 := T2.1.1
  have w24 := w9.2.1
  have wH := w9.1
  have z1 := g_k35 T3
  have h7 := (p4 i (by omega) (by omega)).1
  have h6 := F0.2.2
  have h9 := g_btY (f := (fun h => if (g_F V 0 0 0 0 0 0 0 (g_nw V)) h = 0 then 1 else 0)) (i := i) (by omega) (by omega) (by show (if (g_F V 0 0 0 0 0 0 0 (g_nw V)) i = 0 then (1 : Int) else 0) = 1; rw [if_pos (by omega)])
  have h5 : g_op 104 1 i = x := T1
  have h4 : g_op 102 z x = u := T0
  rw [← z1, h5, h4] at h9
  exact ⟨trivial, g_qs T2 (g_Q35 h9.symm), trivial⟩
theorem k_bihN {V : zVw} {i z g H p y d : Int} (T0 : q_sto V 0 H p y d (0 : Int) (0 : Int) (0 : Int) (0 : Int) (0 : Int) (0 : Int) (0 : Int)) (T1 : q_qry V (35 : Int) (0 : Int) (0 : Int) (0 : Int) (0 : Int) (0 : Int) (0 : Int) (0 : Int) i (0 : Int) z) (C0 : 0 ≤ i) (C1 : 0 ≤ H - i - 1) (C2 : 0 ≤ 6 - H) (C3 : 0 ≤ g - 1) (F0 : (0 : Int) ≤ i ∧ (i : Int) < j_len 27 ∧ V 27 (i) = g) : (True) ∧ (q_qry V (35 : Int) (0 : Int) (0 : Int) (0 : Int) (0 : Int) (0 : Int) (0 : Int) (0 : Int) (i + 1) (0 : Int) z ∧ True) := by
  obtain ⟨⟨p1, p2, p3⟩, p4, p5⟩ := g_st0_pt T0
  have w9 := T0.1.1
  have w24 := w9.2.1
  have wH := w9.1
  have z1 := g_k35 T1
  have h7 := (p4 i (by omega) (by omega)).1
  have h6 := F0.2.2
  have h9 := g_btN (f := (fun h => if (g_F V 0 0 0 0 0 0 0 (g_nw V)) h = 0 then 1 else 0)) (i := i) (by omega) (by show ¬ (if (g_F V 0 0 0 0 0 0 0 (g_nw V)) i = 0 then (1 : Int) else 0) = 1; rw [if_neg (by omega)]; omega)
  rw [← z1] at h9
  exact ⟨trivial, g_qs T0 (g_Q35 h9.symm), trivial⟩
theorem k_bihE {V : zVw} {i z H p y d : Int} (T0 : q_sto V 0 H p y d (0 : Int) (0 : Int) (0 : Int) (0 : Int) (0 : Int) (0 : Int) (0 : Int)) (T1 : q_qry V (35 : Int) (0 : Int) (0 : Int) (0 : Int) (0 : Int) (0 : Int) (0 : Int) (0 : Int) i (0 : Int) z) (C0 : 0 ≤ i - H) (C1 : 0 ≤ H - i) : (True) ∧ (q_qry V (35 : Int) (0 : Int) (0 : Int) (0 : Int) (0 : Int) (0 : Int) (0 : Int) (0 : Int) H (0 : Int) z ∧ True) := by
  have z1 := g_k35 T1
  exact ⟨trivial, g_qs T0 (g_Q35 (by rw [show H = i by omega]; exact z1)), trivial⟩
theorem k_bcn {V : zVw} {x a b c d e f g h k l m n o t r : Int} (T0 : (mOP 106 (Int32.ofInt x) (Int32.ofInt (1 : Int))).toInt = a) (T1 : (mOP 101 (Int32.ofInt a) (Int32.ofInt (1431655765 : Int))).toInt = b) (T2 : (mOP 111 (Int32.ofInt x) (Int32.ofInt b)).toInt = c) (T3 : (mOP 101 (Int32.ofInt c) (Int32.ofInt (858993459 : Int))).toInt = d) (T4 : (mOP 106 (Int32.ofInt c) (Int32.ofInt (2 : Int))).toInt = e) (T5 : (mOP 101 (Int32.ofInt e) (Int32.ofInt (858993459 : Int))).toInt = f) (T6 : (mOP 110 (Int32.ofInt d) (Int32.ofInt f)).toInt = g) (T7 : (mOP 106 (Int32.ofInt g) (Int32.ofInt (4 : Int))).toInt = h) (T8 : (mOP 110 (Int32.ofInt g) (Int32.ofInt h)).toInt = k) (T9 : (mOP 101 (Int32.ofInt k) (Int32.ofInt (252645135 : Int))).toInt = l) (T10 : (mOP 106 (Int32.ofInt l) (Int32.ofInt (8 : Int))).toInt = m) (T11 : (mOP 110 (Int32.ofInt l) (Int32.ofInt m)).toInt = n) (T12 : (mOP 106 (Int32.ofInt n) (Int32.ofInt (16 : Int))).toInt = o) (T13 : (mOP 110 (Int32.ofInt n) (Int32.ofInt o)).toInt = t) (T14 : (mOP 101 (Int32.ofInt t) (Int32.ofInt (63 : Int))).toInt = r) (C0 : 0 ≤ x) (C1 : 0 ≤ 7 - x) : (0 ≤ r ∧ 0 ≤ 3 - r ∧ True) ∧ ((r = x % 2 + x / 2 % 2 + x / 4 % 2) ∧ True) := by
  rcases (show x = 0 ∨ x = 1 ∨ x = 2 ∨ x = 3 ∨ x = 4 ∨ x = 5 ∨ x = 6 ∨ x = 7 by omega) with c9 | c9 | c9 | c9 | c9 | c9 | c9 | c9
  · subst c9
    have e0 : a = 0 := T0.symm.trans (by decide +kernel)
    subst e0
    have e1 : b = 0 := T1.symm.trans (by decide +kernel)
    subst e1
    have e2 : c = 0 := T2.symm.trans (by decide +kernel)
    subst e2
    have e3 : d = 0 := T3.symm.trans (by decide +kernel)
    subst e3
    have e4 : e = 0 := T4.symm.trans (by decide +kernel)
    subst e4
    have e5 : f = 0 := T5.symm.trans (by decide +kernel)
    subst e5
    have e6 : g = 0 := T6.symm.trans (by decide +kernel)
    subst e6
    have e7 : h = 0 := T7.symm.trans (by decide +kernel)
    subst e7
    have e8 : k = 0 := T8.symm.trans (by decide +kernel)
    subst e8
    have e9 : l = 0 := T9.symm.trans (by decide +kernel)
    subst e9
    have e10 : m = 0 := T10.symm.trans (by decide +kernel)
    subst e10
    have e11 : n = 0 := T11.symm.trans (by decide +kernel)
    subst e11
    have e12 : o = 0 := T12.symm.trans (by decide +kernel)
    subst e12
    have e13 : t = 0 := T13.symm.trans (by decide +kernel)
    subst e13
    have e14 : r = 0 := T14.symm.trans (by decide +kernel)
    subst e14
    exact ⟨⟨by omega, by omega, trivial⟩, by decide, trivial⟩
  · subst c9
    have e0 : a = 0 := T0.symm.trans (by decide +kernel)
    subst e0
    have e1 : b = 0 := T1.symm.trans (by decide +kernel)
    subst e1
    have e2 : c = 1 := T2.symm.trans (by decide +kernel)
    subst e2
    have e3 : d = 1 := T3.symm.trans (by decide +kernel)
    subst e3
    have e4 : e = 0 := T4.symm.trans (by decide +kernel)
    subst e4
    have e5 : f = 0 := T5.symm.trans (by decide +kernel)
    subst e5
    have e6 : g = 1 := T6.symm.trans (by decide +kernel)
    subst e6
    have e7 : h = 0 := T7.symm.trans (by decide +kernel)
    subst e7
    have e8 : k = 1 := T8.symm.trans (by decide +kernel)
    subst e8
    have e9 : l = 1 := T9.symm.trans (by decide +kernel)
    subst e9
    have e10 : m = 0 := T10.symm.trans (by decide +kernel)
    subst e10
    have e11 : n = 1 := T11.symm.trans (by decide +kernel)
    subst e11
    have e12 : o = 0 := T12.symm.trans (by decide +kernel)
    subst e12
    have e13 : t = 1 := T13.symm.trans (by decide +kernel)
    subst e13
    have e14 : r = 1 := T14.symm.trans (by decide +kernel)
    subst e14
    exact ⟨⟨by omega, by omega, trivial⟩, by decide, trivial⟩
  · subst c9
    have e0 : a = 1 := T0.symm.trans (by decide +kernel)
    subst e0
    have e1 : b = 1 := T1.symm.trans (by decide +kernel)
    subst e1
    have e2 : c = 1 := T2.symm.trans (by decide +kernel)
    subst e2
    have e3 : d = 1 := T3.symm.trans (by decide +kernel)
    subst e3
    have e4 : e = 0 := T4.symm.trans (by decide +kernel)
    subst e4
    have e5 : f = 0 := T5.symm.trans (by decide +kernel)
    subst e5
    have e6 : g = 1 := T6.symm.trans (by decide +kernel)
    subst e6
    have e7 : h = 0 := T7.symm.trans (by decide +kernel)
    subst e7
    have e8 : k = 1 := T8.symm.trans (by decide +kernel)
    subst e8
    have e9 : l = 1 := T9.symm.trans (by decide +kernel)
    subst e9
    have e10 : m = 0 := T10.symm.trans (by decide +kernel)
    subst e10
    have e11 : n = 1 := T11.symm.trans (by decide +kernel)
    subst e11
    have e12 : o = 0 := T12.symm.trans (by decide +kernel)
    subst e12
    have e13 : t = 1 := T13.symm.trans (by decide +kernel)
    subst e13
    have e14 : r = 1 := T14.symm.trans (by decide +kernel)
    subst e14
    exact ⟨⟨by omega, by omega, trivial⟩, by decide, trivial⟩
  · subst c9
    have e0 : a = 1 := T0.symm.trans (by decide +kernel)
    subst e0
    have e1 : b = 1 := T1.symm.trans (by decide +kernel)
    subst e1
    have e2 : c = 2 := T2.symm.trans (by decide +kernel)
    subst e2
    have e3 : d = 2 := T3.symm.trans (by decide +kernel)
    subst e3
    have e4 : e = 0 := T4.symm.trans (by decide +kernel)
    subst e4
    have e5 : f = 0 := T5.symm.trans (by decide +kernel)
    subst e5
    have e6 : g = 2 := T6.symm.trans (by decide +kernel)
    subst e6
    have e7 : h = 0 := T7.symm.trans (by decide +kernel)
    subst e7
    have e8 : k = 2 := T8.symm.trans (by decide +kernel)
    subst e8
    have e9 : l = 2 := T9.symm.trans (by decide +kernel)
    subst e9
    have e10 : m = 0 := T10.symm.trans (by decide +kernel)
    subst e10
    have e11 : n = 2 := T11.symm.trans (by decide +kernel)
    subst e11
    have e12 : o = 0 := T12.symm.trans (by decide +kernel)
    subst e12
    have e13 : t = 2 := T13.symm.trans (by decide +kernel)
    subst e13
    have e14 : r = 2 := T14.symm.trans (by decide +kernel)
    subst e14
    exact ⟨⟨by omega, by omega, trivial⟩, by decide, trivial⟩
  · subst c9
    have e0 : a = 2 := T0.symm.trans (by decide +kernel)
    subst e0
    have e1 : b = 0 := T1.symm.trans (by decide +kernel)
    subst e1
    have e2 : c = 4 := T2.symm.trans (by decide +kernel)
    subst e2
    have e3 : d = 0 := T3.symm.trans (by decide +kernel)
    subst e3
    have e4 : e = 1 := T4.symm.trans (by decide +kernel)
    subst e4
    have e5 : f = 1 := T5.symm.trans (by decide +kernel)
    subst e5
    have e6 : g = 1 := T6.symm.trans (by decide +kernel)
    subst e6
    have e7 : h = 0 := T7.symm.trans (by decide +kernel)
    subst e7
    have e8 : k = 1 := T8.symm.trans (by decide +kernel)
    subst e8
    have e9 : l = 1 := T9.symm.trans (by decide +kernel)
    subst e9
    have e10 : m = 0 := T10.symm.trans (by decide +kernel)
    subst e10
    have e11 : n = 1 := T11.symm.trans (by decide +kernel)
    subst e11
    have e12 : o = 0 := T12.symm.trans (by decide +kernel)
    subst e12
    have e13 : t = 1 := T13.symm.trans (by decide +kernel)
    subst e13
    have e14 : r = 1 := T14.symm.trans (by decide +kernel)
    subst e14
    exact ⟨⟨by omega, by omega, trivial⟩, by decide, trivial⟩
  · subst c9
    have e0 : a = 2 := T0.symm.trans (by decide +kernel)
    subst e0
    have e1 : b = 0 := T1.symm.trans (by decide +kernel)
    subst e1
    have e2 : c = 5 := T2.symm.trans (by decide +kernel)
    subst e2
    have e3 : d = 1 := T3.symm.trans (by decide +kernel)
    subst e3
    have e4 : e = 1 := T4.symm.trans (by decide +kernel)
    subst e4
    have e5 : f = 1 := T5.symm.trans (by decide +kernel)
    subst e5
    have e6 : g = 2 := T6.symm.trans (by decide +kernel)
    subst e6
    have e7 : h = 0 := T7.symm.trans (by decide +kernel)
    subst e7
    have e8 : k = 2 := T8.symm.trans (by decide +kernel)
    subst e8
    have e9 : l = 2 := T9.symm.trans (by decide +kernel)
    subst e9
    have e10 : m = 0 := T10.symm.trans (by decide +kernel)
    subst e10
    have e11 : n = 2 := T11.symm.trans (by decide +kernel)
    subst e11
    have e12 : o = 0 := T12.symm.trans (by decide +kernel)
    subst e12
    have e13 : t = 2 := T13.symm.trans (by decide +kernel)
    subst e13
    have e14 : r = 2 := T14.symm.trans (by decide +kernel)
    subst e14
    exact ⟨⟨by omega, by omega, trivial⟩, by decide, trivial⟩
  · subst c9
    have e0 : a = 3 := T0.symm.trans (by decide +kernel)
    subst e0
    have e1 : b = 1 := T1.symm.trans (by decide +kernel)
    subst e1
    have e2 : c = 5 := T2.symm.trans (by decide +kernel)
    subst e2
    have e3 : d = 1 := T3.symm.trans (by decide +kernel)
    subst e3
    have e4 : e = 1 := T4.symm.trans (by decide +kernel)
    subst e4
    have e5 : f = 1 := T5.symm.trans (by decide +kernel)
    subst e5
    have e6 : g = 2 := T6.symm.trans (by decide +kernel)
    subst e6
    have e7 : h = 0 := T7.symm.trans (by decide +kernel)
    subst e7
    have e8 : k = 2 := T8.symm.trans (by decide +kernel)
    subst e8
    have e9 : l = 2 := T9.symm.trans (by decide +kernel)
    subst e9
    have e10 : m = 0 := T10.symm.trans (by decide +kernel)
    subst e10
    have e11 : n = 2 := T11.symm.trans (by decide +kernel)
    subst e11
    have e12 : o = 0 := T12.symm.trans (by decide +kernel)
    subst e12
    have e13 : t = 2 := T13.symm.trans (by decide +kernel)
    subst e13
    have e14 : r = 2 := T14.symm.trans (by decide +kernel)
    subst e14
    exact ⟨⟨by omega, by omega, trivial⟩, by decide, trivial⟩
  · subst c9
    have e0 : a = 3 := T0.symm.trans (by decide +kernel)
    subst e0
    have e1 : b = 1 := T1.symm.trans (by decide +kernel)
    subst e1
    have e2 : c = 6 := T2.symm.trans (by decide +kernel)
    subst e2
    have e3 : d = 2 := T3.symm.trans (by decide +kernel)
    subst e3
    have e4 : e = 1 := T4.symm.trans (by decide +kernel)
    subst e4
    have e5 : f = 1 := T5.symm.trans (by decide +kernel)
    subst e5
    have e6 : g = 3 := T6.symm.trans (by decide +kernel)
    subst e6
    have e7 : h = 0 := T7.symm.trans (by decide +kernel)
    subst e7
    have e8 : k = 3 := T8.symm.trans (by decide +kernel)
    subst e8
    have e9 : l = 3 := T9.symm.trans (by decide +kernel)
    subst e9
    have e10 : m = 0 := T10.symm.trans (by decide +kernel)
    subst e10
    have e11 : n = 3 := T11.symm.trans (by decide +kernel)
    subst e11
    have e12 : o = 0 := T12.symm.trans (by decide +kernel)
    subst e12
    have e13 : t = 3 := T13.symm.trans (by decide +kernel)
    subst e13
    have e14 : r = 3 := T14.symm.trans (by decide +kernel)
    subst e14
    exact ⟨⟨by omega, by omega, trivial⟩, by decide, trivial⟩
theorem k_msm0 {V : zVw} {o p y d H : Int} (T0 : q_sto V 0 H p y d (0 : Int) (0 : Int) (0 : Int) (0 : Int) (0 : Int) (0 : Int) (0 : Int)) : (True) ∧ (q_qry V (31 : Int) (0 : Int) (0 : Int) (0 : Int) (0 : Int) (0 : Int) (0 : Int) (0 : Int) o (0 : Int) (0 : Int) ∧ True) := by
  exact ⟨trivial, g_qs T0 (g_Q31 (show (0 : Int) = g_sw _ (0 : Int).toNat from rfl)), trivial⟩
theorem k_msmS {V : zVw} {o k i z u w H p y d : Int} (T0 : q_sto V 0 H p y d (0 : Int) (0 : Int) (0 : Int) (0 : Int) (0 : Int) (0 : Int) (0 : Int)) (T1 : q_qry V (31 : Int) (0 : Int) (0 : Int) (0 : Int) (0 : Int) (0 : Int) (0 : Int) (0 : Int) o i z) (T2 : (mOP 110 (Int32.ofInt z) (Int32.ofInt u)).toInt = w) (C0 : 0 ≤ i) (C1 : 0 ≤ k - o - i) (C2 : 0 ≤ o + i - k) (C3 : 0 ≤ k) (C4 : 0 ≤ 32 - k) (F0 : (0 : Int) ≤ k ∧ (k : Int) < j_len 77 ∧ V 77 (k) = u) : (True) ∧ (q_qry V (31 : Int) (0 : Int) (0 : Int) (0 : Int) (0 : Int) (0 : Int) (0 : Int) (0 : Int) o (i + 1) w ∧ True) := by
  have z1 := g_k31 T1
  have h9 := g_sw_s (f := fun k => (g_F V 0 0 0 0 0 0 0 (g_nw V)) (o + k)) (i := i) (by omega)
  have h8 : (g_F V 0 0 0 0 0 0 0 (g_nw V)) (o + i) = u := by
    show g_nw V (o + i) = u
    rw [show o + i = k by omega, show g_nw V k = V 77 k from g_b0 (by omega) (by omega)]
    exact F0.2.2
  have h5 : g_op 110 z u = w := T2
  rw [h8, ← z1, h5] at h9
  exact ⟨trivial, g_qs T0 (g_Q31 h9.symm), trivial⟩
theorem k_msmX {V : zVw} {o k i z u w H p y d : Int} (T0 : q_sto V 0 H p y d (0 : Int) (0 : Int) (0 : Int) (0 : Int) (0 : Int) (0 : Int) (0 : Int)) (T1 : q_qry V (31 : Int) (0 : Int) (0 : Int) (0 : Int) (0 : Int) (0 : Int) (0 : Int) (0 : Int) o i z) (C0 : 0 ≤ i) (C1 : 0 ≤ k - o - i) (C2 : 0 ≤ o + i - k) (C3 : 0 ≤ k) (C4 : 0 ≤ 32 - k) (C5 : 0 ≤ w - z - u) (C6 : 0 ≤ z + u - w) (C7 : 0 ≤ u + 2147483648) (C8 : 0 ≤ 2147483647 - u) (C9 : 0 ≤ w + 2147483648) (C10 : 0 ≤ 2147483647 - w) (F0 : (0 : Int) ≤ k ∧ (k : Int) < j_len 77 ∧ V 77 (k) = u) : (True) ∧ (q_qry V (31 : Int) (0 : Int) (0 : Int) (0 : Int) (0 : Int) (0 : Int) (0 : Int) (0 : Int) o (i + 1) w ∧ True) := by
  have z1 := g_k31 T1
  have h9 := g_sw_s (f := fun k => (g_F V 0 0 0 0 0 0 0 (g_nw V)) (o + k)) (i := i) (by omega)
  have h8 : (g_F V 0 0 0 0 0 0 0 (g_nw V)) (o + i) = u := by
    show g_nw V (o + i) = u
    rw [show o + i = k by omega, show g_nw V k = V 77 k from g_b0 (by omega) (by omega)]
    exact F0.2.2
  have b7 := g_sw_b (f := fun k => (g_F V 0 0 0 0 0 0 0 (g_nw V)) (o + k)) i.toNat
  rw [← z1] at b7
  rw [h8, ← z1, g_op_add (by omega) (by omega) (by omega) (by omega) (by omega) (by omega), show z + u = w by omega] at h9
  exact ⟨trivial, g_qs T0 (g_Q31 h9.symm), trivial⟩
theorem k_nwWa {V : zVw} {l u w x : Int} (T0 : 0 ≤ l ∧ l ≠ x ∧ V 62 l = w) (F0 : (0 : Int) ≤ l ∧ (l : Int) < j_len 62 ∧ V 62 (l) = u) : (0 ≤ u - w ∧ 0 ≤ w - u ∧ True) ∧ (True) := by
  have h9 := T0.2.2
  have h8 := F0.2.2
  exact ⟨⟨by omega, by omega, trivial⟩, trivial⟩
theorem k_rp31 {V : zVw} {x H p y d : Int} (T0 : q_rwo V H (0 : Int) (0 : Int) (0 : Int) (0 : Int) (0 : Int) (0 : Int) (0 : Int)) (T1 : q_sto V 0 H p y d (0 : Int) (0 : Int) (0 : Int) (0 : Int) (0 : Int) (0 : Int) (0 : Int)) (F0 : (0 : Int) ≤ 31 ∧ (31 : Int) < j_len 78 ∧ V 78 (31) = x) : (0 ≤ x - y ∧ 0 ≤ y - x ∧ True) ∧ (True) := by
  have h9 := g_rwo_at T0 (i := 31) (by omega) (by omega)
  have h8 := (g_st0_pt T1).1.2.1
  have h7 := F0.2.2
  exact ⟨⟨by omega, by omega, trivial⟩, trivial⟩
theorem k_rp32 {V : zVw} {x H p y d : Int} (T0 : q_rwo V H (0 : Int) (0 : Int) (0 : Int) (0 : Int) (0 : Int) (0 : Int) (0 : Int)) (T1 : q_sto V 0 H p y d (0 : Int) (0 : Int) (0 : Int) (0 : Int) (0 : Int) (0 : Int) (0 : Int)) (F0 : (0 : Int) ≤ 32 ∧ (32 : Int) < j_len 78 ∧ V 78 (32) = x) : (0 ≤ x - d ∧ 0 ≤ d - x ∧ True) ∧ (True) := by
  have h9 := g_rwo_at T0 (i := 32) (by omega) (by omega)
  have h8 := (g_st0_pt T1).1.2.2
  have h7 := F0.2.2
  exact ⟨⟨by omega, by omega, trivial⟩, trivial⟩
theorem k_houE {V : zVw} {l H s u : Int} (T0 : 0 ≤ l ∧ l ≠ s ∧ V 56 l = H) (F0 : (0 : Int) ≤ l ∧ (l : Int) < j_len 56 ∧ V 56 (l) = u) : (0 ≤ u - H ∧ 0 ≤ H - u ∧ True) ∧ (True) := by
  have h9 := T0.2.2
  have h8 := F0.2.2
  exact ⟨⟨by omega, by omega, trivial⟩, trivial⟩
theorem k_mbt0 {V : zVw} {H : Int} (T0 : q_rwo V H (0 : Int) (0 : Int) (0 : Int) (0 : Int) (0 : Int) (0 : Int) (0 : Int)) : (True) ∧ (q_qry V (33 : Int) (0 : Int) (0 : Int) (0 : Int) (0 : Int) (0 : Int) (0 : Int) (0 : Int) (0 : Int) (0 : Int) (0 : Int) ∧ True) := by
  exact ⟨trivial, g_qr T0 (g_Q33 (show (0 : Int) = g_bt _ (0 : Int).toNat from rfl)), trivial⟩
theorem k_mbtY {V : zVw} {i z u x g H : Int} (T0 : (mOP 102 (Int32.ofInt z) (Int32.ofInt x)).toInt = u) (T1 : (mOP 104 (Int32.ofInt (1 : Int)) (Int32.ofInt i)).toInt = x) (T2 : q_rwo V H (0 : Int) (0 : Int) (0 : Int) (0 : Int) (0 : Int) (0 : Int) (0 : Int)) (T3 : q_qry V (33 : Int) (0 : Int) (0 : Int) (0 : Int) (0 : Int) (0 : Int) (0 : Int) (0 : Int) i (0 : Int) z) (C0 : 0 ≤ i) (C1 : 0 ≤ 5 - i) (C2 : 0 ≤ g - 1) (F0 : (0 : Int) ≤ i + 6 ∧ (i + 6 : Int) < j_len 78 ∧ V 78 (i + 6) = g) : (True) ∧ (q_qry V (33 : Int) (0 : Int) (0 : Int) (0 : Int) (0 : Int) (0 : Int) (0 : Int) (0 : Int) (i + 1) (0 : Int) u ∧ True) := by
  have z1 := g_k33 T3
  have h7 := g_rwo_at T2 (i := i + 6) (by omega) (by omega)
  have h6 := F0.2.2
  rw [show i + 6 = 6 + i by omega] at h7 h6
  have h9 := g_btY (f := (fun h => if 1 ≤ (g_F V 0 0 0 0 0 0 0 (g_nw V)) (6 + h) then 1 else 0)) (i := i) (by omega) (by omega) (by show (if 1 ≤ (g_F V 0 0 0 0 0 0 0 (g_nw V)) (6 + i) then (1 : Int) else 0) = 1; rw [if_pos (by omega)])
  have h5 : g_op 104 1 i = x := T1
  have h4 : g_op 102 z x = u := T0
  rw [← z1, h5, h4] at h9
  exact ⟨trivial, g_qr T2 (g_Q33 h9.symm), trivial⟩
theorem k_mbtN {V : zVw} {i z g H : Int} (T0 : q_rwo V H (0 : Int) (0 : Int) (0 : Int) (0 : Int) (0 : Int) (0 : Int) (0 : Int)) (T1 : q_qry V (33 : Int) (0 : Int) (0 : Int) (0 : Int) (0 : Int) (0 : Int) (0 : Int) (0 : Int) i (0 : Int) z) (C0 : 0 ≤ i) (C1 : 0 ≤ 5 - i) (C2 : 0 ≤ -g) (F0 : (0 : Int) ≤ i + 6 ∧ (i + 6 : Int) < j_len 78 ∧ V 78 (i + 6) = g) : (True) ∧ (q_qry V (33 : Int) (0 : Int) (0 : Int) (0 : Int) (0 : Int) (0 : Int) (0 : Int) (0 : Int) (i + 1) (0 : Int) z ∧ True) := by
  have z1 := g_k33 T1
  have h7 := g_rwo_at T0 (i := i + 6) (by omega) (by omega)
  have h6 := F0.2.2
  rw [show i + 6 = 6 + i by omega] at h7 h6
  have h9 := g_btN (f := (fun h => if 1 ≤ (g_F V 0 0 0 0 0 0 0 (g_nw V)) (6 + h) then 1 else 0)) (i := i) (by omega) (by show ¬ (if 1 ≤ (g_F V 0 0 0 0 0 0 0 (g_nw V)) (6 + i) then (1 : Int) else 0) = 1; rw [if_neg (by omega)]; omega)
  rw [← z1] at h9
  exact ⟨trivial, g_qr T0 (g_Q33 h9.symm), trivial⟩
theorem k_mbtE {V : zVw} {i z H : Int} (T0 : q_rwo V H (0 : Int) (0 : Int) (0 : Int) (0 : Int) (0 : Int) (0 : Int) (0 : Int)) (T1 : q_qry V (33 : Int) (0 : Int) (0 : Int) (0 : Int) (0 : Int) (0 : Int) (0 : Int) (0 : Int) i (0 : Int) z) (C0 : 0 ≤ i - H) (C1 : 0 ≤ H - i) (C2 : 0 ≤ i) : (True) ∧ (q_qry V (33 : Int) (0 : Int) (0 : Int) (0 : Int) (0 : Int) (0 : Int) (0 : Int) (0 : Int) (6 : Int) (0 : Int) z ∧ True) := by
  have z1 := g_k33 T1
  have w9 := T0.1.1
  have wH := w9.1
  have h9 := g_bt_ext (f := (fun h => if 1 ≤ (g_F V 0 0 0 0 0 0 0 (g_nw V)) (6 + h) then 1 else 0)) (n := i.toNat) (6 - i).toNat (fun h h0 h1 => by
    show ¬ (if 1 ≤ (g_F V 0 0 0 0 0 0 0 (g_nw V)) (6 + h) then (1 : Int) else 0) = 1
    rw [if_neg (g_no_pl w9 (by omega) (by omega))]
    omega)
  rw [show i.toNat + (6 - i).toNat = (6 : Int).toNat by omega, ← z1] at h9
  exact ⟨trivial, g_qr T0 (g_Q33 h9.symm), trivial⟩
theorem k_mbh0 {V : zVw} {H : Int} (T0 : q_rwo V H (0 : Int) (0 : Int) (0 : Int) (0 : Int) (0 : Int) (0 : Int) (0 : Int)) : (True) ∧ (q_qry V (35 : Int) (0 : Int) (0 : Int) (0 : Int) (0 : Int) (0 : Int) (0 : Int) (0 : Int) (0 : Int) (0 : Int) (0 : Int) ∧ True) := by
  exact ⟨trivial, g_qr T0 (g_Q35 (show (0 : Int) = g_bt _ (0 : Int).toNat from rfl)), trivial⟩
theorem k_mbhY {V : zVw} {i z u x g H : Int} (T0 : (mOP 102 (Int32.ofInt z) (Int32.ofInt x)).toInt = u) (T1 : (mOP 104 (Int32.ofInt (1 : Int)) (Int32.ofInt i)).toInt = x) (T2 : q_rwo V H (0 : Int) (0 : Int) (0 : Int) (0 : Int) (0 : Int) (0 : Int) (0 : Int)) (T3 : q_qry V (35 : Int) (0 : Int) (0 : Int) (0 : Int) (0 : Int) (0 : Int) (0 : Int) (0 : Int) i (0 : Int) z) (C0 : 0 ≤ i) (C1 : 0 ≤ 5 - i) (C2 : 0 ≤ g) (C3 : 0 ≤ -g) (F0 : (0 : Int) ≤ i ∧ (i : Int) < j_len 78 ∧ V 78 (i) = g) : (True) ∧ (q_qry V (35 : Int) (0 : Int) (0 : Int) (0 : Int) (0 : Int) (0 : Int) (0 : Int) (0 : Int) (i + 1) (0 : Int) u ∧ True) := by
  have z1 := g_k35 T3
  have h7 := g_rwo_at T2 (i := i) (by omega) (by omega)
  have h6 := F0.2.2
  have h9 := g_btY (f := (fun h => if (g_F V 0 0 0 0 0 0 0 (g_nw V)) h = 0 then 1 else 0)) (i := i) (by omega) (by omega) (by show (if (g_F V 0 0 0 0 0 0 0 (g_nw V)) i = 0 then (1 : Int) else 0) = 1; rw [if_pos (by omega)])
  have h5 : g_op 104 1 i = x := T1
  have h4 : g_op 102 z x = u := T0
  rw [← z1, h5, h4] at h9
  exact ⟨trivial, g_qr T2 (g_Q35 h9.symm), trivial⟩
theorem k_mbhN {V : zVw} {i z g H : Int} (T0 : q_rwo V H (0 : Int) (0 : Int) (0 : Int) (0 : Int) (0 : Int) (0 : Int) (0 : Int)) (T1 : q_qry V (35 : Int) (0 : Int) (0 : Int) (0 : Int) (0 : Int) (0 : Int) (0 : Int) (0 : Int) i (0 : Int) z) (C0 : 0 ≤ i) (C1 : 0 ≤ 5 - i) (C2 : 0 ≤ g - 1) (F0 : (0 : Int) ≤ i ∧ (i : Int) < j_len 78 ∧ V 78 (i) = g) : (True) ∧ (q_qry V (35 : Int) (0 : Int) (0 : Int) (0 : Int) (0 : Int) (0 : Int) (0 : Int) (0 : Int) (i + 1) (0 : Int) z ∧ True) := by
  have z1 := g_k35 T1
  have h7 := g_rwo_at T0 (i := i) (by omega) (by omega)
  have h6 := F0.2.2
  have h9 := g_btN (f := (fun h => if (g_F V 0 0 0 0 0 0 0 (g_nw V)) h = 0 then 1 else 0)) (i := i) (by omega) (by show ¬ (if (g_F V 0 0 0 0 0 0 0 (g_nw V)) i = 0 then (1 : Int) else 0) = 1; rw [if_neg (by omega)]; omega)
  rw [← z1] at h9
  exact ⟨trivial, g_qr T0 (g_Q35 h9.symm), trivial⟩
theorem k_mbhE {V : zVw} {i z H : Int} (T0 : q_rwo V H (0 : Int) (0 : Int) (0 : Int) (0 : Int) (0 : Int) (0 : Int) (0 : Int)) (T1 : q_qry V (35 : Int) (0 : Int) (0 : Int) (0 : Int) (0 : Int) (0 : Int) (0 : Int) (0 : Int) i (0 : Int) z) (C0 : 0 ≤ i - H) (C1 : 0 ≤ H - i) (C2 : 0 ≤ i) : (True) ∧ (q_qry V (35 : Int) (0 : Int) (0 : Int) (0 : Int) (0 : Int) (0 : Int) (0 : Int) (0 : Int) H (0 : Int) z ∧ True) := by
  have z1 := g_k35 T1
  exact ⟨trivial, g_qr T0 (g_Q35 (by rw [show H = i by omega]; exact z1)), trivial⟩
theorem k_mwlY {V : zVw} {l v n p w x : Int} (T0 : q_qry V (1 : Int) (0 : Int) (0 : Int) (0 : Int) (0 : Int) (0 : Int) (0 : Int) (0 : Int) (0 : Int) p n) (T1 : 0 ≤ l ∧ l ≠ x ∧ V 61 l = w) (C0 : 0 ≤ n - v) (F0 : (0 : Int) ≤ l ∧ (l : Int) < j_len 61 ∧ V 61 (l) = v) : (0 ≤ n - w ∧ True) ∧ (True) := by
  have h9 := T1.2.2
  have h8 := F0.2.2
  exact ⟨⟨by omega, trivial⟩, trivial⟩
theorem k_mwlN {V : zVw} {l v n p w x : Int} (T0 : q_qry V (1 : Int) (0 : Int) (0 : Int) (0 : Int) (0 : Int) (0 : Int) (0 : Int) (0 : Int) (0 : Int) p n) (T1 : 0 ≤ l ∧ l ≠ x ∧ V 61 l = w) (C0 : 0 ≤ v - n - 1) (F0 : (0 : Int) ≤ l ∧ (l : Int) < j_len 61 ∧ V 61 (l) = v) : (0 ≤ w - n - 1 ∧ True) ∧ (True) := by
  have h9 := T1.2.2
  have h8 := F0.2.2
  exact ⟨⟨by omega, trivial⟩, trivial⟩
theorem k_qeSMW {V : zVw} {p u w x : Int} (T0 : q_qry V (31 : Int) (0 : Int) (0 : Int) (0 : Int) (0 : Int) (0 : Int) (0 : Int) (0 : Int) p x u) (T1 : q_qry V (31 : Int) (0 : Int) (0 : Int) (0 : Int) (0 : Int) (0 : Int) (0 : Int) (0 : Int) p x w) : (0 ≤ u - w ∧ 0 ≤ w - u ∧ True) ∧ (True) := by
  have h9 := g_k31 T0
  have h8 := g_k31 T1
  exact ⟨⟨by omega, by omega, trivial⟩, trivial⟩
theorem k_qeBIT {V : zVw} {p u w x : Int} (T0 : q_qry V (33 : Int) (0 : Int) (0 : Int) (0 : Int) (0 : Int) (0 : Int) (0 : Int) (0 : Int) p x u) (T1 : q_qry V (33 : Int) (0 : Int) (0 : Int) (0 : Int) (0 : Int) (0 : Int) (0 : Int) (0 : Int) p x w) : (0 ≤ u - w ∧ 0 ≤ w - u ∧ True) ∧ (True) := by
  have h9 := g_k33 T0
  have h8 := g_k33 T1
  exact ⟨⟨by omega, by omega, trivial⟩, trivial⟩
theorem k_qeBIH {V : zVw} {p u w x : Int} (T0 : q_qry V (35 : Int) (0 : Int) (0 : Int) (0 : Int) (0 : Int) (0 : Int) (0 : Int) (0 : Int) p x u) (T1 : q_qry V (35 : Int) (0 : Int) (0 : Int) (0 : Int) (0 : Int) (0 : Int) (0 : Int) (0 : Int) p x w) : (0 ≤ u - w ∧ 0 ≤ w - u ∧ True) ∧ (True) := by
  have h9 := g_k35 T0
  have h8 := g_k35 T1
  exact ⟨⟨by omega, by omega, trivial⟩, trivial⟩
theorem k_qeBC {V : zVw} {x r z0 z1 z2 : Int} (T0 : r = x % 2 + x / 2 % 2 + x / 4 % 2) (C0 : 0 ≤ x - z0 - 2 * z1 - 4 * z2) (C1 : 0 ≤ z0 + 2 * z1 + 4 * z2 - x) (C2 : 0 ≤ z0) (C3 : 0 ≤ 1 - z0) (C4 : 0 ≤ z1) (C5 : 0 ≤ 1 - z1) (C6 : 0 ≤ z2) (C7 : 0 ≤ 1 - z2) : (0 ≤ r - z0 - z1 - z2 ∧ 0 ≤ z0 + z1 + z2 - r ∧ True) ∧ (True) := by
  have h9 : r = x % 2 + x / 2 % 2 + x / 4 % 2 := T0
  exact ⟨⟨by omega, by omega, trivial⟩, trivial⟩
theorem k_qe12a {V : zVw} {n k w l x p : Int} (T0 : q_qry V (1 : Int) (0 : Int) (0 : Int) (0 : Int) (0 : Int) (0 : Int) (0 : Int) (0 : Int) (0 : Int) p n) (T1 : q_qry V (1 : Int) (0 : Int) (0 : Int) (0 : Int) (0 : Int) (0 : Int) (0 : Int) (0 : Int) (0 : Int) p k) (T2 : 0 ≤ l ∧ l ≠ x ∧ V 61 l = w) (C0 : 0 ≤ n - w) (C1 : 0 ≤ w - k - 1) : (0 ≤ (-1) ∧ True) ∧ (True) := by
  have z0 := g_k1 T0
  have z1 := g_k1 T1
  exfalso
  omega
theorem k_qe12b {V : zVw} {n k w l x p : Int} (T0 : q_qry V (1 : Int) (0 : Int) (0 : Int) (0 : Int) (0 : Int) (0 : Int) (0 : Int) (0 : Int) (0 : Int) p n) (T1 : q_qry V (1 : Int) (0 : Int) (0 : Int) (0 : Int) (0 : Int) (0 : Int) (0 : Int) (0 : Int) (0 : Int) p k) (T2 : 0 ≤ l ∧ l ≠ x ∧ V 61 l = w) (C0 : 0 ≤ w - n - 1) (C1 : 0 ≤ k - w) : (0 ≤ (-1) ∧ True) ∧ (True) := by
  have z0 := g_k1 T0
  have z1 := g_k1 T1
  exfalso
  omega
theorem k_eqF {V : zVw} {H p y d hr0 hr1 hr2 hr3 hr4 hr5 gn0 gn1 gn2 gn3 gn4 gn5 we0 we1 we2 we3 we4 we5 lh0 lh1 lh2 lh3 lh4 lh5 sh0 sh1 sh2 sh3 sh4 sh5 hr0t hr1t hr2t hr3t hr4t hr5t gn0t gn1t gn2t gn3t gn4t gn5t we0t we1t we2t we3t we4t we5t lh0t lh1t lh2t lh3t lh4t lh5t sh0t sh1t sh2t sh3t sh4t sh5t : Int} (T0 : (1 ≤ (1 : Int) ∧ (1 : Int) ≤ 44) ∧ q_eqs V (1 : Int) H p y d) (F0 : (0 : Int) ≤ 0 ∧ (0 : Int) < j_len 27 ∧ V 27 (0) = hr0) (F1 : (0 : Int) ≤ 1 ∧ (1 : Int) < j_len 27 ∧ V 27 (1) = hr1) (F2 : (0 : Int) ≤ 2 ∧ (2 : Int) < j_len 27 ∧ V 27 (2) = hr2) (F3 : (0 : Int) ≤ 3 ∧ (3 : Int) < j_len 27 ∧ V 27 (3) = hr3) (F4 : (0 : Int) ≤ 4 ∧ (4 : Int) < j_len 27 ∧ V 27 (4) = hr4) (F5 : (0 : Int) ≤ 5 ∧ (5 : Int) < j_len 27 ∧ V 27 (5) = hr5) (F6 : (0 : Int) ≤ 0 ∧ (0 : Int) < j_len 28 ∧ V 28 (0) = gn0) (F7 : (0 : Int) ≤ 1 ∧ (1 : Int) < j_len 28 ∧ V 28 (1) = gn1) (F8 : (0 : Int) ≤ 2 ∧ (2 : Int) < j_len 28 ∧ V 28 (2) = gn2) (F9 : (0 : Int) ≤ 3 ∧ (3 : Int) < j_len 28 ∧ V 28 (3) = gn3) (F10 : (0 : Int) ≤ 4 ∧ (4 : Int) < j_len 28 ∧ V 28 (4) = gn4) (F11 : (0 : Int) ≤ 5 ∧ (5 : Int) < j_len 28 ∧ V 28 (5) = gn5) (F12 : (0 : Int) ≤ 0 ∧ (0 : Int) < j_len 29 ∧ V 29 (0) = we0) (F13 : (0 : Int) ≤ 1 ∧ (1 : Int) < j_len 29 ∧ V 29 (1) = we1) (F14 : (0 : Int) ≤ 2 ∧ (2 : Int) < j_len 29 ∧ V 29 (2) = we2) (F15 : (0 : Int) ≤ 3 ∧ (3 : Int) < j_len 29 ∧ V 29 (3) = we3) (F16 : (0 : Int) ≤ 4 ∧ (4 : Int) < j_len 29 ∧ V 29 (4) = we4) (F17 : (0 : Int) ≤ 5 ∧ (5 : Int) < j_len 29 ∧ V 29 (5) = we5) (F18 : (0 : Int) ≤ 0 ∧ (0 : Int) < j_len 30 ∧ V 30 (0) = lh0) (F19 : (0 : Int) ≤ 1 ∧ (1 : Int) < j_len 30 ∧ V 30 (1) = lh1) (F20 : (0 : Int) ≤ 2 ∧ (2 : Int) < j_len 30 ∧ V 30 (2) = lh2) (F21 : (0 : Int) ≤ 3 ∧ (3 : Int) < j_len 30 ∧ V 30 (3) = lh3) (F22 : (0 : Int) ≤ 4 ∧ (4 : Int) < j_len 30 ∧ V 30 (4) = lh4) (F23 : (0 : Int) ≤ 5 ∧ (5 : Int) < j_len 30 ∧ V 30 (5) = lh5) (F24 : (0 : Int) ≤ 0 ∧ (0 : Int) < j_len 31 ∧ V 31 (0) = sh0) (F25 : (0 : Int) ≤ 1 ∧ (1 : Int) < j_len 31 ∧ V 31 (1) = sh1) (F26 : (0 : Int) ≤ 2 ∧ (2 : Int) < j_len 31 ∧ V 31 (2) = sh2) (F27 : (0 : Int) ≤ 3 ∧ (3 : Int) < j_len 31 ∧ V 31 (3) = sh3) (F28 : (0 : Int) ≤ 4 ∧ (4 : Int) < j_len 31 ∧ V 31 (4) = sh4) (F29 : (0 : Int) ≤ 5 ∧ (5 : Int) < j_len 31 ∧ V 31 (5) = sh5) (F30 : (0 : Int) ≤ 0 ∧ (0 : Int) < j_len 107 ∧ V 107 (0) = hr0t) (F31 : (0 : Int) ≤ 1 ∧ (1 : Int) < j_len 107 ∧ V 107 (1) = hr1t) (F32 : (0 : Int) ≤ 2 ∧ (2 : Int) < j_len 107 ∧ V 107 (2) = hr2t) (F33 : (0 : Int) ≤ 3 ∧ (3 : Int) < j_len 107 ∧ V 107 (3) = hr3t) (F34 : (0 : Int) ≤ 4 ∧ (4 : Int) < j_len 107 ∧ V 107 (4) = hr4t) (F35 : (0 : Int) ≤ 5 ∧ (5 : Int) < j_len 107 ∧ V 107 (5) = hr5t) (F36 : (0 : Int) ≤ 0 ∧ (0 : Int) < j_len 108 ∧ V 108 (0) = gn0t) (F37 : (0 : Int) ≤ 1 ∧ (1 : Int) < j_len 108 ∧ V 108 (1) = gn1t) (F38 : (0 : Int) ≤ 2 ∧ (2 : Int) < j_len 108 ∧ V 108 (2) = gn2t) (F39 : (0 : Int) ≤ 3 ∧ (3 : Int) < j_len 108 ∧ V 108 (3) = gn3t) (F40 : (0 : Int) ≤ 4 ∧ (4 : Int) < j_len 108 ∧ V 108 (4) = gn4t) (F41 : (0 : Int) ≤ 5 ∧ (5 : Int) < j_len 108 ∧ V 108 (5) = gn5t) (F42 : (0 : Int) ≤ 0 ∧ (0 : Int) < j_len 109 ∧ V 109 (0) = we0t) (F43 : (0 : Int) ≤ 1 ∧ (1 : Int) < j_len 109 ∧ V 109 (1) = we1t) (F44 : (0 : Int) ≤ 2 ∧ (2 : Int) < j_len 109 ∧ V 109 (2) = we2t) (F45 : (0 : Int) ≤ 3 ∧ (3 : Int) < j_len 109 ∧ V 109 (3) = we3t) (F46 : (0 : Int) ≤ 4 ∧ (4 : Int) < j_len 109 ∧ V 109 (4) = we4t) (F47 : (0 : Int) ≤ 5 ∧ (5 : Int) < j_len 109 ∧ V 109 (5) = we5t) (F48 : (0 : Int) ≤ 0 ∧ (0 : Int) < j_len 110 ∧ V 110 (0) = lh0t) (F49 : (0 : Int) ≤ 1 ∧ (1 : Int) < j_len 110 ∧ V 110 (1) = lh1t) (F50 : (0 : Int) ≤ 2 ∧ (2 : Int) < j_len 110 ∧ V 110 (2) = lh2t) (F51 : (0 : Int) ≤ 3 ∧ (3 : Int) < j_len 110 ∧ V 110 (3) = lh3t) (F52 : (0 : Int) ≤ 4 ∧ (4 : Int) < j_len 110 ∧ V 110 (4) = lh4t) (F53 : (0 : Int) ≤ 5 ∧ (5 : Int) < j_len 110 ∧ V 110 (5) = lh5t) (F54 : (0 : Int) ≤ 0 ∧ (0 : Int) < j_len 111 ∧ V 111 (0) = sh0t) (F55 : (0 : Int) ≤ 1 ∧ (1 : Int) < j_len 111 ∧ V 111 (1) = sh1t) (F56 : (0 : Int) ≤ 2 ∧ (2 : Int) < j_len 111 ∧ V 111 (2) = sh2t) (F57 : (0 : Int) ≤ 3 ∧ (3 : Int) < j_len 111 ∧ V 111 (3) = sh3t) (F58 : (0 : Int) ≤ 4 ∧ (4 : Int) < j_len 111 ∧ V 111 (4) = sh4t) (F59 : (0 : Int) ≤ 5 ∧ (5 : Int) < j_len 111 ∧ V 111 (5) = sh5t) : (0 ≤ hr0 - hr0t ∧ 0 ≤ hr1 - hr1t ∧ 0 ≤ hr2 - hr2t ∧ 0 ≤ hr3 - hr3t ∧ 0 ≤ hr4 - hr4t ∧ 0 ≤ hr5 - hr5t ∧ 0 ≤ gn0 - gn0t ∧ 0 ≤ gn1 - gn1t ∧ 0 ≤ gn2 - gn2t ∧ 0 ≤ gn3 - gn3t ∧ 0 ≤ gn4 - gn4t ∧ 0 ≤ gn5 - gn5t ∧ 0 ≤ we0 - we0t ∧ 0 ≤ we1 - we1t ∧ 0 ≤ we2 - we2t ∧ 0 ≤ we3 - we3t ∧ 0 ≤ we4 - we4t ∧ 0 ≤ we5 - we5t ∧ 0 ≤ lh0 - lh0t ∧ 0 ≤ lh1 - lh1t ∧ 0 ≤ lh2 - lh2t ∧ 0 ≤ lh3 - lh3t ∧ 0 ≤ lh4 - lh4t ∧ 0 ≤ lh5 - lh5t ∧ 0 ≤ sh0 - sh0t ∧ 0 ≤ sh1 - sh1t ∧ 0 ≤ sh2 - sh2t ∧ 0 ≤ sh3 - sh3t ∧ 0 ≤ sh4 - sh4t ∧ 0 ≤ sh5 - sh5t ∧ 0 ≤ hr0t - hr0 ∧ 0 ≤ hr1t - hr1 ∧ 0 ≤ hr2t - hr2 ∧ 0 ≤ hr3t - hr3 ∧ 0 ≤ hr4t - hr4 ∧ 0 ≤ hr5t - hr5 ∧ 0 ≤ gn0t - gn0 ∧ 0 ≤ gn1t - gn1 ∧ 0 ≤ gn2t - gn2 ∧ 0 ≤ gn3t - gn3 ∧ 0 ≤ gn4t - gn4 ∧ 0 ≤ gn5t - gn5 ∧ 0 ≤ we0t - we0 ∧ 0 ≤ we1t - we1 ∧ 0 ≤ we2t - we2 ∧ 0 ≤ we3t - we3 ∧ 0 ≤ we4t - we4 ∧ 0 ≤ we5t - we5 ∧ 0 ≤ lh0t - lh0 ∧ 0 ≤ lh1t - lh1 ∧ 0 ≤ lh2t - lh2 ∧ 0 ≤ lh3t - lh3 ∧ 0 ≤ lh4t - lh4 ∧ 0 ≤ lh5t - lh5 ∧ 0 ≤ sh0t - sh0 ∧ 0 ≤ sh1t - sh1 ∧ 0 ≤ sh2t - sh2 ∧ 0 ≤ sh3t - sh3 ∧ 0 ≤ sh4t - sh4 ∧ 0 ≤ sh5t - sh5 ∧ True) ∧ (True) := by
  have e0 : V 107 0 = V 27 0 := T0.2.2.2 1 (by omega) (by omega) 0 (by omega) (by omega)
  have e1 : V 107 1 = V 27 1 := T0.2.2.2 1 (by omega) (by omega) 1 (by omega) (by omega)
  have e2 : V 107 2 = V 27 2 := T0.2.2.2 1 (by omega) (by omega) 2 (by omega) (by omega)
  have e3 : V 107 3 = V 27 3 := T0.2.2.2 1 (by omega) (by omega) 3 (by omega) (by omega)
  have e4 : V 107 4 = V 27 4 := T0.2.2.2 1 (by omega) (by omega) 4 (by omega) (by omega)
  have e5 : V 107 5 = V 27 5 := T0.2.2.2 1 (by omega) (by omega) 5 (by omega) (by omega)
  have e6 : V 108 0 = V 28 0 := T0.2.2.2 2 (by omega) (by omega) 0 (by omega) (by omega)
  have e7 : V 108 1 = V 28 1 := T0.2.2.2 2 (by omega) (by omega) 1 (by omega) (by omega)
  have e8 : V 108 2 = V 28 2 := T0.2.2.2 2 (by omega) (by omega) 2 (by omega) (by omega)
  have e9 : V 108 3 = V 28 3 := T0.2.2.2 2 (by omega) (by omega) 3 (by omega) (by omega)
  have e10 : V 108 4 = V 28 4 := T0.2.2.2 2 (by omega) (by omega) 4 (by omega) (by omega)
  have e11 : V 108 5 = V 28 5 := T0.2.2.2 2 (by omega) (by omega) 5 (by omega) (by omega)
  have e12 : V 109 0 = V 29 0 := T0.2.2.2 3 (by omega) (by omega) 0 (by omega) (by omega)
  have e13 : V 109 1 = V 29 1 := T0.2.2.2 3 (by omega) (by omega) 1 (by omega) (by omega)
  have e14 : V 109 2 = V 29 2 := T0.2.2.2 3 (by omega) (by omega) 2 (by omega) (by omega)
  have e15 : V 109 3 = V 29 3 := T0.2.2.2 3 (by omega) (by omega) 3 (by omega) (by omega)
  have e16 : V 109 4 = V 29 4 := T0.2.2.2 3 (by omega) (by omega) 4 (by omega) (by omega)
  have e17 : V 109 5 = V 29 5 := T0.2.2.2 3 (by omega) (by omega) 5 (by omega) (by omega)
  have e18 : V 110 0 = V 30 0 := T0.2.2.2 4 (by omega) (by omega) 0 (by omega) (by omega)
  have e19 : V 110 1 = V 30 1 := T0.2.2.2 4 (by omega) (by omega) 1 (by omega) (by omega)
  have e20 : V 110 2 = V 30 2 := T0.2.2.2 4 (by omega) (by omega) 2 (by omega) (by omega)
  have e21 : V 110 3 = V 30 3 := T0.2.2.2 4 (by omega) (by omega) 3 (by omega) (by omega)
  have e22 : V 110 4 = V 30 4 := T0.2.2.2 4 (by omega) (by omega) 4 (by omega) (by omega)
  have e23 : V 110 5 = V 30 5 := T0.2.2.2 4 (by omega) (by omega) 5 (by omega) (by omega)
  have e24 : V 111 0 = V 31 0 := T0.2.2.2 5 (by omega) (by omega) 0 (by omega) (by omega)
  have e25 : V 111 1 = V 31 1 := T0.2.2.2 5 (by omega) (by omega) 1 (by omega) (by omega)
  have e26 : V 111 2 = V 31 2 := T0.2.2.2 5 (by omega) (by omega) 2 (by omega) (by omega)
  have e27 : V 111 3 = V 31 3 := T0.2.2.2 5 (by omega) (by omega) 3 (by omega) (by omega)
  have e28 : V 111 4 = V 31 4 := T0.2.2.2 5 (by omega) (by omega) 4 (by omega) (by omega)
  have e29 : V 111 5 = V 31 5 := T0.2.2.2 5 (by omega) (by omega) 5 (by omega) (by omega)
  have y0 := F0.2.2
  have y1 := F1.2.2
  have y2 := F2.2.2
  have y3 := F3.2.2
  have y4 := F4.2.2
  have y5 := F5.2.2
  have y6 := F6.2.2
  have y7 := F7.2.2
  have y8 := F8.2.2
  have y9 := F9.2.2
  have y10 := F10.2.2
  have y11 := F11.2.2
  have y12 := F12.2.2
  have y13 := F13.2.2
  have y14 := F14.2.2
  have y15 := F15.2.2
  have y16 := F16.2.2
  have y17 := F17.2.2
  have y18 := F18.2.2
  have y19 := F19.2.2
  have y20 := F20.2.2
  have y21 := F21.2.2
  have y22 := F22.2.2
  have y23 := F23.2.2
  have y24 := F24.2.2
  have y25 := F25.2.2
  have y26 := F26.2.2
  have y27 := F27.2.2
  have y28 := F28.2.2
  have y29 := F29.2.2
  have y30 := F30.2.2
  have y31 := F31.2.2
  have y32 := F32.2.2
  have y33 := F33.2.2
  have y34 := F34.2.2
  have y35 := F35.2.2
  have y36 := F36.2.2
  have y37 := F37.2.2
  have y38 := F38.2.2
  have y39 := F39.2.2
  have y40 := F40.2.2
  have y41 := F41.2.2
  have y42 := F42.2.2
  have y43 := F43.2.2
  have y44 := F44.2.2
  have y45 := F45.2.2
  have y46 := F46.2.2
  have y47 := F47.2.2
  have y48 := F48.2.2
  have y49 := F49.2.2
  have y50 := F50.2.2
  have y51 := F51.2.2
  have y52 := F52.2.2
  have y53 := F53.2.2
  have y54 := F54.2.2
  have y55 := F55.2.2
  have y56 := F56.2.2
  have y57 := F57.2.2
  have y58 := F58.2.2
  have y59 := F59.2.2
  rw [y30, y0] at e0
  rw [y31, y1] at e1
  rw [y32, y2] at e2
  rw [y33, y3] at e3
  rw [y34, y4] at e4
  rw [y35, y5] at e5
  rw [y36, y6] at e6
  rw [y37, y7] at e7
  rw [y38, y8] at e8
  rw [y39, y9] at e9
  rw [y40, y10] at e10
  rw [y41, y11] at e11
  rw [y42, y12] at e12
  rw [y43, y13] at e13
  rw [y44, y14] at e14
  rw [y45, y15] at e15
  rw [y46, y16] at e16
  rw [y47, y17] at e17
  rw [y48, y18] at e18
  rw [y49, y19] at e19
  rw [y50, y20] at e20
  rw [y51, y21] at e21
  rw [y52, y22] at e22
  rw [y53, y23] at e23
  rw [y54, y24] at e24
  rw [y55, y25] at e25
  rw [y56, y26] at e26
  rw [y57, y27] at e27
  rw [y58, y28] at e28
  rw [y59, y29] at e29
  exact ⟨⟨by omega, by omega, by omega, by omega, by omega, by omega, by omega, by omega, by omega, by omega, by omega, by omega, by omega, by omega, by omega, by omega, by omega, by omega, by omega, by omega, by omega, by omega, by omega, by omega, by omega, by omega, by omega, by omega, by omega, by omega, by omega, by omega, by omega, by omega, by omega, by omega, by omega, by omega, by omega, by omega, by omega, by omega, by omega, by omega, by omega, by omega, by omega, by omega, by omega, by omega, by omega, by omega, by omega, by omega, by omega, by omega, by omega, by omega, by omega, by omega, trivial⟩, trivial⟩
theorem k_sp6 {V : zVw} {i : Int} (C0 : 0 ≤ i) (C1 : 0 ≤ 5 - i) : ((0 ≤ i ∧ 0 ≤ -i ∧ True) ∧ (True)) ∨ ((0 ≤ i - 1 ∧ 0 ≤ 1 - i ∧ True) ∧ (True)) ∨ ((0 ≤ i - 2 ∧ 0 ≤ 2 - i ∧ True) ∧ (True)) ∨ ((0 ≤ i - 3 ∧ 0 ≤ 3 - i ∧ True) ∧ (True)) ∨ ((0 ≤ i - 4 ∧ 0 ≤ 4 - i ∧ True) ∧ (True)) ∨ ((0 ≤ i - 5 ∧ 0 ≤ 5 - i ∧ True) ∧ (True)) := by
  simp only [and_true]
  omega
