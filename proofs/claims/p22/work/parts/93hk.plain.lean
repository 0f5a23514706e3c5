/-! ===== the lemmas in plain numbers, by program ===== -/
theorem k_mquT1 {V : zVw} {i u bb l p H q b s o a1 a2 a3 : Int} (T0 : q_rwo V H q b s o a1 a2 a3) (T1 : q_qry V (28 : Int) q b s o a1 a2 a3 i bb l) (T2 : q_qry V (17 : Int) q b s o a1 a2 a3 i (0 : Int) u) (C0 : 0 ≤ i - 1) (C1 : 0 ≤ p - i - 1) (C2 : 0 ≤ -bb - 1) (F0 : (0 : Int) ≤ 24 ∧ (24 : Int) < j_len 78 ∧ V 78 (24) = p) : (True) ∧ (q_qry V (28 : Int) q b s o a1 a2 a3 (i + 1) i u ∧ True) := by
  have z0 := g_k28 T1
  have z1 := g_k17 T2
  have h8 := g_rwo_at T0 (i := 24) (by omega) (by omega)
  have h7 := F0.2.2
  exact ⟨trivial, g_qr T0 (g_Q28 (g_qT (by omega) (by omega) z0 z1 (Or.inl (by omega)))), trivial⟩
theorem k_quaT2 {V : zVw} {i u bb l H p y d q b s o a1 a2 a3 : Int} (T0 : q_sto V 0 H p y d q b s o a1 a2 a3) (T1 : q_qry V (28 : Int) q b s o a1 a2 a3 i bb l) (T2 : q_qry V (17 : Int) q b s o a1 a2 a3 i (0 : Int) u) (C0 : 0 ≤ i - 1) (C1 : 0 ≤ p - i - 1) (C2 : 0 ≤ bb) (C3 : 0 ≤ l - u - 1) : (True) ∧ (q_qry V (28 : Int) q b s o a1 a2 a3 (i + 1) i u ∧ True) := by
  have z0 := g_k28 T1
  have z1 := g_k17 T2
  obtain ⟨⟨p1, p2, p3⟩, p4, p5⟩ := g_st0_pt T0
  have w9 := T0.1.1
  have w24 := w9.2.1
  have wH := w9.1
  exact ⟨trivial, g_qs T0 (g_Q28 (g_qT (by omega) (by omega) z0 z1 (Or.inr (by omega)))), trivial⟩
theorem k_mquT2 {V : zVw} {i u bb l p H q b s o a1 a2 a3 : Int} (T0 : q_rwo V H q b s o a1 a2 a3) (T1 : q_qry V (28 : Int) q b s o a1 a2 a3 i bb l) (T2 : q_qry V (17 : Int) q b s o a1 a2 a3 i (0 : Int) u) (C0 : 0 ≤ i - 1) (C1 : 0 ≤ p - i - 1) (C2 : 0 ≤ bb) (C3 : 0 ≤ l - u - 1) (F0 : (0 : Int) ≤ 24 ∧ (24 : Int) < j_len 78 ∧ V 78 (24) = p) : (True) ∧ (q_qry V (28 : Int) q b s o a1 a2 a3 (i + 1) i u ∧ True) := by
  have z0 := g_k28 T1
  have z1 := g_k17 T2
  have h8 := g_rwo_at T0 (i := 24) (by omega) (by omega)
  have h7 := F0.2.2
  exact ⟨trivial, g_qr T0 (g_Q28 (g_qT (by omega) (by omega) z0 z1 (Or.inr (by omega)))), trivial⟩
theorem k_quaN {V : zVw} {i u bb l H p y d q b s o a1 a2 a3 : Int} (T0 : q_sto V 0 H p y d q b s o a1 a2 a3) (T1 : q_qry V (28 : Int) q b s o a1 a2 a3 i bb l) (T2 : q_qry V (17 : Int) q b s o a1 a2 a3 i (0 : Int) u) (C0 : 0 ≤ i - 1) (C1 : 0 ≤ p - i - 1) (C2 : 0 ≤ bb) (C3 : 0 ≤ u - l) : (True) ∧ (q_qry V (28 : Int) q b s o a1 a2 a3 (i + 1) bb l ∧ True) := by
  have z0 := g_k28 T1
  have z1 := g_k17 T2
  obtain ⟨⟨p1, p2, p3⟩, p4, p5⟩ := g_st0_pt T0
  have w9 := T0.1.1
  have w24 := w9.2.1
  have wH := w9.1
  exact ⟨trivial, g_qs T0 (g_Q28 (g_qN (by omega) (by omega) z0 z1 (by omega) (by omega))), trivial⟩
theorem k_mquN {V : zVw} {i u bb l p H q b s o a1 a2 a3 : Int} (T0 : q_rwo V H q b s o a1 a2 a3) (T1 : q_qry V (28 : Int) q b s o a1 a2 a3 i bb l) (T2 : q_qry V (17 : Int) q b s o a1 a2 a3 i (0 : Int) u) (C0 : 0 ≤ i - 1) (C1 : 0 ≤ p - i - 1) (C2 : 0 ≤ bb) (C3 : 0 ≤ u - l) (F0 : (0 : Int) ≤ 24 ∧ (24 : Int) < j_len 78 ∧ V 78 (24) = p) : (True) ∧ (q_qry V (28 : Int) q b s o a1 a2 a3 (i + 1) bb l ∧ True) := by
  have z0 := g_k28 T1
  have z1 := g_k17 T2
  have h8 := g_rwo_at T0 (i := 24) (by omega) (by omega)
  have h7 := F0.2.2
  exact ⟨trivial, g_qr T0 (g_Q28 (g_qN (by omega) (by omega) z0 z1 (by omega) (by omega))), trivial⟩
theorem k_quaE {V : zVw} {i bb l H p y d q b s o a1 a2 a3 : Int} (T0 : q_sto V 0 H p y d q b s o a1 a2 a3) (T1 : q_qry V (28 : Int) q b s o a1 a2 a3 i bb l) (C0 : 0 ≤ i - p) : (True) ∧ (q_qry V (28 : Int) q b s o a1 a2 a3 p bb l ∧ True) := by
  have z0 := g_k28 T1
  obtain ⟨⟨p1, p2, p3⟩, p4, p5⟩ := g_st0_pt T0
  have w9 := T0.1.1
  have w24 := w9.2.1
  have wH := w9.1
  exact ⟨trivial, g_qs T0 (g_Q28 (g_qE p1 (by omega) z0)), trivial⟩
theorem k_mquE {V : zVw} {i bb l p H q b s o a1 a2 a3 : Int} (T0 : q_rwo V H q b s o a1 a2 a3) (T1 : q_qry V (28 : Int) q b s o a1 a2 a3 i bb l) (C0 : 0 ≤ i - p) (F0 : (0 : Int) ≤ 24 ∧ (24 : Int) < j_len 78 ∧ V 78 (24) = p) : (True) ∧ (q_qry V (28 : Int) q b s o a1 a2 a3 p bb l ∧ True) := by
  have z0 := g_k28 T1
  have h8 := g_rwo_at T0 (i := 24) (by omega) (by omega)
  have h7 := F0.2.2
  exact ⟨trivial, g_qr T0 (g_Q28 (g_qE (h7.symm.trans h8) (by omega) z0)), trivial⟩
theorem k_mqu0 {V : zVw} {H q b s o a1 a2 a3 : Int} (T0 : q_rwo V H q b s o a1 a2 a3) : (True) ∧ (q_qry V (28 : Int) q b s o a1 a2 a3 (1 : Int) (-2 : Int) (-2 : Int) ∧ True) := by
  exact ⟨trivial, g_qr T0 (g_Q28 g_q0), trivial⟩
theorem k_qeQ {V : zVw} {q p bb l bc k : Int} (T0 : q_qry V (28 : Int) q (0 : Int) (0 : Int) (0 : Int) (0 : Int) (0 : Int) (0 : Int) p bb l) (T1 : q_qry V (28 : Int) q (0 : Int) (0 : Int) (0 : Int) (0 : Int) (0 : Int) (0 : Int) p bc k) : (0 ≤ bb - bc ∧ 0 ≤ bc - bb ∧ 0 ≤ l - k ∧ 0 ≤ k - l ∧ True) ∧ (True) := by
  have h9 := g_k28 T0
  have h8 := g_k28 T1
  rw [h9] at h8
  have h7 : bb = bc := congrArg Prod.fst h8
  have h6 : l = k := congrArg Prod.snd h8
  exact ⟨⟨by omega, by omega, by omega, by omega, trivial⟩, trivial⟩
theorem k_gre0 {V : zVw} {p y d H : Int} (T0 : q_sto V 0 H p y d (0 : Int) (0 : Int) (0 : Int) (0 : Int) (0 : Int) (0 : Int) (0 : Int)) : (True) ∧ (q_qry V (29 : Int) (0 : Int) (0 : Int) (0 : Int) (0 : Int) (0 : Int) (0 : Int) (0 : Int) (0 : Int) (-2 : Int) (-2 : Int) ∧ True) := by
  exact ⟨trivial, g_qs T0 (g_Q29 g_q0), trivial⟩
theorem k_greT1 {V : zVw} {i u bb l H p y d : Int} (T0 : q_sto V 0 H p y d (0 : Int) (0 : Int) (0 : Int) (0 : Int) (0 : Int) (0 : Int) (0 : Int)) (T1 : q_qry V (29 : Int) (0 : Int) (0 : Int) (0 : Int) (0 : Int) (0 : Int) (0 : Int) (0 : Int) i bb l) (T2 : q_qry V (18 : Int) (0 : Int) (0 : Int) (0 : Int) (0 : Int) (0 : Int) (0 : Int) (0 : Int) i (0 : Int) u) (C0 : 0 ≤ i) (C1 : 0 ≤ p - i - 1) (C2 : 0 ≤ -bb - 1) : (True) ∧ (q_qry V (29 : Int) (0 : Int) (0 : Int) (0 : Int) (0 : Int) (0 : Int) (0 : Int) (0 : Int) (i + 1) i u ∧ True) := by
  have z0 := g_k29 T1
  have z1 := g_k18 T2
  obtain ⟨⟨p1, p2, p3⟩, p4, p5⟩ := g_st0_pt T0
  have w9 := T0.1.1
  have w24 := w9.2.1
  have wH := w9.1
  exact ⟨trivial, g_qs T0 (g_Q29 (g_qT (by omega) (by omega) z0 z1 (Or.inl (by omega)))), trivial⟩
theorem k_greT2 {V : zVw} {i u bb l H p y d : Int} (T0 : q_sto V 0 H p y d (0 : Int) (0 : Int) (0 : Int) (0 : Int) (0 : Int) (0 : Int) (0 : Int)) (T1 : q_qry V (29 : Int) (0 : Int) (0 : Int) (0 : Int) (0 : Int) (0 : Int) (0 : Int) (0 : Int) i bb l) (T2 : q_qry V (18 : Int) (0 : Int) (0 : Int) (0 : Int) (0 : Int) (0 : Int) (0 : Int) (0 : Int) i (0 : Int) u) (C0 : 0 ≤ i) (C1 : 0 ≤ p - i - 1) (C2 : 0 ≤ bb) (C3 : 0 ≤ l - u - 1) : (True) ∧ (q_qry V (29 : Int) (0 : Int) (0 : Int) (0 : Int) (0 : Int) (0 : Int) (0 : Int) (0 : Int) (i + 1) i u ∧ True) := by
  have z0 := g_k29 T1
  have z1 := g_k18 T2
  obtain ⟨⟨p1, p2, p3⟩, p4, p5⟩ := g_st0_pt T0
  have w9 := T0.1.1
  have w24 := w9.2.1
  have wH := w9.1
  exact ⟨trivial, g_qs T0 (g_Q29 (g_qT (by omega) (by omega) z0 z1 (Or.inr (by omega)))), trivial⟩
theorem k_greN {V : zVw} {i u bb l H p y d : Int} (T0 : q_sto V 0 H p y d (0 : Int) (0 : Int) (0 : Int) (0 : Int) (0 : Int) (0 : Int) (0 : Int)) (T1 : q_qry V (29 : Int) (0 : Int) (0 : Int) (0 : Int) (0 : Int) (0 : Int) (0 : Int) (0 : Int) i bb l) (T2 : q_qry V (18 : Int) (0 : Int) (0 : Int) (0 : Int) (0 : Int) (0 : Int) (0 : Int) (0 : Int) i (0 : Int) u) (C0 : 0 ≤ i) (C1 : 0 ≤ p - i - 1) (C2 : 0 ≤ bb) (C3 : 0 ≤ u - l) : (True) ∧ (q_qry V (29 : Int) (0 : Int) (0 : Int) (0 : Int) (0 : Int) (0 : Int) (0 : Int) (0 : Int) (i + 1) bb l ∧ True) := by
  have z0 := g_k29 T1
  have z1 := g_k18 T2
  obtain ⟨⟨p1, p2, p3⟩, p4, p5⟩ := g_st0_pt T0
  have w9 := T0.1.1
  have w24 := w9.2.1
  have wH := w9.1
  exact ⟨trivial, g_qs T0 (g_Q29 (g_qN (by omega) (by omega) z0 z1 (by omega) (by omega))), trivial⟩
theorem k_greE {V : zVw} {i bb l H p y d : Int} (T0 : q_sto V 0 H p y d (0 : Int) (0 : Int) (0 : Int) (0 : Int) (0 : Int) (0 : Int) (0 : Int)) (T1 : q_qry V (29 : Int) (0 : Int) (0 : Int) (0 : Int) (0 : Int) (0 : Int) (0 : Int) (0 : Int) i bb l) (C0 : 0 ≤ i - p) : (True) ∧ (q_qry V (29 : Int) (0 : Int) (0 : Int) (0 : Int) (0 : Int) (0 : Int) (0 : Int) (0 : Int) p bb l ∧ True) := by
  have z0 := g_k29 T1
  obtain ⟨⟨p1, p2, p3⟩, p4, p5⟩ := g_st0_pt T0
  have w9 := T0.1.1
  have w24 := w9.2.1
  have wH := w9.1
  exact ⟨trivial, g_qs T0 (g_Q29 (g_qE p1 (by omega) z0)), trivial⟩
theorem k_nstp {V : zVw} {i v w p H y d : Int} (T0 : q_sto V 0 H p y d (0 : Int) (0 : Int) (0 : Int) (0 : Int) (0 : Int) (0 : Int) (0 : Int)) (C0 : 0 ≤ i) (C1 : 0 ≤ p - i - 1) (C2 : 0 ≤ 5 - i) (F0 : (0 : Int) ≤ i + 25 ∧ (i + 25 : Int) < j_len 77 ∧ V 77 (i + 25) = w) (F1 : (0 : Int) ≤ w + 12 ∧ (w + 12 : Int) < j_len 77 ∧ V 77 (w + 12) = v) : (True) ∧ (q_qry V (18 : Int) (0 : Int) (0 : Int) (0 : Int) (0 : Int) (0 : Int) (0 : Int) (0 : Int) i (0 : Int) v ∧ True) := by
  obtain ⟨⟨p1, p2, p3⟩, p4, p5⟩ := g_st0_pt T0
  have w9 := T0.1.1
  have w24 := w9.2.1
  have wH := w9.1
  have y8 := w9.pl_lt (i := i) (by omega) (by omega)
  have y7 : g_nw V (i + 25) = V 77 (i + 25) := g_b0 (by omega) (by omega)
  have y6 : g_nw V (25 + i) = w := by rw [show 25 + i = i + 25 by omega, y7]; exact F0.2.2
  have y5 : 0 ≤ w ∧ w < 6 := by
    rw [← y6]
    exact ⟨y8.1, y8.2.2⟩
  have y4 : g_nw V (w + 12) = V 77 (w + 12) := g_b0 (by omega) (by omega)
  exact ⟨trivial, g_qs T0 (show v = g_nw V (12 + g_nw V (25 + i)) by rw [y6, show 12 + w = w + 12 by omega, y4]; exact F1.2.2.symm), trivial⟩
theorem k_nstq {V : zVw} {i v w p H y d n : Int} (T0 : q_sto V 0 H p y d (0 : Int) (0 : Int) (0 : Int) (0 : Int) (0 : Int) (0 : Int) (0 : Int)) (C0 : 0 ≤ i) (C1 : 0 ≤ n - i - 1) (C2 : 0 ≤ p - n) (C3 : 0 ≤ n - p) (C4 : 0 ≤ 5 - i) (F0 : (0 : Int) ≤ i + 25 ∧ (i + 25 : Int) < j_len 77 ∧ V 77 (i + 25) = w) (F1 : (0 : Int) ≤ w + 12 ∧ (w + 12 : Int) < j_len 77 ∧ V 77 (w + 12) = v) (F2 : (0 : Int) ≤ 24 ∧ (24 : Int) < j_len 77 ∧ V 77 (24) = n) : (True) ∧ (q_qry V (18 : Int) (0 : Int) (0 : Int) (0 : Int) (0 : Int) (0 : Int) (0 : Int) (0 : Int) i (0 : Int) v ∧ True) := by
  obtain ⟨⟨p1, p2, p3⟩, p4, p5⟩ := g_st0_pt T0
  have w9 := T0.1.1
  have w24 := w9.2.1
  have wH := w9.1
  have y8 := w9.pl_lt (i := i) (by omega) (by omega)
  have y7 : g_nw V (i + 25) = V 77 (i + 25) := g_b0 (by omega) (by omega)
  have y6 : g_nw V (25 + i) = w := by rw [show 25 + i = i + 25 by omega, y7]; exact F0.2.2
  have y5 : 0 ≤ w ∧ w < 6 := by
    rw [← y6]
    exact ⟨y8.1, y8.2.2⟩
  have y4 : g_nw V (w + 12) = V 77 (w + 12) := g_b0 (by omega) (by omega)
  exact ⟨trivial, g_qs T0 (show v = g_nw V (12 + g_nw V (25 + i)) by rw [y6, show 12 + w = w + 12 by omega, y4]; exact F1.2.2.symm), trivial⟩
theorem k_grx0 {V : zVw} {p y d H : Int} (T0 : q_sto V 0 H p y d (0 : Int) (0 : Int) (0 : Int) (0 : Int) (0 : Int) (0 : Int) (0 : Int)) : (True) ∧ (q_qry V (30 : Int) (0 : Int) (0 : Int) (0 : Int) (0 : Int) (0 : Int) (0 : Int) (0 : Int) (0 : Int) (-2 : Int) (0 : Int) ∧ True) := by
  exact ⟨trivial, g_qs T0 (g_Q30 (congrArg Prod.fst g_q0)), trivial⟩
theorem k_grxA {V : zVw} {n i bb H p y d : Int} (T0 : q_sto V 0 H p y d (0 : Int) (0 : Int) (0 : Int) (0 : Int) (0 : Int) (0 : Int) (0 : Int)) (T1 : q_qry V (30 : Int) (0 : Int) (0 : Int) (0 : Int) (0 : Int) (0 : Int) (0 : Int) (0 : Int) i bb (0 : Int)) (C0 : 0 ≤ i) (C1 : 0 ≤ n - i - 1) (C2 : 0 ≤ p - n) (C3 : 0 ≤ n - p) (C4 : 0 ≤ -bb - 1) (F0 : (0 : Int) ≤ 24 ∧ (24 : Int) < j_len 77 ∧ V 77 (24) = n) : (0 ≤ p - i - 1 ∧ True) ∧ (q_qry V (30 : Int) (0 : Int) (0 : Int) (0 : Int) (0 : Int) (0 : Int) (0 : Int) (0 : Int) (i + 1) i (0 : Int) ∧ True) := by
  have z0 := g_k30 T1
  obtain ⟨⟨p1, p2, p3⟩, p4, p5⟩ := g_st0_pt T0
  have w9 := T0.1.1
  have w24 := w9.2.1
  have wH := w9.1
  exact ⟨⟨by omega, trivial⟩, g_qs T0 (g_Q30 (g_qA' (by omega) (by omega) z0 (by omega))), trivial⟩
theorem k_grxB {V : zVw} {n i bb v w H p y d : Int} (T0 : q_sto V 0 H p y d (0 : Int) (0 : Int) (0 : Int) (0 : Int) (0 : Int) (0 : Int) (0 : Int)) (T1 : q_qry V (30 : Int) (0 : Int) (0 : Int) (0 : Int) (0 : Int) (0 : Int) (0 : Int) (0 : Int) i bb (0 : Int)) (T2 : q_qry V (18 : Int) (0 : Int) (0 : Int) (0 : Int) (0 : Int) (0 : Int) (0 : Int) (0 : Int) i (0 : Int) v) (T3 : q_qry V (18 : Int) (0 : Int) (0 : Int) (0 : Int) (0 : Int) (0 : Int) (0 : Int) (0 : Int) bb (0 : Int) w) (C0 : 0 ≤ i) (C1 : 0 ≤ n - i - 1) (C2 : 0 ≤ p - n) (C3 : 0 ≤ n - p) (C4 : 0 ≤ bb) (C5 : 0 ≤ w - v - 1) (F0 : (0 : Int) ≤ 24 ∧ (24 : Int) < j_len 77 ∧ V 77 (24) = n) : (0 ≤ p - i - 1 ∧ True) ∧ (q_qry V (30 : Int) (0 : Int) (0 : Int) (0 : Int) (0 : Int) (0 : Int) (0 : Int) (0 : Int) (i + 1) i (0 : Int) ∧ True) := by
  have z0 := g_k30 T1
  have z1 := g_k18 T2
  have z2 := g_k18 T3
  obtain ⟨⟨p1, p2, p3⟩, p4, p5⟩ := g_st0_pt T0
  have w9 := T0.1.1
  have w24 := w9.2.1
  have wH := w9.1
  exact ⟨⟨by omega, trivial⟩, g_qs T0 (g_Q30 (g_qB' (by omega) (by omega) (by omega) z0 (by omega) z1 z2 (by omega))), trivial⟩
theorem k_grxN {V : zVw} {n i bb v w H p y d : Int} (T0 : q_sto V 0 H p y d (0 : Int) (0 : Int) (0 : Int) (0 : Int) (0 : Int) (0 : Int) (0 : Int)) (T1 : q_qry V (30 : Int) (0 : Int) (0 : Int) (0 : Int) (0 : Int) (0 : Int) (0 : Int) (0 : Int) i bb (0 : Int)) (T2 : q_qry V (18 : Int) (0 : Int) (0 : Int) (0 : Int) (0 : Int) (0 : Int) (0 : Int) (0 : Int) i (0 : Int) v) (T3 : q_qry V (18 : Int) (0 : Int) (0 : Int) (0 : Int) (0 : Int) (0 : Int) (0 : Int) (0 : Int) bb (0 : Int) w) (C0 : 0 ≤ i) (C1 : 0 ≤ n - i - 1) (C2 : 0 ≤ p - n) (C3 : 0 ≤ n - p) (C4 : 0 ≤ bb) (C5 : 0 ≤ v - w) (F0 : (0 : Int) ≤ 24 ∧ (24 : Int) < j_len 77 ∧ V 77 (24) = n) : (True) ∧ (q_qry V (30 : Int) (0 : Int) (0 : Int) (0 : Int) (0 : Int) (0 : Int) (0 : Int) (0 : Int) (i + 1) bb (0 : Int) ∧ True) := by
  have z0 := g_k30 T1
  have z1 := g_k18 T2
  have z2 := g_k18 T3
  obtain ⟨⟨p1, p2, p3⟩, p4, p5⟩ := g_st0_pt T0
  have w9 := T0.1.1
  have w24 := w9.2.1
  have wH := w9.1
  exact ⟨trivial, g_qs T0 (g_Q30 (g_qC' (by omega) (by omega) (by omega) z0 (by omega) z1 z2 (by omega))), trivial⟩
theorem k_grxE {V : zVw} {n i bb H p y d : Int} (T0 : q_sto V 0 H p y d (0 : Int) (0 : Int) (0 : Int) (0 : Int) (0 : Int) (0 : Int) (0 : Int)) (T1 : q_qry V (30 : Int) (0 : Int) (0 : Int) (0 : Int) (0 : Int) (0 : Int) (0 : Int) (0 : Int) i bb (0 : Int)) (C0 : 0 ≤ i - n) (C1 : 0 ≤ p - n) (C2 : 0 ≤ n - p) (F0 : (0 : Int) ≤ 24 ∧ (24 : Int) < j_len 77 ∧ V 77 (24) = n) : (True) ∧ (q_qry V (30 : Int) (0 : Int) (0 : Int) (0 : Int) (0 : Int) (0 : Int) (0 : Int) (0 : Int) p bb (0 : Int) ∧ True) := by
  have z0 := g_k30 T1
  obtain ⟨⟨p1, p2, p3⟩, p4, p5⟩ := g_st0_pt T0
  have w9 := T0.1.1
  have w24 := w9.2.1
  have wH := w9.1
  exact ⟨trivial, g_qs T0 (g_Q30 (g_qE' p1 (by omega) z0)), trivial⟩
theorem k_qeG {V : zVw} {p bb l bc : Int} (T0 : q_qry V (29 : Int) (0 : Int) (0 : Int) (0 : Int) (0 : Int) (0 : Int) (0 : Int) (0 : Int) p bb l) (T1 : q_qry V (30 : Int) (0 : Int) (0 : Int) (0 : Int) (0 : Int) (0 : Int) (0 : Int) (0 : Int) p bc (0 : Int)) : (0 ≤ bb - bc ∧ 0 ≤ bc - bb ∧ True) ∧ (True) := by
  have h9 := g_k29 T0
  have h8 := g_k30 T1
  rw [h9] at h8
  have h7 : bb = bc := h8
  exact ⟨⟨by omega, by omega, trivial⟩, trivial⟩
theorem k_qeGN {V : zVw} {p bb l bc : Int} (T0 : q_qry V (29 : Int) (0 : Int) (0 : Int) (0 : Int) (0 : Int) (0 : Int) (0 : Int) (0 : Int) p bb l) (T1 : q_qry V (30 : Int) (0 : Int) (0 : Int) (0 : Int) (0 : Int) (0 : Int) (0 : Int) (0 : Int) p bc (0 : Int)) (C0 : 0 ≤ -bc - 1) : (0 ≤ l - bc ∧ 0 ≤ bc - l ∧ True) ∧ (True) := by
  have h9 := g_k29 T0
  have h8 := g_k30 T1
  rw [h9] at h8
  have h7 : bb = bc := h8
  have h6 := g_ar_n (by omega) h9 (by omega)
  exact ⟨⟨by omega, by omega, trivial⟩, trivial⟩
theorem k_qeGS {V : zVw} {p bb l v : Int} (T0 : q_qry V (29 : Int) (0 : Int) (0 : Int) (0 : Int) (0 : Int) (0 : Int) (0 : Int) (0 : Int) p bb l) (T1 : q_qry V (18 : Int) (0 : Int) (0 : Int) (0 : Int) (0 : Int) (0 : Int) (0 : Int) (0 : Int) bb (0 : Int) v) (C0 : 0 ≤ bb) : (0 ≤ l - v ∧ 0 ≤ v - l ∧ True) ∧ (True) := by
  have h9 := g_k29 T0
  have z1 := g_k18 T1
  have h8 := g_ar_2 (by omega) (congrArg Prod.fst h9) (by omega)
  rw [h9] at h8
  have h7 : l = v := h8.trans z1.symm
  exact ⟨⟨by omega, by omega, trivial⟩, trivial⟩
theorem k_stt0 {V : zVw} {H p y d : Int} (T0 : (1 ≤ (1 : Int) ∧ (1 : Int) ≤ 44) ∧ q_eqs V (1 : Int) H p y d) (T1 : q_sto V 0 H p y d (0 : Int) (0 : Int) (0 : Int) (0 : Int) (0 : Int) (0 : Int) (0 : Int)) : (True) ∧ (q_sto V 1 H p y d (0 : Int) (0 : Int) (0 : Int) (0 : Int) (0 : Int) (0 : Int) (0 : Int) ∧ True) := by
  have h9 := (g_eqs_kp T0.2 T1).2.2
  unfold g_fv at h9
  rw [T0.2.2.1.1, T0.2.2.1.2.1, T0.2.2.1.2.2.1, T0.2.2.1.2.2.2] at h9
  exact ⟨trivial, ⟨T1.1, h9⟩, trivial⟩
theorem k_ts5 {V : zVw} {h s H p y d q b : Int} (T0 : q_sto V 1 H p y d (0 : Int) (0 : Int) (0 : Int) (0 : Int) (0 : Int) (0 : Int) (0 : Int)) : (True) ∧ (q_sto V 1 H p y d q b s (5 : Int) (0 : Int) h (0 : Int) ∧ True) := by
  exact ⟨trivial, g_sto50 T0, trivial⟩
theorem k_celS0t {V : zVw} {h H p y d q b s o a1 a2 a3 : Int} (T0 : q_sto V 1 H p y d q b s o a1 a2 a3) (T1 : q_qry V (6 : Int) q b s o a1 a2 a3 h (0 : Int) (-1 : Int)) (C0 : 0 ≤ h) (C1 : 0 ≤ H - h - 1) (C2 : 0 ≤ 6 - H) : (True) ∧ (q_qry V (8 : Int) q b s o a1 a2 a3 (h + 12) (0 : Int) (0 : Int) ∧ True) := by
  have h9 := T0.1.1.at_no (g_k6 T1) (by omega) (by omega)
  exact ⟨trivial, g_qq T1 (show (0 : Int) = (g_F V q b s o a1 a2 a3 (g_nw V)) (h + 12) by rw [show h + 12 = 12 + h by omega]; exact h9.2.symm), trivial⟩
theorem k_o54a {V : zVw} {h u n H p y d q b s : Int} (T0 : q_sto V 1 H p y d q b s (5 : Int) n h (0 : Int)) (T1 : q_qry V (8 : Int) q b s (5 : Int) n h (0 : Int) h (0 : Int) u) (C0 : 0 ≤ h) (C1 : 0 ≤ H - h - 1) (C2 : 0 ≤ 6 - H) (C3 : 0 ≤ n) : (True) ∧ (q_qry V (8 : Int) q b s (4 : Int) n (0 : Int) H h (0 : Int) u ∧ True) := by
  have w9 : g_wf H (g_nw V) := T0.1.2.1
  have wH := w9.1
  have z0 := g_k8 T1
  have h9 : g_F V q b s 4 n 0 H (g_nw V) h = g_F V q b s 5 n h 0 (g_nw V) h := g_hs_F (by omega) (by omega) (by omega) _ (Or.inl rfl)
  exact ⟨trivial, ⟨⟨H, g_wf_F4 w9⟩, show u = g_F V q b s 4 n 0 H (g_nw V) h by rw [h9]; exact z0⟩, trivial⟩
theorem k_o54b {V : zVw} {h u n H p y d q b s : Int} (T0 : q_sto V 1 H p y d q b s (5 : Int) n h (0 : Int)) (T1 : q_qry V (8 : Int) q b s (5 : Int) n h (0 : Int) (h + 12) (0 : Int) u) (C0 : 0 ≤ h) (C1 : 0 ≤ H - h - 1) (C2 : 0 ≤ 6 - H) (C3 : 0 ≤ n) : (True) ∧ (q_qry V (8 : Int) q b s (4 : Int) n (0 : Int) H (h + 12) (0 : Int) u ∧ True) := by
  have w9 : g_wf H (g_nw V) := T0.1.2.1
  have wH := w9.1
  have z0 := g_k8 T1
  have h9 : g_F V q b s 4 n 0 H (g_nw V) (h + 12) = g_F V q b s 5 n h 0 (g_nw V) (h + 12) := g_hs_F (by omega) (by omega) (by omega) _ (Or.inr (Or.inr (Or.inl (by omega))))
  exact ⟨trivial, ⟨⟨H, g_wf_F4 w9⟩, show u = g_F V q b s 4 n 0 H (g_nw V) (h + 12) by rw [h9]; exact z0⟩, trivial⟩
theorem k_qeCq {V : zVw} {h u w q b s o a1 a2 a3 : Int} (T0 : q_qry V (8 : Int) q b s o a1 a2 a3 h (0 : Int) u) (T1 : q_qry V (8 : Int) q b s o a1 a2 a3 h (0 : Int) w) : (0 ≤ u - w ∧ 0 ≤ w - u ∧ True) ∧ (True) := by
  have h9 := g_k8 T0
  have h8 := g_k8 T1
  exact ⟨⟨by omega, by omega, trivial⟩, trivial⟩
theorem k_yeaI {V : zVw} {h v n q b s H p y d : Int} (T0 : q_sto V 0 H p y d (0 : Int) (0 : Int) (0 : Int) (0 : Int) (0 : Int) (0 : Int) (0 : Int)) : (True) ∧ (q_qry V (40 : Int) q b s (0 : Int) (0 : Int) (0 : Int) (0 : Int) (h + 6 * v + 600 * n) (0 : Int) (0 : Int) ∧ True) := by
  exact ⟨trivial, ⟨⟨H, by rw [g_F0]; exact T0.1.2.1⟩, g_Q40 g_ye0⟩, trivial⟩
theorem k_yeaY {V : zVw} {i g n v h t u x q b s : Int} (T0 : q_qry V (8 : Int) q b t (5 : Int) n h (0 : Int) h (0 : Int) u) (T1 : q_qry V (40 : Int) q b s (0 : Int) (0 : Int) (0 : Int) (0 : Int) x i g) (C0 : 0 ≤ x - 600 * n - 6 * v - h) (C1 : 0 ≤ 600 * n + 6 * v + h - x) (C2 : 0 ≤ t - i - s) (C3 : 0 ≤ i + s - t) (C4 : 0 ≤ h) (C5 : 0 ≤ 5 - h) (C6 : 0 ≤ v) (C7 : 0 ≤ 99 - v) (C8 : 0 ≤ n) (C9 : 0 ≤ i) (C10 : 0 ≤ u - v) (C11 : 0 ≤ 100 - i) : (0 ≤ 100 - g ∧ 0 ≤ g ∧ True) ∧ (q_qry V (40 : Int) q b s (0 : Int) (0 : Int) (0 : Int) (0 : Int) x (i + 1) (g + 1) ∧ True) := by
  have e6 : x % 6 = h := by omega
  have e5 : x / 6 % 100 = v := by omega
  have e4 : x / 600 = n := by omega
  have e3 : s + i = t := by omega
  have z2 : i.toNat ≤ 1000 ∨ 1000 < i.toNat := by omega
  have z9 : u = g_ys V q b t h (g_F V q b s 0 0 0 0 (g_nw V)) n.toNat h := g_k8 T0
  have z1 := g_k40 T1
  have h8 := g_ye_b (f := fun k => g_ys V q b (s + k) (x % 6) (g_F V q b s 0 0 0 0 (g_nw V)) (x / 600).toNat (x % 6)) (w := x / 6 % 100) i.toNat
  have h9 := g_ye_s (f := fun k => g_ys V q b (s + k) (x % 6) (g_F V q b s 0 0 0 0 (g_nw V)) (x / 600).toNat (x % 6)) (w := x / 6 % 100) (i := i) (by omega)
  have h7 : g_ys V q b (s + i) (x % 6) (g_F V q b s 0 0 0 0 (g_nw V)) (x / 600).toNat (x % 6) = u := by
    rw [e6, e4, e3]
    exact z9.symm
  rw [h7, ← z1] at h9
  rw [← z1] at h8
  rw [if_pos (by omega)] at h9
  exact ⟨⟨by omega, by omega, trivial⟩, g_qq T1 (g_Q40 h9.symm), trivial⟩
theorem k_yeaN {V : zVw} {i g n v h t u x q b s : Int} (T0 : q_qry V (8 : Int) q b t (5 : Int) n h (0 : Int) h (0 : Int) u) (T1 : q_qry V (40 : Int) q b s (0 : Int) (0 : Int) (0 : Int) (0 : Int) x i g) (C0 : 0 ≤ x - 600 * n - 6 * v - h) (C1 : 0 ≤ 600 * n + 6 * v + h - x) (C2 : 0 ≤ t - i - s) (C3 : 0 ≤ i + s - t) (C4 : 0 ≤ h) (C5 : 0 ≤ 5 - h) (C6 : 0 ≤ v) (C7 : 0 ≤ 99 - v) (C8 : 0 ≤ n) (C9 : 0 ≤ i) (C10 : 0 ≤ v - u - 1) : (True) ∧ (q_qry V (40 : Int) q b s (0 : Int) (0 : Int) (0 : Int) (0 : Int) x (i + 1) g ∧ True) := by
  have e6 : x % 6 = h := by omega
  have e5 : x / 6 % 100 = v := by omega
  have e4 : x / 600 = n := by omega
  have e3 : s + i = t := by omega
  have z2 : i.toNat ≤ 1000 ∨ 1000 < i.toNat := by omega
  have z9 : u = g_ys V q b t h (g_F V q b s 0 0 0 0 (g_nw V)) n.toNat h := g_k8 T0
  have z1 := g_k40 T1
  have h8 := g_ye_b (f := fun k => g_ys V q b (s + k) (x % 6) (g_F V q b s 0 0 0 0 (g_nw V)) (x / 600).toNat (x % 6)) (w := x / 6 % 100) i.toNat
  have h9 := g_ye_s (f := fun k => g_ys V q b (s + k) (x % 6) (g_F V q b s 0 0 0 0 (g_nw V)) (x / 600).toNat (x % 6)) (w := x / 6 % 100) (i := i) (by omega)
  have h7 : g_ys V q b (s + i) (x % 6) (g_F V q b s 0 0 0 0 (g_nw V)) (x / 600).toNat (x % 6) = u := by
    rw [e6, e4, e3]
    exact z9.symm
  rw [h7, ← z1] at h9
  rw [← z1] at h8
  rw [if_neg (by omega)] at h9
  exact ⟨trivial, g_qq T1 (g_Q40 ((Int.add_zero g).symm.trans h9.symm)), trivial⟩
theorem k_y0k {V : zVw} {t b H q l x : Int} (T0 : q_rwo V H (0 : Int) (0 : Int) (0 : Int) (0 : Int) (0 : Int) (0 : Int) (0 : Int)) (T1 : (1 : Int) = 1 → q_leq V l x q) (T2 : 0 ≤ l ∧ l ≠ x ∧ V 63 l = b) : (True) ∧ (q_rwo V H q b t (4 : Int) (0 : Int) (0 : Int) H ∧ True) := by
  exact ⟨trivial, g_rwo40 T0, trivial⟩
theorem k_myeI {V : zVw} {h v n H p y d q b s l x : Int} (T0 : q_sto V 0 H p y d (0 : Int) (0 : Int) (0 : Int) (0 : Int) (0 : Int) (0 : Int) (0 : Int)) (T1 : (1 : Int) = 1 → q_leq V l x q) (T2 : 0 ≤ l ∧ l ≠ x ∧ V 63 l = b) (T3 : 0 ≤ l ∧ l ≠ x ∧ V 64 l = s) : (True) ∧ (q_qry V (40 : Int) q b s (0 : Int) (0 : Int) (0 : Int) (0 : Int) (h + 6 * v + 600 * n) (0 : Int) (0 : Int) ∧ True) := by
  exact ⟨trivial, ⟨⟨H, by rw [g_F0]; exact T0.1.2.1⟩, g_Q40 g_ye0⟩, trivial⟩
theorem k_myeY {V : zVw} {i g n v h t u x H q b s : Int} (T0 : q_qry V (8 : Int) q b t (4 : Int) n (0 : Int) H h (0 : Int) u) (T1 : q_rwo V H q b t (4 : Int) n (0 : Int) H) (T2 : q_qry V (40 : Int) q b s (0 : Int) (0 : Int) (0 : Int) (0 : Int) x i g) (C0 : 0 ≤ x - 600 * n - 6 * v - h) (C1 : 0 ≤ 600 * n + 6 * v + h - x) (C2 : 0 ≤ t - i - s) (C3 : 0 ≤ i + s - t) (C4 : 0 ≤ h) (C5 : 0 ≤ 5 - h) (C6 : 0 ≤ v) (C7 : 0 ≤ 99 - v) (C8 : 0 ≤ n) (C9 : 0 ≤ i) (C10 : 0 ≤ u - v) (C11 : 0 ≤ H - h - 1) (C12 : 0 ≤ 100 - i) : (0 ≤ 100 - g ∧ 0 ≤ g ∧ True) ∧ (q_qry V (40 : Int) q b s (0 : Int) (0 : Int) (0 : Int) (0 : Int) x (i + 1) (g + 1) ∧ True) := by
  have e6 : x % 6 = h := by omega
  have e5 : x / 6 % 100 = v := by omega
  have e4 : x / 600 = n := by omega
  have e3 : s + i = t := by omega
  have z2 : i.toNat ≤ 1000 ∨ 1000 < i.toNat := by omega
  have w9 : g_wf H (g_nw V) := T1.1.2.1
  have wH := w9.1
  have y9 : g_F V q b t 4 n 0 H (g_nw V) h = g_F V q b t 5 n h 0 (g_nw V) h := g_hs_F (by omega) (by omega) (by omega) _ (Or.inl rfl)
  have z9 : u = g_ys V q b t h (g_F V q b s 0 0 0 0 (g_nw V)) n.toNat h := (g_k8 T0).trans y9
  have z1 := g_k40 T2
  have h8 := g_ye_b (f := fun k => g_ys V q b (s + k) (x % 6) (g_F V q b s 0 0 0 0 (g_nw V)) (x / 600).toNat (x % 6)) (w := x / 6 % 100) i.toNat
  have h9 := g_ye_s (f := fun k => g_ys V q b (s + k) (x % 6) (g_F V q b s 0 0 0 0 (g_nw V)) (x / 600).toNat (x % 6)) (w := x / 6 % 100) (i := i) (by omega)
  have h7 : g_ys V q b (s + i) (x % 6) (g_F V q b s 0 0 0 0 (g_nw V)) (x / 600).toNat (x % 6) = u := by
    rw [e6, e4, e3]
    exact z9.symm
  rw [h7, ← z1] at h9
  rw [← z1] at h8
  rw [if_pos (by omega)] at h9
  exact ⟨⟨by omega, by omega, trivial⟩, g_qq T2 (g_Q40 h9.symm), trivial⟩
theorem k_myeN {V : zVw} {i g n v h t u x H q b s : Int} (T0 : q_qry V (8 : Int) q b t (4 : Int) n (0 : Int) H h (0 : Int) u) (T1 : q_rwo V H q b t (4 : Int) n (0 : Int) H) (T2 : q_qry V (40 : Int) q b s (0 : Int) (0 : Int) (0 : Int) (0 : Int) x i g) (C0 : 0 ≤ x - 600 * n - 6 * v - h) (C1 : 0 ≤ 600 * n + 6 * v + h - x) (C2 : 0 ≤ t - i - s) (C3 : 0 ≤ i + s - t) (C4 : 0 ≤ h) (C5 : 0 ≤ 5 - h) (C6 : 0 ≤ v) (C7 : 0 ≤ 99 - v) (C8 : 0 ≤ n) (C9 : 0 ≤ i) (C10 : 0 ≤ v - u - 1) (C11 : 0 ≤ H - h - 1) : (True) ∧ (q_qry V (40 : Int) q b s (0 : Int) (0 : Int) (0 : Int) (0 : Int) x (i + 1) g ∧ True) := by
  have e6 : x % 6 = h := by omega
  have e5 : x / 6 % 100 = v := by omega
  have e4 : x / 600 = n := by omega
  have e3 : s + i = t := by omega
  have z2 : i.toNat ≤ 1000 ∨ 1000 < i.toNat := by omega
  have w9 : g_wf H (g_nw V) := T1.1.2.1
  have wH := w9.1
  have y9 : g_F V q b t 4 n 0 H (g_nw V) h = g_F V q b t 5 n h 0 (g_nw V) h := g_hs_F (by omega) (by omega) (by omega) _ (Or.inl rfl)
  have z9 : u = g_ys V q b t h (g_F V q b s 0 0 0 0 (g_nw V)) n.toNat h := (g_k8 T0).trans y9
  have z1 := g_k40 T2
  have h8 := g_ye_b (f := fun k => g_ys V q b (s + k) (x % 6) (g_F V q b s 0 0 0 0 (g_nw V)) (x / 600).toNat (x % 6)) (w := x / 6 % 100) i.toNat
  have h9 := g_ye_s (f := fun k => g_ys V q b (s + k) (x % 6) (g_F V q b s 0 0 0 0 (g_nw V)) (x / 600).toNat (x % 6)) (w := x / 6 % 100) (i := i) (by omega)
  have h7 : g_ys V q b (s + i) (x % 6) (g_F V q b s 0 0 0 0 (g_nw V)) (x / 600).toNat (x % 6) = u := by
    rw [e6, e4, e3]
    exact z9.symm
  rw [h7, ← z1] at h9
  rw [← z1] at h8
  rw [if_neg (by omega)] at h9
  exact ⟨trivial, g_qq T2 (g_Q40 ((Int.add_zero g).symm.trans h9.symm)), trivial⟩
theorem k_qeY {V : zVw} {x k u w q b s : Int} (T0 : q_qry V (40 : Int) q b s (0 : Int) (0 : Int) (0 : Int) (0 : Int) x k u) (T1 : q_qry V (40 : Int) q b s (0 : Int) (0 : Int) (0 : Int) (0 : Int) x k w) : (0 ≤ u - w ∧ 0 ≤ w - u ∧ True) ∧ (True) := by
  have h9 := g_k40 T0
  have h8 := g_k40 T1
  exact ⟨⟨by omega, by omega, trivial⟩, trivial⟩
theorem k_ts4 {V : zVw} {H p y d q : Int} (T0 : q_sto V 1 H p y d (0 : Int) (0 : Int) (0 : Int) (0 : Int) (0 : Int) (0 : Int) (0 : Int)) : (True) ∧ (q_sto V 1 H p y d q (0 : Int) (0 : Int) (4 : Int) (0 : Int) (0 : Int) H ∧ True) := by
  exact ⟨trivial, g_sto40 T0, trivial⟩
theorem k_nby0 {V : zVw} {w H p y d q : Int} (T0 : q_sto V 0 H p y d (0 : Int) (0 : Int) (0 : Int) (0 : Int) (0 : Int) (0 : Int) (0 : Int)) (C0 : 0 ≤ w) (C1 : 0 ≤ H) (C2 : 0 ≤ 6 - H) : (True) ∧ (q_qry V (41 : Int) q (0 : Int) (0 : Int) (0 : Int) (0 : Int) (0 : Int) (0 : Int) (10 * w + H) (0 : Int) (0 : Int) ∧ True) := by
  exact ⟨trivial, ⟨⟨H, by rw [g_F0]; exact T0.1.2.1⟩, g_Q41 (fun k k0 k1 => by omega)⟩, trivial⟩
theorem k_lasY {V : zVw} {n w x H m i q : Int} (T0 : q_mgn V q (0 : Int) (0 : Int) (4 : Int) n (0 : Int) H (-2 : Int) m) (T1 : (0 ≤ i ∧ i < m ∧ V 25 i < w ∧ ∀ t : Int, 0 ≤ t → t < i → w ≤ V 25 t) ∨ (i = -1 ∧ ∀ t : Int, 0 ≤ t → t < m → w ≤ V 25 t)) (T2 : q_qry V (41 : Int) q (0 : Int) (0 : Int) (0 : Int) (0 : Int) (0 : Int) (0 : Int) x n (0 : Int)) (C0 : 0 ≤ x - 10 * w - H) (C1 : 0 ≤ 10 * w + H - x) (C2 : 0 ≤ w) (C3 : 0 ≤ H) (C4 : 0 ≤ 6 - H) (C5 : 0 ≤ n) (C6 : 0 ≤ i) (C7 : 0 ≤ 60 - n) (C8 : 0 ≤ 999 - w) : (True) ∧ (q_qry V (42 : Int) q (0 : Int) (0 : Int) (0 : Int) (0 : Int) (0 : Int) (0 : Int) x (0 : Int) n ∧ True) := by
  have e6 : x % 10 = H := by omega
  have e5 : x / 10 = w := by omega
  have z1 := g_k41 T2
  have z9 : g_br V q (g_yr V q 0 0 (x % 10) (g_F V q 0 0 0 0 0 0 (g_nw V)) n.toNat) (x / 10) (i + 1) := by
    rw [e6, e5]
    exact g_brk1 T0 T1 (by omega) (by omega)
  exact ⟨trivial, g_qq T2 (g_Q42 (Or.inl ⟨by omega, by omega, z1, i + 1, by omega, z9⟩)), trivial⟩
theorem k_lasN {V : zVw} {n w x H m q : Int} (T0 : q_mgn V q (0 : Int) (0 : Int) (4 : Int) n (0 : Int) H (-2 : Int) m) (T1 : (0 ≤ (-1 : Int) ∧ (-1 : Int) < m ∧ V 25 (-1 : Int) < w ∧ ∀ t : Int, 0 ≤ t → t < (-1 : Int) → w ≤ V 25 t) ∨ ((-1 : Int) = -1 ∧ ∀ t : Int, 0 ≤ t → t < m → w ≤ V 25 t)) (T2 : q_qry V (41 : Int) q (0 : Int) (0 : Int) (0 : Int) (0 : Int) (0 : Int) (0 : Int) x n (0 : Int)) (C0 : 0 ≤ x - 10 * w - H) (C1 : 0 ≤ 10 * w + H - x) (C2 : 0 ≤ w) (C3 : 0 ≤ H) (C4 : 0 ≤ 6 - H) (C5 : 0 ≤ n) (C6 : 0 ≤ 999 - w) : (True) ∧ (q_qry V (41 : Int) q (0 : Int) (0 : Int) (0 : Int) (0 : Int) (0 : Int) (0 : Int) x (n + 1) (0 : Int) ∧ True) := by
  have e6 : x % 10 = H := by omega
  have e5 : x / 10 = w := by omega
  have z1 := g_k41 T2
  have z9 : g_br V q (g_yr V q 0 0 (x % 10) (g_F V q 0 0 0 0 0 0 (g_nw V)) n.toNat) (x / 10) (-1) := by
    rw [e6, e5]
    exact g_brk0 T0 T1 (by omega)
  exact ⟨trivial, g_qq T2 (g_Q41 (fun k k0 k1 => by
    by_cases c9 : k < n
    · exact z1 k k0 c9
    · rw [show k = n by omega]; exact z9)), trivial⟩
theorem k_lasZ {V : zVw} {n x q : Int} (T0 : q_qry V (41 : Int) q (0 : Int) (0 : Int) (0 : Int) (0 : Int) (0 : Int) (0 : Int) x n (0 : Int)) (C0 : 0 ≤ n - 61) : (True) ∧ (q_qry V (42 : Int) q (0 : Int) (0 : Int) (0 : Int) (0 : Int) (0 : Int) (0 : Int) x (0 : Int) (-2 : Int) ∧ True) := by
  have z1 := g_k41 T0
  exact ⟨trivial, g_qq T0 (g_Q42 (Or.inr ⟨rfl, fun k k0 k1 => z1 k k0 (by omega)⟩)), trivial⟩
theorem k_y0s {V : zVw} {H q l x : Int} (T0 : q_rwo V H (0 : Int) (0 : Int) (0 : Int) (0 : Int) (0 : Int) (0 : Int) (0 : Int)) (T1 : (1 : Int) = 1 → q_leq V l x q) : (True) ∧ (q_rwo V H q (0 : Int) (0 : Int) (4 : Int) (0 : Int) (0 : Int) H ∧ True) := by
  exact ⟨trivial, g_rwo40 T0, trivial⟩
theorem k_mnb0 {V : zVw} {w H p y d q l x : Int} (T0 : q_sto V 0 H p y d (0 : Int) (0 : Int) (0 : Int) (0 : Int) (0 : Int) (0 : Int) (0 : Int)) (T1 : (1 : Int) = 1 → q_leq V l x q) (C0 : 0 ≤ w) (C1 : 0 ≤ H) (C2 : 0 ≤ 6 - H) : (True) ∧ (q_qry V (41 : Int) q (0 : Int) (0 : Int) (0 : Int) (0 : Int) (0 : Int) (0 : Int) (10 * w + H) (0 : Int) (0 : Int) ∧ True) := by
  exact ⟨trivial, ⟨⟨H, by rw [g_F0]; exact T0.1.2.1⟩, g_Q41 (fun k k0 k1 => by omega)⟩, trivial⟩
theorem k_mlaY {V : zVw} {n w x H i q : Int} (T0 : q_rwo V H q (0 : Int) (0 : Int) (4 : Int) n (0 : Int) H) (T1 : q_qry V (3 : Int) q (0 : Int) (0 : Int) (4 : Int) n (0 : Int) H w (0 : Int) i) (T2 : q_qry V (41 : Int) q (0 : Int) (0 : Int) (0 : Int) (0 : Int) (0 : Int) (0 : Int) x n (0 : Int)) (C0 : 0 ≤ x - 10 * w - H) (C1 : 0 ≤ 10 * w + H - x) (C2 : 0 ≤ w) (C3 : 0 ≤ H) (C4 : 0 ≤ 6 - H) (C5 : 0 ≤ n) (C6 : 0 ≤ i) (C7 : 0 ≤ 60 - n) : (True) ∧ (q_qry V (42 : Int) q (0 : Int) (0 : Int) (0 : Int) (0 : Int) (0 : Int) (0 : Int) x (0 : Int) n ∧ True) := by
  have e6 : x % 10 = H := by omega
  have e5 : x / 10 = w := by omega
  have z1 := g_k41 T2
  have z9 : g_br V q (g_yr V q 0 0 (x % 10) (g_F V q 0 0 0 0 0 0 (g_nw V)) n.toNat) (x / 10) (i) := by
    rw [e6, e5]
    exact g_k3 T1
  exact ⟨trivial, g_qq T2 (g_Q42 (Or.inl ⟨by omega, by omega, z1, i, by omega, z9⟩)), trivial⟩
theorem k_mlaN {V : zVw} {n w x H q : Int} (T0 : q_rwo V H q (0 : Int) (0 : Int) (4 : Int) n (0 : Int) H) (T1 : q_qry V (3 : Int) q (0 : Int) (0 : Int) (4 : Int) n (0 : Int) H w (0 : Int) (-1 : Int)) (T2 : q_qry V (41 : Int) q (0 : Int) (0 : Int) (0 : Int) (0 : Int) (0 : Int) (0 : Int) x n (0 : Int)) (C0 : 0 ≤ x - 10 * w - H) (C1 : 0 ≤ 10 * w + H - x) (C2 : 0 ≤ w) (C3 : 0 ≤ H) (C4 : 0 ≤ 6 - H) (C5 : 0 ≤ n) : (True) ∧ (q_qry V (41 : Int) q (0 : Int) (0 : Int) (0 : Int) (0 : Int) (0 : Int) (0 : Int) x (n + 1) (0 : Int) ∧ True) := by
  have e6 : x % 10 = H := by omega
  have e5 : x / 10 = w := by omega
  have z1 := g_k41 T2
  have z9 : g_br V q (g_yr V q 0 0 (x % 10) (g_F V q 0 0 0 0 0 0 (g_nw V)) n.toNat) (x / 10) (-1) := by
    rw [e6, e5]
    exact g_k3 T1
  exact ⟨trivial, g_qq T2 (g_Q41 (fun k k0 k1 => by
    by_cases c9 : k < n
    · exact z1 k k0 c9
    · rw [show k = n by omega]; exact z9)), trivial⟩
theorem k_qeLs {V : zVw} {q x u w : Int} (T0 : q_qry V (42 : Int) q (0 : Int) (0 : Int) (0 : Int) (0 : Int) (0 : Int) (0 : Int) x (0 : Int) u) (T1 : q_qry V (42 : Int) q (0 : Int) (0 : Int) (0 : Int) (0 : Int) (0 : Int) (0 : Int) x (0 : Int) w) : (0 ≤ u - w ∧ 0 ≤ w - u ∧ True) ∧ (True) := by
  have h9 := g_la_eq (f := fun k i => g_br V q (g_yr V q 0 0 (x % 10) (g_F V q 0 0 0 0 0 0 (g_nw V)) k.toNat) (x / 10) i) (fun k i i9 a9 b9 => g_br_eq a9 b9) (g_k42 T0) (g_k42 T1)
  exact ⟨⟨by omega, by omega, trivial⟩, trivial⟩
theorem k_hasY {V : zVw} {h i u H p y d q b s o a1 a2 a3 : Int} (T0 : q_sto V 0 H p y d q b s o a1 a2 a3) (T1 : q_qry V (6 : Int) q b s o a1 a2 a3 h (0 : Int) i) (T2 : q_qry V (8 : Int) q b s o a1 a2 a3 (h + 6) (0 : Int) u) (C0 : 0 ≤ i) (C1 : 0 ≤ h) (C2 : 0 ≤ H - h - 1) (C3 : 0 ≤ 6 - H) : (0 ≤ u ∧ 0 ≤ 99 - u ∧ True) ∧ (q_qry V (45 : Int) q b s o a1 a2 a3 h (0 : Int) u ∧ True) := by
  have w9 := T0.1.1
  have z1 := g_k6 T1
  have z2 := g_k8 T2
  rw [show h + 6 = 6 + h by omega] at z2
  have k9 := g_ha_pl w9 z1 (by omega)
  exact ⟨⟨by omega, by omega, trivial⟩, g_qs T0 (g_Q45 (by rw [k9.1]; exact z2)), trivial⟩
theorem k_hasN {V : zVw} {h u H p y d q b s o a1 a2 a3 : Int} (T0 : q_sto V 0 H p y d q b s o a1 a2 a3) (T1 : q_qry V (6 : Int) q b s o a1 a2 a3 h (0 : Int) (-1 : Int)) (T2 : q_qry V (8 : Int) q b s o a1 a2 a3 h (0 : Int) u) (C0 : 0 ≤ h) (C1 : 0 ≤ H - h - 1) (C2 : 0 ≤ 6 - H) : (0 ≤ u ∧ 0 ≤ 99 - u ∧ True) ∧ (q_qry V (45 : Int) q b s o a1 a2 a3 h (0 : Int) u ∧ True) := by
  have w9 := T0.1.1
  have z1 := g_k6 T1
  have z2 := g_k8 T2
  have wH := w9.1
  have k9 := g_ha_no w9 z1 (by omega) (by omega)
  exact ⟨⟨by omega, by omega, trivial⟩, g_qs T0 (g_Q45 (by rw [k9.1]; exact z2)), trivial⟩
theorem k_smp0 {V : zVw} {z H p y d q b s o a1 a2 a3 : Int} (T0 : q_sto V 0 H p y d q b s o a1 a2 a3) (C0 : 0 ≤ z) (C1 : 0 ≤ -z) (F0 : (0 : Int) ≤ 0 ∧ (0 : Int) < j_len 40 ∧ V 40 (0) = z) : (True) ∧ (q_smp V q b s o a1 a2 a3 (1 : Int) ∧ q_qry V (46 : Int) q b s o a1 a2 a3 (0 : Int) (0 : Int) (0 : Int) ∧ ((mOP 104 (Int32.ofInt (1 : Int)) (Int32.ofInt (0 : Int))).toInt = (1 : Int)) ∧ True) := by
  have w9 := T0.1.1
  have f9 := F0.2.2
  have e9 : z = 0 := by omega
  exact ⟨trivial, ⟨⟨_, w9⟩, ⟨by omega, by omega⟩, fun t t0 t1 => by
    rw [show t = 0 by omega, g_ss_0]
    omega⟩, g_qs T0 (g_Q46 (show (0 : Int) = g_ab _ (0 : Int).toNat from rfl)), (by decide +kernel), trivial⟩
theorem k_ablE {V : zVw} {i a H p y d q b s o a1 a2 a3 : Int} (T0 : q_sto V 0 H p y d q b s o a1 a2 a3) (T1 : q_qry V (46 : Int) q b s o a1 a2 a3 i (0 : Int) a) (C0 : 0 ≤ i - H) (C1 : 0 ≤ H - i) : (True) ∧ (q_qry V (46 : Int) q b s o a1 a2 a3 (6 : Int) (0 : Int) a ∧ True) := by
  have w9 := T0.1.1
  have z1 := g_k46 T1
  have wH := w9.1
  exact ⟨trivial, g_qs T0 (g_Q46 (by
    rw [show (6 : Int).toNat = 6 from rfl]
    exact g_abE w9 (by omega) (by omega) (by omega) z1)), trivial⟩
theorem k_hasYt {V : zVw} {h i u H p y d q b s o a1 a2 a3 : Int} (T0 : q_sto V 1 H p y d q b s o a1 a2 a3) (T1 : q_qry V (6 : Int) q b s o a1 a2 a3 h (0 : Int) i) (T2 : q_qry V (8 : Int) q b s o a1 a2 a3 (h + 6) (0 : Int) u) (C0 : 0 ≤ i) (C1 : 0 ≤ h) (C2 : 0 ≤ H - h - 1) (C3 : 0 ≤ 6 - H) : (0 ≤ u ∧ 0 ≤ 99 - u ∧ True) ∧ (q_qry V (45 : Int) q b s o a1 a2 a3 h (0 : Int) u ∧ True) := by
  have w9 := T0.1.1
  have z1 := g_k6 T1
  have z2 := g_k8 T2
  rw [show h + 6 = 6 + h by omega] at z2
  have k9 := g_ha_pl w9 z1 (by omega)
  exact ⟨⟨by omega, by omega, trivial⟩, g_qs T0 (g_Q45 (by rw [k9.1]; exact z2)), trivial⟩
theorem k_hasNt {V : zVw} {h u H p y d q b s o a1 a2 a3 : Int} (T0 : q_sto V 1 H p y d q b s o a1 a2 a3) (T1 : q_qry V (6 : Int) q b s o a1 a2 a3 h (0 : Int) (-1 : Int)) (T2 : q_qry V (8 : Int) q b s o a1 a2 a3 h (0 : Int) u) (C0 : 0 ≤ h) (C1 : 0 ≤ H - h - 1) (C2 : 0 ≤ 6 - H) : (0 ≤ u ∧ 0 ≤ 99 - u ∧ True) ∧ (q_qry V (45 : Int) q b s o a1 a2 a3 h (0 : Int) u ∧ True) := by
  have w9 := T0.1.1
  have z1 := g_k6 T1
  have z2 := g_k8 T2
  have wH := w9.1
  have k9 := g_ha_no w9 z1 (by omega) (by omega)
  exact ⟨⟨by omega, by omega, trivial⟩, g_qs T0 (g_Q45 (by rw [k9.1]; exact z2)), trivial⟩
theorem k_smp0t {V : zVw} {z H p y d q b s o a1 a2 a3 : Int} (T0 : q_sto V 1 H p y d q b s o a1 a2 a3) (C0 : 0 ≤ z) (C1 : 0 ≤ -z) (F0 : (0 : Int) ≤ 0 ∧ (0 : Int) < j_len 40 ∧ V 40 (0) = z) : (True) ∧ (q_smp V q b s o a1 a2 a3 (1 : Int) ∧ q_qry V (46 : Int) q b s o a1 a2 a3 (0 : Int) (0 : Int) (0 : Int) ∧ ((mOP 104 (Int32.ofInt (1 : Int)) (Int32.ofInt (0 : Int))).toInt = (1 : Int)) ∧ True) := by
  have w9 := T0.1.1
  have f9 := F0.2.2
  have e9 : z = 0 := by omega
  exact ⟨trivial, ⟨⟨_, w9⟩, ⟨by omega, by omega⟩, fun t t0 t1 => by
    rw [show t = 0 by omega, g_ss_0]
    omega⟩, g_qs T0 (g_Q46 (show (0 : Int) = g_ab _ (0 : Int).toNat from rfl)), (by decide +kernel), trivial⟩
theorem k_ablEt {V : zVw} {i a H p y d q b s o a1 a2 a3 : Int} (T0 : q_sto V 1 H p y d q b s o a1 a2 a3) (T1 : q_qry V (46 : Int) q b s o a1 a2 a3 i (0 : Int) a) (C0 : 0 ≤ i - H) (C1 : 0 ≤ H - i) : (True) ∧ (q_qry V (46 : Int) q b s o a1 a2 a3 (6 : Int) (0 : Int) a ∧ True) := by
  have w9 := T0.1.1
  have z1 := g_k46 T1
  have wH := w9.1
  exact ⟨trivial, g_qs T0 (g_Q46 (by
    rw [show (6 : Int).toNat = 6 from rfl]
    exact g_abE w9 (by omega) (by omega) (by omega) z1)), trivial⟩
theorem k_p2r {V : zVw} {h n : Int} (T0 : (mOP 104 (Int32.ofInt (1 : Int)) (Int32.ofInt h)).toInt = n) (C0 : 0 ≤ h) (C1 : 0 ≤ 5 - h) : (0 ≤ n - 1 ∧ 0 ≤ 32 - n ∧ True) ∧ (True) := by
  have h9 : g_op 104 1 h = n := T0
  have h8 := g_shb (by omega) (by omega) h9
  exact ⟨⟨by omega, by omega, trivial⟩, trivial⟩
theorem k_p2S {V : zVw} {h n : Int} (T0 : (mOP 104 (Int32.ofInt (1 : Int)) (Int32.ofInt h)).toInt = n) (C0 : 0 ≤ h) (C1 : 0 ≤ 5 - h) : (True) ∧ (((mOP 104 (Int32.ofInt (1 : Int)) (Int32.ofInt (h + 1))).toInt = (2 * n)) ∧ True) := by
  have h9 : g_op 104 1 h = n := T0
  exact ⟨trivial, g_shS (by omega) (by omega) h9, trivial⟩
theorem k_ablY {V : zVw} {i a n u x q b s o a1 a2 a3 : Int} (T0 : (mOP 102 (Int32.ofInt a) (Int32.ofInt n)).toInt = u) (T1 : (mOP 104 (Int32.ofInt (1 : Int)) (Int32.ofInt i)).toInt = n) (T2 : q_qry V (45 : Int) q b s o a1 a2 a3 i (0 : Int) x) (T3 : q_qry V (46 : Int) q b s o a1 a2 a3 i (0 : Int) a) (C0 : 0 ≤ i) (C1 : 0 ≤ 5 - i) (C2 : 0 ≤ x - 1) : (0 ≤ u ∧ 0 ≤ 63 - u ∧ True) ∧ (q_qry V (46 : Int) q b s o a1 a2 a3 (i + 1) (0 : Int) u ∧ True) := by
  have h9 : g_op 102 a n = u := T0
  have h8 : g_op 104 1 i = n := T1
  have z2 := g_k45 T2
  have z3 := g_k46 T3
  have h7 := g_abY (by omega) (by omega) (by omega) z3 h8 h9
  have h6 := g_ab_i (by omega) (by omega) h7
  exact ⟨⟨by omega, by omega, trivial⟩, g_qq T3 (g_Q46 h7), trivial⟩
theorem k_ablN {V : zVw} {i a u x q b s o a1 a2 a3 : Int} (T0 : (mOP 102 (Int32.ofInt a) (Int32.ofInt (0 : Int))).toInt = u) (T1 : q_qry V (45 : Int) q b s o a1 a2 a3 i (0 : Int) x) (T2 : q_qry V (46 : Int) q b s o a1 a2 a3 i (0 : Int) a) (C0 : 0 ≤ i) (C1 : 0 ≤ 5 - i) (C2 : 0 ≤ -x) : (0 ≤ u ∧ 0 ≤ 63 - u ∧ True) ∧ (q_qry V (46 : Int) q b s o a1 a2 a3 (i + 1) (0 : Int) u ∧ True) := by
  have h9 : g_op 102 a 0 = u := T0
  have z1 := g_k45 T1
  have z2 := g_k46 T2
  have h6 := g_ab_i (by omega) (by omega) z2
  rw [g_orz (by omega) (by omega)] at h9
  have h7 := g_abN (by omega) (by omega) z2
  rw [h9] at h7 h6
  exact ⟨⟨by omega, by omega, trivial⟩, g_qq T2 (g_Q46 h7), trivial⟩
theorem k_orx {V : zVw} {h s n u : Int} (T0 : (mOP 102 (Int32.ofInt s) (Int32.ofInt n)).toInt = u) (T1 : (mOP 104 (Int32.ofInt (1 : Int)) (Int32.ofInt h)).toInt = n) (C0 : 0 ≤ h) (C1 : 0 ≤ 5 - h) (C2 : 0 ≤ s) (C3 : 0 ≤ n - s - 1) : (0 ≤ u - s - n ∧ 0 ≤ s + n - u ∧ 0 ≤ 63 - u ∧ 0 ≤ u - 1 ∧ True) ∧ (True) := by
  have h9 : g_op 102 s n = u := T0
  have h8 : g_op 104 1 h = n := T1
  have h7 := g_orx (by omega) (by omega) h8 (by omega) (by omega) h9
  exact ⟨⟨by omega, by omega, by omega, by omega, trivial⟩, trivial⟩
theorem k_or1 {V : zVw} {s n u : Int} (T0 : (mOP 102 (Int32.ofInt s) (Int32.ofInt n)).toInt = u) (C0 : 0 ≤ s) (C1 : 0 ≤ 31 - s) (C2 : 0 ≤ n - 1) (C3 : 0 ≤ 32 - n) : (0 ≤ u - 1 ∧ True) ∧ (True) := by
  have h9 : g_op 102 s n = u := T0
  have h8 := g_or_1 (z := s) (w := n) (by omega) (by omega) (by omega) (by omega)
  rw [h9] at h8
  exact ⟨⟨by omega, trivial⟩, trivial⟩
theorem k_smpR {V : zVw} {k n v q b s o a1 a2 a3 : Int} (T0 : q_smp V q b s o a1 a2 a3 n) (C0 : 0 ≤ k) (C1 : 0 ≤ n - k - 1) (C2 : 0 ≤ 64 - n) (F0 : (0 : Int) ≤ k ∧ (k : Int) < j_len 40 ∧ V 40 (k) = v) : (0 ≤ v ∧ 0 ≤ 594 - v ∧ True) ∧ (q_qry V (47 : Int) q b s o a1 a2 a3 k (6 : Int) v ∧ True) := by
  obtain ⟨⟨H9, w9⟩, n9, t9⟩ := T0
  have f9 := F0.2.2
  have h9 := t9 k (by omega) (by omega)
  have h8 := g_ss_b w9 (x := k) 6 (by omega)
  have h7 : v = g_ss (g_F V q b s o a1 a2 a3 (g_nw V)) k 6 := f9.symm.trans h9
  exact ⟨⟨by omega, by omega, trivial⟩, ⟨⟨H9, w9⟩, g_Q47 (by
    rw [show (6 : Int).toNat = 6 from rfl]
    exact h7)⟩, trivial⟩
theorem k_smpS {V : zVw} {h k n x g q b s o a1 a2 a3 : Int} (T0 : (mOP 104 (Int32.ofInt (1 : Int)) (Int32.ofInt h)).toInt = n) (T1 : q_smp V q b s o a1 a2 a3 (k + n)) (T2 : q_qry V (47 : Int) q b s o a1 a2 a3 k (6 : Int) x) (T3 : q_qry V (45 : Int) q b s o a1 a2 a3 h (0 : Int) g) (C0 : 0 ≤ h) (C1 : 0 ≤ 5 - h) (C2 : 0 ≤ k) (C3 : 0 ≤ n - k - 1) (F0 : (0 : Int) ≤ k + n ∧ (k + n : Int) < j_len 40 ∧ V 40 (k + n) = x + g) : (True) ∧ (q_smp V q b s o a1 a2 a3 (k + n + 1) ∧ True) := by
  have h9 : g_op 104 1 h = n := T0
  obtain ⟨⟨H9, w9⟩, n9, t9⟩ := T1
  have z2 := g_k47 T2
  have z3 := g_k45 T3
  have f9 := F0.2.2
  have b9 := g_shb (by omega) (by omega) h9
  rw [show (6 : Int).toNat = 6 from rfl] at z2
  exact ⟨trivial, ⟨⟨H9, w9⟩, ⟨by omega, by omega⟩, fun t t0 t1 => by
    by_cases c9 : t < k + n
    · exact t9 t t0 c9
    · rw [show t = k + n by omega, g_ss_add (by omega) (by omega) h9 (by omega) (by omega), f9]
      omega⟩, trivial⟩
theorem k_ablR {V : zVw} {i a n q b s o a1 a2 a3 : Int} (T0 : q_qry V (46 : Int) q b s o a1 a2 a3 i (0 : Int) a) (T1 : (mOP 104 (Int32.ofInt (1 : Int)) (Int32.ofInt i)).toInt = n) (C0 : 0 ≤ i) (C1 : 0 ≤ 6 - i) : (0 ≤ a ∧ 0 ≤ n - a - 1 ∧ True) ∧ (True) := by
  have z0 := g_k46 T0
  have h9 : g_op 104 1 i = n := T1
  rw [g_sh (by omega) (by omega)] at h9
  have h8 := g_ab_b (A := (g_F V q b s o a1 a2 a3 (g_nw V))) (n := i.toNat)
  rw [← z0, h9] at h8
  exact ⟨⟨by omega, by omega, trivial⟩, trivial⟩
theorem k_andR {V : zVw} {a r x n q b s o a1 a2 a3 : Int} (T0 : (mOP 101 (Int32.ofInt a) (Int32.ofInt r)).toInt = x) (T1 : q_smp V q b s o a1 a2 a3 n) (C0 : 0 ≤ a) (C1 : 0 ≤ n - a - 1) : (0 ≤ x ∧ 0 ≤ a - x ∧ 0 ≤ n - x - 1 ∧ True) ∧ (True) := by
  have h9 : g_op 101 a r = x := T0
  have n9 := T1.2.1
  have h8 := g_and_b (by omega) (by omega) h9
  exact ⟨⟨by omega, by omega, by omega, trivial⟩, trivial⟩
theorem k_pv0w {V : zVw} {w q b s o a1 a2 a3 n : Int} (T0 : q_smp V q b s o a1 a2 a3 n) : (True) ∧ (q_qry V (48 : Int) q b s o a1 a2 a3 w (0 : Int) (0 : Int) ∧ True) := by
  exact ⟨trivial, ⟨T0.1, g_Q48 rfl⟩, trivial⟩
theorem k_pvNw {V : zVw} {i c p r a x v w q b s o a1 a2 a3 : Int} (T0 : q_qry V (46 : Int) q b s o a1 a2 a3 (6 : Int) (0 : Int) a) (T1 : (mOP 104 (Int32.ofInt (1 : Int)) (Int32.ofInt i)).toInt = p) (T2 : (mOP 103 (Int32.ofInt p) (Int32.ofInt (-1 : Int))).toInt = r) (T3 : (mOP 101 (Int32.ofInt a) (Int32.ofInt r)).toInt = x) (T4 : q_qry V (47 : Int) q b s o a1 a2 a3 x (6 : Int) v) (T5 : q_qry V (48 : Int) q b s o a1 a2 a3 w i c) (C0 : 0 ≤ i) (C1 : 0 ≤ v - w) : (True) ∧ (q_qry V (48 : Int) q b s o a1 a2 a3 w (i + 1) c ∧ True) := by
  have z0 := g_k46 T0
  have h1 : g_op 104 1 i = p := T1
  have h2 : g_op 103 p (-1) = r := T2
  have h3 : g_op 101 a r = x := T3
  have z4 := g_k47 T4
  have z5 := g_k48 T5
  rw [show (6 : Int).toNat = 6 from rfl] at z0 z4
  exact ⟨trivial, g_qq T5 (g_Q48 (g_pvN (by omega) z0 h1 h2 h3 z4 z5 (by omega))), trivial⟩
theorem k_pvYw {V : zVw} {i c p r a x v w u q b s o a1 a2 a3 : Int} (T0 : (mOP 102 (Int32.ofInt c) (Int32.ofInt p)).toInt = u) (T1 : q_qry V (46 : Int) q b s o a1 a2 a3 (6 : Int) (0 : Int) a) (T2 : (mOP 104 (Int32.ofInt (1 : Int)) (Int32.ofInt i)).toInt = p) (T3 : (mOP 103 (Int32.ofInt p) (Int32.ofInt (-1 : Int))).toInt = r) (T4 : (mOP 101 (Int32.ofInt a) (Int32.ofInt r)).toInt = x) (T5 : q_qry V (47 : Int) q b s o a1 a2 a3 x (6 : Int) v) (T6 : q_qry V (48 : Int) q b s o a1 a2 a3 w i c) (C0 : 0 ≤ i) (C1 : 0 ≤ w - v - 1) : (True) ∧ (q_qry V (48 : Int) q b s o a1 a2 a3 w (i + 1) u ∧ True) := by
  have z0 := g_k46 T1
  have h1 : g_op 104 1 i = p := T2
  have h2 : g_op 103 p (-1) = r := T3
  have h3 : g_op 101 a r = x := T4
  have z4 := g_k47 T5
  have z5 := g_k48 T6
  rw [show (6 : Int).toNat = 6 from rfl] at z0 z4
  have h0 : g_op 102 c p = u := T0
  exact ⟨trivial, g_qq T6 (g_Q48 (g_pvY (by omega) z0 h1 h2 h3 z4 z5 h0 (by omega))), trivial⟩
theorem k_lng0 {V : zVw} {H q b s o a1 a2 a3 : Int} (T0 : q_rwo V H q b s o a1 a2 a3) : (True) ∧ (q_lng V q b s o a1 a2 a3 (0 : Int) ∧ True) := by
  exact ⟨trivial, ⟨⟨H, T0.1.1⟩, fun i i0 i1 => absurd i1 (by omega)⟩, trivial⟩
theorem k_lngP {V : zVw} {i x H q b s o a1 a2 a3 : Int} (T0 : q_rwo V H q b s o a1 a2 a3) (T1 : q_lng V q b s o a1 a2 a3 i) (C0 : 0 ≤ i) (C1 : 0 ≤ 5 - i) (C2 : 0 ≤ x - 1) (F0 : (0 : Int) ≤ i ∧ (i : Int) < j_len 82 ∧ V 82 (i) = x) (F1 : (0 : Int) ≤ i + 6 ∧ (i + 6 : Int) < j_len 78 ∧ V 78 (i + 6) = x) : (True) ∧ (q_lng V q b s o a1 a2 a3 (i + 1) ∧ True) := by
  have h7 := g_rwo_at T0 (i := i + 6) (by omega) (by omega)
  have f0 := F0.2.2
  have f1 := F1.2.2
  rw [show i + 6 = 6 + i by omega] at h7 f1
  exact ⟨trivial, ⟨T1.1, fun t t0 t1 => by
    by_cases c9 : t < i
    · exact T1.2 t t0 c9
    · rw [show t = i by omega]
      unfold g_ha
      rw [if_pos (by omega)]
      omega⟩, trivial⟩
theorem k_lngH {V : zVw} {i x g H q b s o a1 a2 a3 : Int} (T0 : q_rwo V H q b s o a1 a2 a3) (T1 : q_lng V q b s o a1 a2 a3 i) (C0 : 0 ≤ i) (C1 : 0 ≤ 5 - i) (C2 : 0 ≤ -g) (F0 : (0 : Int) ≤ i ∧ (i : Int) < j_len 82 ∧ V 82 (i) = x) (F1 : (0 : Int) ≤ i ∧ (i : Int) < j_len 78 ∧ V 78 (i) = x) (F2 : (0 : Int) ≤ i + 6 ∧ (i + 6 : Int) < j_len 78 ∧ V 78 (i + 6) = g) : (True) ∧ (q_lng V q b s o a1 a2 a3 (i + 1) ∧ True) := by
  have h7 := g_rwo_at T0 (i := i + 6) (by omega) (by omega)
  have h8 := g_rwo_at T0 (i := i) (by omega) (by omega)
  have f0 := F0.2.2
  have f1 := F1.2.2
  have f2 := F2.2.2
  rw [show i + 6 = 6 + i by omega] at h7 f2
  exact ⟨trivial, ⟨T1.1, fun t t0 t1 => by
    by_cases c9 : t < i
    · exact T1.2 t t0 c9
    · rw [show t = i by omega]
      unfold g_ha
      rw [if_neg (by omega)]
      omega⟩, trivial⟩
theorem k_lngN {V : zVw} {i H q b s o a1 a2 a3 : Int} (T0 : q_rwo V H q b s o a1 a2 a3) (T1 : q_lng V q b s o a1 a2 a3 i) (C0 : 0 ≤ i - H) (C1 : 0 ≤ i) (C2 : 0 ≤ 5 - i) (F0 : (0 : Int) ≤ i ∧ (i : Int) < j_len 82 ∧ V 82 (i) = 0) : (True) ∧ (q_lng V q b s o a1 a2 a3 (i + 1) ∧ True) := by
  have h9 := g_ha_out T0.1.1 (h := i) (by omega) (by omega)
  have f0 := F0.2.2
  exact ⟨trivial, ⟨T1.1, fun t t0 t1 => by
    by_cases c9 : t < i
    · exact T1.2 t t0 c9
    · rw [show t = i by omega]
      rw [h9]
      omega⟩, trivial⟩
theorem k_mab0 {V : zVw} {q b s o a1 a2 a3 : Int} (T0 : q_lng V q b s o a1 a2 a3 (6 : Int)) : (True) ∧ (q_qry V (46 : Int) q b s o a1 a2 a3 (0 : Int) (0 : Int) (0 : Int) ∧ True) := by
  exact ⟨trivial, ⟨T0.1, g_Q46 (show (0 : Int) = g_ab _ (0 : Int).toNat from rfl)⟩, trivial⟩
theorem k_mabY {V : zVw} {i x a n u q b s o a1 a2 a3 : Int} (T0 : (mOP 102 (Int32.ofInt a) (Int32.ofInt n)).toInt = u) (T1 : (mOP 104 (Int32.ofInt (1 : Int)) (Int32.ofInt i)).toInt = n) (T2 : q_lng V q b s o a1 a2 a3 (6 : Int)) (T3 : q_qry V (46 : Int) q b s o a1 a2 a3 i (0 : Int) a) (C0 : 0 ≤ i) (C1 : 0 ≤ 5 - i) (C2 : 0 ≤ x - 1) (F0 : (0 : Int) ≤ i ∧ (i : Int) < j_len 82 ∧ V 82 (i) = x) : (0 ≤ u ∧ 0 ≤ 63 - u ∧ True) ∧ (q_qry V (46 : Int) q b s o a1 a2 a3 (i + 1) (0 : Int) u ∧ True) := by
  have h9 : g_op 102 a n = u := T0
  have h8 : g_op 104 1 i = n := T1
  have x9 := T2.2 i (by omega) (by omega)
  have f9 := F0.2.2
  have z3 := g_k46 T3
  have h7 := g_abY (by omega) (by omega) (by omega) z3 h8 h9
  have h6 := g_ab_i (by omega) (by omega) h7
  exact ⟨⟨by omega, by omega, trivial⟩, g_qq T3 (g_Q46 h7), trivial⟩
theorem k_mabN {V : zVw} {i x a q b s o a1 a2 a3 : Int} (T0 : q_lng V q b s o a1 a2 a3 (6 : Int)) (T1 : q_qry V (46 : Int) q b s o a1 a2 a3 i (0 : Int) a) (C0 : 0 ≤ i) (C1 : 0 ≤ 5 - i) (C2 : 0 ≤ -x) (F0 : (0 : Int) ≤ i ∧ (i : Int) < j_len 82 ∧ V 82 (i) = x) : (True) ∧ (q_qry V (46 : Int) q b s o a1 a2 a3 (i + 1) (0 : Int) a ∧ True) := by
  have x9 := T0.2 i (by omega) (by omega)
  have f9 := F0.2.2
  have z2 := g_k46 T1
  exact ⟨trivial, g_qq T1 (g_Q46 (g_abN (by omega) (by omega) z2)), trivial⟩
theorem k_ms0 {V : zVw} {k q b s o a1 a2 a3 : Int} (T0 : q_lng V q b s o a1 a2 a3 (6 : Int)) (C0 : 0 ≤ k) (C1 : 0 ≤ 63 - k) : (True) ∧ (q_qry V (47 : Int) q b s o a1 a2 a3 k (0 : Int) (0 : Int) ∧ True) := by
  exact ⟨trivial, ⟨T0.1, g_Q47 rfl⟩, trivial⟩
theorem k_bit01 {V : zVw} {p r : Int} (T0 : (mOP 101 (Int32.ofInt p) (Int32.ofInt (1 : Int))).toInt = r) : (0 ≤ r ∧ 0 ≤ 1 - r ∧ True) ∧ (True) := by
  have h8 := g_and_1 (p := p) (r := r) T0
  exact ⟨⟨by omega, by omega, trivial⟩, trivial⟩
theorem k_msY0 {V : zVw} {k i c d x r q b s o a1 a2 a3 : Int} (T0 : (mOP 101 (Int32.ofInt k) (Int32.ofInt (1 : Int))).toInt = r) (T1 : q_lng V q b s o a1 a2 a3 (6 : Int)) (T2 : q_qry V (47 : Int) q b s o a1 a2 a3 k i d) (C0 : 0 ≤ k) (C1 : 0 ≤ 63 - k) (C2 : 0 ≤ i) (C3 : 0 ≤ -i) (C4 : 0 ≤ r - 1) (C5 : 0 ≤ c - d - x) (C6 : 0 ≤ d + x - c) (F0 : (0 : Int) ≤ i ∧ (i : Int) < j_len 82 ∧ V 82 (i) = x) : (True) ∧ (q_qry V (47 : Int) q b s o a1 a2 a3 k (i + 1) c ∧ True) := by
  have h1 : g_op 101 k 1 = r := T0
  have b9 := g_and_1 h1
  have f9 := F0.2.2
  have x9 := T1.2 i (by omega) (by omega)
  have z3 := g_k47 T2
  have h0 : g_op 105 k i = k := by
    rw [show i = 0 by omega]
    exact g_sh0 (by omega) (by omega)
  have e9 := g_bitm (by omega) (by omega) (by omega) (by omega) h0 h1
  exact ⟨trivial, g_qq T2 (g_Q47 (g_ssY (x := x) (by omega) e9 (by omega) (by omega) z3 (by omega))), trivial⟩
theorem k_msY {V : zVw} {k i c d x p r q b s o a1 a2 a3 : Int} (T0 : (mOP 105 (Int32.ofInt k) (Int32.ofInt i)).toInt = p) (T1 : (mOP 101 (Int32.ofInt p) (Int32.ofInt (1 : Int))).toInt = r) (T2 : q_lng V q b s o a1 a2 a3 (6 : Int)) (T3 : q_qry V (47 : Int) q b s o a1 a2 a3 k i d) (C0 : 0 ≤ k) (C1 : 0 ≤ 63 - k) (C2 : 0 ≤ i) (C3 : 0 ≤ 5 - i) (C4 : 0 ≤ r - 1) (C5 : 0 ≤ c - d - x) (C6 : 0 ≤ d + x - c) (F0 : (0 : Int) ≤ i ∧ (i : Int) < j_len 82 ∧ V 82 (i) = x) : (True) ∧ (q_qry V (47 : Int) q b s o a1 a2 a3 k (i + 1) c ∧ True) := by
  have h0 : g_op 105 k i = p := T0
  have h1 : g_op 101 p 1 = r := T1
  have b9 := g_and_1 h1
  have f9 := F0.2.2
  have x9 := T2.2 i (by omega) (by omega)
  have z3 := g_k47 T3
  have e9 := g_bitm (by omega) (by omega) (by omega) (by omega) h0 h1
  exact ⟨trivial, g_qq T3 (g_Q47 (g_ssY (x := x) (by omega) e9 (by omega) (by omega) z3 (by omega))), trivial⟩
theorem k_msN0 {V : zVw} {k i c d x r q b s o a1 a2 a3 : Int} (T0 : (mOP 101 (Int32.ofInt k) (Int32.ofInt (1 : Int))).toInt = r) (T1 : q_lng V q b s o a1 a2 a3 (6 : Int)) (T2 : q_qry V (47 : Int) q b s o a1 a2 a3 k i d) (C0 : 0 ≤ k) (C1 : 0 ≤ 63 - k) (C2 : 0 ≤ i) (C3 : 0 ≤ -i) (C4 : 0 ≤ -r) (C5 : 0 ≤ c - d) (C6 : 0 ≤ d - c) (F0 : (0 : Int) ≤ i ∧ (i : Int) < j_len 82 ∧ V 82 (i) = x) : (True) ∧ (q_qry V (47 : Int) q b s o a1 a2 a3 k (i + 1) c ∧ True) := by
  have h1 : g_op 101 k 1 = r := T0
  have b9 := g_and_1 h1
  have f9 := F0.2.2
  have x9 := T1.2 i (by omega) (by omega)
  have z3 := g_k47 T2
  have h0 : g_op 105 k i = k := by
    rw [show i = 0 by omega]
    exact g_sh0 (by omega) (by omega)
  have e9 := g_bitm (by omega) (by omega) (by omega) (by omega) h0 h1
  exact ⟨trivial, g_qq T2 (g_Q47 (g_ssN (by omega) e9 (by omega) z3 (by omega))), trivial⟩
theorem k_msN {V : zVw} {k i c d x p r q b s o a1 a2 a3 : Int} (T0 : (mOP 105 (Int32.ofInt k) (Int32.ofInt i)).toInt = p) (T1 : (mOP 101 (Int32.ofInt p) (Int32.ofInt (1 : Int))).toInt = r) (T2 : q_lng V q b s o a1 a2 a3 (6 : Int)) (T3 : q_qry V (47 : Int) q b s o a1 a2 a3 k i d) (C0 : 0 ≤ k) (C1 : 0 ≤ 63 - k) (C2 : 0 ≤ i) (C3 : 0 ≤ 5 - i) (C4 : 0 ≤ -r) (C5 : 0 ≤ c - d) (C6 : 0 ≤ d - c) (F0 : (0 : Int) ≤ i ∧ (i : Int) < j_len 82 ∧ V 82 (i) = x) : (True) ∧ (q_qry V (47 : Int) q b s o a1 a2 a3 k (i + 1) c ∧ True) := by
  have h0 : g_op 105 k i = p := T0
  have h1 : g_op 101 p 1 = r := T1
  have b9 := g_and_1 h1
  have f9 := F0.2.2
  have x9 := T2.2 i (by omega) (by omega)
  have z3 := g_k47 T3
  have e9 := g_bitm (by omega) (by omega) (by omega) (by omega) h0 h1
  exact ⟨trivial, g_qq T3 (g_Q47 (g_ssN (by omega) e9 (by omega) z3 (by omega))), trivial⟩
theorem k_isY {V : zVw} {c l u w y : Int} (T0 : 0 ≤ l ∧ l ≠ y ∧ V 61 l = w) (C0 : 0 ≤ c - u) (F0 : (0 : Int) ≤ l ∧ (l : Int) < j_len 61 ∧ V 61 (l) = u) : (0 ≤ c - w ∧ True) ∧ (True) := by
  have h9 := T0.2.2
  have h8 := F0.2.2
  exact ⟨⟨by omega, trivial⟩, trivial⟩
theorem k_isN {V : zVw} {c l u w y : Int} (T0 : 0 ≤ l ∧ l ≠ y ∧ V 61 l = w) (C0 : 0 ≤ u - c - 1) (F0 : (0 : Int) ≤ l ∧ (l : Int) < j_len 61 ∧ V 61 (l) = u) : (0 ≤ w - c - 1 ∧ True) ∧ (True) := by
  have h9 := T0.2.2
  have h8 := F0.2.2
  exact ⟨⟨by omega, trivial⟩, trivial⟩
theorem k_andM {V : zVw} {a r x : Int} (T0 : (mOP 101 (Int32.ofInt a) (Int32.ofInt r)).toInt = x) (C0 : 0 ≤ a) (C1 : 0 ≤ 63 - a) : (0 ≤ x ∧ 0 ≤ a - x ∧ 0 ≤ 63 - x ∧ True) ∧ (True) := by
  have h9 : g_op 101 a r = x := T0
  have h8 := g_and_b (by omega) (by omega) h9
  exact ⟨⟨by omega, by omega, by omega, trivial⟩, trivial⟩
theorem k_mpv0 {V : zVw} {w l y q b s o a1 a2 a3 : Int} (T0 : 0 ≤ l ∧ l ≠ y ∧ V 61 l = w) (T1 : q_lng V q b s o a1 a2 a3 (6 : Int)) : (True) ∧ (q_qry V (48 : Int) q b s o a1 a2 a3 w (0 : Int) (0 : Int) ∧ True) := by
  exact ⟨trivial, ⟨T1.1, g_Q48 rfl⟩, trivial⟩
theorem k_mpvN {V : zVw} {i c p r a x v w l y q b s o a1 a2 a3 : Int} (T0 : 0 ≤ l ∧ l ≠ y ∧ V 61 l = w) (T1 : q_qry V (46 : Int) q b s o a1 a2 a3 (6 : Int) (0 : Int) a) (T2 : (mOP 104 (Int32.ofInt (1 : Int)) (Int32.ofInt i)).toInt = p) (T3 : (mOP 103 (Int32.ofInt p) (Int32.ofInt (-1 : Int))).toInt = r) (T4 : (mOP 101 (Int32.ofInt a) (Int32.ofInt r)).toInt = x) (T5 : q_qry V (47 : Int) q b s o a1 a2 a3 x (6 : Int) v) (T6 : q_qry V (48 : Int) q b s o a1 a2 a3 w i c) (C0 : 0 ≤ i) (C1 : 0 ≤ v - w) : (True) ∧ (q_qry V (48 : Int) q b s o a1 a2 a3 w (i + 1) c ∧ True) := by
  have z0 := g_k46 T1
  have h1 : g_op 104 1 i = p := T2
  have h2 : g_op 103 p (-1) = r := T3
  have h3 : g_op 101 a r = x := T4
  have z4 := g_k47 T5
  have z5 := g_k48 T6
  rw [show (6 : Int).toNat = 6 from rfl] at z0 z4
  exact ⟨trivial, g_qq T6 (g_Q48 (g_pvN (by omega) z0 h1 h2 h3 z4 z5 (by omega))), trivial⟩
theorem k_mpvY {V : zVw} {i c p r a x v w u l y q b s o a1 a2 a3 : Int} (T0 : (mOP 102 (Int32.ofInt c) (Int32.ofInt p)).toInt = u) (T1 : 0 ≤ l ∧ l ≠ y ∧ V 61 l = w) (T2 : q_qry V (46 : Int) q b s o a1 a2 a3 (6 : Int) (0 : Int) a) (T3 : (mOP 104 (Int32.ofInt (1 : Int)) (Int32.ofInt i)).toInt = p) (T4 : (mOP 103 (Int32.ofInt p) (Int32.ofInt (-1 : Int))).toInt = r) (T5 : (mOP 101 (Int32.ofInt a) (Int32.ofInt r)).toInt = x) (T6 : q_qry V (47 : Int) q b s o a1 a2 a3 x (6 : Int) v) (T7 : q_qry V (48 : Int) q b s o a1 a2 a3 w i c) (C0 : 0 ≤ i) (C1 : 0 ≤ w - v - 1) : (True) ∧ (q_qry V (48 : Int) q b s o a1 a2 a3 w (i + 1) u ∧ True) := by
  have z0 := g_k46 T2
  have h1 : g_op 104 1 i = p := T3
  have h2 : g_op 103 p (-1) = r := T4
  have h3 : g_op 101 a r = x := T5
  have z4 := g_k47 T6
  have z5 := g_k48 T7
  rw [show (6 : Int).toNat = 6 from rfl] at z0 z4
  have h0 : g_op 102 c p = u := T0
  exact ⟨trivial, g_qq T7 (g_Q48 (g_pvY (by omega) z0 h1 h2 h3 z4 z5 h0 (by omega))), trivial⟩
theorem k_qePv {V : zVw} {q x h u w : Int} (T0 : q_qry V (48 : Int) q (0 : Int) (0 : Int) (0 : Int) (0 : Int) (0 : Int) (0 : Int) x h u) (T1 : q_qry V (48 : Int) q (0 : Int) (0 : Int) (0 : Int) (0 : Int) (0 : Int) (0 : Int) x h w) : (0 ≤ u - w ∧ 0 ≤ w - u ∧ True) ∧ (True) := by
  have h9 := g_k48 T0
  have h8 := g_k48 T1
  exact ⟨⟨by omega, by omega, trivial⟩, trivial⟩
theorem k_mxs {V : zVw} {x y : Int} : ((0 ≤ x - y ∧ True) ∧ (True)) ∨ ((0 ≤ y - x - 1 ∧ True) ∧ (True)) := by
  by_cases c9 : 0 ≤ x - y
  · exact Or.inl ⟨⟨c9, trivial⟩, trivial⟩
  · exact Or.inr ⟨⟨by omega, trivial⟩, trivial⟩
