/-! ===== the lemmas in plain numbers, by program ===== -/
theorem k_hix {V : zVw} {H o u e n c : Int} (T0 : (mOP 108 (Int32.ofInt n) (Int32.ofInt (40 : Int))).toInt = c) (T1 : q_hx V (-1) H o u e) (C0 : 0 ≤ c) (C1 : 0 ≤ 39 - c) (C2 : 0 ≤ n - o - u) (C3 : 0 ≤ o + u - n) : (True) ∧ (q_hx V c H o u e ∧ True) := by
  exact ⟨trivial, ⟨T1.1, T1.2.1, fun i i0 i1 _ => T1.2.2 i i0 i1 (by have := T1.1; omega)⟩, trivial⟩
theorem k_hisD {V : zVw} {H o n v : Int} (T0 : (mOP 108 (Int32.ofInt n) (Int32.ofInt (40 : Int))).toInt = v) (T1 : q_hx V (-1) H o (40 : Int) (0 : Int)) (C0 : 0 ≤ n - o - 1) (C1 : 0 ≤ o - n + 1) : (True) ∧ (q_hx V (-1) H v (39 : Int) (1 : Int) ∧ True) := by
  have h7 := T1.1
  have h9 := g_op_rem (a := n) (b := 40) (by omega) (by omega) (by omega) (by omega)
  have h8 : g_op 108 n 40 = v := T0
  refine ⟨trivial, ⟨⟨by omega, by omega, by omega⟩, T1.2.1, fun i i0 i1 _ => ?_⟩, trivial⟩
  have h6 := T1.2.2 (i + 1) (by omega) (by omega) (by omega)
  rw [show (o + (i + 1)) % 40 = (v + i) % 40 by omega, show i + 1 + 0 = i + 1 by omega] at h6
  exact h6
theorem k_hk {V : zVw} {H o u e n c p y d : Int} (T0 : q_hx V c H o u e) (T1 : (mOP 108 (Int32.ofInt n) (Int32.ofInt (40 : Int))).toInt = c) (T2 : (1 ≤ (c + 5) ∧ (c + 5) ≤ 44) ∧ q_eqs V (c + 5) H p y d) (T3 : q_sto V 0 H p y d (0 : Int) (0 : Int) (0 : Int) (0 : Int) (0 : Int) (0 : Int) (0 : Int)) (C0 : 0 ≤ n - o - u) (C1 : 0 ≤ o + u - n) (C2 : 0 ≤ c) (C3 : 0 ≤ 39 - c) (C4 : 0 ≤ u) (C5 : 0 ≤ 39 - u) (C6 : 0 ≤ e) : (True) ∧ ((((33 * u + 33 * e) = 33 * u + 33 * e ∧ 0 ≤ e) ∧ q_hk V H o u e) ∧ True) := by
  have h7 := T0.1
  have h9 := g_op_rem (a := n) (b := 40) (by omega) (by omega) (by omega) (by omega)
  have h8 : g_op 108 n 40 = c := T1
  refine ⟨trivial, ⟨⟨by omega, by omega⟩, ⟨T0.1, T0.2.1, fun i i0 i1 _ => T0.2.2 i i0 i1 (by omega)⟩, ?_⟩, trivial⟩
  have h6 := g_eqs_kp T2.2 T3
  rw [show (c + 5).toNat = 5 + ((o + u) % 40).toNat by omega] at h6
  exact h6
theorem k_way1 {V : zVw} : (True) ∧ (True ∧ True) := by
  exact ⟨trivial, trivial, trivial⟩
theorem k_shr {V : zVw} {H o u c n p y d H2 : Int} (T0 : (mOP 108 (Int32.ofInt n) (Int32.ofInt (40 : Int))).toInt = c) (T1 : q_hx V (-1) H o u (0 : Int)) (T2 : (1 ≤ (c + 5) ∧ (c + 5) ≤ 44) ∧ q_eqs V (c + 5) H2 p y d) (C0 : 0 ≤ n - o - u + 1) (C1 : 0 ≤ o + u - n - 1) (C2 : 0 ≤ u - 1) : (0 ≤ H - H2 ∧ 0 ≤ H2 - H ∧ True) ∧ (q_sh V 81 H p y d (u - 1) ∧ q_hx V (-1) H o (u - 1) (0 : Int) ∧ True) := by
  have h7 := T1.1
  have h9 := g_op_rem (a := n) (b := 40) (by omega) (by omega) (by omega) (by omega)
  have h8 : g_op 108 n 40 = c := T0
  have h6 := T1.2.2 (u - 1) (by omega) (by omega) (by omega)
  rw [show 5 + ((o + (u - 1)) % 40).toNat = (c + 5).toNat by omega, show u - 1 + 0 = u - 1 by omega] at h6
  obtain ⟨h5, h4, h3⟩ := g_kp_sh h6 T2.2
  exact ⟨⟨by omega, by omega, trivial⟩, ⟨by omega, h4, T1.2.1, h3⟩, ⟨⟨by omega, by omega, by omega⟩, T1.2.1, fun i i0 i1 c9 => T1.2.2 i i0 (by omega) c9⟩, trivial⟩
theorem k_slx_0 {V : zVw} {c H z0 z1 z2 : Int} (T0 : q_sl V (-1) H z0 z1 z2) (C0 : 0 ≤ c) (C1 : 0 ≤ -c) : (True) ∧ ((0 ≤ (0 : Int) ∧ q_sl V (0 : Int) H z0 z1 z2) ∧ True) := by
  exact ⟨trivial, ⟨by omega, T0.1, fun z9 _ => T0.2.1 z9 (by decide), fun z9 _ => T0.2.2.1 z9 (by decide), fun z9 _ => T0.2.2.2 z9 (by decide)⟩, trivial⟩
theorem k_hb_0 {V : zVw} {b H z0 z1 z2 u : Int} (T0 : (mOP 101 (Int32.ofInt b) (Int32.ofInt (1 : Int))).toInt = u) (T1 : q_sl V (-1) H z0 z1 z2) (C0 : 0 ≤ u - 1) (C1 : 0 ≤ b - z0 - 2 * z1 - 4 * z2) (C2 : 0 ≤ z0 + 2 * z1 + 4 * z2 - b) (C3 : 0 ≤ z0) (C4 : 0 ≤ 1 - z0) (C5 : 0 ≤ z1) (C6 : 0 ≤ 1 - z1) (C7 : 0 ≤ z2) (C8 : 0 ≤ 1 - z2) : (0 ≤ z0 - 1 ∧ True) ∧ (True) := by
  have h9 := g_bit0 (by omega) (by omega) T0
  exact ⟨⟨by omega, trivial⟩, trivial⟩
theorem k_shl_0 {V : zVw} {H z0 z1 z2 H2 p y d : Int} (T0 : q_sl V (-1) H z0 z1 z2) (T1 : (1 ≤ (2 : Int) ∧ (2 : Int) ≤ 44) ∧ q_eqs V (2 : Int) H2 p y d) (C0 : 0 ≤ z0 - 1) (C1 : 0 ≤ 1 - z0) : (0 ≤ H - H2 ∧ 0 ≤ H2 - H ∧ True) ∧ (q_sh V 95 H p y d (0 : Int) ∧ True) := by
  have h9 := T0.2.1 (by omega) (by decide)
  obtain ⟨h5, h4, h3⟩ := g_kp_sh (f := 2) h9 T1.2
  exact ⟨⟨by omega, by omega, trivial⟩, ⟨by omega, h4, T0.1, h3⟩, trivial⟩
theorem k_slx_1 {V : zVw} {c H z0 z1 z2 : Int} (T0 : q_sl V (-1) H z0 z1 z2) (C0 : 0 ≤ c - 1) (C1 : 0 ≤ 1 - c) : (True) ∧ ((0 ≤ (1 : Int) ∧ q_sl V (1 : Int) H z0 z1 z2) ∧ True) := by
  exact ⟨trivial, ⟨by omega, T0.1, fun z9 _ => T0.2.1 z9 (by decide), fun z9 _ => T0.2.2.1 z9 (by decide), fun z9 _ => T0.2.2.2 z9 (by decide)⟩, trivial⟩
theorem k_hb_1 {V : zVw} {b H z0 z1 z2 u : Int} (T0 : (mOP 101 (Int32.ofInt b) (Int32.ofInt (2 : Int))).toInt = u) (T1 : q_sl V (-1) H z0 z1 z2) (C0 : 0 ≤ u - 1) (C1 : 0 ≤ b - z0 - 2 * z1 - 4 * z2) (C2 : 0 ≤ z0 + 2 * z1 + 4 * z2 - b) (C3 : 0 ≤ z0) (C4 : 0 ≤ 1 - z0) (C5 : 0 ≤ z1) (C6 : 0 ≤ 1 - z1) (C7 : 0 ≤ z2) (C8 : 0 ≤ 1 - z2) : (0 ≤ z1 - 1 ∧ True) ∧ (True) := by
  have h9 := g_bit1 (by omega) (by omega) T0
  exact ⟨⟨by omega, trivial⟩, trivial⟩
theorem k_shl_1 {V : zVw} {H z0 z1 z2 H2 p y d : Int} (T0 : q_sl V (-1) H z0 z1 z2) (T1 : (1 ≤ (3 : Int) ∧ (3 : Int) ≤ 44) ∧ q_eqs V (3 : Int) H2 p y d) (C0 : 0 ≤ z1 - 1) (C1 : 0 ≤ 1 - z1) : (0 ≤ H - H2 ∧ 0 ≤ H2 - H ∧ True) ∧ (q_sh V 95 H p y d (1 : Int) ∧ True) := by
  have h9 := T0.2.2.1 (by omega) (by decide)
  obtain ⟨h5, h4, h3⟩ := g_kp_sh (f := 3) h9 T1.2
  exact ⟨⟨by omega, by omega, trivial⟩, ⟨by omega, h4, T0.1, h3⟩, trivial⟩
theorem k_slx_2 {V : zVw} {c H z0 z1 z2 : Int} (T0 : q_sl V (-1) H z0 z1 z2) (C0 : 0 ≤ c - 2) (C1 : 0 ≤ 2 - c) : (True) ∧ ((0 ≤ (2 : Int) ∧ q_sl V (2 : Int) H z0 z1 z2) ∧ True) := by
  exact ⟨trivial, ⟨by omega, T0.1, fun z9 _ => T0.2.1 z9 (by decide), fun z9 _ => T0.2.2.1 z9 (by decide), fun z9 _ => T0.2.2.2 z9 (by decide)⟩, trivial⟩
theorem k_hb_2 {V : zVw} {b H z0 z1 z2 u : Int} (T0 : (mOP 101 (Int32.ofInt b) (Int32.ofInt (4 : Int))).toInt = u) (T1 : q_sl V (-1) H z0 z1 z2) (C0 : 0 ≤ u - 1) (C1 : 0 ≤ b - z0 - 2 * z1 - 4 * z2) (C2 : 0 ≤ z0 + 2 * z1 + 4 * z2 - b) (C3 : 0 ≤ z0) (C4 : 0 ≤ 1 - z0) (C5 : 0 ≤ z1) (C6 : 0 ≤ 1 - z1) (C7 : 0 ≤ z2) (C8 : 0 ≤ 1 - z2) : (0 ≤ z2 - 1 ∧ True) ∧ (True) := by
  have h9 := g_bit2 (by omega) (by omega) T0
  exact ⟨⟨by omega, trivial⟩, trivial⟩
theorem k_shl_2 {V : zVw} {H z0 z1 z2 H2 p y d : Int} (T0 : q_sl V (-1) H z0 z1 z2) (T1 : (1 ≤ (4 : Int) ∧ (4 : Int) ≤ 44) ∧ q_eqs V (4 : Int) H2 p y d) (C0 : 0 ≤ z2 - 1) (C1 : 0 ≤ 1 - z2) : (0 ≤ H - H2 ∧ 0 ≤ H2 - H ∧ True) ∧ (q_sh V 95 H p y d (2 : Int) ∧ True) := by
  have h9 := T0.2.2.2 (by omega) (by decide)
  obtain ⟨h5, h4, h3⟩ := g_kp_sh (f := 4) h9 T1.2
  exact ⟨⟨by omega, by omega, trivial⟩, ⟨by omega, h4, T0.1, h3⟩, trivial⟩
theorem k_sln {V : zVw} {f H p y d : Int} (T0 : (1 ≤ f ∧ f ≤ 44) ∧ q_eqs V f H p y d) (T1 : q_sto V 0 H p y d (0 : Int) (0 : Int) (0 : Int) (0 : Int) (0 : Int) (0 : Int) (0 : Int)) (C0 : 0 ≤ f - 2) (C1 : 0 ≤ 4 - f) : (True) ∧ (((1 ≤ f ∧ f ≤ 44) ∧ g_sb V H ∧ q_kp V f.toNat H (g_nw V)) ∧ True) := by
  exact ⟨trivial, ⟨T0.1, T1.1.2.2, g_eqs_kp T0.2 T1⟩, trivial⟩
theorem k_ner {V : zVw} {u0 u1 u2 u3 u4 u5 u6 u7 u8 u9 u10 u11 u12 u13 u14 u15 u16 u17 u18 u19 u20 u21 u22 u23 u24 u25 u26 u27 u28 u29 u30 u31 u32 : Int} (F0 : (0 : Int) ≤ 0 ∧ (0 : Int) < j_len 77 ∧ V 77 (0) = u0) (F1 : (0 : Int) ≤ 1 ∧ (1 : Int) < j_len 77 ∧ V 77 (1) = u1) (F2 : (0 : Int) ≤ 2 ∧ (2 : Int) < j_len 77 ∧ V 77 (2) = u2) (F3 : (0 : Int) ≤ 3 ∧ (3 : Int) < j_len 77 ∧ V 77 (3) = u3) (F4 : (0 : Int) ≤ 4 ∧ (4 : Int) < j_len 77 ∧ V 77 (4) = u4) (F5 : (0 : Int) ≤ 5 ∧ (5 : Int) < j_len 77 ∧ V 77 (5) = u5) (F6 : (0 : Int) ≤ 6 ∧ (6 : Int) < j_len 77 ∧ V 77 (6) = u6) (F7 : (0 : Int) ≤ 7 ∧ (7 : Int) < j_len 77 ∧ V 77 (7) = u7) (F8 : (0 : Int) ≤ 8 ∧ (8 : Int) < j_len 77 ∧ V 77 (8) = u8) (F9 : (0 : Int) ≤ 9 ∧ (9 : Int) < j_len 77 ∧ V 77 (9) = u9) (F10 : (0 : Int) ≤ 10 ∧ (10 : Int) < j_len 77 ∧ V 77 (10) = u10) (F11 : (0 : Int) ≤ 11 ∧ (11 : Int) < j_len 77 ∧ V 77 (11) = u11) (F12 : (0 : Int) ≤ 12 ∧ (12 : Int) < j_len 77 ∧ V 77 (12) = u12) (F13 : (0 : Int) ≤ 13 ∧ (13 : Int) < j_len 77 ∧ V 77 (13) = u13) (F14 : (0 : Int) ≤ 14 ∧ (14 : Int) < j_len 77 ∧ V 77 (14) = u14) (F15 : (0 : Int) ≤ 15 ∧ (15 : Int) < j_len 77 ∧ V 77 (15) = u15) (F16 : (0 : Int) ≤ 16 ∧ (16 : Int) < j_len 77 ∧ V 77 (16) = u16) (F17 : (0 : Int) ≤ 17 ∧ (17 : Int) < j_len 77 ∧ V 77 (17) = u17) (F18 : (0 : Int) ≤ 18 ∧ (18 : Int) < j_len 77 ∧ V 77 (18) = u18) (F19 : (0 : Int) ≤ 19 ∧ (19 : Int) < j_len 77 ∧ V 77 (19) = u19) (F20 : (0 : Int) ≤ 20 ∧ (20 : Int) < j_len 77 ∧ V 77 (20) = u20) (F21 : (0 : Int) ≤ 21 ∧ (21 : Int) < j_len 77 ∧ V 77 (21) = u21) (F22 : (0 : Int) ≤ 22 ∧ (22 : Int) < j_len 77 ∧ V 77 (22) = u22) (F23 : (0 : Int) ≤ 23 ∧ (23 : Int) < j_len 77 ∧ V 77 (23) = u23) (F24 : (0 : Int) ≤ 24 ∧ (24 : Int) < j_len 77 ∧ V 77 (24) = u24) (F25 : (0 : Int) ≤ 25 ∧ (25 : Int) < j_len 77 ∧ V 77 (25) = u25) (F26 : (0 : Int) ≤ 26 ∧ (26 : Int) < j_len 77 ∧ V 77 (26) = u26) (F27 : (0 : Int) ≤ 27 ∧ (27 : Int) < j_len 77 ∧ V 77 (27) = u27) (F28 : (0 : Int) ≤ 28 ∧ (28 : Int) < j_len 77 ∧ V 77 (28) = u28) (F29 : (0 : Int) ≤ 29 ∧ (29 : Int) < j_len 77 ∧ V 77 (29) = u29) (F30 : (0 : Int) ≤ 30 ∧ (30 : Int) < j_len 77 ∧ V 77 (30) = u30) (F31 : (0 : Int) ≤ 31 ∧ (31 : Int) < j_len 77 ∧ V 77 (31) = u31) (F32 : (0 : Int) ≤ 32 ∧ (32 : Int) < j_len 77 ∧ V 77 (32) = u32) (F33 : (0 : Int) ≤ 0 ∧ (0 : Int) < j_len 78 ∧ V 78 (0) = u0) (F34 : (0 : Int) ≤ 1 ∧ (1 : Int) < j_len 78 ∧ V 78 (1) = u1) (F35 : (0 : Int) ≤ 2 ∧ (2 : Int) < j_len 78 ∧ V 78 (2) = u2) (F36 : (0 : Int) ≤ 3 ∧ (3 : Int) < j_len 78 ∧ V 78 (3) = u3) (F37 : (0 : Int) ≤ 4 ∧ (4 : Int) < j_len 78 ∧ V 78 (4) = u4) (F38 : (0 : Int) ≤ 5 ∧ (5 : Int) < j_len 78 ∧ V 78 (5) = u5) (F39 : (0 : Int) ≤ 6 ∧ (6 : Int) < j_len 78 ∧ V 78 (6) = u6) (F40 : (0 : Int) ≤ 7 ∧ (7 : Int) < j_len 78 ∧ V 78 (7) = u7) (F41 : (0 : Int) ≤ 8 ∧ (8 : Int) < j_len 78 ∧ V 78 (8) = u8) (F42 : (0 : Int) ≤ 9 ∧ (9 : Int) < j_len 78 ∧ V 78 (9) = u9) (F43 : (0 : Int) ≤ 10 ∧ (10 : Int) < j_len 78 ∧ V 78 (10) = u10) (F44 : (0 : Int) ≤ 11 ∧ (11 : Int) < j_len 78 ∧ V 78 (11) = u11) (F45 : (0 : Int) ≤ 12 ∧ (12 : Int) < j_len 78 ∧ V 78 (12) = u12) (F46 : (0 : Int) ≤ 13 ∧ (13 : Int) < j_len 78 ∧ V 78 (13) = u13) (F47 : (0 : Int) ≤ 14 ∧ (14 : Int) < j_len 78 ∧ V 78 (14) = u14) (F48 : (0 : Int) ≤ 15 ∧ (15 : Int) < j_len 78 ∧ V 78 (15) = u15) (F49 : (0 : Int) ≤ 16 ∧ (16 : Int) < j_len 78 ∧ V 78 (16) = u16) (F50 : (0 : Int) ≤ 17 ∧ (17 : Int) < j_len 78 ∧ V 78 (17) = u17) (F51 : (0 : Int) ≤ 18 ∧ (18 : Int) < j_len 78 ∧ V 78 (18) = u18) (F52 : (0 : Int) ≤ 19 ∧ (19 : Int) < j_len 78 ∧ V 78 (19) = u19) (F53 : (0 : Int) ≤ 20 ∧ (20 : Int) < j_len 78 ∧ V 78 (20) = u20) (F54 : (0 : Int) ≤ 21 ∧ (21 : Int) < j_len 78 ∧ V 78 (21) = u21) (F55 : (0 : Int) ≤ 22 ∧ (22 : Int) < j_len 78 ∧ V 78 (22) = u22) (F56 : (0 : Int) ≤ 23 ∧ (23 : Int) < j_len 78 ∧ V 78 (23) = u23) (F57 : (0 : Int) ≤ 24 ∧ (24 : Int) < j_len 78 ∧ V 78 (24) = u24) (F58 : (0 : Int) ≤ 25 ∧ (25 : Int) < j_len 78 ∧ V 78 (25) = u25) (F59 : (0 : Int) ≤ 26 ∧ (26 : Int) < j_len 78 ∧ V 78 (26) = u26) (F60 : (0 : Int) ≤ 27 ∧ (27 : Int) < j_len 78 ∧ V 78 (27) = u27) (F61 : (0 : Int) ≤ 28 ∧ (28 : Int) < j_len 78 ∧ V 78 (28) = u28) (F62 : (0 : Int) ≤ 29 ∧ (29 : Int) < j_len 78 ∧ V 78 (29) = u29) (F63 : (0 : Int) ≤ 30 ∧ (30 : Int) < j_len 78 ∧ V 78 (30) = u30) (F64 : (0 : Int) ≤ 31 ∧ (31 : Int) < j_len 78 ∧ V 78 (31) = u31) (F65 : (0 : Int) ≤ 32 ∧ (32 : Int) < j_len 78 ∧ V 78 (32) = u32) : (True) ∧ (q_ner V ∧ True) := by
  exact ⟨trivial, g_row33 (o := 0) (F0.2.2.trans F33.2.2.symm) (F1.2.2.trans F34.2.2.symm) (F2.2.2.trans F35.2.2.symm) (F3.2.2.trans F36.2.2.symm) (F4.2.2.trans F37.2.2.symm) (F5.2.2.trans F38.2.2.symm) (F6.2.2.trans F39.2.2.symm) (F7.2.2.trans F40.2.2.symm) (F8.2.2.trans F41.2.2.symm) (F9.2.2.trans F42.2.2.symm) (F10.2.2.trans F43.2.2.symm) (F11.2.2.trans F44.2.2.symm) (F12.2.2.trans F45.2.2.symm) (F13.2.2.trans F46.2.2.symm) (F14.2.2.trans F47.2.2.symm) (F15.2.2.trans F48.2.2.symm) (F16.2.2.trans F49.2.2.symm) (F17.2.2.trans F50.2.2.symm) (F18.2.2.trans F51.2.2.symm) (F19.2.2.trans F52.2.2.symm) (F20.2.2.trans F53.2.2.symm) (F21.2.2.trans F54.2.2.symm) (F22.2.2.trans F55.2.2.symm) (F23.2.2.trans F56.2.2.symm) (F24.2.2.trans F57.2.2.symm) (F25.2.2.trans F58.2.2.symm) (F26.2.2.trans F59.2.2.symm) (F27.2.2.trans F60.2.2.symm) (F28.2.2.trans F61.2.2.symm) (F29.2.2.trans F62.2.2.symm) (F30.2.2.trans F63.2.2.symm) (F31.2.2.trans F64.2.2.symm) (F32.2.2.trans F65.2.2.symm), trivial⟩
theorem k_rwo0 {V : zVw} {H p y d q b s o a1 a2 a3 : Int} (T0 : q_ner V) (T1 : q_sto V 0 H p y d q b s o a1 a2 a3) : (True) ∧ (q_rwo V H (0 : Int) (0 : Int) (0 : Int) (0 : Int) (0 : Int) (0 : Int) (0 : Int) ∧ True) := by
  exact ⟨trivial, ⟨⟨T1.1.2.1, T1.1.2.1, T1.1.2.2⟩, T0.symm⟩, trivial⟩
theorem k_str {V : zVw} {H p y d q b s o a1 a2 a3 : Int} (T0 : q_sto V 0 H p y d q b s o a1 a2 a3) (T1 : q_rwo V H q b s o a1 a2 a3) : (True) ∧ (q_str V H p y d ∧ True) := by
  have h9 : g_b (V 78) 0 = _ := T1.2
  exact ⟨trivial, ⟨by rw [h9]; exact T1.1.1, T0.1.2.2, T0.2.trans h9.symm⟩, trivial⟩
theorem k_sto {V : zVw} {H p y d : Int} (T0 : q_str V H p y d) (T1 : q_ner V) : (True) ∧ (q_sto V 0 H p y d (0 : Int) (0 : Int) (0 : Int) (0 : Int) (0 : Int) (0 : Int) (0 : Int) ∧ True) := by
  have h9 : g_nw V = g_b (V 78) 0 := T1
  exact ⟨trivial, g_now_sto T0.1 T0.2.1 h9.symm T0.2.2, trivial⟩
theorem k_hks0 {V : zVw} {H o : Int} (T0 : ((1320 : Int) = 33 * (39 : Int) + 33 * (1 : Int) ∧ 0 ≤ (1 : Int)) ∧ q_hk V H o (39 : Int) (1 : Int)) : (True) ∧ (q_hks V H o (0 : Int) ∧ True) := by
  have h7 := T0.2.1.1
  refine ⟨trivial, ⟨⟨by omega, by omega⟩, T0.2.1.2.1, fun i i0 i1 => ?_, T0.2.2⟩, trivial⟩
  rw [g_hrow0 i0]
  exact T0.2.1.2.2 i i0 i1 (by omega)
theorem k_hkx {V : zVw} {H o k x : Int} (T0 : q_hks V H o k) (C0 : 0 ≤ k) (C1 : 0 ≤ 1286 - k) (F0 : (0 : Int) ≤ k + 33 ∧ (k + 33 : Int) < j_len 81 ∧ V 81 (k + 33) = x) : (True) ∧ (q_hkx V H o k x ∧ True) := by
  have h7 := T0.1
  refine ⟨trivial, ⟨⟨by omega, by omega, by omega⟩, T0.2.1, fun i i0 i1 => ?_, T0.2.2.2⟩, trivial⟩
  rw [g_hrowX F0.2.2]
  exact T0.2.2.1 i i0 i1
theorem k_hks {V : zVw} {H o k x : Int} (T0 : q_hkx V H o k x) (C0 : 0 ≤ k) (C1 : 0 ≤ 1286 - k) (F0 : (0 : Int) ≤ k ∧ (k : Int) < j_len 81 ∧ V 81 (k) = x) : (True) ∧ (q_hks V H o (k + 1) ∧ True) := by
  have h7 := T0.1
  refine ⟨trivial, ⟨⟨by omega, by omega⟩, T0.2.1, fun i i0 i1 => ?_, T0.2.2.2⟩, trivial⟩
  rw [g_hrowS F0.2.2]
  exact T0.2.2.1 i i0 i1
theorem k_hkE {V : zVw} {H o k : Int} (T0 : q_hks V H o k) (C0 : 0 ≤ k - 1287) (C1 : 0 ≤ 1287 - k) : (True) ∧ ((((1287 : Int) = 33 * (39 : Int) + 33 * (0 : Int) ∧ 0 ≤ (0 : Int)) ∧ q_hk V H o (39 : Int) (0 : Int)) ∧ True) := by
  have h7 := T0.1
  have h6 : k = 1287 := by omega
  subst h6
  refine ⟨trivial, ⟨⟨by omega, by omega⟩, ⟨⟨by omega, by omega, by omega⟩, T0.2.1, fun i i0 i1 _ => ?_⟩, T0.2.2.2⟩, trivial⟩
  have h5 := T0.2.2.1 i i0 i1
  rw [g_hrowE i1] at h5
  exact h5
theorem k_his1 {V : zVw} {H o m u0 u1 u2 u3 u4 u5 u6 u7 u8 u9 u10 u11 u12 u13 u14 u15 u16 u17 u18 u19 u20 u21 u22 u23 u24 u25 u26 u27 u28 u29 u30 u31 u32 : Int} (T0 : ((33 * m) = 33 * m + 33 * (0 : Int) ∧ 0 ≤ (0 : Int)) ∧ q_hk V H o m (0 : Int)) (C0 : 0 ≤ m) (C1 : 0 ≤ 39 - m) (F0 : (0 : Int) ≤ 33 * m ∧ (33 * m : Int) < j_len 81 ∧ V 81 (33 * m) = u0) (F1 : (0 : Int) ≤ 33 * m + 1 ∧ (33 * m + 1 : Int) < j_len 81 ∧ V 81 (33 * m + 1) = u1) (F2 : (0 : Int) ≤ 33 * m + 2 ∧ (33 * m + 2 : Int) < j_len 81 ∧ V 81 (33 * m + 2) = u2) (F3 : (0 : Int) ≤ 33 * m + 3 ∧ (33 * m + 3 : Int) < j_len 81 ∧ V 81 (33 * m + 3) = u3) (F4 : (0 : Int) ≤ 33 * m + 4 ∧ (33 * m + 4 : Int) < j_len 81 ∧ V 81 (33 * m + 4) = u4) (F5 : (0 : Int) ≤ 33 * m + 5 ∧ (33 * m + 5 : Int) < j_len 81 ∧ V 81 (33 * m + 5) = u5) (F6 : (0 : Int) ≤ 33 * m + 6 ∧ (33 * m + 6 : Int) < j_len 81 ∧ V 81 (33 * m + 6) = u6) (F7 : (0 : Int) ≤ 33 * m + 7 ∧ (33 * m + 7 : Int) < j_len 81 ∧ V 81 (33 * m + 7) = u7) (F8 : (0 : Int) ≤ 33 * m + 8 ∧ (33 * m + 8 : Int) < j_len 81 ∧ V 81 (33 * m + 8) = u8) (F9 : (0 : Int) ≤ 33 * m + 9 ∧ (33 * m + 9 : Int) < j_len 81 ∧ V 81 (33 * m + 9) = u9) (F10 : (0 : Int) ≤ 33 * m + 10 ∧ (33 * m + 10 : Int) < j_len 81 ∧ V 81 (33 * m + 10) = u10) (F11 : (0 : Int) ≤ 33 * m + 11 ∧ (33 * m + 11 : Int) < j_len 81 ∧ V 81 (33 * m + 11) = u11) (F12 : (0 : Int) ≤ 33 * m + 12 ∧ (33 * m + 12 : Int) < j_len 81 ∧ V 81 (33 * m + 12) = u12) (F13 : (0 : Int) ≤ 33 * m + 13 ∧ (33 * m + 13 : Int) < j_len 81 ∧ V 81 (33 * m + 13) = u13) (F14 : (0 : Int) ≤ 33 * m + 14 ∧ (33 * m + 14 : Int) < j_len 81 ∧ V 81 (33 * m + 14) = u14) (F15 : (0 : Int) ≤ 33 * m + 15 ∧ (33 * m + 15 : Int) < j_len 81 ∧ V 81 (33 * m + 15) = u15) (F16 : (0 : Int) ≤ 33 * m + 16 ∧ (33 * m + 16 : Int) < j_len 81 ∧ V 81 (33 * m + 16) = u16) (F17 : (0 : Int) ≤ 33 * m + 17 ∧ (33 * m + 17 : Int) < j_len 81 ∧ V 81 (33 * m + 17) = u17) (F18 : (0 : Int) ≤ 33 * m + 18 ∧ (33 * m + 18 : Int) < j_len 81 ∧ V 81 (33 * m + 18) = u18) (F19 : (0 : Int) ≤ 33 * m + 19 ∧ (33 * m + 19 : Int) < j_len 81 ∧ V 81 (33 * m + 19) = u19) (F20 : (0 : Int) ≤ 33 * m + 20 ∧ (33 * m + 20 : Int) < j_len 81 ∧ V 81 (33 * m + 20) = u20) (F21 : (0 : Int) ≤ 33 * m + 21 ∧ (33 * m + 21 : Int) < j_len 81 ∧ V 81 (33 * m + 21) = u21) (F22 : (0 : Int) ≤ 33 * m + 22 ∧ (33 * m + 22 : Int) < j_len 81 ∧ V 81 (33 * m + 22) = u22) (F23 : (0 : Int) ≤ 33 * m + 23 ∧ (33 * m + 23 : Int) < j_len 81 ∧ V 81 (33 * m + 23) = u23) (F24 : (0 : Int) ≤ 33 * m + 24 ∧ (33 * m + 24 : Int) < j_len 81 ∧ V 81 (33 * m + 24) = u24) (F25 : (0 : Int) ≤ 33 * m + 25 ∧ (33 * m + 25 : Int) < j_len 81 ∧ V 81 (33 * m + 25) = u25) (F26 : (0 : Int) ≤ 33 * m + 26 ∧ (33 * m + 26 : Int) < j_len 81 ∧ V 81 (33 * m + 26) = u26) (F27 : (0 : Int) ≤ 33 * m + 27 ∧ (33 * m + 27 : Int) < j_len 81 ∧ V 81 (33 * m + 27) = u27) (F28 : (0 : Int) ≤ 33 * m + 28 ∧ (33 * m + 28 : Int) < j_len 81 ∧ V 81 (33 * m + 28) = u28) (F29 : (0 : Int) ≤ 33 * m + 29 ∧ (33 * m + 29 : Int) < j_len 81 ∧ V 81 (33 * m + 29) = u29) (F30 : (0 : Int) ≤ 33 * m + 30 ∧ (33 * m + 30 : Int) < j_len 81 ∧ V 81 (33 * m + 30) = u30) (F31 : (0 : Int) ≤ 33 * m + 31 ∧ (33 * m + 31 : Int) < j_len 81 ∧ V 81 (33 * m + 31) = u31) (F32 : (0 : Int) ≤ 33 * m + 32 ∧ (33 * m + 32 : Int) < j_len 81 ∧ V 81 (33 * m + 32) = u32) (F33 : (0 : Int) ≤ 0 ∧ (0 : Int) < j_len 77 ∧ V 77 (0) = u0) (F34 : (0 : Int) ≤ 1 ∧ (1 : Int) < j_len 77 ∧ V 77 (1) = u1) (F35 : (0 : Int) ≤ 2 ∧ (2 : Int) < j_len 77 ∧ V 77 (2) = u2) (F36 : (0 : Int) ≤ 3 ∧ (3 : Int) < j_len 77 ∧ V 77 (3) = u3) (F37 : (0 : Int) ≤ 4 ∧ (4 : Int) < j_len 77 ∧ V 77 (4) = u4) (F38 : (0 : Int) ≤ 5 ∧ (5 : Int) < j_len 77 ∧ V 77 (5) = u5) (F39 : (0 : Int) ≤ 6 ∧ (6 : Int) < j_len 77 ∧ V 77 (6) = u6) (F40 : (0 : Int) ≤ 7 ∧ (7 : Int) < j_len 77 ∧ V 77 (7) = u7) (F41 : (0 : Int) ≤ 8 ∧ (8 : Int) < j_len 77 ∧ V 77 (8) = u8) (F42 : (0 : Int) ≤ 9 ∧ (9 : Int) < j_len 77 ∧ V 77 (9) = u9) (F43 : (0 : Int) ≤ 10 ∧ (10 : Int) < j_len 77 ∧ V 77 (10) = u10) (F44 : (0 : Int) ≤ 11 ∧ (11 : Int) < j_len 77 ∧ V 77 (11) = u11) (F45 : (0 : Int) ≤ 12 ∧ (12 : Int) < j_len 77 ∧ V 77 (12) = u12) (F46 : (0 : Int) ≤ 13 ∧ (13 : Int) < j_len 77 ∧ V 77 (13) = u13) (F47 : (0 : Int) ≤ 14 ∧ (14 : Int) < j_len 77 ∧ V 77 (14) = u14) (F48 : (0 : Int) ≤ 15 ∧ (15 : Int) < j_len 77 ∧ V 77 (15) = u15) (F49 : (0 : Int) ≤ 16 ∧ (16 : Int) < j_len 77 ∧ V 77 (16) = u16) (F50 : (0 : Int) ≤ 17 ∧ (17 : Int) < j_len 77 ∧ V 77 (17) = u17) (F51 : (0 : Int) ≤ 18 ∧ (18 : Int) < j_len 77 ∧ V 77 (18) = u18) (F52 : (0 : Int) ≤ 19 ∧ (19 : Int) < j_len 77 ∧ V 77 (19) = u19) (F53 : (0 : Int) ≤ 20 ∧ (20 : Int) < j_len 77 ∧ V 77 (20) = u20) (F54 : (0 : Int) ≤ 21 ∧ (21 : Int) < j_len 77 ∧ V 77 (21) = u21) (F55 : (0 : Int) ≤ 22 ∧ (22 : Int) < j_len 77 ∧ V 77 (22) = u22) (F56 : (0 : Int) ≤ 23 ∧ (23 : Int) < j_len 77 ∧ V 77 (23) = u23) (F57 : (0 : Int) ≤ 24 ∧ (24 : Int) < j_len 77 ∧ V 77 (24) = u24) (F58 : (0 : Int) ≤ 25 ∧ (25 : Int) < j_len 77 ∧ V 77 (25) = u25) (F59 : (0 : Int) ≤ 26 ∧ (26 : Int) < j_len 77 ∧ V 77 (26) = u26) (F60 : (0 : Int) ≤ 27 ∧ (27 : Int) < j_len 77 ∧ V 77 (27) = u27) (F61 : (0 : Int) ≤ 28 ∧ (28 : Int) < j_len 77 ∧ V 77 (28) = u28) (F62 : (0 : Int) ≤ 29 ∧ (29 : Int) < j_len 77 ∧ V 77 (29) = u29) (F63 : (0 : Int) ≤ 30 ∧ (30 : Int) < j_len 77 ∧ V 77 (30) = u30) (F64 : (0 : Int) ≤ 31 ∧ (31 : Int) < j_len 77 ∧ V 77 (31) = u31) (F65 : (0 : Int) ≤ 32 ∧ (32 : Int) < j_len 77 ∧ V 77 (32) = u32) : (True) ∧ (q_hx V (-1) H o (m + 1) (0 : Int) ∧ True) := by
  have h7 := T0.2.1.1
  have h8 : g_b (V 81) (33 * m) = g_nw V := g_row33 (F0.2.2.trans F33.2.2.symm) (F1.2.2.trans F34.2.2.symm) (F2.2.2.trans F35.2.2.symm) (F3.2.2.trans F36.2.2.symm) (F4.2.2.trans F37.2.2.symm) (F5.2.2.trans F38.2.2.symm) (F6.2.2.trans F39.2.2.symm) (F7.2.2.trans F40.2.2.symm) (F8.2.2.trans F41.2.2.symm) (F9.2.2.trans F42.2.2.symm) (F10.2.2.trans F43.2.2.symm) (F11.2.2.trans F44.2.2.symm) (F12.2.2.trans F45.2.2.symm) (F13.2.2.trans F46.2.2.symm) (F14.2.2.trans F47.2.2.symm) (F15.2.2.trans F48.2.2.symm) (F16.2.2.trans F49.2.2.symm) (F17.2.2.trans F50.2.2.symm) (F18.2.2.trans F51.2.2.symm) (F19.2.2.trans F52.2.2.symm) (F20.2.2.trans F53.2.2.symm) (F21.2.2.trans F54.2.2.symm) (F22.2.2.trans F55.2.2.symm) (F23.2.2.trans F56.2.2.symm) (F24.2.2.trans F57.2.2.symm) (F25.2.2.trans F58.2.2.symm) (F26.2.2.trans F59.2.2.symm) (F27.2.2.trans F60.2.2.symm) (F28.2.2.trans F61.2.2.symm) (F29.2.2.trans F62.2.2.symm) (F30.2.2.trans F63.2.2.symm) (F31.2.2.trans F64.2.2.symm) (F32.2.2.trans F65.2.2.symm)
  refine ⟨trivial, ⟨⟨by omega, by omega, by omega⟩, T0.2.1.2.1, fun i i0 i1 c9 => ?_⟩, trivial⟩
  by_cases h6 : i < m
  · exact T0.2.1.2.2 i i0 h6 c9
  · rw [show i = m by omega, show 33 * (m + 0) = 33 * m by omega, h8]
    exact T0.2.2
theorem k_munS {V : zVw} {H p y d z u0 u1 u2 u3 u4 u5 u6 u7 u8 u9 u10 u11 u12 u13 u14 u15 u16 u17 u18 u19 u20 u21 u22 u23 u24 u25 u26 u27 u28 u29 u30 u31 u32 : Int} (T0 : q_sh V 81 H p y d z) (C0 : 0 ≤ z) (F0 : (0 : Int) ≤ 33 * z ∧ (33 * z : Int) < j_len 81 ∧ V 81 (33 * z) = u0) (F1 : (0 : Int) ≤ 33 * z + 1 ∧ (33 * z + 1 : Int) < j_len 81 ∧ V 81 (33 * z + 1) = u1) (F2 : (0 : Int) ≤ 33 * z + 2 ∧ (33 * z + 2 : Int) < j_len 81 ∧ V 81 (33 * z + 2) = u2) (F3 : (0 : Int) ≤ 33 * z + 3 ∧ (33 * z + 3 : Int) < j_len 81 ∧ V 81 (33 * z + 3) = u3) (F4 : (0 : Int) ≤ 33 * z + 4 ∧ (33 * z + 4 : Int) < j_len 81 ∧ V 81 (33 * z + 4) = u4) (F5 : (0 : Int) ≤ 33 * z + 5 ∧ (33 * z + 5 : Int) < j_len 81 ∧ V 81 (33 * z + 5) = u5) (F6 : (0 : Int) ≤ 33 * z + 6 ∧ (33 * z + 6 : Int) < j_len 81 ∧ V 81 (33 * z + 6) = u6) (F7 : (0 : Int) ≤ 33 * z + 7 ∧ (33 * z + 7 : Int) < j_len 81 ∧ V 81 (33 * z + 7) = u7) (F8 : (0 : Int) ≤ 33 * z + 8 ∧ (33 * z + 8 : Int) < j_len 81 ∧ V 81 (33 * z + 8) = u8) (F9 : (0 : Int) ≤ 33 * z + 9 ∧ (33 * z + 9 : Int) < j_len 81 ∧ V 81 (33 * z + 9) = u9) (F10 : (0 : Int) ≤ 33 * z + 10 ∧ (33 * z + 10 : Int) < j_len 81 ∧ V 81 (33 * z + 10) = u10) (F11 : (0 : Int) ≤ 33 * z + 11 ∧ (33 * z + 11 : Int) < j_len 81 ∧ V 81 (33 * z + 11) = u11) (F12 : (0 : Int) ≤ 33 * z + 12 ∧ (33 * z + 12 : Int) < j_len 81 ∧ V 81 (33 * z + 12) = u12) (F13 : (0 : Int) ≤ 33 * z + 13 ∧ (33 * z + 13 : Int) < j_len 81 ∧ V 81 (33 * z + 13) = u13) (F14 : (0 : Int) ≤ 33 * z + 14 ∧ (33 * z + 14 : Int) < j_len 81 ∧ V 81 (33 * z + 14) = u14) (F15 : (0 : Int) ≤ 33 * z + 15 ∧ (33 * z + 15 : Int) < j_len 81 ∧ V 81 (33 * z + 15) = u15) (F16 : (0 : Int) ≤ 33 * z + 16 ∧ (33 * z + 16 : Int) < j_len 81 ∧ V 81 (33 * z + 16) = u16) (F17 : (0 : Int) ≤ 33 * z + 17 ∧ (33 * z + 17 : Int) < j_len 81 ∧ V 81 (33 * z + 17) = u17) (F18 : (0 : Int) ≤ 33 * z + 18 ∧ (33 * z + 18 : Int) < j_len 81 ∧ V 81 (33 * z + 18) = u18) (F19 : (0 : Int) ≤ 33 * z + 19 ∧ (33 * z + 19 : Int) < j_len 81 ∧ V 81 (33 * z + 19) = u19) (F20 : (0 : Int) ≤ 33 * z + 20 ∧ (33 * z + 20 : Int) < j_len 81 ∧ V 81 (33 * z + 20) = u20) (F21 : (0 : Int) ≤ 33 * z + 21 ∧ (33 * z + 21 : Int) < j_len 81 ∧ V 81 (33 * z + 21) = u21) (F22 : (0 : Int) ≤ 33 * z + 22 ∧ (33 * z + 22 : Int) < j_len 81 ∧ V 81 (33 * z + 22) = u22) (F23 : (0 : Int) ≤ 33 * z + 23 ∧ (33 * z + 23 : Int) < j_len 81 ∧ V 81 (33 * z + 23) = u23) (F24 : (0 : Int) ≤ 33 * z + 24 ∧ (33 * z + 24 : Int) < j_len 81 ∧ V 81 (33 * z + 24) = u24) (F25 : (0 : Int) ≤ 33 * z + 25 ∧ (33 * z + 25 : Int) < j_len 81 ∧ V 81 (33 * z + 25) = u25) (F26 : (0 : Int) ≤ 33 * z + 26 ∧ (33 * z + 26 : Int) < j_len 81 ∧ V 81 (33 * z + 26) = u26) (F27 : (0 : Int) ≤ 33 * z + 27 ∧ (33 * z + 27 : Int) < j_len 81 ∧ V 81 (33 * z + 27) = u27) (F28 : (0 : Int) ≤ 33 * z + 28 ∧ (33 * z + 28 : Int) < j_len 81 ∧ V 81 (33 * z + 28) = u28) (F29 : (0 : Int) ≤ 33 * z + 29 ∧ (33 * z + 29 : Int) < j_len 81 ∧ V 81 (33 * z + 29) = u29) (F30 : (0 : Int) ≤ 33 * z + 30 ∧ (33 * z + 30 : Int) < j_len 81 ∧ V 81 (33 * z + 30) = u30) (F31 : (0 : Int) ≤ 33 * z + 31 ∧ (33 * z + 31 : Int) < j_len 81 ∧ V 81 (33 * z + 31) = u31) (F32 : (0 : Int) ≤ 33 * z + 32 ∧ (33 * z + 32 : Int) < j_len 81 ∧ V 81 (33 * z + 32) = u32) (F33 : (0 : Int) ≤ 0 ∧ (0 : Int) < j_len 77 ∧ V 77 (0) = u0) (F34 : (0 : Int) ≤ 1 ∧ (1 : Int) < j_len 77 ∧ V 77 (1) = u1) (F35 : (0 : Int) ≤ 2 ∧ (2 : Int) < j_len 77 ∧ V 77 (2) = u2) (F36 : (0 : Int) ≤ 3 ∧ (3 : Int) < j_len 77 ∧ V 77 (3) = u3) (F37 : (0 : Int) ≤ 4 ∧ (4 : Int) < j_len 77 ∧ V 77 (4) = u4) (F38 : (0 : Int) ≤ 5 ∧ (5 : Int) < j_len 77 ∧ V 77 (5) = u5) (F39 : (0 : Int) ≤ 6 ∧ (6 : Int) < j_len 77 ∧ V 77 (6) = u6) (F40 : (0 : Int) ≤ 7 ∧ (7 : Int) < j_len 77 ∧ V 77 (7) = u7) (F41 : (0 : Int) ≤ 8 ∧ (8 : Int) < j_len 77 ∧ V 77 (8) = u8) (F42 : (0 : Int) ≤ 9 ∧ (9 : Int) < j_len 77 ∧ V 77 (9) = u9) (F43 : (0 : Int) ≤ 10 ∧ (10 : Int) < j_len 77 ∧ V 77 (10) = u10) (F44 : (0 : Int) ≤ 11 ∧ (11 : Int) < j_len 77 ∧ V 77 (11) = u11) (F45 : (0 : Int) ≤ 12 ∧ (12 : Int) < j_len 77 ∧ V 77 (12) = u12) (F46 : (0 : Int) ≤ 13 ∧ (13 : Int) < j_len 77 ∧ V 77 (13) = u13) (F47 : (0 : Int) ≤ 14 ∧ (14 : Int) < j_len 77 ∧ V 77 (14) = u14) (F48 : (0 : Int) ≤ 15 ∧ (15 : Int) < j_len 77 ∧ V 77 (15) = u15) (F49 : (0 : Int) ≤ 16 ∧ (16 : Int) < j_len 77 ∧ V 77 (16) = u16) (F50 : (0 : Int) ≤ 17 ∧ (17 : Int) < j_len 77 ∧ V 77 (17) = u17) (F51 : (0 : Int) ≤ 18 ∧ (18 : Int) < j_len 77 ∧ V 77 (18) = u18) (F52 : (0 : Int) ≤ 19 ∧ (19 : Int) < j_len 77 ∧ V 77 (19) = u19) (F53 : (0 : Int) ≤ 20 ∧ (20 : Int) < j_len 77 ∧ V 77 (20) = u20) (F54 : (0 : Int) ≤ 21 ∧ (21 : Int) < j_len 77 ∧ V 77 (21) = u21) (F55 : (0 : Int) ≤ 22 ∧ (22 : Int) < j_len 77 ∧ V 77 (22) = u22) (F56 : (0 : Int) ≤ 23 ∧ (23 : Int) < j_len 77 ∧ V 77 (23) = u23) (F57 : (0 : Int) ≤ 24 ∧ (24 : Int) < j_len 77 ∧ V 77 (24) = u24) (F58 : (0 : Int) ≤ 25 ∧ (25 : Int) < j_len 77 ∧ V 77 (25) = u25) (F59 : (0 : Int) ≤ 26 ∧ (26 : Int) < j_len 77 ∧ V 77 (26) = u26) (F60 : (0 : Int) ≤ 27 ∧ (27 : Int) < j_len 77 ∧ V 77 (27) = u27) (F61 : (0 : Int) ≤ 28 ∧ (28 : Int) < j_len 77 ∧ V 77 (28) = u28) (F62 : (0 : Int) ≤ 29 ∧ (29 : Int) < j_len 77 ∧ V 77 (29) = u29) (F63 : (0 : Int) ≤ 30 ∧ (30 : Int) < j_len 77 ∧ V 77 (30) = u30) (F64 : (0 : Int) ≤ 31 ∧ (31 : Int) < j_len 77 ∧ V 77 (31) = u31) (F65 : (0 : Int) ≤ 32 ∧ (32 : Int) < j_len 77 ∧ V 77 (32) = u32) : (True) ∧ (q_sto V 0 H p y d (0 : Int) (0 : Int) (0 : Int) (0 : Int) (0 : Int) (0 : Int) (0 : Int) ∧ True) := by
  have h8 : g_b (V 81) (33 * z) = g_nw V := g_row33 (F0.2.2.trans F33.2.2.symm) (F1.2.2.trans F34.2.2.symm) (F2.2.2.trans F35.2.2.symm) (F3.2.2.trans F36.2.2.symm) (F4.2.2.trans F37.2.2.symm) (F5.2.2.trans F38.2.2.symm) (F6.2.2.trans F39.2.2.symm) (F7.2.2.trans F40.2.2.symm) (F8.2.2.trans F41.2.2.symm) (F9.2.2.trans F42.2.2.symm) (F10.2.2.trans F43.2.2.symm) (F11.2.2.trans F44.2.2.symm) (F12.2.2.trans F45.2.2.symm) (F13.2.2.trans F46.2.2.symm) (F14.2.2.trans F47.2.2.symm) (F15.2.2.trans F48.2.2.symm) (F16.2.2.trans F49.2.2.symm) (F17.2.2.trans F50.2.2.symm) (F18.2.2.trans F51.2.2.symm) (F19.2.2.trans F52.2.2.symm) (F20.2.2.trans F53.2.2.symm) (F21.2.2.trans F54.2.2.symm) (F22.2.2.trans F55.2.2.symm) (F23.2.2.trans F56.2.2.symm) (F24.2.2.trans F57.2.2.symm) (F25.2.2.trans F58.2.2.symm) (F26.2.2.trans F59.2.2.symm) (F27.2.2.trans F60.2.2.symm) (F28.2.2.trans F61.2.2.symm) (F29.2.2.trans F62.2.2.symm) (F30.2.2.trans F63.2.2.symm) (F31.2.2.trans F64.2.2.symm) (F32.2.2.trans F65.2.2.symm)
  exact ⟨trivial, g_now_sto T0.2.1 T0.2.2.1 h8 T0.2.2.2, trivial⟩
theorem k_mhold0 {V : zVw} {H z0 z1 z2 u0 u1 u2 u3 u4 u5 u6 u7 u8 u9 u10 u11 u12 u13 u14 u15 u16 u17 u18 u19 u20 u21 u22 u23 u24 u25 u26 u27 u28 u29 u30 u31 u32 : Int} (T0 : 0 ≤ (0 : Int) ∧ q_sl V (0 : Int) H z0 z1 z2) (T1 : (1 ≤ (2 : Int) ∧ (2 : Int) ≤ 44) ∧ g_sb V H ∧ q_kp V (2 : Int).toNat H (g_nw V)) (F0 : (0 : Int) ≤ 0 ∧ (0 : Int) < j_len 95 ∧ V 95 (0) = u0) (F1 : (0 : Int) ≤ 1 ∧ (1 : Int) < j_len 95 ∧ V 95 (1) = u1) (F2 : (0 : Int) ≤ 2 ∧ (2 : Int) < j_len 95 ∧ V 95 (2) = u2) (F3 : (0 : Int) ≤ 3 ∧ (3 : Int) < j_len 95 ∧ V 95 (3) = u3) (F4 : (0 : Int) ≤ 4 ∧ (4 : Int) < j_len 95 ∧ V 95 (4) = u4) (F5 : (0 : Int) ≤ 5 ∧ (5 : Int) < j_len 95 ∧ V 95 (5) = u5) (F6 : (0 : Int) ≤ 6 ∧ (6 : Int) < j_len 95 ∧ V 95 (6) = u6) (F7 : (0 : Int) ≤ 7 ∧ (7 : Int) < j_len 95 ∧ V 95 (7) = u7) (F8 : (0 : Int) ≤ 8 ∧ (8 : Int) < j_len 95 ∧ V 95 (8) = u8) (F9 : (0 : Int) ≤ 9 ∧ (9 : Int) < j_len 95 ∧ V 95 (9) = u9) (F10 : (0 : Int) ≤ 10 ∧ (10 : Int) < j_len 95 ∧ V 95 (10) = u10) (F11 : (0 : Int) ≤ 11 ∧ (11 : Int) < j_len 95 ∧ V 95 (11) = u11) (F12 : (0 : Int) ≤ 12 ∧ (12 : Int) < j_len 95 ∧ V 95 (12) = u12) (F13 : (0 : Int) ≤ 13 ∧ (13 : Int) < j_len 95 ∧ V 95 (13) = u13) (F14 : (0 : Int) ≤ 14 ∧ (14 : Int) < j_len 95 ∧ V 95 (14) = u14) (F15 : (0 : Int) ≤ 15 ∧ (15 : Int) < j_len 95 ∧ V 95 (15) = u15) (F16 : (0 : Int) ≤ 16 ∧ (16 : Int) < j_len 95 ∧ V 95 (16) = u16) (F17 : (0 : Int) ≤ 17 ∧ (17 : Int) < j_len 95 ∧ V 95 (17) = u17) (F18 : (0 : Int) ≤ 18 ∧ (18 : Int) < j_len 95 ∧ V 95 (18) = u18) (F19 : (0 : Int) ≤ 19 ∧ (19 : Int) < j_len 95 ∧ V 95 (19) = u19) (F20 : (0 : Int) ≤ 20 ∧ (20 : Int) < j_len 95 ∧ V 95 (20) = u20) (F21 : (0 : Int) ≤ 21 ∧ (21 : Int) < j_len 95 ∧ V 95 (21) = u21) (F22 : (0 : Int) ≤ 22 ∧ (22 : Int) < j_len 95 ∧ V 95 (22) = u22) (F23 : (0 : Int) ≤ 23 ∧ (23 : Int) < j_len 95 ∧ V 95 (23) = u23) (F24 : (0 : Int) ≤ 24 ∧ (24 : Int) < j_len 95 ∧ V 95 (24) = u24) (F25 : (0 : Int) ≤ 25 ∧ (25 : Int) < j_len 95 ∧ V 95 (25) = u25) (F26 : (0 : Int) ≤ 26 ∧ (26 : Int) < j_len 95 ∧ V 95 (26) = u26) (F27 : (0 : Int) ≤ 27 ∧ (27 : Int) < j_len 95 ∧ V 95 (27) = u27) (F28 : (0 : Int) ≤ 28 ∧ (28 : Int) < j_len 95 ∧ V 95 (28) = u28) (F29 : (0 : Int) ≤ 29 ∧ (29 : Int) < j_len 95 ∧ V 95 (29) = u29) (F30 : (0 : Int) ≤ 30 ∧ (30 : Int) < j_len 95 ∧ V 95 (30) = u30) (F31 : (0 : Int) ≤ 31 ∧ (31 : Int) < j_len 95 ∧ V 95 (31) = u31) (F32 : (0 : Int) ≤ 32 ∧ (32 : Int) < j_len 95 ∧ V 95 (32) = u32) (F33 : (0 : Int) ≤ 0 ∧ (0 : Int) < j_len 77 ∧ V 77 (0) = u0) (F34 : (0 : Int) ≤ 1 ∧ (1 : Int) < j_len 77 ∧ V 77 (1) = u1) (F35 : (0 : Int) ≤ 2 ∧ (2 : Int) < j_len 77 ∧ V 77 (2) = u2) (F36 : (0 : Int) ≤ 3 ∧ (3 : Int) < j_len 77 ∧ V 77 (3) = u3) (F37 : (0 : Int) ≤ 4 ∧ (4 : Int) < j_len 77 ∧ V 77 (4) = u4) (F38 : (0 : Int) ≤ 5 ∧ (5 : Int) < j_len 77 ∧ V 77 (5) = u5) (F39 : (0 : Int) ≤ 6 ∧ (6 : Int) < j_len 77 ∧ V 77 (6) = u6) (F40 : (0 : Int) ≤ 7 ∧ (7 : Int) < j_len 77 ∧ V 77 (7) = u7) (F41 : (0 : Int) ≤ 8 ∧ (8 : Int) < j_len 77 ∧ V 77 (8) = u8) (F42 : (0 : Int) ≤ 9 ∧ (9 : Int) < j_len 77 ∧ V 77 (9) = u9) (F43 : (0 : Int) ≤ 10 ∧ (10 : Int) < j_len 77 ∧ V 77 (10) = u10) (F44 : (0 : Int) ≤ 11 ∧ (11 : Int) < j_len 77 ∧ V 77 (11) = u11) (F45 : (0 : Int) ≤ 12 ∧ (12 : Int) < j_len 77 ∧ V 77 (12) = u12) (F46 : (0 : Int) ≤ 13 ∧ (13 : Int) < j_len 77 ∧ V 77 (13) = u13) (F47 : (0 : Int) ≤ 14 ∧ (14 : Int) < j_len 77 ∧ V 77 (14) = u14) (F48 : (0 : Int) ≤ 15 ∧ (15 : Int) < j_len 77 ∧ V 77 (15) = u15) (F49 : (0 : Int) ≤ 16 ∧ (16 : Int) < j_len 77 ∧ V 77 (16) = u16) (F50 : (0 : Int) ≤ 17 ∧ (17 : Int) < j_len 77 ∧ V 77 (17) = u17) (F51 : (0 : Int) ≤ 18 ∧ (18 : Int) < j_len 77 ∧ V 77 (18) = u18) (F52 : (0 : Int) ≤ 19 ∧ (19 : Int) < j_len 77 ∧ V 77 (19) = u19) (F53 : (0 : Int) ≤ 20 ∧ (20 : Int) < j_len 77 ∧ V 77 (20) = u20) (F54 : (0 : Int) ≤ 21 ∧ (21 : Int) < j_len 77 ∧ V 77 (21) = u21) (F55 : (0 : Int) ≤ 22 ∧ (22 : Int) < j_len 77 ∧ V 77 (22) = u22) (F56 : (0 : Int) ≤ 23 ∧ (23 : Int) < j_len 77 ∧ V 77 (23) = u23) (F57 : (0 : Int) ≤ 24 ∧ (24 : Int) < j_len 77 ∧ V 77 (24) = u24) (F58 : (0 : Int) ≤ 25 ∧ (25 : Int) < j_len 77 ∧ V 77 (25) = u25) (F59 : (0 : Int) ≤ 26 ∧ (26 : Int) < j_len 77 ∧ V 77 (26) = u26) (F60 : (0 : Int) ≤ 27 ∧ (27 : Int) < j_len 77 ∧ V 77 (27) = u27) (F61 : (0 : Int) ≤ 28 ∧ (28 : Int) < j_len 77 ∧ V 77 (28) = u28) (F62 : (0 : Int) ≤ 29 ∧ (29 : Int) < j_len 77 ∧ V 77 (29) = u29) (F63 : (0 : Int) ≤ 30 ∧ (30 : Int) < j_len 77 ∧ V 77 (30) = u30) (F64 : (0 : Int) ≤ 31 ∧ (31 : Int) < j_len 77 ∧ V 77 (31) = u31) (F65 : (0 : Int) ≤ 32 ∧ (32 : Int) < j_len 77 ∧ V 77 (32) = u32) : (True) ∧ (q_sl V (-1) H (1 : Int) z1 z2 ∧ True) := by
  have h8 : g_b (V 95) 0 = g_nw V := g_row33 (F0.2.2.trans F33.2.2.symm) (F1.2.2.trans F34.2.2.symm) (F2.2.2.trans F35.2.2.symm) (F3.2.2.trans F36.2.2.symm) (F4.2.2.trans F37.2.2.symm) (F5.2.2.trans F38.2.2.symm) (F6.2.2.trans F39.2.2.symm) (F7.2.2.trans F40.2.2.symm) (F8.2.2.trans F41.2.2.symm) (F9.2.2.trans F42.2.2.symm) (F10.2.2.trans F43.2.2.symm) (F11.2.2.trans F44.2.2.symm) (F12.2.2.trans F45.2.2.symm) (F13.2.2.trans F46.2.2.symm) (F14.2.2.trans F47.2.2.symm) (F15.2.2.trans F48.2.2.symm) (F16.2.2.trans F49.2.2.symm) (F17.2.2.trans F50.2.2.symm) (F18.2.2.trans F51.2.2.symm) (F19.2.2.trans F52.2.2.symm) (F20.2.2.trans F53.2.2.symm) (F21.2.2.trans F54.2.2.symm) (F22.2.2.trans F55.2.2.symm) (F23.2.2.trans F56.2.2.symm) (F24.2.2.trans F57.2.2.symm) (F25.2.2.trans F58.2.2.symm) (F26.2.2.trans F59.2.2.symm) (F27.2.2.trans F60.2.2.symm) (F28.2.2.trans F61.2.2.symm) (F29.2.2.trans F62.2.2.symm) (F30.2.2.trans F63.2.2.symm) (F31.2.2.trans F64.2.2.symm) (F32.2.2.trans F65.2.2.symm)
  have h7 : q_kp V 2 H (g_b (V 95) 0) := by rw [h8]; exact T1.2.2
  exact ⟨trivial, ⟨T0.2.1, fun _ _ => h7, fun z9 _ => T0.2.2.2.1 z9 (by decide), fun z9 _ => T0.2.2.2.2 z9 (by decide)⟩, trivial⟩
theorem k_mrest0 {V : zVw} {H p y d u0 u1 u2 u3 u4 u5 u6 u7 u8 u9 u10 u11 u12 u13 u14 u15 u16 u17 u18 u19 u20 u21 u22 u23 u24 u25 u26 u27 u28 u29 u30 u31 u32 : Int} (T0 : q_sh V 95 H p y d (0 : Int)) (F0 : (0 : Int) ≤ 0 ∧ (0 : Int) < j_len 95 ∧ V 95 (0) = u0) (F1 : (0 : Int) ≤ 1 ∧ (1 : Int) < j_len 95 ∧ V 95 (1) = u1) (F2 : (0 : Int) ≤ 2 ∧ (2 : Int) < j_len 95 ∧ V 95 (2) = u2) (F3 : (0 : Int) ≤ 3 ∧ (3 : Int) < j_len 95 ∧ V 95 (3) = u3) (F4 : (0 : Int) ≤ 4 ∧ (4 : Int) < j_len 95 ∧ V 95 (4) = u4) (F5 : (0 : Int) ≤ 5 ∧ (5 : Int) < j_len 95 ∧ V 95 (5) = u5) (F6 : (0 : Int) ≤ 6 ∧ (6 : Int) < j_len 95 ∧ V 95 (6) = u6) (F7 : (0 : Int) ≤ 7 ∧ (7 : Int) < j_len 95 ∧ V 95 (7) = u7) (F8 : (0 : Int) ≤ 8 ∧ (8 : Int) < j_len 95 ∧ V 95 (8) = u8) (F9 : (0 : Int) ≤ 9 ∧ (9 : Int) < j_len 95 ∧ V 95 (9) = u9) (F10 : (0 : Int) ≤ 10 ∧ (10 : Int) < j_len 95 ∧ V 95 (10) = u10) (F11 : (0 : Int) ≤ 11 ∧ (11 : Int) < j_len 95 ∧ V 95 (11) = u11) (F12 : (0 : Int) ≤ 12 ∧ (12 : Int) < j_len 95 ∧ V 95 (12) = u12) (F13 : (0 : Int) ≤ 13 ∧ (13 : Int) < j_len 95 ∧ V 95 (13) = u13) (F14 : (0 : Int) ≤ 14 ∧ (14 : Int) < j_len 95 ∧ V 95 (14) = u14) (F15 : (0 : Int) ≤ 15 ∧ (15 : Int) < j_len 95 ∧ V 95 (15) = u15) (F16 : (0 : Int) ≤ 16 ∧ (16 : Int) < j_len 95 ∧ V 95 (16) = u16) (F17 : (0 : Int) ≤ 17 ∧ (17 : Int) < j_len 95 ∧ V 95 (17) = u17) (F18 : (0 : Int) ≤ 18 ∧ (18 : Int) < j_len 95 ∧ V 95 (18) = u18) (F19 : (0 : Int) ≤ 19 ∧ (19 : Int) < j_len 95 ∧ V 95 (19) = u19) (F20 : (0 : Int) ≤ 20 ∧ (20 : Int) < j_len 95 ∧ V 95 (20) = u20) (F21 : (0 : Int) ≤ 21 ∧ (21 : Int) < j_len 95 ∧ V 95 (21) = u21) (F22 : (0 : Int) ≤ 22 ∧ (22 : Int) < j_len 95 ∧ V 95 (22) = u22) (F23 : (0 : Int) ≤ 23 ∧ (23 : Int) < j_len 95 ∧ V 95 (23) = u23) (F24 : (0 : Int) ≤ 24 ∧ (24 : Int) < j_len 95 ∧ V 95 (24) = u24) (F25 : (0 : Int) ≤ 25 ∧ (25 : Int) < j_len 95 ∧ V 95 (25) = u25) (F26 : (0 : Int) ≤ 26 ∧ (26 : Int) < j_len 95 ∧ V 95 (26) = u26) (F27 : (0 : Int) ≤ 27 ∧ (27 : Int) < j_len 95 ∧ V 95 (27) = u27) (F28 : (0 : Int) ≤ 28 ∧ (28 : Int) < j_len 95 ∧ V 95 (28) = u28) (F29 : (0 : Int) ≤ 29 ∧ (29 : Int) < j_len 95 ∧ V 95 (29) = u29) (F30 : (0 : Int) ≤ 30 ∧ (30 : Int) < j_len 95 ∧ V 95 (30) = u30) (F31 : (0 : Int) ≤ 31 ∧ (31 : Int) < j_len 95 ∧ V 95 (31) = u31) (F32 : (0 : Int) ≤ 32 ∧ (32 : Int) < j_len 95 ∧ V 95 (32) = u32) (F33 : (0 : Int) ≤ 0 ∧ (0 : Int) < j_len 77 ∧ V 77 (0) = u0) (F34 : (0 : Int) ≤ 1 ∧ (1 : Int) < j_len 77 ∧ V 77 (1) = u1) (F35 : (0 : Int) ≤ 2 ∧ (2 : Int) < j_len 77 ∧ V 77 (2) = u2) (F36 : (0 : Int) ≤ 3 ∧ (3 : Int) < j_len 77 ∧ V 77 (3) = u3) (F37 : (0 : Int) ≤ 4 ∧ (4 : Int) < j_len 77 ∧ V 77 (4) = u4) (F38 : (0 : Int) ≤ 5 ∧ (5 : Int) < j_len 77 ∧ V 77 (5) = u5) (F39 : (0 : Int) ≤ 6 ∧ (6 : Int) < j_len 77 ∧ V 77 (6) = u6) (F40 : (0 : Int) ≤ 7 ∧ (7 : Int) < j_len 77 ∧ V 77 (7) = u7) (F41 : (0 : Int) ≤ 8 ∧ (8 : Int) < j_len 77 ∧ V 77 (8) = u8) (F42 : (0 : Int) ≤ 9 ∧ (9 : Int) < j_len 77 ∧ V 77 (9) = u9) (F43 : (0 : Int) ≤ 10 ∧ (10 : Int) < j_len 77 ∧ V 77 (10) = u10) (F44 : (0 : Int) ≤ 11 ∧ (11 : Int) < j_len 77 ∧ V 77 (11) = u11) (F45 : (0 : Int) ≤ 12 ∧ (12 : Int) < j_len 77 ∧ V 77 (12) = u12) (F46 : (0 : Int) ≤ 13 ∧ (13 : Int) < j_len 77 ∧ V 77 (13) = u13) (F47 : (0 : Int) ≤ 14 ∧ (14 : Int) < j_len 77 ∧ V 77 (14) = u14) (F48 : (0 : Int) ≤ 15 ∧ (15 : Int) < j_len 77 ∧ V 77 (15) = u15) (F49 : (0 : Int) ≤ 16 ∧ (16 : Int) < j_len 77 ∧ V 77 (16) = u16) (F50 : (0 : Int) ≤ 17 ∧ (17 : Int) < j_len 77 ∧ V 77 (17) = u17) (F51 : (0 : Int) ≤ 18 ∧ (18 : Int) < j_len 77 ∧ V 77 (18) = u18) (F52 : (0 : Int) ≤ 19 ∧ (19 : Int) < j_len 77 ∧ V 77 (19) = u19) (F53 : (0 : Int) ≤ 20 ∧ (20 : Int) < j_len 77 ∧ V 77 (20) = u20) (F54 : (0 : Int) ≤ 21 ∧ (21 : Int) < j_len 77 ∧ V 77 (21) = u21) (F55 : (0 : Int) ≤ 22 ∧ (22 : Int) < j_len 77 ∧ V 77 (22) = u22) (F56 : (0 : Int) ≤ 23 ∧ (23 : Int) < j_len 77 ∧ V 77 (23) = u23) (F57 : (0 : Int) ≤ 24 ∧ (24 : Int) < j_len 77 ∧ V 77 (24) = u24) (F58 : (0 : Int) ≤ 25 ∧ (25 : Int) < j_len 77 ∧ V 77 (25) = u25) (F59 : (0 : Int) ≤ 26 ∧ (26 : Int) < j_len 77 ∧ V 77 (26) = u26) (F60 : (0 : Int) ≤ 27 ∧ (27 : Int) < j_len 77 ∧ V 77 (27) = u27) (F61 : (0 : Int) ≤ 28 ∧ (28 : Int) < j_len 77 ∧ V 77 (28) = u28) (F62 : (0 : Int) ≤ 29 ∧ (29 : Int) < j_len 77 ∧ V 77 (29) = u29) (F63 : (0 : Int) ≤ 30 ∧ (30 : Int) < j_len 77 ∧ V 77 (30) = u30) (F64 : (0 : Int) ≤ 31 ∧ (31 : Int) < j_len 77 ∧ V 77 (31) = u31) (F65 : (0 : Int) ≤ 32 ∧ (32 : Int) < j_len 77 ∧ V 77 (32) = u32) : (True) ∧ (q_sto V 0 H p y d (0 : Int) (0 : Int) (0 : Int) (0 : Int) (0 : Int) (0 : Int) (0 : Int) ∧ True) := by
  have h8 : g_b (V 95) (33 * 0) = g_nw V := g_row33 (F0.2.2.trans F33.2.2.symm) (F1.2.2.trans F34.2.2.symm) (F2.2.2.trans F35.2.2.symm) (F3.2.2.trans F36.2.2.symm) (F4.2.2.trans F37.2.2.symm) (F5.2.2.trans F38.2.2.symm) (F6.2.2.trans F39.2.2.symm) (F7.2.2.trans F40.2.2.symm) (F8.2.2.trans F41.2.2.symm) (F9.2.2.trans F42.2.2.symm) (F10.2.2.trans F43.2.2.symm) (F11.2.2.trans F44.2.2.symm) (F12.2.2.trans F45.2.2.symm) (F13.2.2.trans F46.2.2.symm) (F14.2.2.trans F47.2.2.symm) (F15.2.2.trans F48.2.2.symm) (F16.2.2.trans F49.2.2.symm) (F17.2.2.trans F50.2.2.symm) (F18.2.2.trans F51.2.2.symm) (F19.2.2.trans F52.2.2.symm) (F20.2.2.trans F53.2.2.symm) (F21.2.2.trans F54.2.2.symm) (F22.2.2.trans F55.2.2.symm) (F23.2.2.trans F56.2.2.symm) (F24.2.2.trans F57.2.2.symm) (F25.2.2.trans F58.2.2.symm) (F26.2.2.trans F59.2.2.symm) (F27.2.2.trans F60.2.2.symm) (F28.2.2.trans F61.2.2.symm) (F29.2.2.trans F62.2.2.symm) (F30.2.2.trans F63.2.2.symm) (F31.2.2.trans F64.2.2.symm) (F32.2.2.trans F65.2.2.symm)
  exact ⟨trivial, g_now_sto T0.2.1 T0.2.2.1 h8 T0.2.2.2, trivial⟩
theorem k_mhold1 {V : zVw} {H z0 z1 z2 u0 u1 u2 u3 u4 u5 u6 u7 u8 u9 u10 u11 u12 u13 u14 u15 u16 u17 u18 u19 u20 u21 u22 u23 u24 u25 u26 u27 u28 u29 u30 u31 u32 : Int} (T0 : 0 ≤ (1 : Int) ∧ q_sl V (1 : Int) H z0 z1 z2) (T1 : (1 ≤ (3 : Int) ∧ (3 : Int) ≤ 44) ∧ g_sb V H ∧ q_kp V (3 : Int).toNat H (g_nw V)) (F0 : (0 : Int) ≤ 33 ∧ (33 : Int) < j_len 95 ∧ V 95 (33) = u0) (F1 : (0 : Int) ≤ 34 ∧ (34 : Int) < j_len 95 ∧ V 95 (34) = u1) (F2 : (0 : Int) ≤ 35 ∧ (35 : Int) < j_len 95 ∧ V 95 (35) = u2) (F3 : (0 : Int) ≤ 36 ∧ (36 : Int) < j_len 95 ∧ V 95 (36) = u3) (F4 : (0 : Int) ≤ 37 ∧ (37 : Int) < j_len 95 ∧ V 95 (37) = u4) (F5 : (0 : Int) ≤ 38 ∧ (38 : Int) < j_len 95 ∧ V 95 (38) = u5) (F6 : (0 : Int) ≤ 39 ∧ (39 : Int) < j_len 95 ∧ V 95 (39) = u6) (F7 : (0 : Int) ≤ 40 ∧ (40 : Int) < j_len 95 ∧ V 95 (40) = u7) (F8 : (0 : Int) ≤ 41 ∧ (41 : Int) < j_len 95 ∧ V 95 (41) = u8) (F9 : (0 : Int) ≤ 42 ∧ (42 : Int) < j_len 95 ∧ V 95 (42) = u9) (F10 : (0 : Int) ≤ 43 ∧ (43 : Int) < j_len 95 ∧ V 95 (43) = u10) (F11 : (0 : Int) ≤ 44 ∧ (44 : Int) < j_len 95 ∧ V 95 (44) = u11) (F12 : (0 : Int) ≤ 45 ∧ (45 : Int) < j_len 95 ∧ V 95 (45) = u12) (F13 : (0 : Int) ≤ 46 ∧ (46 : Int) < j_len 95 ∧ V 95 (46) = u13) (F14 : (0 : Int) ≤ 47 ∧ (47 : Int) < j_len 95 ∧ V 95 (47) = u14) (F15 : (0 : Int) ≤ 48 ∧ (48 : Int) < j_len 95 ∧ V 95 (48) = u15) (F16 : (0 : Int) ≤ 49 ∧ (49 : Int) < j_len 95 ∧ V 95 (49) = u16) (F17 : (0 : Int) ≤ 50 ∧ (50 : Int) < j_len 95 ∧ V 95 (50) = u17) (F18 : (0 : Int) ≤ 51 ∧ (51 : Int) < j_len 95 ∧ V 95 (51) = u18) (F19 : (0 : Int) ≤ 52 ∧ (52 : Int) < j_len 95 ∧ V 95 (52) = u19) (F20 : (0 : Int) ≤ 53 ∧ (53 : Int) < j_len 95 ∧ V 95 (53) = u20) (F21 : (0 : Int) ≤ 54 ∧ (54 : Int) < j_len 95 ∧ V 95 (54) = u21) (F22 : (0 : Int) ≤ 55 ∧ (55 : Int) < j_len 95 ∧ V 95 (55) = u22) (F23 : (0 : Int) ≤ 56 ∧ (56 : Int) < j_len 95 ∧ V 95 (56) = u23) (F24 : (0 : Int) ≤ 57 ∧ (57 : Int) < j_len 95 ∧ V 95 (57) = u24) (F25 : (0 : Int) ≤ 58 ∧ (58 : Int) < j_len 95 ∧ V 95 (58) = u25) (F26 : (0 : Int) ≤ 59 ∧ (59 : Int) < j_len 95 ∧ V 95 (59) = u26) (F27 : (0 : Int) ≤ 60 ∧ (60 : Int) < j_len 95 ∧ V 95 (60) = u27) (F28 : (0 : Int) ≤ 61 ∧ (61 : Int) < j_len 95 ∧ V 95 (61) = u28) (F29 : (0 : Int) ≤ 62 ∧ (62 : Int) < j_len 95 ∧ V 95 (62) = u29) (F30 : (0 : Int) ≤ 63 ∧ (63 : Int) < j_len 95 ∧ V 95 (63) = u30) (F31 : (0 : Int) ≤ 64 ∧ (64 : Int) < j_len 95 ∧ V 95 (64) = u31) (F32 : (0 : Int) ≤ 65 ∧ (65 : Int) < j_len 95 ∧ V 95 (65) = u32) (F33 : (0 : Int) ≤ 0 ∧ (0 : Int) < j_len 77 ∧ V 77 (0) = u0) (F34 : (0 : Int) ≤ 1 ∧ (1 : Int) < j_len 77 ∧ V 77 (1) = u1) (F35 : (0 : Int) ≤ 2 ∧ (2 : Int) < j_len 77 ∧ V 77 (2) = u2) (F36 : (0 : Int) ≤ 3 ∧ (3 : Int) < j_len 77 ∧ V 77 (3) = u3) (F37 : (0 : Int) ≤ 4 ∧ (4 : Int) < j_len 77 ∧ V 77 (4) = u4) (F38 : (0 : Int) ≤ 5 ∧ (5 : Int) < j_len 77 ∧ V 77 (5) = u5) (F39 : (0 : Int) ≤ 6 ∧ (6 : Int) < j_len 77 ∧ V 77 (6) = u6) (F40 : (0 : Int) ≤ 7 ∧ (7 : Int) < j_len 77 ∧ V 77 (7) = u7) (F41 : (0 : Int) ≤ 8 ∧ (8 : Int) < j_len 77 ∧ V 77 (8) = u8) (F42 : (0 : Int) ≤ 9 ∧ (9 : Int) < j_len 77 ∧ V 77 (9) = u9) (F43 : (0 : Int) ≤ 10 ∧ (10 : Int) < j_len 77 ∧ V 77 (10) = u10) (F44 : (0 : Int) ≤ 11 ∧ (11 : Int) < j_len 77 ∧ V 77 (11) = u11) (F45 : (0 : Int) ≤ 12 ∧ (12 : Int) < j_len 77 ∧ V 77 (12) = u12) (F46 : (0 : Int) ≤ 13 ∧ (13 : Int) < j_len 77 ∧ V 77 (13) = u13) (F47 : (0 : Int) ≤ 14 ∧ (14 : Int) < j_len 77 ∧ V 77 (14) = u14) (F48 : (0 : Int) ≤ 15 ∧ (15 : Int) < j_len 77 ∧ V 77 (15) = u15) (F49 : (0 : Int) ≤ 16 ∧ (16 : Int) < j_len 77 ∧ V 77 (16) = u16) (F50 : (0 : Int) ≤ 17 ∧ (17 : Int) < j_len 77 ∧ V 77 (17) = u17) (F51 : (0 : Int) ≤ 18 ∧ (18 : Int) < j_len 77 ∧ V 77 (18) = u18) (F52 : (0 : Int) ≤ 19 ∧ (19 : Int) < j_len 77 ∧ V 77 (19) = u19) (F53 : (0 : Int) ≤ 20 ∧ (20 : Int) < j_len 77 ∧ V 77 (20) = u20) (F54 : (0 : Int) ≤ 21 ∧ (21 : Int) < j_len 77 ∧ V 77 (21) = u21) (F55 : (0 : Int) ≤ 22 ∧ (22 : Int) < j_len 77 ∧ V 77 (22) = u22) (F56 : (0 : Int) ≤ 23 ∧ (23 : Int) < j_len 77 ∧ V 77 (23) = u23) (F57 : (0 : Int) ≤ 24 ∧ (24 : Int) < j_len 77 ∧ V 77 (24) = u24) (F58 : (0 : Int) ≤ 25 ∧ (25 : Int) < j_len 77 ∧ V 77 (25) = u25) (F59 : (0 : Int) ≤ 26 ∧ (26 : Int) < j_len 77 ∧ V 77 (26) = u26) (F60 : (0 : Int) ≤ 27 ∧ (27 : Int) < j_len 77 ∧ V 77 (27) = u27) (F61 : (0 : Int) ≤ 28 ∧ (28 : Int) < j_len 77 ∧ V 77 (28) = u28) (F62 : (0 : Int) ≤ 29 ∧ (29 : Int) < j_len 77 ∧ V 77 (29) = u29) (F63 : (0 : Int) ≤ 30 ∧ (30 : Int) < j_len 77 ∧ V 77 (30) = u30) (F64 : (0 : Int) ≤ 31 ∧ (31 : Int) < j_len 77 ∧ V 77 (31) = u31) (F65 : (0 : Int) ≤ 32 ∧ (32 : Int) < j_len 77 ∧ V 77 (32) = u32) : (True) ∧ (q_sl V (-1) H z0 (1 : Int) z2 ∧ True) := by
  have h8 : g_b (V 95) 33 = g_nw V := g_row33 (F0.2.2.trans F33.2.2.symm) (F1.2.2.trans F34.2.2.symm) (F2.2.2.trans F35.2.2.symm) (F3.2.2.trans F36.2.2.symm) (F4.2.2.trans F37.2.2.symm) (F5.2.2.trans F38.2.2.symm) (F6.2.2.trans F39.2.2.symm) (F7.2.2.trans F40.2.2.symm) (F8.2.2.trans F41.2.2.symm) (F9.2.2.trans F42.2.2.symm) (F10.2.2.trans F43.2.2.symm) (F11.2.2.trans F44.2.2.symm) (F12.2.2.trans F45.2.2.symm) (F13.2.2.trans F46.2.2.symm) (F14.2.2.trans F47.2.2.symm) (F15.2.2.trans F48.2.2.symm) (F16.2.2.trans F49.2.2.symm) (F17.2.2.trans F50.2.2.symm) (F18.2.2.trans F51.2.2.symm) (F19.2.2.trans F52.2.2.symm) (F20.2.2.trans F53.2.2.symm) (F21.2.2.trans F54.2.2.symm) (F22.2.2.trans F55.2.2.symm) (F23.2.2.trans F56.2.2.symm) (F24.2.2.trans F57.2.2.symm) (F25.2.2.trans F58.2.2.symm) (F26.2.2.trans F59.2.2.symm) (F27.2.2.trans F60.2.2.symm) (F28.2.2.trans F61.2.2.symm) (F29.2.2.trans F62.2.2.symm) (F30.2.2.trans F63.2.2.symm) (F31.2.2.trans F64.2.2.symm) (F32.2.2.trans F65.2.2.symm)
  have h7 : q_kp V 3 H (g_b (V 95) 33) := by rw [h8]; exact T1.2.2
  exact ⟨trivial, ⟨T0.2.1, fun z9 _ => T0.2.2.1 z9 (by decide), fun _ _ => h7, fun z9 _ => T0.2.2.2.2 z9 (by decide)⟩, trivial⟩
theorem k_mrest1 {V : zVw} {H p y d u0 u1 u2 u3 u4 u5 u6 u7 u8 u9 u10 u11 u12 u13 u14 u15 u16 u17 u18 u19 u20 u21 u22 u23 u24 u25 u26 u27 u28 u29 u30 u31 u32 : Int} (T0 : q_sh V 95 H p y d (1 : Int)) (F0 : (0 : Int) ≤ 33 ∧ (33 : Int) < j_len 95 ∧ V 95 (33) = u0) (F1 : (0 : Int) ≤ 34 ∧ (34 : Int) < j_len 95 ∧ V 95 (34) = u1) (F2 : (0 : Int) ≤ 35 ∧ (35 : Int) < j_len 95 ∧ V 95 (35) = u2) (F3 : (0 : Int) ≤ 36 ∧ (36 : Int) < j_len 95 ∧ V 95 (36) = u3) (F4 : (0 : Int) ≤ 37 ∧ (37 : Int) < j_len 95 ∧ V 95 (37) = u4) (F5 : (0 : Int) ≤ 38 ∧ (38 : Int) < j_len 95 ∧ V 95 (38) = u5) (F6 : (0 : Int) ≤ 39 ∧ (39 : Int) < j_len 95 ∧ V 95 (39) = u6) (F7 : (0 : Int) ≤ 40 ∧ (40 : Int) < j_len 95 ∧ V 95 (40) = u7) (F8 : (0 : Int) ≤ 41 ∧ (41 : Int) < j_len 95 ∧ V 95 (41) = u8) (F9 : (0 : Int) ≤ 42 ∧ (42 : Int) < j_len 95 ∧ V 95 (42) = u9) (F10 : (0 : Int) ≤ 43 ∧ (43 : Int) < j_len 95 ∧ V 95 (43) = u10) (F11 : (0 : Int) ≤ 44 ∧ (44 : Int) < j_len 95 ∧ V 95 (44) = u11) (F12 : (0 : Int) ≤ 45 ∧ (45 : Int) < j_len 95 ∧ V 95 (45) = u12) (F13 : (0 : Int) ≤ 46 ∧ (46 : Int) < j_len 95 ∧ V 95 (46) = u13) (F14 : (0 : Int) ≤ 47 ∧ (47 : Int) < j_len 95 ∧ V 95 (47) = u14) (F15 : (0 : Int) ≤ 48 ∧ (48 : Int) < j_len 95 ∧ V 95 (48) = u15) (F16 : (0 : Int) ≤ 49 ∧ (49 : Int) < j_len 95 ∧ V 95 (49) = u16) (F17 : (0 : Int) ≤ 50 ∧ (50 : Int) < j_len 95 ∧ V 95 (50) = u17) (F18 : (0 : Int) ≤ 51 ∧ (51 : Int) < j_len 95 ∧ V 95 (51) = u18) (F19 : (0 : Int) ≤ 52 ∧ (52 : Int) < j_len 95 ∧ V 95 (52) = u19) (F20 : (0 : Int) ≤ 53 ∧ (53 : Int) < j_len 95 ∧ V 95 (53) = u20) (F21 : (0 : Int) ≤ 54 ∧ (54 : Int) < j_len 95 ∧ V 95 (54) = u21) (F22 : (0 : Int) ≤ 55 ∧ (55 : Int) < j_len 95 ∧ V 95 (55) = u22) (F23 : (0 : Int) ≤ 56 ∧ (56 : Int) < j_len 95 ∧ V 95 (56) = u23) (F24 : (0 : Int) ≤ 57 ∧ (57 : Int) < j_len 95 ∧ V 95 (57) = u24) (F25 : (0 : Int) ≤ 58 ∧ (58 : Int) < j_len 95 ∧ V 95 (58) = u25) (F26 : (0 : Int) ≤ 59 ∧ (59 : Int) < j_len 95 ∧ V 95 (59) = u26) (F27 : (0 : Int) ≤ 60 ∧ (60 : Int) < j_len 95 ∧ V 95 (60) = u27) (F28 : (0 : Int) ≤ 61 ∧ (61 : Int) < j_len 95 ∧ V 95 (61) = u28) (F29 : (0 : Int) ≤ 62 ∧ (62 : Int) < j_len 95 ∧ V 95 (62) = u29) (F30 : (0 : Int) ≤ 63 ∧ (63 : Int) < j_len 95 ∧ V 95 (63) = u30) (F31 : (0 : Int) ≤ 64 ∧ (64 : Int) < j_len 95 ∧ V 95 (64) = u31) (F32 : (0 : Int) ≤ 65 ∧ (65 : Int) < j_len 95 ∧ V 95 (65) = u32) (F33 : (0 : Int) ≤ 0 ∧ (0 : Int) < j_len 77 ∧ V 77 (0) = u0) (F34 : (0 : Int) ≤ 1 ∧ (1 : Int) < j_len 77 ∧ V 77 (1) = u1) (F35 : (0 : Int) ≤ 2 ∧ (2 : Int) < j_len 77 ∧ V 77 (2) = u2) (F36 : (0 : Int) ≤ 3 ∧ (3 : Int) < j_len 77 ∧ V 77 (3) = u3) (F37 : (0 : Int) ≤ 4 ∧ (4 : Int) < j_len 77 ∧ V 77 (4) = u4) (F38 : (0 : Int) ≤ 5 ∧ (5 : Int) < j_len 77 ∧ V 77 (5) = u5) (F39 : (0 : Int) ≤ 6 ∧ (6 : Int) < j_len 77 ∧ V 77 (6) = u6) (F40 : (0 : Int) ≤ 7 ∧ (7 : Int) < j_len 77 ∧ V 77 (7) = u7) (F41 : (0 : Int) ≤ 8 ∧ (8 : Int) < j_len 77 ∧ V 77 (8) = u8) (F42 : (0 : Int) ≤ 9 ∧ (9 : Int) < j_len 77 ∧ V 77 (9) = u9) (F43 : (0 : Int) ≤ 10 ∧ (10 : Int) < j_len 77 ∧ V 77 (10) = u10) (F44 : (0 : Int) ≤ 11 ∧ (11 : Int) < j_len 77 ∧ V 77 (11) = u11) (F45 : (0 : Int) ≤ 12 ∧ (12 : Int) < j_len 77 ∧ V 77 (12) = u12) (F46 : (0 : Int) ≤ 13 ∧ (13 : Int) < j_len 77 ∧ V 77 (13) = u13) (F47 : (0 : Int) ≤ 14 ∧ (14 : Int) < j_len 77 ∧ V 77 (14) = u14) (F48 : (0 : Int) ≤ 15 ∧ (15 : Int) < j_len 77 ∧ V 77 (15) = u15) (F49 : (0 : Int) ≤ 16 ∧ (16 : Int) < j_len 77 ∧ V 77 (16) = u16) (F50 : (0 : Int) ≤ 17 ∧ (17 : Int) < j_len 77 ∧ V 77 (17) = u17) (F51 : (0 : Int) ≤ 18 ∧ (18 : Int) < j_len 77 ∧ V 77 (18) = u18) (F52 : (0 : Int) ≤ 19 ∧ (19 : Int) < j_len 77 ∧ V 77 (19) = u19) (F53 : (0 : Int) ≤ 20 ∧ (20 : Int) < j_len 77 ∧ V 77 (20) = u20) (F54 : (0 : Int) ≤ 21 ∧ (21 : Int) < j_len 77 ∧ V 77 (21) = u21) (F55 : (0 : Int) ≤ 22 ∧ (22 : Int) < j_len 77 ∧ V 77 (22) = u22) (F56 : (0 : Int) ≤ 23 ∧ (23 : Int) < j_len 77 ∧ V 77 (23) = u23) (F57 : (0 : Int) ≤ 24 ∧ (24 : Int) < j_len 77 ∧ V 77 (24) = u24) (F58 : (0 : Int) ≤ 25 ∧ (25 : Int) < j_len 77 ∧ V 77 (25) = u25) (F59 : (0 : Int) ≤ 26 ∧ (26 : Int) < j_len 77 ∧ V 77 (26) = u26) (F60 : (0 : Int) ≤ 27 ∧ (27 : Int) < j_len 77 ∧ V 77 (27) = u27) (F61 : (0 : Int) ≤ 28 ∧ (28 : Int) < j_len 77 ∧ V 77 (28) = u28) (F62 : (0 : Int) ≤ 29 ∧ (29 : Int) < j_len 77 ∧ V 77 (29) = u29) (F63 : (0 : Int) ≤ 30 ∧ (30 : Int) < j_len 77 ∧ V 77 (30) = u30) (F64 : (0 : Int) ≤ 31 ∧ (31 : Int) < j_len 77 ∧ V 77 (31) = u31) (F65 : (0 : Int) ≤ 32 ∧ (32 : Int) < j_len 77 ∧ V 77 (32) = u32) : (True) ∧ (q_sto V 0 H p y d (0 : Int) (0 : Int) (0 : Int) (0 : Int) (0 : Int) (0 : Int) (0 : Int) ∧ True) := by
  have h8 : g_b (V 95) (33 * 1) = g_nw V := g_row33 (F0.2.2.trans F33.2.2.symm) (F1.2.2.trans F34.2.2.symm) (F2.2.2.trans F35.2.2.symm) (F3.2.2.trans F36.2.2.symm) (F4.2.2.trans F37.2.2.symm) (F5.2.2.trans F38.2.2.symm) (F6.2.2.trans F39.2.2.symm) (F7.2.2.trans F40.2.2.symm) (F8.2.2.trans F41.2.2.symm) (F9.2.2.trans F42.2.2.symm) (F10.2.2.trans F43.2.2.symm) (F11.2.2.trans F44.2.2.symm) (F12.2.2.trans F45.2.2.symm) (F13.2.2.trans F46.2.2.symm) (F14.2.2.trans F47.2.2.symm) (F15.2.2.trans F48.2.2.symm) (F16.2.2.trans F49.2.2.symm) (F17.2.2.trans F50.2.2.symm) (F18.2.2.trans F51.2.2.symm) (F19.2.2.trans F52.2.2.symm) (F20.2.2.trans F53.2.2.symm) (F21.2.2.trans F54.2.2.symm) (F22.2.2.trans F55.2.2.symm) (F23.2.2.trans F56.2.2.symm) (F24.2.2.trans F57.2.2.symm) (F25.2.2.trans F58.2.2.symm) (F26.2.2.trans F59.2.2.symm) (F27.2.2.trans F60.2.2.symm) (F28.2.2.trans F61.2.2.symm) (F29.2.2.trans F62.2.2.symm) (F30.2.2.trans F63.2.2.symm) (F31.2.2.trans F64.2.2.symm) (F32.2.2.trans F65.2.2.symm)
  exact ⟨trivial, g_now_sto T0.2.1 T0.2.2.1 h8 T0.2.2.2, trivial⟩
theorem k_mhold2 {V : zVw} {H z0 z1 z2 u0 u1 u2 u3 u4 u5 u6 u7 u8 u9 u10 u11 u12 u13 u14 u15 u16 u17 u18 u19 u20 u21 u22 u23 u24 u25 u26 u27 u28 u29 u30 u31 u32 : Int} (T0 : 0 ≤ (2 : Int) ∧ q_sl V (2 : Int) H z0 z1 z2) (T1 : (1 ≤ (4 : Int) ∧ (4 : Int) ≤ 44) ∧ g_sb V H ∧ q_kp V (4 : Int).toNat H (g_nw V)) (F0 : (0 : Int) ≤ 66 ∧ (66 : Int) < j_len 95 ∧ V 95 (66) = u0) (F1 : (0 : Int) ≤ 67 ∧ (67 : Int) < j_len 95 ∧ V 95 (67) = u1) (F2 : (0 : Int) ≤ 68 ∧ (68 : Int) < j_len 95 ∧ V 95 (68) = u2) (F3 : (0 : Int) ≤ 69 ∧ (69 : Int) < j_len 95 ∧ V 95 (69) = u3) (F4 : (0 : Int) ≤ 70 ∧ (70 : Int) < j_len 95 ∧ V 95 (70) = u4) (F5 : (0 : Int) ≤ 71 ∧ (71 : Int) < j_len 95 ∧ V 95 (71) = u5) (F6 : (0 : Int) ≤ 72 ∧ (72 : Int) < j_len 95 ∧ V 95 (72) = u6) (F7 : (0 : Int) ≤ 73 ∧ (73 : Int) < j_len 95 ∧ V 95 (73) = u7) (F8 : (0 : Int) ≤ 74 ∧ (74 : Int) < j_len 95 ∧ V 95 (74) = u8) (F9 : (0 : Int) ≤ 75 ∧ (75 : Int) < j_len 95 ∧ V 95 (75) = u9) (F10 : (0 : Int) ≤ 76 ∧ (76 : Int) < j_len 95 ∧ V 95 (76) = u10) (F11 : (0 : Int) ≤ 77 ∧ (77 : Int) < j_len 95 ∧ V 95 (77) = u11) (F12 : (0 : Int) ≤ 78 ∧ (78 : Int) < j_len 95 ∧ V 95 (78) = u12) (F13 : (0 : Int) ≤ 79 ∧ (79 : Int) < j_len 95 ∧ V 95 (79) = u13) (F14 : (0 : Int) ≤ 80 ∧ (80 : Int) < j_len 95 ∧ V 95 (80) = u14) (F15 : (0 : Int) ≤ 81 ∧ (81 : Int) < j_len 95 ∧ V 95 (81) = u15) (F16 : (0 : Int) ≤ 82 ∧ (82 : Int) < j_len 95 ∧ V 95 (82) = u16) (F17 : (0 : Int) ≤ 83 ∧ (83 : Int) < j_len 95 ∧ V 95 (83) = u17) (F18 : (0 : Int) ≤ 84 ∧ (84 : Int) < j_len 95 ∧ V 95 (84) = u18) (F19 : (0 : Int) ≤ 85 ∧ (85 : Int) < j_len 95 ∧ V 95 (85) = u19) (F20 : (0 : Int) ≤ 86 ∧ (86 : Int) < j_len 95 ∧ V 95 (86) = u20) (F21 : (0 : Int) ≤ 87 ∧ (87 : Int) < j_len 95 ∧ V 95 (87) = u21) (F22 : (0 : Int) ≤ 88 ∧ (88 : Int) < j_len 95 ∧ V 95 (88) = u22) (F23 : (0 : Int) ≤ 89 ∧ (89 : Int) < j_len 95 ∧ V 95 (89) = u23) (F24 : (0 : Int) ≤ 90 ∧ (90 : Int) < j_len 95 ∧ V 95 (90) = u24) (F25 : (0 : Int) ≤ 91 ∧ (91 : Int) < j_len 95 ∧ V 95 (91) = u25) (F26 : (0 : Int) ≤ 92 ∧ (92 : Int) < j_len 95 ∧ V 95 (92) = u26) (F27 : (0 : Int) ≤ 93 ∧ (93 : Int) < j_len 95 ∧ V 95 (93) = u27) (F28 : (0 : Int) ≤ 94 ∧ (94 : Int) < j_len 95 ∧ V 95 (94) = u28) (F29 : (0 : Int) ≤ 95 ∧ (95 : Int) < j_len 95 ∧ V 95 (95) = u29) (F30 : (0 : Int) ≤ 96 ∧ (96 : Int) < j_len 95 ∧ V 95 (96) = u30) (F31 : (0 : Int) ≤ 97 ∧ (97 : Int) < j_len 95 ∧ V 95 (97) = u31) (F32 : (0 : Int) ≤ 98 ∧ (98 : Int) < j_len 95 ∧ V 95 (98) = u32) (F33 : (0 : Int) ≤ 0 ∧ (0 : Int) < j_len 77 ∧ V 77 (0) = u0) (F34 : (0 : Int) ≤ 1 ∧ (1 : Int) < j_len 77 ∧ V 77 (1) = u1) (F35 : (0 : Int) ≤ 2 ∧ (2 : Int) < j_len 77 ∧ V 77 (2) = u2) (F36 : (0 : Int) ≤ 3 ∧ (3 : Int) < j_len 77 ∧ V 77 (3) = u3) (F37 : (0 : Int) ≤ 4 ∧ (4 : Int) < j_len 77 ∧ V 77 (4) = u4) (F38 : (0 : Int) ≤ 5 ∧ (5 : Int) < j_len 77 ∧ V 77 (5) = u5) (F39 : (0 : Int) ≤ 6 ∧ (6 : Int) < j_len 77 ∧ V 77 (6) = u6) (F40 : (0 : Int) ≤ 7 ∧ (7 : Int) < j_len 77 ∧ V 77 (7) = u7) (F41 : (0 : Int) ≤ 8 ∧ (8 : Int) < j_len 77 ∧ V 77 (8) = u8) (F42 : (0 : Int) ≤ 9 ∧ (9 : Int) < j_len 77 ∧ V 77 (9) = u9) (F43 : (0 : Int) ≤ 10 ∧ (10 : Int) < j_len 77 ∧ V 77 (10) = u10) (F44 : (0 : Int) ≤ 11 ∧ (11 : Int) < j_len 77 ∧ V 77 (11) = u11) (F45 : (0 : Int) ≤ 12 ∧ (12 : Int) < j_len 77 ∧ V 77 (12) = u12) (F46 : (0 : Int) ≤ 13 ∧ (13 : Int) < j_len 77 ∧ V 77 (13) = u13) (F47 : (0 : Int) ≤ 14 ∧ (14 : Int) < j_len 77 ∧ V 77 (14) = u14) (F48 : (0 : Int) ≤ 15 ∧ (15 : Int) < j_len 77 ∧ V 77 (15) = u15) (F49 : (0 : Int) ≤ 16 ∧ (16 : Int) < j_len 77 ∧ V 77 (16) = u16) (F50 : (0 : Int) ≤ 17 ∧ (17 : Int) < j_len 77 ∧ V 77 (17) = u17) (F51 : (0 : Int) ≤ 18 ∧ (18 : Int) < j_len 77 ∧ V 77 (18) = u18) (F52 : (0 : Int) ≤ 19 ∧ (19 : Int) < j_len 77 ∧ V 77 (19) = u19) (F53 : (0 : Int) ≤ 20 ∧ (20 : Int) < j_len 77 ∧ V 77 (20) = u20) (F54 : (0 : Int) ≤ 21 ∧ (21 : Int) < j_len 77 ∧ V 77 (21) = u21) (F55 : (0 : Int) ≤ 22 ∧ (22 : Int) < j_len 77 ∧ V 77 (22) = u22) (F56 : (0 : Int) ≤ 23 ∧ (23 : Int) < j_len 77 ∧ V 77 (23) = u23) (F57 : (0 : Int) ≤ 24 ∧ (24 : Int) < j_len 77 ∧ V 77 (24) = u24) (F58 : (0 : Int) ≤ 25 ∧ (25 : Int) < j_len 77 ∧ V 77 (25) = u25) (F59 : (0 : Int) ≤ 26 ∧ (26 : Int) < j_len 77 ∧ V 77 (26) = u26) (F60 : (0 : Int) ≤ 27 ∧ (27 : Int) < j_len 77 ∧ V 77 (27) = u27) (F61 : (0 : Int) ≤ 28 ∧ (28 : Int) < j_len 77 ∧ V 77 (28) = u28) (F62 : (0 : Int) ≤ 29 ∧ (29 : Int) < j_len 77 ∧ V 77 (29) = u29) (F63 : (0 : Int) ≤ 30 ∧ (30 : Int) < j_len 77 ∧ V 77 (30) = u30) (F64 : (0 : Int) ≤ 31 ∧ (31 : Int) < j_len 77 ∧ V 77 (31) = u31) (F65 : (0 : Int) ≤ 32 ∧ (32 : Int) < j_len 77 ∧ V 77 (32) = u32) : (True) ∧ (q_sl V (-1) H z0 z1 (1 : Int) ∧ True) := by
  have h8 : g_b (V 95) 66 = g_nw V := g_row33 (F0.2.2.trans F33.2.2.symm) (F1.2.2.trans F34.2.2.symm) (F2.2.2.trans F35.2.2.symm) (F3.2.2.trans F36.2.2.symm) (F4.2.2.trans F37.2.2.symm) (F5.2.2.trans F38.2.2.symm) (F6.2.2.trans F39.2.2.symm) (F7.2.2.trans F40.2.2.symm) (F8.2.2.trans F41.2.2.symm) (F9.2.2.trans F42.2.2.symm) (F10.2.2.trans F43.2.2.symm) (F11.2.2.trans F44.2.2.symm) (F12.2.2.trans F45.2.2.symm) (F13.2.2.trans F46.2.2.symm) (F14.2.2.trans F47.2.2.symm) (F15.2.2.trans F48.2.2.symm) (F16.2.2.trans F49.2.2.symm) (F17.2.2.trans F50.2.2.symm) (F18.2.2.trans F51.2.2.symm) (F19.2.2.trans F52.2.2.symm) (F20.2.2.trans F53.2.2.symm) (F21.2.2.trans F54.2.2.symm) (F22.2.2.trans F55.2.2.symm) (F23.2.2.trans F56.2.2.symm) (F24.2.2.trans F57.2.2.symm) (F25.2.2.trans F58.2.2.symm) (F26.2.2.trans F59.2.2.symm) (F27.2.2.trans F60.2.2.symm) (F28.2.2.trans F61.2.2.symm) (F29.2.2.trans F62.2.2.symm) (F30.2.2.trans F63.2.2.symm) (F31.2.2.trans F64.2.2.symm) (F32.2.2.trans F65.2.2.symm)
  have h7 : q_kp V 4 H (g_b (V 95) 66) := by rw [h8]; exact T1.2.2
  exact ⟨trivial, ⟨T0.2.1, fun z9 _ => T0.2.2.1 z9 (by decide), fun z9 _ => T0.2.2.2.1 z9 (by decide), fun _ _ => h7⟩, trivial⟩
theorem k_mrest2 {V : zVw} {H p y d u0 u1 u2 u3 u4 u5 u6 u7 u8 u9 u10 u11 u12 u13 u14 u15 u16 u17 u18 u19 u20 u21 u22 u23 u24 u25 u26 u27 u28 u29 u30 u31 u32 : Int} (T0 : q_sh V 95 H p y d (2 : Int)) (F0 : (0 : Int) ≤ 66 ∧ (66 : Int) < j_len 95 ∧ V 95 (66) = u0) (F1 : (0 : Int) ≤ 67 ∧ (67 : Int) < j_len 95 ∧ V 95 (67) = u1) (F2 : (0 : Int) ≤ 68 ∧ (68 : Int) < j_len 95 ∧ V 95 (68) = u2) (F3 : (0 : Int) ≤ 69 ∧ (69 : Int) < j_len 95 ∧ V 95 (69) = u3) (F4 : (0 : Int) ≤ 70 ∧ (70 : Int) < j_len 95 ∧ V 95 (70) = u4) (F5 : (0 : Int) ≤ 71 ∧ (71 : Int) < j_len 95 ∧ V 95 (71) = u5) (F6 : (0 : Int) ≤ 72 ∧ (72 : Int) < j_len 95 ∧ V 95 (72) = u6) (F7 : (0 : Int) ≤ 73 ∧ (73 : Int) < j_len 95 ∧ V 95 (73) = u7) (F8 : (0 : Int) ≤ 74 ∧ (74 : Int) < j_len 95 ∧ V 95 (74) = u8) (F9 : (0 : Int) ≤ 75 ∧ (75 : Int) < j_len 95 ∧ V 95 (75) = u9) (F10 : (0 : Int) ≤ 76 ∧ (76 : Int) < j_len 95 ∧ V 95 (76) = u10) (F11 : (0 : Int) ≤ 77 ∧ (77 : Int) < j_len 95 ∧ V 95 (77) = u11) (F12 : (0 : Int) ≤ 78 ∧ (78 : Int) < j_len 95 ∧ V 95 (78) = u12) (F13 : (0 : Int) ≤ 79 ∧ (79 : Int) < j_len 95 ∧ V 95 (79) = u13) (F14 : (0 : Int) ≤ 80 ∧ (80 : Int) < j_len 95 ∧ V 95 (80) = u14) (F15 : (0 : Int) ≤ 81 ∧ (81 : Int) < j_len 95 ∧ V 95 (81) = u15) (F16 : (0 : Int) ≤ 82 ∧ (82 : Int) < j_len 95 ∧ V 95 (82) = u16) (F17 : (0 : Int) ≤ 83 ∧ (83 : Int) < j_len 95 ∧ V 95 (83) = u17) (F18 : (0 : Int) ≤ 84 ∧ (84 : Int) < j_len 95 ∧ V 95 (84) = u18) (F19 : (0 : Int) ≤ 85 ∧ (85 : Int) < j_len 95 ∧ V 95 (85) = u19) (F20 : (0 : Int) ≤ 86 ∧ (86 : Int) < j_len 95 ∧ V 95 (86) = u20) (F21 : (0 : Int) ≤ 87 ∧ (87 : Int) < j_len 95 ∧ V 95 (87) = u21) (F22 : (0 : Int) ≤ 88 ∧ (88 : Int) < j_len 95 ∧ V 95 (88) = u22) (F23 : (0 : Int) ≤ 89 ∧ (89 : Int) < j_len 95 ∧ V 95 (89) = u23) (F24 : (0 : Int) ≤ 90 ∧ (90 : Int) < j_len 95 ∧ V 95 (90) = u24) (F25 : (0 : Int) ≤ 91 ∧ (91 : Int) < j_len 95 ∧ V 95 (91) = u25) (F26 : (0 : Int) ≤ 92 ∧ (92 : Int) < j_len 95 ∧ V 95 (92) = u26) (F27 : (0 : Int) ≤ 93 ∧ (93 : Int) < j_len 95 ∧ V 95 (93) = u27) (F28 : (0 : Int) ≤ 94 ∧ (94 : Int) < j_len 95 ∧ V 95 (94) = u28) (F29 : (0 : Int) ≤ 95 ∧ (95 : Int) < j_len 95 ∧ V 95 (95) = u29) (F30 : (0 : Int) ≤ 96 ∧ (96 : Int) < j_len 95 ∧ V 95 (96) = u30) (F31 : (0 : Int) ≤ 97 ∧ (97 : Int) < j_len 95 ∧ V 95 (97) = u31) (F32 : (0 : Int) ≤ 98 ∧ (98 : Int) < j_len 95 ∧ V 95 (98) = u32) (F33 : (0 : Int) ≤ 0 ∧ (0 : Int) < j_len 77 ∧ V 77 (0) = u0) (F34 : (0 : Int) ≤ 1 ∧ (1 : Int) < j_len 77 ∧ V 77 (1) = u1) (F35 : (0 : Int) ≤ 2 ∧ (2 : Int) < j_len 77 ∧ V 77 (2) = u2) (F36 : (0 : Int) ≤ 3 ∧ (3 : Int) < j_len 77 ∧ V 77 (3) = u3) (F37 : (0 : Int) ≤ 4 ∧ (4 : Int) < j_len 77 ∧ V 77 (4) = u4) (F38 : (0 : Int) ≤ 5 ∧ (5 : Int) < j_len 77 ∧ V 77 (5) = u5) (F39 : (0 : Int) ≤ 6 ∧ (6 : Int) < j_len 77 ∧ V 77 (6) = u6) (F40 : (0 : Int) ≤ 7 ∧ (7 : Int) < j_len 77 ∧ V 77 (7) = u7) (F41 : (0 : Int) ≤ 8 ∧ (8 : Int) < j_len 77 ∧ V 77 (8) = u8) (F42 : (0 : Int) ≤ 9 ∧ (9 : Int) < j_len 77 ∧ V 77 (9) = u9) (F43 : (0 : Int) ≤ 10 ∧ (10 : Int) < j_len 77 ∧ V 77 (10) = u10) (F44 : (0 : Int) ≤ 11 ∧ (11 : Int) < j_len 77 ∧ V 77 (11) = u11) (F45 : (0 : Int) ≤ 12 ∧ (12 : Int) < j_len 77 ∧ V 77 (12) = u12) (F46 : (0 : Int) ≤ 13 ∧ (13 : Int) < j_len 77 ∧ V 77 (13) = u13) (F47 : (0 : Int) ≤ 14 ∧ (14 : Int) < j_len 77 ∧ V 77 (14) = u14) (F48 : (0 : Int) ≤ 15 ∧ (15 : Int) < j_len 77 ∧ V 77 (15) = u15) (F49 : (0 : Int) ≤ 16 ∧ (16 : Int) < j_len 77 ∧ V 77 (16) = u16) (F50 : (0 : Int) ≤ 17 ∧ (17 : Int) < j_len 77 ∧ V 77 (17) = u17) (F51 : (0 : Int) ≤ 18 ∧ (18 : Int) < j_len 77 ∧ V 77 (18) = u18) (F52 : (0 : Int) ≤ 19 ∧ (19 : Int) < j_len 77 ∧ V 77 (19) = u19) (F53 : (0 : Int) ≤ 20 ∧ (20 : Int) < j_len 77 ∧ V 77 (20) = u20) (F54 : (0 : Int) ≤ 21 ∧ (21 : Int) < j_len 77 ∧ V 77 (21) = u21) (F55 : (0 : Int) ≤ 22 ∧ (22 : Int) < j_len 77 ∧ V 77 (22) = u22) (F56 : (0 : Int) ≤ 23 ∧ (23 : Int) < j_len 77 ∧ V 77 (23) = u23) (F57 : (0 : Int) ≤ 24 ∧ (24 : Int) < j_len 77 ∧ V 77 (24) = u24) (F58 : (0 : Int) ≤ 25 ∧ (25 : Int) < j_len 77 ∧ V 77 (25) = u25) (F59 : (0 : Int) ≤ 26 ∧ (26 : Int) < j_len 77 ∧ V 77 (26) = u26) (F60 : (0 : Int) ≤ 27 ∧ (27 : Int) < j_len 77 ∧ V 77 (27) = u27) (F61 : (0 : Int) ≤ 28 ∧ (28 : Int) < j_len 77 ∧ V 77 (28) = u28) (F62 : (0 : Int) ≤ 29 ∧ (29 : Int) < j_len 77 ∧ V 77 (29) = u29) (F63 : (0 : Int) ≤ 30 ∧ (30 : Int) < j_len 77 ∧ V 77 (30) = u30) (F64 : (0 : Int) ≤ 31 ∧ (31 : Int) < j_len 77 ∧ V 77 (31) = u31) (F65 : (0 : Int) ≤ 32 ∧ (32 : Int) < j_len 77 ∧ V 77 (32) = u32) : (True) ∧ (q_sto V 0 H p y d (0 : Int) (0 : Int) (0 : Int) (0 : Int) (0 : Int) (0 : Int) (0 : Int) ∧ True) := by
  have h8 : g_b (V 95) (33 * 2) = g_nw V := g_row33 (F0.2.2.trans F33.2.2.symm) (F1.2.2.trans F34.2.2.symm) (F2.2.2.trans F35.2.2.symm) (F3.2.2.trans F36.2.2.symm) (F4.2.2.trans F37.2.2.symm) (F5.2.2.trans F38.2.2.symm) (F6.2.2.trans F39.2.2.symm) (F7.2.2.trans F40.2.2.symm) (F8.2.2.trans F41.2.2.symm) (F9.2.2.trans F42.2.2.symm) (F10.2.2.trans F43.2.2.symm) (F11.2.2.trans F44.2.2.symm) (F12.2.2.trans F45.2.2.symm) (F13.2.2.trans F46.2.2.symm) (F14.2.2.trans F47.2.2.symm) (F15.2.2.trans F48.2.2.symm) (F16.2.2.trans F49.2.2.symm) (F17.2.2.trans F50.2.2.symm) (F18.2.2.trans F51.2.2.symm) (F19.2.2.trans F52.2.2.symm) (F20.2.2.trans F53.2.2.symm) (F21.2.2.trans F54.2.2.symm) (F22.2.2.trans F55.2.2.symm) (F23.2.2.trans F56.2.2.symm) (F24.2.2.trans F57.2.2.symm) (F25.2.2.trans F58.2.2.symm) (F26.2.2.trans F59.2.2.symm) (F27.2.2.trans F60.2.2.symm) (F28.2.2.trans F61.2.2.symm) (F29.2.2.trans F62.2.2.symm) (F30.2.2.trans F63.2.2.symm) (F31.2.2.trans F64.2.2.symm) (F32.2.2.trans F65.2.2.symm)
  exact ⟨trivial, g_now_sto T0.2.1 T0.2.2.1 h8 T0.2.2.2, trivial⟩
theorem k_pl0 {V : zVw} {h H p y d q b s o a1 a2 a3 : Int} (T0 : q_sto V 0 H p y d q b s o a1 a2 a3) : (True) ∧ (q_qry V (12 : Int) q b s o a1 a2 a3 h (0 : Int) (1 : Int) ∧ True) := by
  exact ⟨trivial, g_qs T0 (fun i i0 i1 => absurd i1 (by omega)), trivial⟩
theorem k_plSa {V : zVw} {h i w H p y d q b s o a1 a2 a3 : Int} (T0 : q_sto V 0 H p y d q b s o a1 a2 a3) (T1 : q_qry V (12 : Int) q b s o a1 a2 a3 h i (1 : Int)) (C0 : 0 ≤ i) (C1 : 0 ≤ p - i - 1) (C2 : 0 ≤ 5 - i) (C3 : 0 ≤ h - w - 1) (F0 : (0 : Int) ≤ i ∧ (i : Int) < j_len 29 ∧ V 29 (i) = w) : (True) ∧ (q_qry V (12 : Int) q b s o a1 a2 a3 h (i + 1) (1 : Int) ∧ True) := by
  obtain ⟨⟨p1, p2, p3⟩, p4, p5⟩ := g_st0_pt T0
  have w9 := T0.1.1
  have w24 := w9.2.1
  have wH := w9.1
  have h9 := (p5 i (by omega) (by omega)).1
  have h7 := F0.2.2
  exact ⟨trivial, g_qs T0 (fun j j0 j1 he => by
    by_cases h8 : j < i
    · exact g_k12 T1 j j0 h8 he
    · rw [show j = i by omega] at he; omega), trivial⟩
theorem k_plSb {V : zVw} {h i w H p y d q b s o a1 a2 a3 : Int} (T0 : q_sto V 0 H p y d q b s o a1 a2 a3) (T1 : q_qry V (12 : Int) q b s o a1 a2 a3 h i (1 : Int)) (C0 : 0 ≤ i) (C1 : 0 ≤ p - i - 1) (C2 : 0 ≤ 5 - i) (C3 : 0 ≤ w - h - 1) (F0 : (0 : Int) ≤ i ∧ (i : Int) < j_len 29 ∧ V 29 (i) = w) : (True) ∧ (q_qry V (12 : Int) q b s o a1 a2 a3 h (i + 1) (1 : Int) ∧ True) := by
  obtain ⟨⟨p1, p2, p3⟩, p4, p5⟩ := g_st0_pt T0
  have w9 := T0.1.1
  have w24 := w9.2.1
  have wH := w9.1
  have h9 := (p5 i (by omega) (by omega)).1
  have h7 := F0.2.2
  exact ⟨trivial, g_qs T0 (fun j j0 j1 he => by
    by_cases h8 : j < i
    · exact g_k12 T1 j j0 h8 he
    · rw [show j = i by omega] at he; omega), trivial⟩
theorem k_plY {V : zVw} {h i w H p y d q b s o a1 a2 a3 : Int} (T0 : q_sto V 0 H p y d q b s o a1 a2 a3) (T1 : q_qry V (12 : Int) q b s o a1 a2 a3 h i (1 : Int)) (C0 : 0 ≤ i) (C1 : 0 ≤ p - i - 1) (C2 : 0 ≤ 5 - i) (C3 : 0 ≤ w - h) (C4 : 0 ≤ h - w) (F0 : (0 : Int) ≤ i ∧ (i : Int) < j_len 29 ∧ V 29 (i) = w) : (True) ∧ (q_qry V (6 : Int) q b s o a1 a2 a3 h (0 : Int) i ∧ True) := by
  obtain ⟨⟨p1, p2, p3⟩, p4, p5⟩ := g_st0_pt T0
  have w9 := T0.1.1
  have w24 := w9.2.1
  have wH := w9.1
  have h9 := (p5 i (by omega) (by omega)).1
  have h7 := F0.2.2
  exact ⟨trivial, g_qs T0 (Or.inl ⟨by omega, by omega, by omega, g_k12 T1⟩), trivial⟩
theorem k_plN {V : zVw} {h i H p y d q b s o a1 a2 a3 : Int} (T0 : q_sto V 0 H p y d q b s o a1 a2 a3) (T1 : q_qry V (12 : Int) q b s o a1 a2 a3 h i (1 : Int)) (C0 : 0 ≤ i - p) (C1 : 0 ≤ p) (C2 : 0 ≤ 6 - p) : (True) ∧ (q_qry V (6 : Int) q b s o a1 a2 a3 h (0 : Int) (-1 : Int) ∧ True) := by
  obtain ⟨⟨p1, p2, p3⟩, p4, p5⟩ := g_st0_pt T0
  have w9 := T0.1.1
  have w24 := w9.2.1
  have wH := w9.1
  exact ⟨trivial, g_qs T0 (Or.inr ⟨rfl, fun j j0 j1 => g_k12 T1 j j0 (by omega)⟩), trivial⟩
theorem k_celH {V : zVw} {h u H p y d q b s o a1 a2 a3 : Int} (T0 : q_sto V 0 H p y d q b s o a1 a2 a3) (C0 : 0 ≤ h) (C1 : 0 ≤ H - h - 1) (C2 : 0 ≤ 6 - H) (F0 : (0 : Int) ≤ h ∧ (h : Int) < j_len 27 ∧ V 27 (h) = u) : (0 ≤ u ∧ 0 ≤ 99 - u ∧ True) ∧ (q_qry V (8 : Int) q b s o a1 a2 a3 h (0 : Int) u ∧ True) := by
  obtain ⟨⟨p1, p2, p3⟩, p4, p5⟩ := g_st0_pt T0
  have w9 := T0.1.1
  have w24 := w9.2.1
  have wH := w9.1
  have h9 := (p4 h (by omega) (by omega)).1
  have h8 := w9.2.2.2.2.2.2.1 h (by omega) (by omega)
  have h7 := F0.2.2
  exact ⟨⟨by omega, by omega, trivial⟩, g_qs T0 (show u = _ by omega), trivial⟩
theorem k_celG {V : zVw} {h u H p y d q b s o a1 a2 a3 : Int} (T0 : q_sto V 0 H p y d q b s o a1 a2 a3) (C0 : 0 ≤ h) (C1 : 0 ≤ H - h - 1) (C2 : 0 ≤ 6 - H) (F0 : (0 : Int) ≤ h ∧ (h : Int) < j_len 28 ∧ V 28 (h) = u) : (True) ∧ (q_qry V (8 : Int) q b s o a1 a2 a3 (h + 18) (0 : Int) u ∧ True) := by
  obtain ⟨⟨p1, p2, p3⟩, p4, p5⟩ := g_st0_pt T0
  have w9 := T0.1.1
  have w24 := w9.2.1
  have wH := w9.1
  have h9 := (p4 h (by omega) (by omega)).2
  have h7 := F0.2.2
  rw [show 18 + h = h + 18 by omega] at h9
  exact ⟨trivial, g_qs T0 (show u = _ by omega), trivial⟩
theorem k_celL {V : zVw} {h i u H p y d q b s o a1 a2 a3 : Int} (T0 : q_sto V 0 H p y d q b s o a1 a2 a3) (T1 : q_qry V (6 : Int) q b s o a1 a2 a3 h (0 : Int) i) (C0 : 0 ≤ i) (C1 : 0 ≤ p - i - 1) (C2 : 0 ≤ h) (C3 : 0 ≤ 5 - h) (F0 : (0 : Int) ≤ i ∧ (i : Int) < j_len 30 ∧ V 30 (i) = u) : (0 ≤ u - 1 ∧ 0 ≤ 99 - u ∧ True) ∧ (q_qry V (8 : Int) q b s o a1 a2 a3 (h + 6) (0 : Int) u ∧ True) := by
  obtain ⟨⟨p1, p2, p3⟩, p4, p5⟩ := g_st0_pt T0
  have w9 := T0.1.1
  have w24 := w9.2.1
  have wH := w9.1
  have h9 := (p5 i (by omega) (by omega)).2.1
  have h8 := w9.len (i := i) (by omega) (by omega)
  have h6 := (g_k6 T1).get (by omega)
  rw [h6.1, show 6 + h = h + 6 by omega] at h9 h8
  have h7 := F0.2.2
  exact ⟨⟨by omega, by omega, trivial⟩, g_qs T0 (show u = _ by omega), trivial⟩
theorem k_celS {V : zVw} {h i u H p y d q b s o a1 a2 a3 : Int} (T0 : q_sto V 0 H p y d q b s o a1 a2 a3) (T1 : q_qry V (6 : Int) q b s o a1 a2 a3 h (0 : Int) i) (C0 : 0 ≤ i) (C1 : 0 ≤ p - i - 1) (C2 : 0 ≤ h) (C3 : 0 ≤ 5 - h) (F0 : (0 : Int) ≤ i ∧ (i : Int) < j_len 31 ∧ V 31 (i) = u) : (0 ≤ u ∧ 0 ≤ 99 - u ∧ True) ∧ (q_qry V (8 : Int) q b s o a1 a2 a3 (h + 12) (0 : Int) u ∧ True) := by
  obtain ⟨⟨p1, p2, p3⟩, p4, p5⟩ := g_st0_pt T0
  have w9 := T0.1.1
  have w24 := w9.2.1
  have wH := w9.1
  have h9 := (p5 i (by omega) (by omega)).2.2
  have h6 := (g_k6 T1).get (by omega)
  rw [h6.1, show 12 + h = h + 12 by omega] at h9
  have h8 := w9.2.2.2.2.2.2.1 h (by omega) (by omega)
  rw [show 12 + h = h + 12 by omega] at h8
  have h7 := F0.2.2
  exact ⟨⟨by omega, by omega, trivial⟩, g_qs T0 (show u = _ by omega), trivial⟩
theorem k_celF {V : zVw} {H p y d q b s o a1 a2 a3 : Int} (T0 : q_sto V 0 H p y d q b s o a1 a2 a3) (C0 : 0 ≤ p) (C1 : 0 ≤ 6 - p) : (True) ∧ (q_qry V (8 : Int) q b s o a1 a2 a3 (24 : Int) (0 : Int) p ∧ q_qry V (8 : Int) q b s o a1 a2 a3 (31 : Int) (0 : Int) y ∧ q_qry V (8 : Int) q b s o a1 a2 a3 (32 : Int) (0 : Int) d ∧ True) := by
  obtain ⟨⟨p1, p2, p3⟩, p4, p5⟩ := g_st0_pt T0
  have w9 := T0.1.1
  have w24 := w9.2.1
  have wH := w9.1
  exact ⟨trivial, g_qs T0 p1, g_qs T0 p2, g_qs T0 p3, trivial⟩
theorem k_celW {V : zVw} {i u H p y d q b s o a1 a2 a3 : Int} (T0 : q_sto V 0 H p y d q b s o a1 a2 a3) (C0 : 0 ≤ i) (C1 : 0 ≤ p - i - 1) (C2 : 0 ≤ 5 - i) (F0 : (0 : Int) ≤ i ∧ (i : Int) < j_len 29 ∧ V 29 (i) = u) : (0 ≤ u ∧ 0 ≤ H - u - 1 ∧ True) ∧ (q_qry V (8 : Int) q b s o a1 a2 a3 (i + 25) (0 : Int) u ∧ q_qry V (6 : Int) q b s o a1 a2 a3 u (0 : Int) i ∧ True) := by
  obtain ⟨⟨p1, p2, p3⟩, p4, p5⟩ := g_st0_pt T0
  have w9 := T0.1.1
  have w24 := w9.2.1
  have wH := w9.1
  have h9 := (p5 i (by omega) (by omega)).1
  have h8 := w9.pl_lt (i := i) (by omega) (by omega)
  have h6 := w9.pl_in (i := i) (by omega) (by omega)
  have h7 := F0.2.2
  rw [← h9, h7] at h6 h8
  rw [h7, show 25 + i = i + 25 by omega] at h9
  exact ⟨⟨by omega, by omega, trivial⟩, g_qs T0 h9, g_qs T0 h6, trivial⟩
theorem k_pl0t {V : zVw} {h H p y d q b s o a1 a2 a3 : Int} (T0 : q_sto V 1 H p y d q b s o a1 a2 a3) : (True) ∧ (q_qry V (12 : Int) q b s o a1 a2 a3 h (0 : Int) (1 : Int) ∧ True) := by
  exact ⟨trivial, g_qs T0 (fun i i0 i1 => absurd i1 (by omega)), trivial⟩
theorem k_plSat {V : zVw} {h i w H p y d q b s o a1 a2 a3 : Int} (T0 : q_sto V 1 H p y d q b s o a1 a2 a3) (T1 : q_qry V (12 : Int) q b s o a1 a2 a3 h i (1 : Int)) (C0 : 0 ≤ i) (C1 : 0 ≤ p - i - 1) (C2 : 0 ≤ 5 - i) (C3 : 0 ≤ h - w - 1) (F0 : (0 : Int) ≤ i ∧ (i : Int) < j_len 109 ∧ V 109 (i) = w) : (True) ∧ (q_qry V (12 : Int) q b s o a1 a2 a3 h (i + 1) (1 : Int) ∧ True) := by
  obtain ⟨⟨p1, p2, p3⟩, p4, p5⟩ := g_st1_pt T0
  have w9 := T0.1.1
  have w24 := w9.2.1
  have wH := w9.1
  have h9 := (p5 i (by omega) (by omega)).1
  have h7 := F0.2.2
  exact ⟨trivial, g_qs T0 (fun j j0 j1 he => by
    by_cases h8 : j < i
    · exact g_k12 T1 j j0 h8 he
    · rw [show j = i by omega] at he; omega), trivial⟩
theorem k_plSbt {V : zVw} {h i w H p y d q b s o a1 a2 a3 : Int} (T0 : q_sto V 1 H p y d q b s o a1 a2 a3) (T1 : q_qry V (12 : Int) q b s o a1 a2 a3 h i (1 : Int)) (C0 : 0 ≤ i) (C1 : 0 ≤ p - i - 1) (C2 : 0 ≤ 5 - i) (C3 : 0 ≤ w - h - 1) (F0 : (0 : Int) ≤ i ∧ (i : Int) < j_len 109 ∧ V 109 (i) = w) : (True) ∧ (q_qry V (12 : Int) q b s o a1 a2 a3 h (i + 1) (1 : Int) ∧ True) := by
  obtain ⟨⟨p1, p2, p3⟩, p4, p5⟩ := g_st1_pt T0
  have w9 := T0.1.1
  have w24 := w9.2.1
  have wH := w9.1
  have h9 := (p5 i (by omega) (by omega)).1
  have h7 := F0.2.2
  exact ⟨trivial, g_qs T0 (fun j j0 j1 he => by
    by_cases h8 : j < i
    · exact g_k12 T1 j j0 h8 he
    · rw [show j = i by omega] at he; omega), trivial⟩
theorem k_plYt {V : zVw} {h i w H p y d q b s o a1 a2 a3 : Int} (T0 : q_sto V 1 H p y d q b s o a1 a2 a3) (T1 : q_qry V (12 : Int) q b s o a1 a2 a3 h i (1 : Int)) (C0 : 0 ≤ i) (C1 : 0 ≤ p - i - 1) (C2 : 0 ≤ 5 - i) (C3 : 0 ≤ w - h) (C4 : 0 ≤ h - w) (F0 : (0 : Int) ≤ i ∧ (i : Int) < j_len 109 ∧ V 109 (i) = w) : (True) ∧ (q_qry V (6 : Int) q b s o a1 a2 a3 h (0 : Int) i ∧ True) := by
  obtain ⟨⟨p1, p2, p3⟩, p4, p5⟩ := g_st1_pt T0
  have w9 := T0.1.1
  have w24 := w9.2.1
  have wH := w9.1
  have h9 := (p5 i (by omega) (by omega)).1
  have h7 := F0.2.2
  exact ⟨trivial, g_qs T0 (Or.inl ⟨by omega, by omega, by omega, g_k12 T1⟩), trivial⟩
theorem k_plNt {V : zVw} {h i H p y d q b s o a1 a2 a3 : Int} (T0 : q_sto V 1 H p y d q b s o a1 a2 a3) (T1 : q_qry V (12 : Int) q b s o a1 a2 a3 h i (1 : Int)) (C0 : 0 ≤ i - p) (C1 : 0 ≤ p) (C2 : 0 ≤ 6 - p) : (True) ∧ (q_qry V (6 : Int) q b s o a1 a2 a3 h (0 : Int) (-1 : Int) ∧ True) := by
  obtain ⟨⟨p1, p2, p3⟩, p4, p5⟩ := g_st1_pt T0
  have w9 := T0.1.1
  have w24 := w9.2.1
  have wH := w9.1
  exact ⟨trivial, g_qs T0 (Or.inr ⟨rfl, fun j j0 j1 => g_k12 T1 j j0 (by omega)⟩), trivial⟩
theorem k_celHt {V : zVw} {h u H p y d q b s o a1 a2 a3 : Int} (T0 : q_sto V 1 H p y d q b s o a1 a2 a3) (C0 : 0 ≤ h) (C1 : 0 ≤ H - h - 1) (C2 : 0 ≤ 6 - H) (F0 : (0 : Int) ≤ h ∧ (h : Int) < j_len 107 ∧ V 107 (h) = u) : (0 ≤ u ∧ 0 ≤ 99 - u ∧ True) ∧ (q_qry V (8 : Int) q b s o a1 a2 a3 h (0 : Int) u ∧ True) := by
  obtain ⟨⟨p1, p2, p3⟩, p4, p5⟩ := g_st1_pt T0
  have w9 := T0.1.1
  have w24 := w9.2.1
  have wH := w9.1
  have h9 := (p4 h (by omega) (by omega)).1
  have h8 := w9.2.2.2.2.2.2.1 h (by omega) (by omega)
  have h7 := F0.2.2
  exact ⟨⟨by omega, by omega, trivial⟩, g_qs T0 (show u = _ by omega), trivial⟩
theorem k_celGt {V : zVw} {h u H p y d q b s o a1 a2 a3 : Int} (T0 : q_sto V 1 H p y d q b s o a1 a2 a3) (C0 : 0 ≤ h) (C1 : 0 ≤ H - h - 1) (C2 : 0 ≤ 6 - H) (F0 : (0 : Int) ≤ h ∧ (h : Int) < j_len 108 ∧ V 108 (h) = u) : (True) ∧ (q_qry V (8 : Int) q b s o a1 a2 a3 (h + 18) (0 : Int) u ∧ True) := by
  obtain ⟨⟨p1, p2, p3⟩, p4, p5⟩ := g_st1_pt T0
  have w9 := T0.1.1
  have w24 := w9.2.1
  have wH := w9.1
  have h9 := (p4 h (by omega) (by omega)).2
  have h7 := F0.2.2
  rw [show 18 + h = h + 18 by omega] at h9
  exact ⟨trivial, g_qs T0 (show u = _ by omega), trivial⟩
theorem k_celLt {V : zVw} {h i u H p y d q b s o a1 a2 a3 : Int} (T0 : q_sto V 1 H p y d q b s o a1 a2 a3) (T1 : q_qry V (6 : Int) q b s o a1 a2 a3 h (0 : Int) i) (C0 : 0 ≤ i) (C1 : 0 ≤ p - i - 1) (C2 : 0 ≤ h) (C3 : 0 ≤ 5 - h) (F0 : (0 : Int) ≤ i ∧ (i : Int) < j_len 110 ∧ V 110 (i) = u) : (0 ≤ u - 1 ∧ 0 ≤ 99 - u ∧ True) ∧ (q_qry V (8 : Int) q b s o a1 a2 a3 (h + 6) (0 : Int) u ∧ True) := by
  obtain ⟨⟨p1, p2, p3⟩, p4, p5⟩ := g_st1_pt T0
  have w9 := T0.1.1
  have w24 := w9.2.1
  have wH := w9.1
  have h9 := (p5 i (by omega) (by omega)).2.1
  have h8 := w9.len (i := i) (by omega) (by omega)
  have h6 := (g_k6 T1).get (by omega)
  rw [h6.1, show 6 + h = h + 6 by omega] at h9 h8
  have h7 := F0.2.2
  exact ⟨⟨by omega, by omega, trivial⟩, g_qs T0 (show u = _ by omega), trivial⟩
theorem k_celSt {V : zVw} {h i u H p y d q b s o a1 a2 a3 : Int} (T0 : q_sto V 1 H p y d q b s o a1 a2 a3) (T1 : q_qry V (6 : Int) q b s o a1 a2 a3 h (0 : Int) i) (C0 : 0 ≤ i) (C1 : 0 ≤ p - i - 1) (C2 : 0 ≤ h) (C3 : 0 ≤ 5 - h) (F0 : (0 : Int) ≤ i ∧ (i : Int) < j_len 111 ∧ V 111 (i) = u) : (0 ≤ u ∧ 0 ≤ 99 - u ∧ True) ∧ (q_qry V (8 : Int) q b s o a1 a2 a3 (h + 12) (0 : Int) u ∧ True) := by
  obtain ⟨⟨p1, p2, p3⟩, p4, p5⟩ := g_st1_pt T0
  have w9 := T0.1.1
  have w24 := w9.2.1
  have wH := w9.1
  have h9 := (p5 i (by omega) (by omega)).2.2
  have h6 := (g_k6 T1).get (by omega)
  rw [h6.1, show 12 + h = h + 12 by omega] at h9
  have h8 := w9.2.2.2.2.2.2.1 h (by omega) (by omega)
  rw [show 12 + h = h + 12 by omega] at h8
  have h7 := F0.2.2
  exact ⟨⟨by omega, by omega, trivial⟩, g_qs T0 (show u = _ by omega), trivial⟩
theorem k_celFt {V : zVw} {H p y d q b s o a1 a2 a3 : Int} (T0 : q_sto V 1 H p y d q b s o a1 a2 a3) (C0 : 0 ≤ p) (C1 : 0 ≤ 6 - p) : (True) ∧ (q_qry V (8 : Int) q b s o a1 a2 a3 (24 : Int) (0 : Int) p ∧ q_qry V (8 : Int) q b s o a1 a2 a3 (31 : Int) (0 : Int) y ∧ q_qry V (8 : Int) q b s o a1 a2 a3 (32 : Int) (0 : Int) d ∧ True) := by
  obtain ⟨⟨p1, p2, p3⟩, p4, p5⟩ := g_st1_pt T0
  have w9 := T0.1.1
  have w24 := w9.2.1
  have wH := w9.1
  exact ⟨trivial, g_qs T0 p1, g_qs T0 p2, g_qs T0 p3, trivial⟩
theorem k_celWt {V : zVw} {i u H p y d q b s o a1 a2 a3 : Int} (T0 : q_sto V 1 H p y d q b s o a1 a2 a3) (C0 : 0 ≤ i) (C1 : 0 ≤ p - i - 1) (C2 : 0 ≤ 5 - i) (F0 : (0 : Int) ≤ i ∧ (i : Int) < j_len 109 ∧ V 109 (i) = u) : (0 ≤ u ∧ 0 ≤ H - u - 1 ∧ True) ∧ (q_qry V (8 : Int) q b s o a1 a2 a3 (i + 25) (0 : Int) u ∧ q_qry V (6 : Int) q b s o a1 a2 a3 u (0 : Int) i ∧ True) := by
  obtain ⟨⟨p1, p2, p3⟩, p4, p5⟩ := g_st1_pt T0
  have w9 := T0.1.1
  have w24 := w9.2.1
  have wH := w9.1
  have h9 := (p5 i (by omega) (by omega)).1
  have h8 := w9.pl_lt (i := i) (by omega) (by omega)
  have h6 := w9.pl_in (i := i) (by omega) (by omega)
  have h7 := F0.2.2
  rw [← h9, h7] at h6 h8
  rw [h7, show 25 + i = i + 25 by omega] at h9
  exact ⟨⟨by omega, by omega, trivial⟩, g_qs T0 h9, g_qs T0 h6, trivial⟩
theorem k_stgY {V : zVw} {h i u q b s o a1 a2 a3 : Int} (T0 : q_qry V (6 : Int) q b s o a1 a2 a3 h (0 : Int) i) (T1 : q_qry V (8 : Int) q b s o a1 a2 a3 (h + 12) (0 : Int) u) (C0 : 0 ≤ i) (C1 : 0 ≤ h) (C2 : 0 ≤ 5 - h) : (True) ∧ (q_qry V (7 : Int) q b s o a1 a2 a3 h (0 : Int) u ∧ True) := by
  have h9 := g_k8 T1
  have h8 := (g_k6 T0).get (by omega)
  obtain ⟨⟨H9, w9⟩, -⟩ := T0
  have h7 := w9.len (i := i) (by omega) (by omega)
  rw [h8.1] at h7
  exact ⟨trivial, g_qq T1 (show u = g_sg _ _ h by unfold g_sg; rw [if_pos h7.1, h9, show h + 12 = 12 + h by omega]), trivial⟩
theorem k_stgN {V : zVw} {h u q b s o a1 a2 a3 : Int} (T0 : q_qry V (6 : Int) q b s o a1 a2 a3 h (0 : Int) (-1 : Int)) (C0 : 0 ≤ h) (C1 : 0 ≤ 5 - h) (F0 : (0 : Int) ≤ h ∧ (h : Int) < j_len 20 ∧ V 20 (h) = u) : (True) ∧ (q_qry V (7 : Int) q b s o a1 a2 a3 h (0 : Int) u ∧ True) := by
  have h9 := g_k6 T0
  obtain ⟨⟨H9, w9⟩, -⟩ := id T0
  have h7 := w9.at_no h9 (by omega) (by omega)
  have h6 := F0.2.2
  exact ⟨trivial, g_qq T0 (show u = g_sg _ _ h by unfold g_sg; rw [if_neg (by omega)]; exact h6.symm), trivial⟩
theorem k_p0Y {V : zVw} {h i q b s o a1 a2 a3 : Int} (T0 : q_qry V (6 : Int) q b s o a1 a2 a3 h (0 : Int) i) (C0 : 0 ≤ i) : (True) ∧ (q_qry V (16 : Int) q b s o a1 a2 a3 h (0 : Int) i ∧ True) := by
  have h9 := g_at_iff.mp (g_k6 T0)
  exact ⟨trivial, g_qq T0 (show i = g_p0 _ h by unfold g_p0; rw [← h9, if_pos (by omega)]), trivial⟩
theorem k_p0N {V : zVw} {h q b s o a1 a2 a3 : Int} (T0 : q_qry V (6 : Int) q b s o a1 a2 a3 h (0 : Int) (-1 : Int)) : (True) ∧ (q_qry V (16 : Int) q b s o a1 a2 a3 h (0 : Int) (0 : Int) ∧ True) := by
  have h9 := g_at_iff.mp (g_k6 T0)
  exact ⟨trivial, g_qq T0 (show (0 : Int) = g_p0 _ h by unfold g_p0; rw [← h9, if_neg (by omega)]), trivial⟩
theorem k_sg0 {V : zVw} {i : Int} : ((0 ≤ -i - 1 ∧ True) ∧ (True)) ∨ ((0 ≤ i ∧ True) ∧ (True)) := by
  simp only [and_true]
  omega
theorem k_sgm {V : zVw} {i : Int} (C0 : 0 ≤ i + 1) : ((0 ≤ -i - 1 ∧ 0 ≤ i + 1 ∧ True) ∧ (True)) ∨ ((0 ≤ i ∧ True) ∧ (True)) := by
  simp only [and_true]
  omega
theorem k_lawQ {V : zVw} {h k r e0 e1 e2 e3 e4 e5 e6 e7 e8 q b s o a1 a2 a3 : Int} (T0 : q_plc V q k r (e_9 e0 e1 e2 e3 e4 e5 e6 e7 e8)) (T1 : q_qry V (8 : Int) q b s o a1 a2 a3 h (0 : Int) e0) (T2 : q_qry V (7 : Int) q b s o a1 a2 a3 h (0 : Int) e1) (T3 : q_qry V (8 : Int) q b s o a1 a2 a3 (31 : Int) (0 : Int) e3) (T4 : q_qry V (16 : Int) q b s o a1 a2 a3 h (0 : Int) e4) (T5 : q_qry V (8 : Int) q b s o a1 a2 a3 (24 : Int) (0 : Int) e6) (T6 : q_qry V (8 : Int) q b s o a1 a2 a3 (h + 18) (0 : Int) e7) (C0 : 0 ≤ e2) (C1 : 0 ≤ -e2) (C2 : 0 ≤ e8) (C3 : 0 ≤ -e8) (C4 : 0 ≤ e5 - h) (C5 : 0 ≤ h - e5) (C6 : 0 ≤ h) (C7 : 0 ≤ 5 - h) : (True) ∧ (q_qry V (13 : Int) q b s o a1 a2 a3 k h r ∧ True) := by
  have z0 := g_k8 T1
  have z1 := g_k7 T2
  have z3 := g_k8 T3
  have z4 := g_k16 T4
  have z6 := g_k8 T5
  have z7 := g_k8 T6
  have z5 : e5 = h := by omega
  have z2 : e2 = 0 := by omega
  have z8 : e8 = 0 := by omega
  rw [show h + 18 = 18 + h by omega] at z7
  have h9 : e_C (V 21) (V 22) q (e_9 e0 e1 e2 e3 e4 e5 e6 e7 e8) 432 (V 23 k) [] = r := T0
  rw [z0, z1, z2, z3, z4, z5, z6, z7, z8] at h9
  exact ⟨trivial, g_qq T1 h9.symm, trivial⟩
theorem k_sp99 {V : zVw} {r : Int} : ((0 ≤ -r - 1 ∧ True) ∧ (True)) ∨ ((0 ≤ r ∧ 0 ≤ 99 - r ∧ True) ∧ (True)) ∨ ((0 ≤ r - 100 ∧ True) ∧ (True)) := by
  simp only [and_true]
  omega
theorem k_lawU1 {V : zVw} {k h r u q b s o a1 a2 a3 : Int} (T0 : q_qry V (13 : Int) q b s o a1 a2 a3 k h r) (C0 : 0 ≤ r) (C1 : 0 ≤ 99 - r) (C2 : 0 ≤ u - r) (C3 : 0 ≤ r - u) : (True) ∧ (q_qry V (4 : Int) q b s o a1 a2 a3 k h u ∧ True) := by
  have h9 := g_k13 T0
  exact ⟨trivial, g_qq T0 (show u = g_cl 99 _ by rw [← h9]; unfold g_cl; rw [if_neg (by omega), if_neg (by omega)]; omega), trivial⟩
theorem k_lawU0 {V : zVw} {k h r u q b s o a1 a2 a3 : Int} (T0 : q_qry V (13 : Int) q b s o a1 a2 a3 k h r) (C0 : 0 ≤ -r - 1) (C1 : 0 ≤ u) (C2 : 0 ≤ -u) : (True) ∧ (q_qry V (4 : Int) q b s o a1 a2 a3 k h u ∧ True) := by
  have h9 := g_k13 T0
  exact ⟨trivial, g_qq T0 (show u = g_cl 99 _ by rw [← h9]; unfold g_cl; rw [if_pos (by omega)]; omega), trivial⟩
theorem k_lawU9 {V : zVw} {k h r u q b s o a1 a2 a3 : Int} (T0 : q_qry V (13 : Int) q b s o a1 a2 a3 k h r) (C0 : 0 ≤ r - 100) (C1 : 0 ≤ u - 99) (C2 : 0 ≤ 99 - u) : (True) ∧ (q_qry V (4 : Int) q b s o a1 a2 a3 k h u ∧ True) := by
  have h9 := g_k13 T0
  exact ⟨trivial, g_qq T0 (show u = g_cl 99 _ by rw [← h9]; unfold g_cl; rw [if_neg (by omega), if_pos (by omega)]; omega), trivial⟩
theorem k_sp99j {V : zVw} {r : Int} : ((0 ≤ -r - 1 ∧ True) ∧ (True)) ∨ ((0 ≤ r ∧ 0 ≤ 999 - r ∧ True) ∧ (True)) ∨ ((0 ≤ r - 1000 ∧ True) ∧ (True)) := by
  simp only [and_true]
  omega
theorem k_lawU1j {V : zVw} {k h r u q b s o a1 a2 a3 : Int} (T0 : q_qry V (14 : Int) q b s o a1 a2 a3 k h r) (C0 : 0 ≤ r) (C1 : 0 ≤ 999 - r) (C2 : 0 ≤ u - r) (C3 : 0 ≤ r - u) : (True) ∧ (q_qry V (5 : Int) q b s o a1 a2 a3 k h u ∧ True) := by
  have h9 := g_k14 T0
  exact ⟨trivial, g_qq T0 (show u = g_cl 999 _ by rw [← h9]; unfold g_cl; rw [if_neg (by omega), if_neg (by omega)]; omega), trivial⟩
theorem k_lawU0j {V : zVw} {k h r u q b s o a1 a2 a3 : Int} (T0 : q_qry V (14 : Int) q b s o a1 a2 a3 k h r) (C0 : 0 ≤ -r - 1) (C1 : 0 ≤ u) (C2 : 0 ≤ -u) : (True) ∧ (q_qry V (5 : Int) q b s o a1 a2 a3 k h u ∧ True) := by
  have h9 := g_k14 T0
  exact ⟨trivial, g_qq T0 (show u = g_cl 999 _ by rw [← h9]; unfold g_cl; rw [if_pos (by omega)]; omega), trivial⟩
theorem k_lawU9j {V : zVw} {k h r u q b s o a1 a2 a3 : Int} (T0 : q_qry V (14 : Int) q b s o a1 a2 a3 k h r) (C0 : 0 ≤ r - 1000) (C1 : 0 ≤ u - 999) (C2 : 0 ≤ 999 - u) : (True) ∧ (q_qry V (5 : Int) q b s o a1 a2 a3 k h u ∧ True) := by
  have h9 := g_k14 T0
  exact ⟨trivial, g_qq T0 (show u = g_cl 999 _ by rw [← h9]; unfold g_cl; rw [if_neg (by omega), if_pos (by omega)]; omega), trivial⟩
theorem k_joQ {V : zVw} {h g r e0 e1 e2 e3 e4 e5 e6 e7 e8 q b s o a1 a2 a3 : Int} (T0 : q_plc V q (2 : Int) r (e_9 e0 e1 e2 e3 e4 e5 e6 e7 e8)) (T1 : q_qry V (8 : Int) q b s o a1 a2 a3 h (0 : Int) e0) (T2 : q_qry V (7 : Int) q b s o a1 a2 a3 h (0 : Int) e1) (T3 : q_qry V (8 : Int) q b s o a1 a2 a3 (31 : Int) (0 : Int) e3) (T4 : q_qry V (16 : Int) q b s o a1 a2 a3 h (0 : Int) e4) (T5 : q_qry V (8 : Int) q b s o a1 a2 a3 (24 : Int) (0 : Int) e6) (T6 : q_qry V (8 : Int) q b s o a1 a2 a3 (h + 18) (0 : Int) e7) (T7 : V 18 (6 * h + g) = e2) (T8 : q_qry V (7 : Int) q b s o a1 a2 a3 g (0 : Int) e8) (C0 : 0 ≤ e5 - h) (C1 : 0 ≤ h - e5) (C2 : 0 ≤ h) (C3 : 0 ≤ 5 - h) (C4 : 0 ≤ g) (C5 : 0 ≤ 5 - g) : (True) ∧ (q_qry V (14 : Int) q b s o a1 a2 a3 h g r ∧ True) := by
  have z0 := g_k8 T1
  have z1 := g_k7 T2
  have z3 := g_k8 T3
  have z4 := g_k16 T4
  have z6 := g_k8 T5
  have z7 := g_k8 T6
  have z5 : e5 = h := by omega
  have z8 := g_k7 T8
  rw [show h + 18 = 18 + h by omega] at z7
  have h9 : e_C (V 21) (V 22) q (e_9 e0 e1 e2 e3 e4 e5 e6 e7 e8) 432 (V 23 2) [] = r := T0
  rw [z0, z1, ← T7, z3, z4, z5, z6, z7, z8] at h9
  exact ⟨trivial, g_qq T1 h9.symm, trivial⟩
theorem k_celX {V : zVw} {i u H p y d q b s o a1 a2 a3 : Int} (T0 : q_sto V 0 H p y d q b s o a1 a2 a3) (C0 : 0 ≤ i - 1) (C1 : 0 ≤ p - i) (C2 : 0 ≤ 6 - i) (F0 : (0 : Int) ≤ i - 1 ∧ (i - 1 : Int) < j_len 29 ∧ V 29 (i - 1) = u) : (0 ≤ u ∧ 0 ≤ H - u - 1 ∧ True) ∧ (q_qry V (8 : Int) q b s o a1 a2 a3 (i + 24) (0 : Int) u ∧ q_qry V (6 : Int) q b s o a1 a2 a3 u (0 : Int) (i - 1) ∧ True) := by
  obtain ⟨⟨p1, p2, p3⟩, p4, p5⟩ := g_st0_pt T0
  have w9 := T0.1.1
  have w24 := w9.2.1
  have wH := w9.1
  have h9 := (p5 (i - 1) (by omega) (by omega)).1
  have h8 := w9.pl_lt (i := i - 1) (by omega) (by omega)
  have h6 := w9.pl_in (i := i - 1) (by omega) (by omega)
  have h7 := F0.2.2
  rw [← h9, h7] at h6 h8
  rw [h7, show 25 + (i - 1) = i + 24 by omega] at h9
  exact ⟨⟨by omega, by omega, trivial⟩, g_qs T0 h9, g_qs T0 h6, trivial⟩
theorem k_ctp {V : zVw} {i u H p y d q b s o a1 a2 a3 : Int} (T0 : q_sto V 0 H p y d q b s o a1 a2 a3) (C0 : 0 ≤ i) (C1 : 0 ≤ p - i - 1) (C2 : 0 ≤ 5 - i) (F0 : (0 : Int) ≤ i ∧ (i : Int) < j_len 31 ∧ V 31 (i) = u) : (0 ≤ u ∧ 0 ≤ 99 - u ∧ True) ∧ (q_qry V (18 : Int) q b s o a1 a2 a3 i (0 : Int) u ∧ True) := by
  obtain ⟨⟨p1, p2, p3⟩, p4, p5⟩ := g_st0_pt T0
  have w9 := T0.1.1
  have w24 := w9.2.1
  have wH := w9.1
  have h9 := (p5 i (by omega) (by omega)).2.2
  have h8 := w9.pl_lt (i := i) (by omega) (by omega)
  have h7 := F0.2.2
  have h6 := w9.len (i := i) (by omega) (by omega)
  have h5 := w9.2.2.2.2.2.2.1 _ h8.1 h8.2.2
  exact ⟨⟨by omega, by omega, trivial⟩, g_qs T0 (show u = _ by omega), trivial⟩
theorem k_clp {V : zVw} {i u H p y d q b s o a1 a2 a3 : Int} (T0 : q_sto V 0 H p y d q b s o a1 a2 a3) (C0 : 0 ≤ i) (C1 : 0 ≤ p - i - 1) (C2 : 0 ≤ 5 - i) (F0 : (0 : Int) ≤ i ∧ (i : Int) < j_len 30 ∧ V 30 (i) = u) : (0 ≤ u - 1 ∧ 0 ≤ 99 - u ∧ True) ∧ (q_qry V (19 : Int) q b s o a1 a2 a3 i (0 : Int) u ∧ True) := by
  obtain ⟨⟨p1, p2, p3⟩, p4, p5⟩ := g_st0_pt T0
  have w9 := T0.1.1
  have w24 := w9.2.1
  have wH := w9.1
  have h9 := (p5 i (by omega) (by omega)).2.1
  have h8 := w9.pl_lt (i := i) (by omega) (by omega)
  have h7 := F0.2.2
  have h6 := w9.len (i := i) (by omega) (by omega)
  have h5 := w9.2.2.2.2.2.2.1 _ h8.1 h8.2.2
  exact ⟨⟨by omega, by omega, trivial⟩, g_qs T0 (show u = _ by omega), trivial⟩
theorem k_celXt {V : zVw} {i u H p y d q b s o a1 a2 a3 : Int} (T0 : q_sto V 1 H p y d q b s o a1 a2 a3) (C0 : 0 ≤ i - 1) (C1 : 0 ≤ p - i) (C2 : 0 ≤ 6 - i) (F0 : (0 : Int) ≤ i - 1 ∧ (i - 1 : Int) < j_len 109 ∧ V 109 (i - 1) = u) : (0 ≤ u ∧ 0 ≤ H - u - 1 ∧ True) ∧ (q_qry V (8 : Int) q b s o a1 a2 a3 (i + 24) (0 : Int) u ∧ q_qry V (6 : Int) q b s o a1 a2 a3 u (0 : Int) (i - 1) ∧ True) := by
  obtain ⟨⟨p1, p2, p3⟩, p4, p5⟩ := g_st1_pt T0
  have w9 := T0.1.1
  have w24 := w9.2.1
  have wH := w9.1
  have h9 := (p5 (i - 1) (by omega) (by omega)).1
  have h8 := w9.pl_lt (i := i - 1) (by omega) (by omega)
  have h6 := w9.pl_in (i := i - 1) (by omega) (by omega)
  have h7 := F0.2.2
  rw [← h9, h7] at h6 h8
  rw [h7, show 25 + (i - 1) = i + 24 by omega] at h9
  exact ⟨⟨by omega, by omega, trivial⟩, g_qs T0 h9, g_qs T0 h6, trivial⟩
theorem k_ctpt {V : zVw} {i u H p y d q b s o a1 a2 a3 : Int} (T0 : q_sto V 1 H p y d q b s o a1 a2 a3) (C0 : 0 ≤ i) (C1 : 0 ≤ p - i - 1) (C2 : 0 ≤ 5 - i) (F0 : (0 : Int) ≤ i ∧ (i : Int) < j_len 111 ∧ V 111 (i) = u) : (0 ≤ u ∧ 0 ≤ 99 - u ∧ True) ∧ (q_qry V (18 : Int) q b s o a1 a2 a3 i (0 : Int) u ∧ True) := by
  obtain ⟨⟨p1, p2, p3⟩, p4, p5⟩ := g_st1_pt T0
  have w9 := T0.1.1
  have w24 := w9.2.1
  have wH := w9.1
  have h9 := (p5 i (by omega) (by omega)).2.2
  have h8 := w9.pl_lt (i := i) (by omega) (by omega)
  have h7 := F0.2.2
  have h6 := w9.len (i := i) (by omega) (by omega)
  have h5 := w9.2.2.2.2.2.2.1 _ h8.1 h8.2.2
  exact ⟨⟨by omega, by omega, trivial⟩, g_qs T0 (show u = _ by omega), trivial⟩
theorem k_clpt {V : zVw} {i u H p y d q b s o a1 a2 a3 : Int} (T0 : q_sto V 1 H p y d q b s o a1 a2 a3) (C0 : 0 ≤ i) (C1 : 0 ≤ p - i - 1) (C2 : 0 ≤ 5 - i) (F0 : (0 : Int) ≤ i ∧ (i : Int) < j_len 110 ∧ V 110 (i) = u) : (0 ≤ u - 1 ∧ 0 ≤ 99 - u ∧ True) ∧ (q_qry V (19 : Int) q b s o a1 a2 a3 i (0 : Int) u ∧ True) := by
  obtain ⟨⟨p1, p2, p3⟩, p4, p5⟩ := g_st1_pt T0
  have w9 := T0.1.1
  have w24 := w9.2.1
  have wH := w9.1
  have h9 := (p5 i (by omega) (by omega)).2.1
  have h8 := w9.pl_lt (i := i) (by omega) (by omega)
  have h7 := F0.2.2
  have h6 := w9.len (i := i) (by omega) (by omega)
  have h5 := w9.2.2.2.2.2.2.1 _ h8.1 h8.2.2
  exact ⟨⟨by omega, by omega, trivial⟩, g_qs T0 (show u = _ by omega), trivial⟩
theorem k_jab {V : zVw} {i a g u q b s o a1 a2 a3 : Int} (T0 : q_qry V (8 : Int) q b s o a1 a2 a3 (i + 24) (0 : Int) a) (T1 : q_qry V (8 : Int) q b s o a1 a2 a3 (i + 25) (0 : Int) g) (T2 : q_qry V (5 : Int) q b s o a1 a2 a3 a g u) (C0 : 0 ≤ i - 1) (C1 : 0 ≤ 5 - i) : (True) ∧ (q_qry V (17 : Int) q b s o a1 a2 a3 i (0 : Int) u ∧ True) := by
  have z0 := g_k8 T0
  have z1 := g_k8 T1
  have z2 := g_k5 T2
  rw [show i + 24 = 24 + i by omega] at z0
  rw [show i + 25 = 25 + i by omega] at z1
  rw [z0, z1] at z2
  exact ⟨trivial, g_qq T0 z2, trivial⟩
theorem k_mg0 {V : zVw} {i m H p y d q b s o a1 a2 a3 : Int} (T0 : q_sto V 0 H p y d q b s o a1 a2 a3) (C0 : 0 ≤ m - 2 * i - 1) (C1 : 0 ≤ 2 * i - m + 1) (C2 : 0 ≤ i) (C3 : 0 ≤ p - i - 1) (C4 : 0 ≤ i - p + 1) : (True) ∧ (q_mgn V q b s o a1 a2 a3 (2 * i) m ∧ q_qry V (1 : Int) q b s o a1 a2 a3 (i + 1) (i + 1) (0 : Int) ∧ True) := by
  obtain ⟨⟨p1, p2, p3⟩, p4, p5⟩ := g_st0_pt T0
  have w9 := T0.1.1
  have w24 := w9.2.1
  have wH := w9.1
  refine ⟨trivial, ⟨⟨H, w9⟩, ?_, fun t t0 t1 t2 => by omega⟩, g_qs T0 (show (0 : Int) = g_su _ (i + 1) _ by rw [show ((i + 1) - (i + 1)).toNat = 0 by omega]; rfl), trivial⟩
  rw [if_pos (by omega)]
  omega
theorem k_mg1 {V : zVw} {i m H p y d q b s o a1 a2 a3 : Int} (T0 : q_sto V 0 H p y d q b s o a1 a2 a3) (C0 : 0 ≤ m) (C1 : 0 ≤ -m) (C2 : 0 ≤ -i - 1) (C3 : 0 ≤ i + 1) (C4 : 0 ≤ p) (C5 : 0 ≤ -p) : (True) ∧ (q_mgn V q b s o a1 a2 a3 (2 * i) m ∧ q_qry V (1 : Int) q b s o a1 a2 a3 (i + 1) (i + 1) (0 : Int) ∧ True) := by
  obtain ⟨⟨p1, p2, p3⟩, p4, p5⟩ := g_st0_pt T0
  have w9 := T0.1.1
  have w24 := w9.2.1
  have wH := w9.1
  refine ⟨trivial, ⟨⟨H, w9⟩, ?_, fun t t0 t1 t2 => by omega⟩, g_qs T0 (show (0 : Int) = g_su _ (i + 1) _ by rw [show ((i + 1) - (i + 1)).toNat = 0 by omega]; rfl), trivial⟩
  rw [if_neg (by omega)]
  omega
theorem k_mg0t {V : zVw} {i m H p y d q b s o a1 a2 a3 : Int} (T0 : q_sto V 1 H p y d q b s o a1 a2 a3) (C0 : 0 ≤ m - 2 * i - 1) (C1 : 0 ≤ 2 * i - m + 1) (C2 : 0 ≤ i) (C3 : 0 ≤ p - i - 1) (C4 : 0 ≤ i - p + 1) : (True) ∧ (q_mgn V q b s o a1 a2 a3 (2 * i) m ∧ q_qry V (1 : Int) q b s o a1 a2 a3 (i + 1) (i + 1) (0 : Int) ∧ True) := by
  obtain ⟨⟨p1, p2, p3⟩, p4, p5⟩ := g_st1_pt T0
  have w9 := T0.1.1
  have w24 := w9.2.1
  have wH := w9.1
  refine ⟨trivial, ⟨⟨H, w9⟩, ?_, fun t t0 t1 t2 => by omega⟩, g_qs T0 (show (0 : Int) = g_su _ (i + 1) _ by rw [show ((i + 1) - (i + 1)).toNat = 0 by omega]; rfl), trivial⟩
  rw [if_pos (by omega)]
  omega
theorem k_mg1t {V : zVw} {i m H p y d q b s o a1 a2 a3 : Int} (T0 : q_sto V 1 H p y d q b s o a1 a2 a3) (C0 : 0 ≤ m) (C1 : 0 ≤ -m) (C2 : 0 ≤ -i - 1) (C3 : 0 ≤ i + 1) (C4 : 0 ≤ p) (C5 : 0 ≤ -p) : (True) ∧ (q_mgn V q b s o a1 a2 a3 (2 * i) m ∧ q_qry V (1 : Int) q b s o a1 a2 a3 (i + 1) (i + 1) (0 : Int) ∧ True) := by
  obtain ⟨⟨p1, p2, p3⟩, p4, p5⟩ := g_st1_pt T0
  have w9 := T0.1.1
  have w24 := w9.2.1
  have wH := w9.1
  refine ⟨trivial, ⟨⟨H, w9⟩, ?_, fun t t0 t1 t2 => by omega⟩, g_qs T0 (show (0 : Int) = g_su _ (i + 1) _ by rw [show ((i + 1) - (i + 1)).toNat = 0 by omega]; rfl), trivial⟩
  rw [if_neg (by omega)]
  omega
theorem k_mgP {V : zVw} {i m v q b s o a1 a2 a3 : Int} (T0 : q_mgn V q b s o a1 a2 a3 (2 * i) m) (T1 : q_qry V (2 : Int) q b s o a1 a2 a3 (2 * i + 1) (0 : Int) v) (C0 : 0 ≤ i) (F0 : (0 : Int) ≤ 2 * i ∧ (2 * i : Int) < j_len 25 ∧ V 25 (2 * i) = v) : (True) ∧ (q_mgn V q b s o a1 a2 a3 (2 * i - 1) m ∧ True) := by
  have h9 := g_k2 T1
  have h7 := F0.2.2
  refine ⟨trivial, ⟨T0.1, T0.2.1, fun t t0 t1 t2 => ?_⟩, trivial⟩
  by_cases h8 : 2 * i < t
  · exact T0.2.2 t t0 h8 t2
  · rw [show t = 2 * i by omega, h7, h9]
theorem k_mgJ {V : zVw} {i m v q b s o a1 a2 a3 : Int} (T0 : q_mgn V q b s o a1 a2 a3 (2 * i - 1) m) (T1 : q_qry V (2 : Int) q b s o a1 a2 a3 (2 * i) (0 : Int) v) (C0 : 0 ≤ i - 1) (F0 : (0 : Int) ≤ 2 * i - 1 ∧ (2 * i - 1 : Int) < j_len 25 ∧ V 25 (2 * i - 1) = v) : (True) ∧ (q_mgn V q b s o a1 a2 a3 (2 * i - 2) m ∧ True) := by
  have h9 := g_k2 T1
  have h7 := F0.2.2
  refine ⟨trivial, ⟨T0.1, T0.2.1, fun t t0 t1 t2 => ?_⟩, trivial⟩
  by_cases h8 : 2 * i - 1 < t
  · exact T0.2.2 t t0 h8 t2
  · rw [show t = 2 * i - 1 by omega, h7, h9]
    rw [show 2 * i - 1 + 1 = 2 * i by omega]
theorem k_mgZ {V : zVw} {i m q b s o a1 a2 a3 : Int} (T0 : q_mgn V q b s o a1 a2 a3 (-1 : Int) m) (C0 : 0 ≤ i) (C1 : 0 ≤ -i) : (True) ∧ (q_mgn V q b s o a1 a2 a3 (-2 : Int) m ∧ True) := by
  exact ⟨trivial, ⟨T0.1, T0.2.1, fun t t0 t1 t2 => T0.2.2 t t0 (by omega) t2⟩, trivial⟩
theorem k_spaP {V : zVw} {i p z w q b s o a1 a2 a3 : Int} (T0 : q_qry V (18 : Int) q b s o a1 a2 a3 i (0 : Int) w) (T1 : q_qry V (1 : Int) q b s o a1 a2 a3 (i + 1) p z) (T2 : q_qry V (8 : Int) q b s o a1 a2 a3 (24 : Int) (0 : Int) p) (C0 : 0 ≤ i) (C1 : 0 ≤ p - i - 1) (C2 : 0 ≤ 6 - p) : (True) ∧ (q_qry V (2 : Int) q b s o a1 a2 a3 (2 * i + 1) (0 : Int) (w - z) ∧ True) := by
  have z0 := g_k18 T0
  have z1 := g_k1 T1
  have z2 := g_k8 T2
  exact ⟨trivial, g_qq T0 (show w - z = g_sp _ _ _ (2 * i + 1) by rw [g_sp_odd, z0, z1, z2]), trivial⟩
theorem k_spaJ {V : zVw} {i p z w q b s o a1 a2 a3 : Int} (T0 : q_qry V (17 : Int) q b s o a1 a2 a3 i (0 : Int) w) (T1 : q_qry V (1 : Int) q b s o a1 a2 a3 i p z) (T2 : q_qry V (8 : Int) q b s o a1 a2 a3 (24 : Int) (0 : Int) p) (C0 : 0 ≤ i - 1) (C1 : 0 ≤ p - i - 1) (C2 : 0 ≤ 6 - p) : (True) ∧ (q_qry V (2 : Int) q b s o a1 a2 a3 (2 * i) (0 : Int) (w - z) ∧ True) := by
  have z0 := g_k17 T0
  have z1 := g_k1 T1
  have z2 := g_k8 T2
  exact ⟨trivial, g_qq T0 (show w - z = g_sp _ _ _ (2 * i) by rw [g_sp_ev (by omega), z0, z1, z2]), trivial⟩
theorem k_sumD {V : zVw} {i p z w q b s o a1 a2 a3 : Int} (T0 : q_qry V (19 : Int) q b s o a1 a2 a3 i (0 : Int) w) (T1 : q_qry V (1 : Int) q b s o a1 a2 a3 (i + 1) p z) (C0 : 0 ≤ i) (C1 : 0 ≤ p - i - 1) (C2 : 0 ≤ 6 - p) : (True) ∧ (q_qry V (1 : Int) q b s o a1 a2 a3 i p (z + w) ∧ True) := by
  have z0 := g_k19 T0
  have z1 := g_k1 T1
  exact ⟨trivial, g_qq T0 (show z + w = g_su _ i _ by rw [g_su_dn (by omega), z0, z1]; omega), trivial⟩
theorem k_sumU {V : zVw} {a k z w q b s o a1 a2 a3 : Int} (T0 : q_qry V (19 : Int) q b s o a1 a2 a3 k (0 : Int) w) (T1 : q_qry V (1 : Int) q b s o a1 a2 a3 a k z) (C0 : 0 ≤ a) (C1 : 0 ≤ k - a) (C2 : 0 ≤ 5 - k) : (True) ∧ (q_qry V (1 : Int) q b s o a1 a2 a3 a (k + 1) (z + w) ∧ True) := by
  have z0 := g_k19 T0
  have z1 := g_k1 T1
  exact ⟨trivial, g_qq T0 (show z + w = g_su _ a _ by rw [g_su_up (by omega), z0, z1]), trivial⟩
theorem k_sum0 {V : zVw} {a H p y d q b s o a1 a2 a3 : Int} (T0 : q_sto V 0 H p y d q b s o a1 a2 a3) (C0 : 0 ≤ a) : (True) ∧ (q_qry V (1 : Int) q b s o a1 a2 a3 a a (0 : Int) ∧ True) := by
  exact ⟨trivial, g_qs T0 (show (0 : Int) = g_su _ a _ by rw [show (a - a).toNat = 0 by omega]; rfl), trivial⟩
theorem k_hb0 {V : zVw} {w : Int} : (True) ∧ ((∀ t : Int, 0 ≤ t → t < (0 : Int) → w ≤ V 25 t) ∧ True) := by
  exact ⟨trivial, (fun t t0 t1 => by omega), trivial⟩
theorem k_hbS {V : zVw} {w i u : Int} (T0 : ∀ t : Int, 0 ≤ t → t < i → w ≤ V 25 t) (C0 : 0 ≤ i) (C1 : 0 ≤ 10 - i) (C2 : 0 ≤ u - w) (F0 : (0 : Int) ≤ i ∧ (i : Int) < j_len 25 ∧ V 25 (i) = u) : (True) ∧ ((∀ t : Int, 0 ≤ t → t < (i + 1) → w ≤ V 25 t) ∧ True) := by
  have h7 := F0.2.2
  exact ⟨trivial, (fun t t0 t1 => by
    by_cases h8 : t < i
    · exact T0 t t0 h8
    · rw [show t = i by omega]; omega), trivial⟩
