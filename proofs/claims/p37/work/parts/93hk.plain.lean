/-! ===== the lemmas in plain numbers, by program ===== -/
theorem k_ablE {V : zVw} {i a H p y d q b s o a1 a2 a3 : Int} (T0 : q_sto V 0 H p y d q b s o a1 a2 a3) (T1 : q_qry V (46 : Int) q b s o a1 a2 a3 i (0 : Int) a) (C0 : 0 ≤ i - H) (C1 : 0 ≤ H - i) : (True) ∧ (q_qry V (46 : Int) q b s o a1 a2 a3 (6 : Int) (0 : Int) a ∧ True) := by
  have w9 := T0.1.1
  have z1 := g_k46 T1
  have wH := w9.1
  exact ⟨trivial, g_qs T0 (g_Q46 (by
    rw [show (6 : Int).toNat = 6 from rfl]
    exact g_abE w9 (by omega) (by omega) (by omega) z1)), trivial⟩
theorem k_p2r {V : zVw} {h n : Int} (T0 : (mOP 104 (Int32.ofInt (1 : Int)) (Int32.ofInt h)).toInt = n) (C0 : 0 ≤ h) (C1 : 0 ≤ 5 - h) : (0 ≤ n - 1 ∧ 0 ≤ 32 - n ∧ True) ∧ (True) := by
  have h9 : g_op 104 1 h = n := T0
  have h8 := g_shb (by omega) (by omega) h9
  exact ⟨⟨by omega, by omega, trivial⟩, trivial⟩
theorem k_p2S {V : zVw} {h n : Int} (T0 : (mOP 104 (Int32.ofInt (1 : Int)) (Int32.ofInt h)).toInt = n) (C0 : 0 ≤ h) (C1 : 0 ≤ 5 - h) : (True) ∧ (((mOP 104 (Int32.ofInt (1 : Int)) (Int32.ofInt (h + 1))).toInt = (2 * n)) ∧ True) := by
  have h9 : g_op 104 1 h = n := T0
  exact ⟨trivial, g_shS (by omega) (by omega) h9, trivial⟩
theorem k_ablY {V : zVw} {i a n u x q b s o a1 a2 a3 : Int} (T0 : (mOP 102 (Int32.ofInt a) (Int32.ofInt n)).toInt = u) (T1 : (mOP 104 (Int32.ofInt (1 : Int)) (Int32.ofInt i)).toInt = n) (T2 : q_qry V (45 : Int) q b s o a1 a2 a3 i (0 : Int) x) (T3 : q_qry V (46 : Int) q b s o a1 a2 a3 i (0 : Int) a) (C0 : 0 ≤ i) (C1 : 0 ≤ 5 - i) (C2 : 0 ≤ x - 1) : (0 ≤ u ∧ 0 ≤ 63 - u ∧ True) ∧ (q_qry V (46 : Int) q b s o a1 a2 a3 (i + 1) (0 : Int) u ∧ True) := by
  have h9 : g_op 102 a n = u := T0
  have h8 : g_op 104 1 i = n := T1
  have z2 := g_k45 T2
  have z3 := g_k46 T3
  have h7 := g_abY (by omega) (by omega) (by omega) z3 h8 h9
  have h6 := g_ab_i (by omega) (by omega) h7
  exact ⟨⟨by omega, by omega, trivial⟩, g_qq T3 (g_Q46 h7), trivial⟩
theorem k_ablN {V : zVw} {i a u x q b s o a1 a2 a3 : Int} (T0 : (mOP 102 (Int32.ofInt a) (Int32.ofInt (0 : Int))).toInt = u) (T1 : q_qry V (45 : Int) q b s o a1 a2 a3 i (0 : Int) x) (T2 : q_qry V (46 : Int) q b s o a1 a2 a3 i (0 : Int) a) (C0 : 0 ≤ i) (C1 : 0 ≤ 5 - i) (C2 : 0 ≤ -x) : (0 ≤ u ∧ 0 ≤ 63 - u ∧ True) ∧ (q_qry V (46 : Int) q b s o a1 a2 a3 (i + 1) (0 : Int) u ∧ True) := by
  have h9 : g_op 102 a 0 = u := T0
  have z1 := g_k45 T1
  have z2 := g_k46 T2
  have h6 := g_ab_i (by omega) (by omega) z2
  rw [g_orz (by omega) (by omega)] at h9
  have h7 := g_abN (by omega) (by omega) z2
  rw [h9] at h7 h6
  exact ⟨⟨by omega, by omega, trivial⟩, g_qq T2 (g_Q46 h7), trivial⟩
theorem k_orx {V : zVw} {h s n u : Int} (T0 : (mOP 102 (Int32.ofInt s) (Int32.ofInt n)).toInt = u) (T1 : (mOP 104 (Int32.ofInt (1 : Int)) (Int32.ofInt h)).toInt = n) (C0 : 0 ≤ h) (C1 : 0 ≤ 5 - h) (C2 : 0 ≤ s) (C3 : 0 ≤ n - s - 1) : (0 ≤ u - s - n ∧ 0 ≤ s + n - u ∧ 0 ≤ 63 - u ∧ 0 ≤ u - 1 ∧ True) ∧ (True) := by
  have h9 : g_op 102 s n = u := T0
  have h8 : g_op 104 1 h = n := T1
  have h7 := g_orx (by omega) (by omega) h8 (by omega) (by omega) h9
  exact ⟨⟨by omega, by omega, by omega, by omega, trivial⟩, trivial⟩
theorem k_or1 {V : zVw} {s n u : Int} (T0 : (mOP 102 (Int32.ofInt s) (Int32.ofInt n)).toInt = u) (C0 : 0 ≤ s) (C1 : 0 ≤ 31 - s) (C2 : 0 ≤ n - 1) (C3 : 0 ≤ 32 - n) : (0 ≤ u - 1 ∧ True) ∧ (True) := by
  have h9 : g_op 102 s n = u := T0
  have h8 := g_or_1 (z := s) (w := n) (by omega) (by omega) (by omega) (by omega)
  rw [h9] at h8
  exact ⟨⟨by omega, trivial⟩, trivial⟩
theorem k_smpR {V : zVw} {k n v q b s o a1 a2 a3 : Int} (T0 : q_smp V q b s o a1 a2 a3 n) (C0 : 0 ≤ k) (C1 : 0 ≤ n - k - 1) (C2 : 0 ≤ 64 - n) (F0 : (0 : Int) ≤ k ∧ (k : Int) < j_len 40 ∧ V 40 (k) = v) : (0 ≤ v ∧ 0 ≤ 594 - v ∧ True) ∧ (q_qry V (47 : Int) q b s o a1 a2 a3 k (6 : Int) v ∧ True) := by
  obtain ⟨⟨H9, w9⟩, n9, t9⟩ := T0
  have f9 := F0.2.2
  have h9 := t9 k (by omega) (by omega)
  have h8 := g_ss_b w9 (x := k) 6 (by omega)
  have h7 : v = g_ss (g_F V q b s o a1 a2 a3 (g_nw V)) k 6 := f9.symm.trans h9
  exact ⟨⟨by omega, by omega, trivial⟩, ⟨⟨H9, w9⟩, g_Q47 (by
    rw [show (6 : Int).toNat = 6 from rfl]
    exact h7)⟩, trivial⟩
theorem k_smpS {V : zVw} {h k n x g q b s o a1 a2 a3 : Int} (T0 : (mOP 104 (Int32.ofInt (1 : Int)) (Int32.ofInt h)).toInt = n) (T1 : q_smp V q b s o a1 a2 a3 (k + n)) (T2 : q_qry V (47 : Int) q b s o a1 a2 a3 k (6 : Int) x) (T3 : q_qry V (45 : Int) q b s o a1 a2 a3 h (0 : Int) g) (C0 : 0 ≤ h) (C1 : 0 ≤ 5 - h) (C2 : 0 ≤ k) (C3 : 0 ≤ n - k - 1) (F0 : (0 : Int) ≤ k + n ∧ (k + n : Int) < j_len 40 ∧ V 40 (k + n) = x + g) : (True) ∧ (q_smp V q b s o a1 a2 a3 (k + n + 1) ∧ True) := by
  have h9 : g_op 104 1 h = n := T0
  obtain ⟨⟨H9, w9⟩, n9, t9⟩ := T1
  have z2 := g_k47 T2
  have z3 := g_k45 T3
  have f9 := F0.2.2
  have b9 := g_shb (by omega) (by omega) h9
  rw [show (6 : Int).toNat = 6 from rfl] at z2
  exact ⟨trivial, ⟨⟨H9, w9⟩, ⟨by omega, by omega⟩, fun t t0 t1 => by
    by_cases c9 : t < k + n
    · exact t9 t t0 c9
    · rw [show t = k + n by omega, g_ss_add (by omega) (by omega) h9 (by omega) (by omega), f9]
      omega⟩, trivial⟩
theorem k_ablR {V : zVw} {i a n q b s o a1 a2 a3 : Int} (T0 : q_qry V (46 : Int) q b s o a1 a2 a3 i (0 : Int) a) (T1 : (mOP 104 (Int32.ofInt (1 : Int)) (Int32.ofInt i)).toInt = n) (C0 : 0 ≤ i) (C1 : 0 ≤ 6 - i) : (0 ≤ a ∧ 0 ≤ n - a - 1 ∧ True) ∧ (True) := by
  have z0 := g_k46 T0
  have h9 : g_op 104 1 i = n := T1
  rw [g_sh (by omega) (by omega)] at h9
  have h8 := g_ab_b (A := (g_F V q b s o a1 a2 a3 (g_nw V))) (n := i.toNat)
  rw [← z0, h9] at h8
  exact ⟨⟨by omega, by omega, trivial⟩, trivial⟩
theorem k_andR {V : zVw} {a r x n q b s o a1 a2 a3 : Int} (T0 : (mOP 101 (Int32.ofInt a) (Int32.ofInt r)).toInt = x) (T1 : q_smp V q b s o a1 a2 a3 n) (C0 : 0 ≤ a) (C1 : 0 ≤ n - a - 1) : (0 ≤ x ∧ 0 ≤ a - x ∧ 0 ≤ n - x - 1 ∧ True) ∧ (True) := by
  have h9 : g_op 101 a r = x := T0
  have n9 := T1.2.1
  have h8 := g_and_b (by omega) (by omega) h9
  exact ⟨⟨by omega, by omega, by omega, trivial⟩, trivial⟩
theorem k_pv0w {V : zVw} {w q b s o a1 a2 a3 n : Int} (T0 : q_smp V q b s o a1 a2 a3 n) : (True) ∧ (q_qry V (48 : Int) q b s o a1 a2 a3 w (0 : Int) (0 : Int) ∧ True) := by
  exact ⟨trivial, ⟨T0.1, g_Q48 rfl⟩, trivial⟩
theorem k_pvNw {V : zVw} {i c p r a x v w q b s o a1 a2 a3 : Int} (T0 : q_qry V (46 : Int) q b s o a1 a2 a3 (6 : Int) (0 : Int) a) (T1 : (mOP 104 (Int32.ofInt (1 : Int)) (Int32.ofInt i)).toInt = p) (T2 : (mOP 103 (Int32.ofInt p) (Int32.ofInt (-1 : Int))).toInt = r) (T3 : (mOP 101 (Int32.ofInt a) (Int32.ofInt r)).toInt = x) (T4 : q_qry V (47 : Int) q b s o a1 a2 a3 x (6 : Int) v) (T5 : q_qry V (48 : Int) q b s o a1 a2 a3 w i c) (C0 : 0 ≤ i) (C1 : 0 ≤ v - w) : (True) ∧ (q_qry V (48 : Int) q b s o a1 a2 a3 w (i + 1) c ∧ True) := by
  have z0 := g_k46 T0
  have h1 : g_op 104 1 i = p := T1
  have h2 : g_op 103 p (-1) = r := T2
  have h3 : g_op 101 a r = x := T3
  have z4 := g_k47 T4
  have z5 := g_k48 T5
  rw [show (6 : Int).toNat = 6 from rfl] at z0 z4
  exact ⟨trivial, g_qq T5 (g_Q48 (g_pvN (by omega) z0 h1 h2 h3 z4 z5 (by omega))), trivial⟩
theorem k_pvYw {V : zVw} {i c p r a x v w u q b s o a1 a2 a3 : Int} (T0 : (mOP 102 (Int32.ofInt c) (Int32.ofInt p)).toInt = u) (T1 : q_qry V (46 : Int) q b s o a1 a2 a3 (6 : Int) (0 : Int) a) (T2 : (mOP 104 (Int32.ofInt (1 : Int)) (Int32.ofInt i)).toInt = p) (T3 : (mOP 103 (Int32.ofInt p) (Int32.ofInt (-1 : Int))).toInt = r) (T4 : (mOP 101 (Int32.ofInt a) (Int32.ofInt r)).toInt = x) (T5 : q_qry V (47 : Int) q b s o a1 a2 a3 x (6 : Int) v) (T6 : q_qry V (48 : Int) q b s o a1 a2 a3 w i c) (C0 : 0 ≤ i) (C1 : 0 ≤ w - v - 1) : (True) ∧ (q_qry V (48 : Int) q b s o a1 a2 a3 w (i + 1) u ∧ True) := by
  have z0 := g_k46 T1
  have h1 : g_op 104 1 i = p := T2
  have h2 : g_op 103 p (-1) = r := T3
  have h3 : g_op 101 a r = x := T4
  have z4 := g_k47 T5
  have z5 := g_k48 T6
  rw [show (6 : Int).toNat = 6 from rfl] at z0 z4
  have h0 : g_op 102 c p = u := T0
  exact ⟨trivial, g_qq T6 (g_Q48 (g_pvY (by omega) z0 h1 h2 h3 z4 z5 h0 (by omega))), trivial⟩
theorem k_lng0 {V : zVw} {H q b s o a1 a2 a3 : Int} (T0 : q_rwo V H q b s o a1 a2 a3) : (True) ∧ (q_lng V q b s o a1 a2 a3 (0 : Int) ∧ True) := by
  exact ⟨trivial, ⟨⟨H, T0.1.1⟩, fun i i0 i1 => absurd i1 (by omega)⟩, trivial⟩
theorem k_lngP {V : zVw} {i x H q b s o a1 a2 a3 : Int} (T0 : q_rwo V H q b s o a1 a2 a3) (T1 : q_lng V q b s o a1 a2 a3 i) (C0 : 0 ≤ i) (C1 : 0 ≤ 5 - i) (C2 : 0 ≤ x - 1) (F0 : (0 : Int) ≤ i ∧ (i : Int) < j_len 82 ∧ V 82 (i) = x) (F1 : (0 : Int) ≤ i + 6 ∧ (i + 6 : Int) < j_len 78 ∧ V 78 (i + 6) = x) : (True) ∧ (q_lng V q b s o a1 a2 a3 (i + 1) ∧ True) := by
  have h7 := g_rwo_at T0 (i := i + 6) (by omega) (by omega)
  have f0 := F0.2.2
  have f1 := F1.2.2
  rw [show i + 6 = 6 + i by omega] at h7 f1
  exact ⟨trivial, ⟨T1.1, fun t t0 t1 => by
    by_cases c9 : t < i
    · exact T1.2 t t0 c9
    · rw [show t = i by omega]
      unfold g_ha
      rw [if_pos (by omega)]
      omega⟩, trivial⟩
theorem k_lngH {V : zVw} {i x g H q b s o a1 a2 a3 : Int} (T0 : q_rwo V H q b s o a1 a2 a3) (T1 : q_lng V q b s o a1 a2 a3 i) (C0 : 0 ≤ i) (C1 : 0 ≤ 5 - i) (C2 : 0 ≤ -g) (F0 : (0 : Int) ≤ i ∧ (i : Int) < j_len 82 ∧ V 82 (i) = x) (F1 : (0 : Int) ≤ i ∧ (i : Int) < j_len 78 ∧ V 78 (i) = x) (F2 : (0 : Int) ≤ i + 6 ∧ (i + 6 : Int) < j_len 78 ∧ V 78 (i + 6) = g) : (True) ∧ (q_lng V q b s o a1 a2 a3 (i + 1) ∧ True) := by
  have h7 := g_rwo_at T0 (i := i + 6) (by omega) (by omega)
  have h8 := g_rwo_at T0 (i := i) (by omega) (by omega)
  have f0 := F0.2.2
  have f1 := F1.2.2
  have f2 := F2.2.2
  rw [show i + 6 = 6 + i by omega] at h7 f2
  exact ⟨trivial, ⟨T1.1, fun t t0 t1 => by
    by_cases c9 : t < i
    · exact T1.2 t t0 c9
    · rw [show t = i by omega]
      unfold g_ha
      rw [if_neg (by omega)]
      omega⟩, trivial⟩
theorem k_lngN {V : zVw} {i H q b s o a1 a2 a3 : Int} (T0 : q_rwo V H q b s o a1 a2 a3) (T1 : q_lng V q b s o a1 a2 a3 i) (C0 : 0 ≤ i - H) (C1 : 0 ≤ i) (C2 : 0 ≤ 5 - i) (F0 : (0 : Int) ≤ i ∧ (i : Int) < j_len 82 ∧ V 82 (i) = 0) : (True) ∧ (q_lng V q b s o a1 a2 a3 (i + 1) ∧ True) := by
  have h9 := g_ha_out T0.1.1 (h := i) (by omega) (by omega)
  have f0 := F0.2.2
  exact ⟨trivial, ⟨T1.1, fun t t0 t1 => by
    by_cases c9 : t < i
    · exact T1.2 t t0 c9
    · rw [show t = i by omega]
      rw [h9]
      omega⟩, trivial⟩
theorem k_mab0 {V : zVw} {q b s o a1 a2 a3 : Int} (T0 : q_lng V q b s o a1 a2 a3 (6 : Int)) : (True) ∧ (q_qry V (46 : Int) q b s o a1 a2 a3 (0 : Int) (0 : Int) (0 : Int) ∧ True) := by
  exact ⟨trivial, ⟨T0.1, g_Q46 (show (0 : Int) = g_ab _ (0 : Int).toNat from rfl)⟩, trivial⟩
theorem k_mabY {V : zVw} {i x a n u q b s o a1 a2 a3 : Int} (T0 : (mOP 102 (Int32.ofInt a) (Int32.ofInt n)).toInt = u) (T1 : (mOP 104 (Int32.ofInt (1 : Int)) (Int32.ofInt i)).toInt = n) (T2 : q_lng V q b s o a1 a2 a3 (6 : Int)) (T3 : q_qry V (46 : Int) q b s o a1 a2 a3 i (0 : Int) a) (C0 : 0 ≤ i) (C1 : 0 ≤ 5 - i) (C2 : 0 ≤ x - 1) (F0 : (0 : Int) ≤ i ∧ (i : Int) < j_len 82 ∧ V 82 (i) = x) : (0 ≤ u ∧ 0 ≤ 63 - u ∧ True) ∧ (q_qry V (46 : Int) q b s o a1 a2 a3 (i + 1) (0 : Int) u ∧ True) := by
  have h9 : g_op 102 a n = u := T0
  have h8 : g_op 104 1 i = n := T1
  have x9 := T2.2 i (by omega) (by omega)
  have f9 := F0.2.2
  have z3 := g_k46 T3
  have h7 := g_abY (by omega) (by omega) (by omega) z3 h8 h9
  have h6 := g_ab_i (by omega) (by omega) h7
  exact ⟨⟨by omega, by omega, trivial⟩, g_qq T3 (g_Q46 h7), trivial⟩
theorem k_mabN {V : zVw} {i x a q b s o a1 a2 a3 : Int} (T0 : q_lng V q b s o a1 a2 a3 (6 : Int)) (T1 : q_qry V (46 : Int) q b s o a1 a2 a3 i (0 : Int) a) (C0 : 0 ≤ i) (C1 : 0 ≤ 5 - i) (C2 : 0 ≤ -x) (F0 : (0 : Int) ≤ i ∧ (i : Int) < j_len 82 ∧ V 82 (i) = x) : (True) ∧ (q_qry V (46 : Int) q b s o a1 a2 a3 (i + 1) (0 : Int) a ∧ True) := by
  have x9 := T0.2 i (by omega) (by omega)
  have f9 := F0.2.2
  have z2 := g_k46 T1
  exact ⟨trivial, g_qq T1 (g_Q46 (g_abN (by omega) (by omega) z2)), trivial⟩
theorem k_ms0 {V : zVw} {k q b s o a1 a2 a3 : Int} (T0 : q_lng V q b s o a1 a2 a3 (6 : Int)) (C0 : 0 ≤ k) (C1 : 0 ≤ 63 - k) : (True) ∧ (q_qry V (47 : Int) q b s o a1 a2 a3 k (0 : Int) (0 : Int) ∧ True) := by
  exact ⟨trivial, ⟨T0.1, g_Q47 rfl⟩, trivial⟩
theorem k_bit01 {V : zVw} {p r : Int} (T0 : (mOP 101 (Int32.ofInt p) (Int32.ofInt (1 : Int))).toInt = r) : (0 ≤ r ∧ 0 ≤ 1 - r ∧ True) ∧ (True) := by
  have h8 := g_and_1 (p := p) (r := r) T0
  exact ⟨⟨by omega, by omega, trivial⟩, trivial⟩
theorem k_msY0 {V : zVw} {k i c d x r q b s o a1 a2 a3 : Int} (T0 : (mOP 101 (Int32.ofInt k) (Int32.ofInt (1 : Int))).toInt = r) (T1 : q_lng V q b s o a1 a2 a3 (6 : Int)) (T2 : q_qry V (47 : Int) q b s o a1 a2 a3 k i d) (C0 : 0 ≤ k) (C1 : 0 ≤ 63 - k) (C2 : 0 ≤ i) (C3 : 0 ≤ -i) (C4 : 0 ≤ r - 1) (C5 : 0 ≤ c - d - x) (C6 : 0 ≤ d + x - c) (F0 : (0 : Int) ≤ i ∧ (i : Int) < j_len 82 ∧ V 82 (i) = x) : (True) ∧ (q_qry V (47 : Int) q b s o a1 a2 a3 k (i + 1) c ∧ True) := by
  have h1 : g_op 101 k 1 = r := T0
  have b9 := g_and_1 h1
  have f9 := F0.2.2
  have x9 := T1.2 i (by omega) (by omega)
  have z3 := g_k47 T2
  have h0 : g_op 105 k i = k := by
    rw [show i = 0 by omega]
    exact g_sh0 (by omega) (by omega)
  have e9 := g_bitm (by omega) (by omega) (by omega) (by omega) h0 h1
  exact ⟨trivial, g_qq T2 (g_Q47 (g_ssY (x := x) (by omega) e9 (by omega) (by omega) z3 (by omega))), trivial⟩
theorem k_msY {V : zVw} {k i c d x p r q b s o a1 a2 a3 : Int} (T0 : (mOP 105 (Int32.ofInt k) (Int32.ofInt i)).toInt = p) (T1 : (mOP 101 (Int32.ofInt p) (Int32.ofInt (1 : Int))).toInt = r) (T2 : q_lng V q b s o a1 a2 a3 (6 : Int)) (T3 : q_qry V (47 : Int) q b s o a1 a2 a3 k i d) (C0 : 0 ≤ k) (C1 : 0 ≤ 63 - k) (C2 : 0 ≤ i) (C3 : 0 ≤ 5 - i) (C4 : 0 ≤ r - 1) (C5 : 0 ≤ c - d - x) (C6 : 0 ≤ d + x - c) (F0 : (0 : Int) ≤ i ∧ (i : Int) < j_len 82 ∧ V 82 (i) = x) : (True) ∧ (q_qry V (47 : Int) q b s o a1 a2 a3 k (i + 1) c ∧ True) := by
  have h0 : g_op 105 k i = p := T0
  have h1 : g_op 101 p 1 = r := T1
  have b9 := g_and_1 h1
  have f9 := F0.2.2
  have x9 := T2.2 i (by omega) (by omega)
  have z3 := g_k47 T3
  have e9 := g_bitm (by omega) (by omega) (by omega) (by omega) h0 h1
  exact ⟨trivial, g_qq T3 (g_Q47 (g_ssY (x := x) (by omega) e9 (by omega) (by omega) z3 (by omega))), trivial⟩
theorem k_msN0 {V : zVw} {k i c d x r q b s o a1 a2 a3 : Int} (T0 : (mOP 101 (Int32.ofInt k) (Int32.ofInt (1 : Int))).toInt = r) (T1 : q_lng V q b s o a1 a2 a3 (6 : Int)) (T2 : q_qry V (47 : Int) q b s o a1 a2 a3 k i d) (C0 : 0 ≤ k) (C1 : 0 ≤ 63 - k) (C2 : 0 ≤ i) (C3 : 0 ≤ -i) (C4 : 0 ≤ -r) (C5 : 0 ≤ c - d) (C6 : 0 ≤ d - c) (F0 : (0 : Int) ≤ i ∧ (i : Int) < j_len 82 ∧ V 82 (i) = x) : (True) ∧ (q_qry V (47 : Int) q b s o a1 a2 a3 k (i + 1) c ∧ True) := by
  have h1 : g_op 101 k 1 = r := T0
  have b9 := g_and_1 h1
  have f9 := F0.2.2
  have x9 := T1.2 i (by omega) (by omega)
  have z3 := g_k47 T2
  have h0 : g_op 105 k i = k := by
    rw [show i = 0 by omega]
    exact g_sh0 (by omega) (by omega)
  have e9 := g_bitm (by omega) (by omega) (by omega) (by omega) h0 h1
  exact ⟨trivial, g_qq T2 (g_Q47 (g_ssN (by omega) e9 (by omega) z3 (by omega))), trivial⟩
theorem k_msN {V : zVw} {k i c d x p r q b s o a1 a2 a3 : Int} (T0 : (mOP 105 (Int32.ofInt k) (Int32.ofInt i)).toInt = p) (T1 : (mOP 101 (Int32.ofInt p) (Int32.ofInt (1 : Int))).toInt = r) (T2 : q_lng V q b s o a1 a2 a3 (6 : Int)) (T3 : q_qry V (47 : Int) q b s o a1 a2 a3 k i d) (C0 : 0 ≤ k) (C1 : 0 ≤ 63 - k) (C2 : 0 ≤ i) (C3 : 0 ≤ 5 - i) (C4 : 0 ≤ -r) (C5 : 0 ≤ c - d) (C6 : 0 ≤ d - c) (F0 : (0 : Int) ≤ i ∧ (i : Int) < j_len 82 ∧ V 82 (i) = x) : (True) ∧ (q_qry V (47 : Int) q b s o a1 a2 a3 k (i + 1) c ∧ True) := by
  have h0 : g_op 105 k i = p := T0
  have h1 : g_op 101 p 1 = r := T1
  have b9 := g_and_1 h1
  have f9 := F0.2.2
  have x9 := T2.2 i (by omega) (by omega)
  have z3 := g_k47 T3
  have e9 := g_bitm (by omega) (by omega) (by omega) (by omega) h0 h1
  exact ⟨trivial, g_qq T3 (g_Q47 (g_ssN (by omega) e9 (by omega) z3 (by omega))), trivial⟩
theorem k_isY {V : zVw} {c l u w y : Int} (T0 : 0 ≤ l ∧ l ≠ y ∧ V 61 l = w) (C0 : 0 ≤ c - u) (F0 : (0 : Int) ≤ l ∧ (l : Int) < j_len 61 ∧ V 61 (l) = u) : (0 ≤ c - w ∧ True) ∧ (True) := by
  have h9 := T0.2.2
  have h8 := F0.2.2
  exact ⟨⟨by omega, trivial⟩, trivial⟩
theorem k_isN {V : zVw} {c l u w y : Int} (T0 : 0 ≤ l ∧ l ≠ y ∧ V 61 l = w) (C0 : 0 ≤ u - c - 1) (F0 : (0 : Int) ≤ l ∧ (l : Int) < j_len 61 ∧ V 61 (l) = u) : (0 ≤ w - c - 1 ∧ True) ∧ (True) := by
  have h9 := T0.2.2
  have h8 := F0.2.2
  exact ⟨⟨by omega, trivial⟩, trivial⟩
theorem k_andM {V : zVw} {a r x : Int} (T0 : (mOP 101 (Int32.ofInt a) (Int32.ofInt r)).toInt = x) (C0 : 0 ≤ a) (C1 : 0 ≤ 63 - a) : (0 ≤ x ∧ 0 ≤ a - x ∧ 0 ≤ 63 - x ∧ True) ∧ (True) := by
  have h9 : g_op 101 a r = x := T0
  have h8 := g_and_b (by omega) (by omega) h9
  exact ⟨⟨by omega, by omega, by omega, trivial⟩, trivial⟩
theorem k_mpv0 {V : zVw} {w l y q b s o a1 a2 a3 : Int} (T0 : 0 ≤ l ∧ l ≠ y ∧ V 61 l = w) (T1 : q_lng V q b s o a1 a2 a3 (6 : Int)) : (True) ∧ (q_qry V (48 : Int) q b s o a1 a2 a3 w (0 : Int) (0 : Int) ∧ True) := by
  exact ⟨trivial, ⟨T1.1, g_Q48 rfl⟩, trivial⟩
theorem k_mpvN {V : zVw} {i c p r a x v w l y q b s o a1 a2 a3 : Int} (T0 : 0 ≤ l ∧ l ≠ y ∧ V 61 l = w) (T1 : q_qry V (46 : Int) q b s o a1 a2 a3 (6 : Int) (0 : Int) a) (T2 : (mOP 104 (Int32.ofInt (1 : Int)) (Int32.ofInt i)).toInt = p) (T3 : (mOP 103 (Int32.ofInt p) (Int32.ofInt (-1 : Int))).toInt = r) (T4 : (mOP 101 (Int32.ofInt a) (Int32.ofInt r)).toInt = x) (T5 : q_qry V (47 : Int) q b s o a1 a2 a3 x (6 : Int) v) (T6 : q_qry V (48 : Int) q b s o a1 a2 a3 w i c) (C0 : 0 ≤ i) (C1 : 0 ≤ v - w) : (True) ∧ (q_qry V (48 : Int) q b s o a1 a2 a3 w (i + 1) c ∧ True) := by
  have z0 := g_k46 T1
  have h1 : g_op 104 1 i = p := T2
  have h2 : g_op 103 p (-1) = r := T3
  have h3 : g_op 101 a r = x := T4
  have z4 := g_k47 T5
  have z5 := g_k48 T6
  rw [show (6 : Int).toNat = 6 from rfl] at z0 z4
  exact ⟨trivial, g_qq T6 (g_Q48 (g_pvN (by omega) z0 h1 h2 h3 z4 z5 (by omega))), trivial⟩
theorem k_mpvY {V : zVw} {i c p r a x v w u l y q b s o a1 a2 a3 : Int} (T0 : (mOP 102 (Int32.ofInt c) (Int32.ofInt p)).toInt = u) (T1 : 0 ≤ l ∧ l ≠ y ∧ V 61 l = w) (T2 : q_qry V (46 : Int) q b s o a1 a2 a3 (6 : Int) (0 : Int) a) (T3 : (mOP 104 (Int32.ofInt (1 : Int)) (Int32.ofInt i)).toInt = p) (T4 : (mOP 103 (Int32.ofInt p) (Int32.ofInt (-1 : Int))).toInt = r) (T5 : (mOP 101 (Int32.ofInt a) (Int32.ofInt r)).toInt = x) (T6 : q_qry V (47 : Int) q b s o a1 a2 a3 x (6 : Int) v) (T7 : q_qry V (48 : Int) q b s o a1 a2 a3 w i c) (C0 : 0 ≤ i) (C1 : 0 ≤ w - v - 1) : (True) ∧ (q_qry V (48 : Int) q b s o a1 a2 a3 w (i + 1) u ∧ True) := by
  have z0 := g_k46 T2
  have h1 : g_op 104 1 i = p := T3
  have h2 : g_op 103 p (-1) = r := T4
  have h3 : g_op 101 a r = x := T5
  have z4 := g_k47 T6
  have z5 := g_k48 T7
  rw [show (6 : Int).toNat = 6 from rfl] at z0 z4
  have h0 : g_op 102 c p = u := T0
  exact ⟨trivial, g_qq T7 (g_Q48 (g_pvY (by omega) z0 h1 h2 h3 z4 z5 h0 (by omega))), trivial⟩
theorem k_qePv {V : zVw} {q x h u w : Int} (T0 : q_qry V (48 : Int) q (0 : Int) (0 : Int) (0 : Int) (0 : Int) (0 : Int) (0 : Int) x h u) (T1 : q_qry V (48 : Int) q (0 : Int) (0 : Int) (0 : Int) (0 : Int) (0 : Int) (0 : Int) x h w) : (0 ≤ u - w ∧ 0 ≤ w - u ∧ True) ∧ (True) := by
  have h9 := g_k48 T0
  have h8 := g_k48 T1
  exact ⟨⟨by omega, by omega, trivial⟩, trivial⟩
theorem k_tep {V : zVw} {n : Int} (T0 : q_teq (V 42) (V 43) (V 44) (V 89) (V 90) (V 91)) (C0 : 0 ≤ n) (C1 : 0 ≤ 19 - n) : (True) ∧ (q_tep (V 42) (V 43) (V 44) (V 89) (V 90) (V 91) n ∧ True) := by
  exact ⟨trivial, (fun j j0 _ => T0 j j0), trivial⟩
theorem k_tex {V : zVw} {n i v s : Int} (T0 : q_tep (V 42) (V 43) (V 44) (V 89) (V 90) (V 91) n) (C0 : 0 ≤ i) (C1 : 0 ≤ 5 - i) (F0 : (0 : Int) ≤ n ∧ (n : Int) < j_len 42 ∧ V 42 (n) = i) (F1 : (0 : Int) ≤ n ∧ (n : Int) < j_len 43 ∧ V 43 (n) = v) (F2 : (0 : Int) ≤ n ∧ (n : Int) < j_len 44 ∧ V 44 (n) = s) : (True) ∧ (q_tex (V 42) (V 43) (V 44) (V 89) (V 90) (V 91) n i v s ∧ True) := by
  have h0 := F0.2.2
  have h1 := F1.2.2
  have h2 := F2.2.2
  exact ⟨trivial, ⟨T0, h0, h1, h2⟩, trivial⟩
theorem k_teqM {V : zVw} {n i v s : Int} (T0 : q_tex (V 42) (V 43) (V 44) (V 89) (V 90) (V 91) n i v s) (F0 : (0 : Int) ≤ n ∧ (n : Int) < j_len 89 ∧ V 89 (n) = i) (F1 : (0 : Int) ≤ n ∧ (n : Int) < j_len 90 ∧ V 90 (n) = v) (F2 : (0 : Int) ≤ n ∧ (n : Int) < j_len 91 ∧ V 91 (n) = s) : (True) ∧ (q_teq (V 42) (V 43) (V 44) (V 89) (V 90) (V 91) ∧ True) := by
  have h0 := F0.2.2
  have h1 := F1.2.2
  have h2 := F2.2.2
  obtain ⟨t0, t1, t2, t3⟩ := T0
  exact ⟨trivial, (fun j j0 => by
    by_cases c9 : j = n
    · rw [c9, t1, t2, t3, h0, h1, h2]; exact ⟨rfl, rfl, rfl⟩
    · exact t0 j j0 c9), trivial⟩
theorem k_hob0 {V : zVw} {w H p y d : Int} (T0 : q_sto V 0 H p y d (0 : Int) (0 : Int) (0 : Int) (0 : Int) (0 : Int) (0 : Int) (0 : Int)) : (True) ∧ (q_qry V (57 : Int) (0 : Int) (0 : Int) (0 : Int) (0 : Int) (0 : Int) (0 : Int) (0 : Int) w (0 : Int) (0 : Int) ∧ True) := by
  exact ⟨trivial, ⟨⟨H, T0.1.1⟩, rfl⟩, trivial⟩
theorem k_hobY {V : zVw} {i w u a n x : Int} (T0 : (mOP 102 (Int32.ofInt a) (Int32.ofInt n)).toInt = u) (T1 : (mOP 104 (Int32.ofInt (1 : Int)) (Int32.ofInt i)).toInt = n) (T2 : q_qry V (7 : Int) (0 : Int) (0 : Int) (0 : Int) (0 : Int) (0 : Int) (0 : Int) (0 : Int) i (0 : Int) x) (T3 : q_qry V (57 : Int) (0 : Int) (0 : Int) (0 : Int) (0 : Int) (0 : Int) (0 : Int) (0 : Int) w i a) (C0 : 0 ≤ i) (C1 : 0 ≤ 5 - i) (C2 : 0 ≤ x - w) : (0 ≤ u ∧ 0 ≤ 63 - u ∧ True) ∧ (q_qry V (57 : Int) (0 : Int) (0 : Int) (0 : Int) (0 : Int) (0 : Int) (0 : Int) (0 : Int) w (i + 1) u ∧ True) := by
  have h2 : g_op 102 a n = u := T0
  have h1 : g_op 104 1 i = n := T1
  have z0 := g_k7 T2
  have z1 := r_hob (A := g_nw V) T3
  have b9 := g_bt_b (f := (fun h => if w ≤ g_sg (V 20) (g_F V 0 0 0 0 0 0 0 (g_nw V)) h then 1 else 0)) (i + 1).toNat
  have h9 := g_btY (f := (fun h => if w ≤ g_sg (V 20) (g_F V 0 0 0 0 0 0 0 (g_nw V)) h then 1 else 0)) (i := i) (by omega) (by omega) (by
    show (if w ≤ g_sg (V 20) (g_F V 0 0 0 0 0 0 0 (g_nw V)) i then (1 : Int) else 0) = 1
    rw [← z0, if_pos (by omega)])
  rw [← z1, h1, h2] at h9
  rw [h9] at b9
  have hi : (i + 1).toNat = 1 ∨ (i + 1).toNat = 2 ∨ (i + 1).toNat = 3 ∨ (i + 1).toNat = 4 ∨ (i + 1).toNat = 5 ∨ (i + 1).toNat = 6 := by omega
  have h6 : g_2 6 = 64 := rfl
  have b8 : 0 ≤ u ∧ u < 64 := by
    rcases hi with c9 | c9 | c9 | c9 | c9 | c9 <;> rw [c9] at b9 <;> simp only [r_g1, r_g2, r_g3, r_g4, r_g5, h6] at b9 <;> omega
  exact ⟨⟨by omega, by omega, trivial⟩, ⟨T3.1, h9.symm⟩, trivial⟩
theorem k_hobN {V : zVw} {i w a x : Int} (T0 : q_qry V (7 : Int) (0 : Int) (0 : Int) (0 : Int) (0 : Int) (0 : Int) (0 : Int) (0 : Int) i (0 : Int) x) (T1 : q_qry V (57 : Int) (0 : Int) (0 : Int) (0 : Int) (0 : Int) (0 : Int) (0 : Int) (0 : Int) w i a) (C0 : 0 ≤ i) (C1 : 0 ≤ 5 - i) (C2 : 0 ≤ w - x - 1) : (True) ∧ (q_qry V (57 : Int) (0 : Int) (0 : Int) (0 : Int) (0 : Int) (0 : Int) (0 : Int) (0 : Int) w (i + 1) a ∧ True) := by
  have z0 := g_k7 T0
  have z1 := r_hob (A := g_nw V) T1
  have h9 := g_btN (f := (fun h => if w ≤ g_sg (V 20) (g_F V 0 0 0 0 0 0 0 (g_nw V)) h then 1 else 0)) (i := i) (by omega) (by
    show (if w ≤ g_sg (V 20) (g_F V 0 0 0 0 0 0 0 (g_nw V)) i then (1 : Int) else 0) ≠ 1
    rw [← z0, if_neg (by omega)]
    decide)
  rw [← z1] at h9
  exact ⟨trivial, ⟨T1.1, h9.symm⟩, trivial⟩
theorem k_FLF0 {V : zVw} {x : Int} : (True) ∧ ((∀ t : Int, 0 ≤ t → t < (0 : Int) → V 45 t = x) ∧ True) := by
  exact ⟨trivial, (fun t t0 t1 => by omega), trivial⟩
theorem k_FLFS {V : zVw} {i x : Int} (T0 : ∀ t : Int, 0 ≤ t → t < i → V 45 t = x) (C0 : 0 ≤ i) (C1 : 0 ≤ 5 - i) (F0 : (0 : Int) ≤ i ∧ (i : Int) < j_len 45 ∧ V 45 (i) = x) : (True) ∧ ((∀ t : Int, 0 ≤ t → t < (i + 1) → V 45 t = x) ∧ True) := by
  have h9 := F0.2.2
  exact ⟨trivial, (fun t t0 t1 => by
    by_cases c9 : t < i
    · exact T0 t t0 c9
    · rw [show t = i by omega]; exact h9), trivial⟩
theorem k_FLS0 {V : zVw} {x : Int} : (True) ∧ ((∀ t : Int, 0 ≤ t → t < (0 : Int) → V 46 t = x) ∧ True) := by
  exact ⟨trivial, (fun t t0 t1 => by omega), trivial⟩
theorem k_FLSS {V : zVw} {i x : Int} (T0 : ∀ t : Int, 0 ≤ t → t < i → V 46 t = x) (C0 : 0 ≤ i) (C1 : 0 ≤ 5 - i) (F0 : (0 : Int) ≤ i ∧ (i : Int) < j_len 46 ∧ V 46 (i) = x) : (True) ∧ ((∀ t : Int, 0 ≤ t → t < (i + 1) → V 46 t = x) ∧ True) := by
  have h9 := F0.2.2
  exact ⟨trivial, (fun t t0 t1 => by
    by_cases c9 : t < i
    · exact T0 t t0 c9
    · rw [show t = i by omega]; exact h9), trivial⟩
theorem k_lrn0 {V : zVw} {l H n x : Int} (T0 : ∀ t : Int, 0 ≤ t → t < (6 : Int) → V 45 t = x) (T1 : (mOP 104 (Int32.ofInt (1 : Int)) (Int32.ofInt H)).toInt = n) (C0 : 0 ≤ H) (C1 : 0 ≤ 6 - H) (C2 : 0 ≤ x - n + 1) (C3 : 0 ≤ n - x - 1) : (True) ∧ (q_lrn (V 42) (V 43) (V 44) (g_sg (V 20) (g_b (V 77) 0)) (V 45) H l (0 : Int) ∧ True) := by
  have h1 : g_op 104 1 H = n := T1
  exact ⟨trivial, r_lrn0 (by omega) (by omega) h1 (fun t t0 t1 => by rw [T0 t t0 t1]; omega), trivial⟩
theorem k_lrfA {V : zVw} {i p k l : Int} (C0 : 0 ≤ i) (C1 : 0 ≤ k - i - 1) (C2 : 0 ≤ -p - 1) (F0 : (0 : Int) ≤ i ∧ (i : Int) < j_len 42 ∧ V 42 (i) = p) : (True) ∧ (q_lrf (V 42) k l ∧ True) := by
  have h9 := F0.2.2
  exact ⟨trivial, ⟨i, ⟨by omega, by omega⟩, by omega⟩, trivial⟩
theorem k_lrfB {V : zVw} {i p k l : Int} (C0 : 0 ≤ i) (C1 : 0 ≤ k - i - 1) (C2 : 0 ≤ p - l) (F0 : (0 : Int) ≤ i ∧ (i : Int) < j_len 42 ∧ V 42 (i) = p) : (True) ∧ (q_lrf (V 42) k l ∧ True) := by
  have h9 := F0.2.2
  exact ⟨trivial, ⟨i, ⟨by omega, by omega⟩, by omega⟩, trivial⟩
theorem k_lrfC {V : zVw} {i p k l : Int} (C0 : 0 ≤ i) (C1 : 0 ≤ k - i - 1) (C2 : 0 ≤ p - 6) (C3 : 0 ≤ 6 - l) (F0 : (0 : Int) ≤ i ∧ (i : Int) < j_len 42 ∧ V 42 (i) = p) : (True) ∧ (q_lrf (V 42) k l ∧ True) := by
  have h9 := F0.2.2
  exact ⟨trivial, ⟨i, ⟨by omega, by omega⟩, by omega⟩, trivial⟩
theorem k_lrx {V : zVw} {p x H l i : Int} (T0 : q_lrn (V 42) (V 43) (V 44) (g_sg (V 20) (g_b (V 77) 0)) (V 45) H l i) (C0 : 0 ≤ p) (C1 : 0 ≤ 5 - p) (F0 : (0 : Int) ≤ p ∧ (p : Int) < j_len 45 ∧ V 45 (p) = x) : (True) ∧ (q_lrx (V 42) (V 43) (V 44) (g_sg (V 20) (g_b (V 77) 0)) (V 45) H l i p x ∧ True) := by
  have h9 := F0.2.2
  have h8 := T0.2 p (by omega) (by omega)
  rw [h9] at h8
  exact ⟨trivial, ⟨T0.1, fun p' a0 a1 _ => T0.2 p' a0 a1, h8⟩, trivial⟩
theorem k_lrnY {V : zVw} {p i x y w b u H l : Int} (T0 : q_lrx (V 42) (V 43) (V 44) (g_sg (V 20) (g_b (V 77) 0)) (V 45) H l i p x) (T1 : (mOP 101 (Int32.ofInt x) (Int32.ofInt u)).toInt = y) (T2 : q_qry V (57 : Int) (0 : Int) (0 : Int) (0 : Int) (0 : Int) (0 : Int) (0 : Int) (0 : Int) w H u) (C0 : 0 ≤ i) (C1 : 0 ≤ p) (C2 : 0 ≤ l - p - 1) (C3 : 0 ≤ 6 - l) (C4 : 0 ≤ H) (C5 : 0 ≤ 6 - H) (C6 : 0 ≤ b - 1) (F0 : (0 : Int) ≤ i ∧ (i : Int) < j_len 42 ∧ V 42 (i) = p) (F1 : (0 : Int) ≤ i ∧ (i : Int) < j_len 43 ∧ V 43 (i) = w) (F2 : (0 : Int) ≤ i ∧ (i : Int) < j_len 44 ∧ V 44 (i) = b) (F3 : (0 : Int) ≤ p ∧ (p : Int) < j_len 45 ∧ V 45 (p) = y) : (True) ∧ (q_lrn (V 42) (V 43) (V 44) (g_sg (V 20) (g_b (V 77) 0)) (V 45) H l (i + 1) ∧ True) := by
  have f0 := F0.2.2
  have f1 := F1.2.2
  have f2 := F2.2.2
  have f3 := F3.2.2
  have h1 : g_op 101 x u = y := T1
  have z1 := r_hob (A := g_nw V) T2
  exact ⟨trivial, r_lrnY T0 (by omega) (by omega) (by omega) (by omega) f0 (by omega) (by omega) f3 (by rw [f1]; exact z1) (by rw [f2]; omega) h1, trivial⟩
theorem k_lrnN {V : zVw} {p i x y w b u n H l : Int} (T0 : q_lrx (V 42) (V 43) (V 44) (g_sg (V 20) (g_b (V 77) 0)) (V 45) H l i p x) (T1 : (mOP 101 (Int32.ofInt x) (Int32.ofInt n)).toInt = y) (T2 : (mOP 103 (Int32.ofInt u) (Int32.ofInt (-1 : Int))).toInt = n) (T3 : q_qry V (57 : Int) (0 : Int) (0 : Int) (0 : Int) (0 : Int) (0 : Int) (0 : Int) (0 : Int) w H u) (C0 : 0 ≤ i) (C1 : 0 ≤ p) (C2 : 0 ≤ l - p - 1) (C3 : 0 ≤ 6 - l) (C4 : 0 ≤ H) (C5 : 0 ≤ 6 - H) (C6 : 0 ≤ b) (C7 : 0 ≤ -b) (F0 : (0 : Int) ≤ i ∧ (i : Int) < j_len 42 ∧ V 42 (i) = p) (F1 : (0 : Int) ≤ i ∧ (i : Int) < j_len 43 ∧ V 43 (i) = w) (F2 : (0 : Int) ≤ i ∧ (i : Int) < j_len 44 ∧ V 44 (i) = b) (F3 : (0 : Int) ≤ p ∧ (p : Int) < j_len 45 ∧ V 45 (p) = y) : (True) ∧ (q_lrn (V 42) (V 43) (V 44) (g_sg (V 20) (g_b (V 77) 0)) (V 45) H l (i + 1) ∧ True) := by
  have f0 := F0.2.2
  have f1 := F1.2.2
  have f2 := F2.2.2
  have f3 := F3.2.2
  have h1 : g_op 101 x n = y := T1
  have h2 : g_op 103 u (-1) = n := T2
  have z1 := r_hob (A := g_nw V) T3
  exact ⟨trivial, r_lrnN T0 (by omega) (by omega) (by omega) (by omega) f0 (by omega) (by omega) f3 (by rw [f1]; exact z1) (by rw [f2]; omega) h2 h1, trivial⟩
theorem k_p2hh {V : zVw} {n h : Int} (T0 : (mOP 104 (Int32.ofInt (1 : Int)) (Int32.ofInt h)).toInt = n) (C0 : 0 ≤ h) (C1 : 0 ≤ 6 - h) : (0 ≤ n - 1 ∧ 0 ≤ 64 - n ∧ True) ∧ (True) := by
  have h1 : g_op 104 1 h = n := T0
  have e9 := g_sh (h := h) (by omega) (by omega)
  rw [h1] at e9
  have hh : h.toNat = 0 ∨ h.toNat = 1 ∨ h.toNat = 2 ∨ h.toNat = 3 ∨ h.toNat = 4 ∨ h.toNat = 5 ∨ h.toNat = 6 := by omega
  have h6 : g_2 6 = 64 := rfl
  have b8 : 1 ≤ n ∧ n ≤ 64 := by
    rcases hh with c9 | c9 | c9 | c9 | c9 | c9 | c9 <;> rw [c9] at e9 <;> simp only [r_g0, r_g1, r_g2, r_g3, r_g4, r_g5, h6] at e9 <;> omega
  exact ⟨⟨by omega, by omega, trivial⟩, trivial⟩
theorem k_lrD {V : zVw} {i k n : Int} (C0 : 0 ≤ i - n) (C1 : 0 ≤ k - i - 1) (C2 : 0 ≤ n - k) : (0 ≤ (-1) ∧ True) ∧ (True) := by
  exfalso
  omega
theorem k_nctb {V : zVw} {l c f fr u : Int} (T0 : q_prx (V 45) l c u) (T1 : q_nct (V 45) l l c f fr) (C0 : 0 ≤ l) (C1 : 0 ≤ 6 - l) : (0 ≤ f ∧ 0 ≤ 46655 - f ∧ 0 ≤ c - f ∧ 0 ≤ c ∧ 0 ≤ 46655 - c ∧ True) ∧ (True) := by
  have h9 := (r_nctS T0 T1).1
  have h8 := r_prx_6 T0
  exact ⟨⟨by omega, by omega, by omega, by omega, by omega, trivial⟩, trivial⟩
theorem k_nct0 {V : zVw} {l c f fr u g r : Int} (T0 : q_prx (V 45) l c u) (T1 : q_nct (V 45) l l c f fr) (C0 : 0 ≤ l) (C1 : 0 ≤ 6 - l) (C2 : 0 ≤ g - f - 1) (C3 : 0 ≤ f - g + 1) (C4 : 0 ≤ -f) (C5 : 0 ≤ f) (C6 : 0 ≤ r - c) (C7 : 0 ≤ c - r) : (True) ∧ (q_nct (V 45) l l (c + 1) g r ∧ True) := by
  have h9 := r_nctS T0 T1
  have h8 := h9.2
  have h7 : g = f + 1 := by omega
  have h6 : r = c := by omega
  rw [if_pos (by omega)] at h8
  rw [h7, h6]
  exact ⟨trivial, h8, trivial⟩
theorem k_nct1 {V : zVw} {l c f fr u g r : Int} (T0 : q_prx (V 45) l c u) (T1 : q_nct (V 45) l l c f fr) (C0 : 0 ≤ l) (C1 : 0 ≤ 6 - l) (C2 : 0 ≤ g - f - 1) (C3 : 0 ≤ f - g + 1) (C4 : 0 ≤ f - 1) (C5 : 0 ≤ r - fr) (C6 : 0 ≤ fr - r) : (True) ∧ (q_nct (V 45) l l (c + 1) g r ∧ True) := by
  have h9 := r_nctS T0 T1
  have h8 := h9.2
  have h7 : g = f + 1 := by omega
  have h6 : r = fr := by omega
  rw [if_neg (by omega)] at h8
  rw [h7, h6]
  exact ⟨trivial, h8, trivial⟩
theorem k_srx0 {V : zVw} {l c so : Int} (T0 : q_src (V 46) (V 45) l l c so) : (True) ∧ (q_srx (V 46) (V 45) l c so (0 : Int) ∧ True) := by
  exact ⟨trivial, r_srx0 T0, trivial⟩
theorem k_rwdb {V : zVw} {i h l c u : Int} (T0 : q_rwd (V 47) l c) (T1 : q_prx (V 45) l c u) (C0 : 0 ≤ i) (C1 : 0 ≤ l - i - 1) (C2 : 0 ≤ 6 - l) (F0 : (0 : Int) ≤ i ∧ (i : Int) < j_len 47 ∧ V 47 (i) = h) : (0 ≤ h ∧ 0 ≤ 5 - h ∧ True) ∧ (True) := by
  have h9 := F0.2.2
  have h8 := T0 i (by omega) (by omega)
  have h7 := r_D_b (l := l) (n := c) (i := i)
  rw [← h8, h9] at h7
  exact ⟨⟨by omega, by omega, trivial⟩, trivial⟩
theorem k_andZ {V : zVw} {so n z : Int} (T0 : (mOP 101 (Int32.ofInt so) (Int32.ofInt n)).toInt = z) (C0 : 0 ≤ so) (C1 : 0 ≤ 63 - so) : (0 ≤ z ∧ True) ∧ (True) := by
  have h1 : g_op 101 so n = z := T0
  have h9 := g_and_b (a := so) (by omega) (by omega) h1
  exact ⟨⟨by omega, trivial⟩, trivial⟩
theorem k_sry {V : zVw} {i x l c so u : Int} (T0 : q_srx (V 46) (V 45) l c so i) (T1 : q_prx (V 45) l c u) (C0 : 0 ≤ i) (C1 : 0 ≤ l - i - 1) (C2 : 0 ≤ 6 - l) (F0 : (0 : Int) ≤ i ∧ (i : Int) < j_len 46 ∧ V 46 (i) = x) : (0 ≤ x ∧ 0 ≤ 46655 - x ∧ True) ∧ (q_sry (V 46) (V 45) l c so i x ∧ True) := by
  have h9 := F0.2.2
  have h8 := r_prx_6 T1
  have h7 := T0.2 i (by omega) (by omega)
  rw [h9, if_neg (by omega)] at h7
  have h6 := r_cc_b (f := V 45) (l := l) (so := so) (t := i) (x := c) h8.1
  rw [← h7] at h6
  exact ⟨⟨by omega, by omega, trivial⟩, ⟨T0.1, fun t t0 t1 _ => T0.2 t t0 t1, h7⟩, trivial⟩
theorem k_srA {V : zVw} {i x y h n z l c so u : Int} (T0 : q_sry (V 46) (V 45) l c so i x) (T1 : (mOP 101 (Int32.ofInt so) (Int32.ofInt n)).toInt = z) (T2 : (mOP 104 (Int32.ofInt (1 : Int)) (Int32.ofInt h)).toInt = n) (T3 : q_rwd (V 47) l c) (T4 : q_prx (V 45) l c u) (C0 : 0 ≤ i) (C1 : 0 ≤ l - i - 1) (C2 : 0 ≤ 6 - l) (C3 : 0 ≤ so) (C4 : 0 ≤ 63 - so) (C5 : 0 ≤ z - 1) (C6 : 0 ≤ y - x - 1) (C7 : 0 ≤ x - y + 1) (F0 : (0 : Int) ≤ i ∧ (i : Int) < j_len 46 ∧ V 46 (i) = y) (F1 : (0 : Int) ≤ i ∧ (i : Int) < j_len 47 ∧ V 47 (i) = h) : (True) ∧ (q_srx (V 46) (V 45) l c so (i + 1) ∧ True) := by
  have h1 : g_op 101 so n = z := T1
  have h2 : g_op 104 1 h = n := T2
  have f0 := F0.2.2
  have f1 := F1.2.2
  have h8 := T3 i (by omega) (by omega)
  have h7 := r_D_b (l := l) (n := c) (i := i)
  rw [f1] at h8
  rw [← h8] at h7
  have h6 := (r_bt1 (x := so) (i := h) (by omega) (by omega) h7.1 h7.2 h2 h1).mp (by omega)
  rw [h8] at h6
  exact ⟨trivial, r_srA T0 T4.2.1 h6 (by omega) (by omega) (by omega), trivial⟩
theorem k_srB {V : zVw} {i h n z l c so u : Int} (T0 : q_srx (V 46) (V 45) l c so i) (T1 : (mOP 101 (Int32.ofInt so) (Int32.ofInt n)).toInt = z) (T2 : (mOP 104 (Int32.ofInt (1 : Int)) (Int32.ofInt h)).toInt = n) (T3 : q_rwd (V 47) l c) (T4 : q_prx (V 45) l c u) (C0 : 0 ≤ i) (C1 : 0 ≤ l - i - 1) (C2 : 0 ≤ 6 - l) (C3 : 0 ≤ so) (C4 : 0 ≤ 63 - so) (C5 : 0 ≤ z) (C6 : 0 ≤ -z) (F0 : (0 : Int) ≤ i ∧ (i : Int) < j_len 47 ∧ V 47 (i) = h) : (True) ∧ (q_srx (V 46) (V 45) l c so (i + 1) ∧ True) := by
  have h1 : g_op 101 so n = z := T1
  have h2 : g_op 104 1 h = n := T2
  have f1 := F0.2.2
  have h8 := T3 i (by omega) (by omega)
  have h7 := r_D_b (l := l) (n := c) (i := i)
  rw [f1] at h8
  rw [← h8] at h7
  have h6 : ¬ r_bit so h := fun c9 => by
    have := (r_bt1 (x := so) (i := h) (by omega) (by omega) h7.1 h7.2 h2 h1).mpr c9
    omega
  rw [h8] at h6
  exact ⟨trivial, r_srB T0 h6 (by omega) (by omega), trivial⟩
theorem k_srE {V : zVw} {i l c so : Int} (T0 : q_srx (V 46) (V 45) l c so i) (C0 : 0 ≤ i) (C1 : 0 ≤ i - l) (C2 : 0 ≤ l - i) : (True) ∧ (q_src (V 46) (V 45) l l (c + 1) so ∧ True) := by
  have e9 : i = l := by omega
  rw [e9] at T0
  exact ⟨trivial, r_srE T0 (by omega), trivial⟩
theorem k_nctD {V : zVw} {l p c f fr so : Int} (T0 : q_nct (V 45) l p c f fr) (T1 : q_src (V 46) (V 45) l p c so) (C0 : 0 ≤ p) (C1 : 0 ≤ l - p - 1) (C2 : 0 ≤ 6 - l) : (True) ∧ (q_nct (V 45) l (p + 1) (6 * c) f fr ∧ q_src (V 46) (V 45) l (p + 1) (6 * c) so ∧ True) := by
  exact ⟨trivial, r_nctD T0 (by omega), r_srcD T1 (by omega), trivial⟩
theorem k_nctU {V : zVw} {l p c f fr so m u : Int} (T0 : q_prx (V 45) p c u) (T1 : q_nct (V 45) l (p + 1) m f fr) (T2 : q_src (V 46) (V 45) l (p + 1) m so) (C0 : 0 ≤ p) (C1 : 0 ≤ l - p - 1) (C2 : 0 ≤ 6 - l) (C3 : 0 ≤ m - 6 * c - 6) (C4 : 0 ≤ 6 * c - m + 6) : (True) ∧ (q_nct (V 45) l p (c + 1) f fr ∧ q_src (V 46) (V 45) l p (c + 1) so ∧ True) := by
  have h9 := T0.2.1.1.1
  have e9 : m = 6 * c + 6 := by omega
  rw [e9] at T1 T2
  exact ⟨trivial, r_nctU T1 (by omega) h9 (by omega), r_srcU T2 (by omega) h9 (by omega), trivial⟩
theorem k_prxb {V : zVw} {p c u : Int} (T0 : q_prx (V 45) p c u) (C0 : 0 ≤ p) (C1 : 0 ≤ 5 - p) : (0 ≤ c ∧ 0 ≤ 7775 - c ∧ 0 ≤ u ∧ 0 ≤ 63 - u ∧ True) ∧ (True) := by
  have h9 := r_prx_b T0 (by omega)
  exact ⟨⟨by omega, by omega, by omega, by omega, trivial⟩, trivial⟩
theorem k_fillZ {V : zVw} {g p c u r a n z h : Int} (T0 : (mOP 101 (Int32.ofInt a) (Int32.ofInt n)).toInt = z) (T1 : (mOP 104 (Int32.ofInt (1 : Int)) (Int32.ofInt h)).toInt = n) (T2 : (mOP 101 (Int32.ofInt g) (Int32.ofInt r)).toInt = a) (T3 : (mOP 103 (Int32.ofInt u) (Int32.ofInt (-1 : Int))).toInt = r) (T4 : q_prx (V 45) p c u) (C0 : 0 ≤ h) (C1 : 0 ≤ 5 - h) (C2 : 0 ≤ p) (C3 : 0 ≤ 5 - p) (F0 : (0 : Int) ≤ p ∧ (p : Int) < j_len 45 ∧ V 45 (p) = g) : (0 ≤ z ∧ True) ∧ (True) := by
  have h0 : g_op 101 a n = z := T0
  have h1 : g_op 104 1 h = n := T1
  have h2 : g_op 101 g r = a := T2
  have h3 : g_op 103 u (-1) = r := T3
  have f0 := F0.2.2
  have h9 := r_fz T4 (by omega) f0 (by omega) (by omega) h3 h2 h1 h0
  exact ⟨⟨by omega, trivial⟩, trivial⟩
theorem k_fillN {V : zVw} {h l p c f fr so m g r a n z u : Int} (T0 : (mOP 101 (Int32.ofInt a) (Int32.ofInt n)).toInt = z) (T1 : (mOP 104 (Int32.ofInt (1 : Int)) (Int32.ofInt h)).toInt = n) (T2 : (mOP 101 (Int32.ofInt g) (Int32.ofInt r)).toInt = a) (T3 : (mOP 103 (Int32.ofInt u) (Int32.ofInt (-1 : Int))).toInt = r) (T4 : q_prx (V 45) p c u) (T5 : q_nct (V 45) l (p + 1) m f fr) (T6 : q_src (V 46) (V 45) l (p + 1) m so) (C0 : 0 ≤ h) (C1 : 0 ≤ 5 - h) (C2 : 0 ≤ p) (C3 : 0 ≤ l - p - 1) (C4 : 0 ≤ 6 - l) (C5 : 0 ≤ z) (C6 : 0 ≤ -z) (C7 : 0 ≤ m - h - 6 * c) (C8 : 0 ≤ h + 6 * c - m) (F0 : (0 : Int) ≤ p ∧ (p : Int) < j_len 45 ∧ V 45 (p) = g) : (True) ∧ (q_nct (V 45) l (p + 1) (m + 1) f fr ∧ q_src (V 46) (V 45) l (p + 1) (m + 1) so ∧ True) := by
  have h0 : g_op 101 a n = z := T0
  have h1 : g_op 104 1 h = n := T1
  have h2 : g_op 101 g r = a := T2
  have h3 : g_op 103 u (-1) = r := T3
  have f0 := F0.2.2
  have h9 := r_fz T4 (by omega) f0 (by omega) (by omega) h3 h2 h1 h0
  have h8 := mt h9.2.mpr (by omega)
  have e9 : m = 6 * c + h := by omega
  rw [e9] at T5 T6
  rw [e9]
  exact ⟨trivial, r_nctN T5 (by omega) (by omega) (by omega) (by omega) h8, r_srcN T6 (by omega) (by omega) (by omega) (by omega) h8, trivial⟩
theorem k_fillY {V : zVw} {h l p c g r a n z u n2 u2 : Int} (T0 : (mOP 101 (Int32.ofInt a) (Int32.ofInt n)).toInt = z) (T1 : (mOP 104 (Int32.ofInt (1 : Int)) (Int32.ofInt h)).toInt = n) (T2 : (mOP 101 (Int32.ofInt g) (Int32.ofInt r)).toInt = a) (T3 : (mOP 103 (Int32.ofInt u) (Int32.ofInt (-1 : Int))).toInt = r) (T4 : q_prx (V 45) p c u) (T5 : (mOP 102 (Int32.ofInt u) (Int32.ofInt n2)).toInt = u2) (T6 : (mOP 104 (Int32.ofInt (1 : Int)) (Int32.ofInt h)).toInt = n2) (T7 : q_rwd (V 47) p c) (C0 : 0 ≤ h) (C1 : 0 ≤ 5 - h) (C2 : 0 ≤ p) (C3 : 0 ≤ l - p - 1) (C4 : 0 ≤ 6 - l) (C5 : 0 ≤ z - 1) (F0 : (0 : Int) ≤ p ∧ (p : Int) < j_len 45 ∧ V 45 (p) = g) (F1 : (0 : Int) ≤ p ∧ (p : Int) < j_len 47 ∧ V 47 (p) = h) : (True) ∧ (q_prx (V 45) (p + 1) (h + 6 * c) u2 ∧ q_rwd (V 47) (p + 1) (h + 6 * c) ∧ True) := by
  have h0 : g_op 101 a n = z := T0
  have h1 : g_op 104 1 h = n := T1
  have h2 : g_op 101 g r = a := T2
  have h3 : g_op 103 u (-1) = r := T3
  have f0 := F0.2.2
  have h9 := r_fz T4 (by omega) f0 (by omega) (by omega) h3 h2 h1 h0
  have h8 := h9.2.mp (by omega)
  have h5 : g_op 102 u n2 = u2 := T5
  have h6 : g_op 104 1 h = n2 := T6
  have f1 := F1.2.2
  rw [Int.add_comm h (6 * c)]
  exact ⟨trivial, r_prxY T4 (by omega) (by omega) (by omega) h8 h6 h5, r_rwdY T7 (by omega) (by omega) f1, trivial⟩
theorem k_rwdP {V : zVw} {p m c u : Int} (T0 : q_prx (V 45) p c u) (T1 : q_rwd (V 47) (p + 1) m) (C0 : 0 ≤ p) (C1 : 0 ≤ 5 - p) (C2 : 0 ≤ m - 6 * c) (C3 : 0 ≤ 6 * c - m + 5) : (True) ∧ (q_rwd (V 47) p c ∧ True) := by
  have e9 : m = 6 * c + (m - 6 * c) := by omega
  rw [e9] at T1
  exact ⟨trivial, r_rwdP T1 (by omega) (by omega), trivial⟩
theorem k_fr0 {V : zVw} {l H k so v : Int} (T0 : q_lrn (V 42) (V 43) (V 44) (g_sg (V 20) (g_b (V 77) 0)) (V 45) H l k) (T1 : ∀ t : Int, 0 ≤ t → t < (6 : Int) → V 46 t = (0 : Int)) (T2 : q_qry V (57 : Int) (0 : Int) (0 : Int) (0 : Int) (0 : Int) (0 : Int) (0 : Int) (0 : Int) v H so) (C0 : 0 ≤ l - 1) (C1 : 0 ≤ 6 - l) (C2 : 0 ≤ H) (C3 : 0 ≤ 6 - H) : (0 ≤ so ∧ 0 ≤ 63 - so ∧ True) ∧ (q_nct (V 45) l (0 : Int) (0 : Int) (0 : Int) (-2 : Int) ∧ q_prx (V 45) (0 : Int) (0 : Int) (0 : Int) ∧ q_rwd (V 47) (0 : Int) (0 : Int) ∧ q_src (V 46) (V 45) l (0 : Int) (0 : Int) so ∧ True) := by
  have z1 := r_hob (A := g_nw V) T2
  have b9 := r_hob_b (by omega) (by omega) z1
  have K9 : q_prx (V 45) 0 0 0 := ⟨⟨fun t t0 t1 => (T0.2 t t0 t1).1, ⟨by omega, by omega⟩, by omega, by omega⟩, ⟨⟨by omega, by decide⟩, fun i i0 i1 => by omega, fun i j i0 i1 j1 => by omega⟩, fun h h0 h6 => ⟨fun c9 => by
    unfold r_bit at c9
    rw [Int.zero_ediv] at c9
    omega, fun c9 => by
    obtain ⟨i, ⟨i0, i1⟩, -⟩ := c9
    omega⟩⟩
  exact ⟨⟨by omega, by omega, trivial⟩, ⟨⟨by omega, by omega, by omega, by omega⟩, by rw [r_00]; rfl, by rw [r_00]; rfl⟩, K9, (fun t t0 t1 => by omega), ⟨⟨by omega, by omega, by omega, by omega⟩, fun t t0 t1 => by
    rw [T1 t t0 (by omega), Int.zero_mul]
    rfl⟩, trivial⟩
theorem k_frY {V : zVw} {l H k so v f fr : Int} (T0 : q_lrn (V 42) (V 43) (V 44) (g_sg (V 20) (g_b (V 77) 0)) (V 45) H l k) (T1 : q_qry V (57 : Int) (0 : Int) (0 : Int) (0 : Int) (0 : Int) (0 : Int) (0 : Int) (0 : Int) v H so) (T2 : q_nct (V 45) l (0 : Int) (1 : Int) f fr) (T3 : q_src (V 46) (V 45) l (0 : Int) (1 : Int) so) (C0 : 0 ≤ k) (C1 : 0 ≤ l - 1) (C2 : 0 ≤ 6 - l) (C3 : 0 ≤ H) (C4 : 0 ≤ 6 - H) : (0 ≤ f ∧ 0 ≤ 46656 - f ∧ True) ∧ (q_rws (V 42) (V 43) (V 44) (g_sg (V 20) (g_b (V 77) 0)) H k l f fr ∧ q_sor (V 42) (V 43) (V 44) (g_sg (V 20) (g_b (V 77) 0)) (V 46) H k l v ∧ True) := by
  have z1 := r_hob (A := g_nw V) T1
  obtain ⟨b9, r9, s9⟩ := r_frY T0 (by omega) (by omega) (by omega) (by omega) z1 T2 T3
  exact ⟨⟨by omega, by omega, trivial⟩, r9, s9, trivial⟩
theorem k_frN {V : zVw} {l H k so v : Int} (T0 : q_lrf (V 42) k l) (T1 : ∀ t : Int, 0 ≤ t → t < (6 : Int) → V 46 t = (0 : Int)) (T2 : q_qry V (57 : Int) (0 : Int) (0 : Int) (0 : Int) (0 : Int) (0 : Int) (0 : Int) (0 : Int) v H so) (C0 : 0 ≤ k) (C1 : 0 ≤ l - 1) (C2 : 0 ≤ 6 - l) (C3 : 0 ≤ H) (C4 : 0 ≤ 6 - H) : (True) ∧ (q_rws (V 42) (V 43) (V 44) (g_sg (V 20) (g_b (V 77) 0)) H k l (0 : Int) (-2 : Int) ∧ q_sor (V 42) (V 43) (V 44) (g_sg (V 20) (g_b (V 77) 0)) (V 46) H k l v ∧ True) := by
  have r9 := r_frN (le := V 43) (so := V 44) (st := (g_sg (V 20) (g_b (V 77) 0))) (H := H) (w := v) T0 (by omega) T1
  exact ⟨trivial, r9.1, r9.2, trivial⟩
theorem k_rw0 {V : zVw} {u fr H k l : Int} (T0 : q_rws (V 42) (V 43) (V 44) (g_sg (V 20) (g_b (V 77) 0)) H k l u fr) : (True) ∧ (q_rwc (V 42) (V 43) (V 44) (g_sg (V 20) (g_b (V 77) 0)) H k l (0 : Int) u ∧ True) := by
  exact ⟨trivial, (by unfold q_rwc; rw [if_pos rfl]; exact T0.1), trivial⟩
theorem k_rw1 {V : zVw} {u f H k l : Int} (T0 : q_rws (V 42) (V 43) (V 44) (g_sg (V 20) (g_b (V 77) 0)) H k l f u) : (True) ∧ (q_rwc (V 42) (V 43) (V 44) (g_sg (V 20) (g_b (V 77) 0)) H k l (1 : Int) u ∧ True) := by
  exact ⟨trivial, (by unfold q_rwc; rw [if_neg (by decide)]; exact T0.2), trivial⟩
theorem k_stb_0 {V : zVw} {H q b s o a1 a2 a3 : Int} (T0 : q_rwo V H q b s o a1 a2 a3) : (True) ∧ ((q_stb (V 83) (fun i_ => g_sg (V 20) (g_F V q b s o a1 a2 a3 (g_nw V)) i_) (0 : Int) H) ∧ True) := by
  exact ⟨trivial, (fun i i0 i1 i2 => by omega), trivial⟩
theorem k_stb_Y {V : zVw} {i x H q b s o a1 a2 a3 : Int} (T0 : q_stb (V 83) (fun i_ => g_sg (V 20) (g_F V q b s o a1 a2 a3 (g_nw V)) i_) i H) (T1 : q_qry V (7 : Int) q b s o a1 a2 a3 i (0 : Int) x) (C0 : 0 ≤ i) (C1 : 0 ≤ 5 - i) (F0 : (0 : Int) ≤ i ∧ (i : Int) < j_len 83 ∧ V 83 (i) = x) : (True) ∧ ((q_stb (V 83) (fun i_ => g_sg (V 20) (g_F V q b s o a1 a2 a3 (g_nw V)) i_) (i + 1) H) ∧ True) := by
  have z0 := g_k7 T1
  have h9 := F0.2.2
  exact ⟨trivial, (fun j j0 j1 j2 => by
    by_cases c9 : j < i
    · exact T0 j j0 c9 j2
    · rw [show j = i by omega]; exact h9.trans z0), trivial⟩
theorem k_stb_N {V : zVw} {i x H q b s o a1 a2 a3 : Int} (T0 : q_rwo V H q b s o a1 a2 a3) (T1 : q_stb (V 83) (fun i_ => g_sg (V 20) (g_F V q b s o a1 a2 a3 (g_nw V)) i_) i H) (C0 : 0 ≤ i) (C1 : 0 ≤ 5 - i) (C2 : 0 ≤ i - H) (F0 : (0 : Int) ≤ i ∧ (i : Int) < j_len 83 ∧ V 83 (i) = x) : (True) ∧ ((q_stb (V 83) (fun i_ => g_sg (V 20) (g_F V q b s o a1 a2 a3 (g_nw V)) i_) (i + 1) H) ∧ True) := by
  exact ⟨trivial, (fun j j0 j1 j2 => T1 j j0 (by omega) j2), trivial⟩
theorem k_six0 {V : zVw} : (True) ∧ (((0 ≤ (0 : Int) ∧ (0 : Int) ≤ 6) ∧ (1 : Int) = r_6 (0 : Int).toNat) ∧ True) := by
  exact ⟨trivial, ⟨⟨by omega, by omega⟩, rfl⟩, trivial⟩
theorem k_sixS {V : zVw} {i n m_ : Int} (T0 : (mOP 100 (Int32.ofInt n) (Int32.ofInt (6 : Int))).toInt = m_) (T1 : (0 ≤ i ∧ i ≤ 6) ∧ n = r_6 i.toNat) (C0 : 0 ≤ i) (C1 : 0 ≤ 5 - i) : (True) ∧ (((0 ≤ (i + 1) ∧ (i + 1) ≤ 6) ∧ m_ = r_6 (i + 1).toNat) ∧ True) := by
  have h6 := r_6_b5 (l := i) (by omega)
  have h5 := r_6_pos i.toNat
  have h4 : r_6 (i + 1).toNat = 6 * r_6 i.toNat := by
    rw [show (i + 1).toNat = i.toNat + 1 by omega]
    rfl
  have h1 : g_op 100 n 6 = m_ := T0
  have h2 : g_op 100 n 6 = n * 6 := g_op_mul6 (by omega) (by omega)
  exact ⟨trivial, ⟨⟨by omega, by omega⟩, by omega⟩, trivial⟩
theorem k_sixT {V : zVw} {i n m_ : Int} (T0 : (0 ≤ i ∧ i ≤ 6) ∧ n = r_6 i.toNat) (C0 : 0 ≤ i) (C1 : 0 ≤ 5 - i) (C2 : 0 ≤ m_ - 6 * n) (C3 : 0 ≤ 6 * n - m_) : (True) ∧ (((0 ≤ (i + 1) ∧ (i + 1) ≤ 6) ∧ m_ = r_6 (i + 1).toNat) ∧ True) := by
  have h6 := r_6_b5 (l := i) (by omega)
  have h5 := r_6_pos i.toNat
  have h4 : r_6 (i + 1).toNat = 6 * r_6 i.toNat := by
    rw [show (i + 1).toNat = i.toNat + 1 by omega]
    rfl
  exact ⟨trivial, ⟨⟨by omega, by omega⟩, by omega⟩, trivial⟩
theorem k_sixE {V : zVw} {i n : Int} (T0 : (0 ≤ i ∧ i ≤ 6) ∧ n = r_6 i.toNat) (C0 : 0 ≤ i) (C1 : 0 ≤ 6 - i) : (0 ≤ n - 1 ∧ 0 ≤ 46656 - n ∧ True) ∧ (True) := by
  have h6 := r_6_b (l := i) (by omega)
  have h5 := r_6_pos i.toNat
  exact ⟨⟨by omega, by omega, trivial⟩, trivial⟩
theorem k_dgs0 {V : zVw} {n l u H q : Int} (T0 : (0 ≤ l ∧ l ≤ 6) ∧ u = r_6 l.toNat) (T1 : q_stb (V 83) (fun i_ => g_sg (V 20) (g_F V q (0 : Int) (0 : Int) (0 : Int) (0 : Int) (0 : Int) (0 : Int) (g_nw V)) i_) (6 : Int) H) (C0 : 0 ≤ l - 1) (C1 : 0 ≤ 6 - l) (C2 : 0 ≤ n) (C3 : 0 ≤ u - n - 1) (C4 : 0 ≤ H) (C5 : 0 ≤ 6 - H) : (True) ∧ (q_dgs (V 92) H l n (l - 1) n (0 : Int) ∧ True) := by
  have h9 := T0.2
  exact ⟨trivial, r_dgs0 (by omega) (by omega) (by omega) (by omega) (by omega) (by omega), trivial⟩
theorem k_digb {V : zVw} {i d H l n a b : Int} (T0 : q_dgs (V 92) H l n i a b) (T1 : (mOP 108 (Int32.ofInt a) (Int32.ofInt (6 : Int))).toInt = d) (C0 : 0 ≤ i) (C1 : 0 ≤ l - i - 1) (C2 : 0 ≤ 6 - l) (F0 : (0 : Int) ≤ i ∧ (i : Int) < j_len 92 ∧ V 92 (i) = d) : (0 ≤ d ∧ 0 ≤ 5 - d ∧ 0 ≤ a ∧ 0 ≤ b ∧ 0 ≤ 63 - b ∧ True) ∧ (True) := by
  have h1 : g_op 108 a 6 = d := T1
  have e1 := r_dgs_d T0 h1
  have d6 := r_D_b (l := l) (n := n) (i := i)
  rw [← e1] at d6
  have an := r_dgs_n T0
  have b9 := T0.2.2.1
  exact ⟨⟨by omega, by omega, by omega, by omega, by omega, trivial⟩, trivial⟩
theorem k_ftrH {V : zVw} {i k d H l n a b : Int} (T0 : q_dgs (V 92) H l n i a b) (T1 : (mOP 108 (Int32.ofInt a) (Int32.ofInt (6 : Int))).toInt = d) (C0 : 0 ≤ i) (C1 : 0 ≤ l - i - 1) (C2 : 0 ≤ 6 - l) (C3 : 0 ≤ d - H) (C4 : 0 ≤ k) (F0 : (0 : Int) ≤ i ∧ (i : Int) < j_len 92 ∧ V 92 (i) = d) : (True) ∧ (q_ftr (V 42) (V 43) (V 44) (g_sg (V 20) (g_b (V 77) 0)) H k l n (0 : Int) ∧ True) := by
  have h1 : g_op 108 a 6 = d := T1
  have e1 := r_dgs_d T0 h1
  have d6 := r_D_b (l := l) (n := n) (i := i)
  rw [← e1] at d6
  have an := r_dgs_n T0
  have b9 := T0.2.2.1
  exact ⟨trivial, r_ftrH T0 h1 (by omega) (by omega) (by omega), trivial⟩
theorem k_ftrD {V : zVw} {i k d H l n a b s1 z : Int} (T0 : q_dgs (V 92) H l n i a b) (T1 : (mOP 108 (Int32.ofInt a) (Int32.ofInt (6 : Int))).toInt = d) (T2 : (mOP 101 (Int32.ofInt s1) (Int32.ofInt (1 : Int))).toInt = z) (T3 : (mOP 105 (Int32.ofInt b) (Int32.ofInt d)).toInt = s1) (C0 : 0 ≤ i) (C1 : 0 ≤ l - i - 1) (C2 : 0 ≤ 6 - l) (C3 : 0 ≤ z - 1) (C4 : 0 ≤ k) (F0 : (0 : Int) ≤ i ∧ (i : Int) < j_len 92 ∧ V 92 (i) = d) : (True) ∧ (q_ftr (V 42) (V 43) (V 44) (g_sg (V 20) (g_b (V 77) 0)) H k l n (0 : Int) ∧ True) := by
  have h1 : g_op 108 a 6 = d := T1
  have e1 := r_dgs_d T0 h1
  have d6 := r_D_b (l := l) (n := n) (i := i)
  rw [← e1] at d6
  have an := r_dgs_n T0
  have b9 := T0.2.2.1
  have h2 : g_op 101 s1 1 = z := T2
  have h3 : g_op 105 b d = s1 := T3
  have h4 := g_bitm (k := b) (i := d) (by omega) (by omega) (by omega) (by omega) h3 h2
  have h5 := g_and_1 h2
  exact ⟨trivial, r_ftrD T0 h1 (by omega) (by unfold r_bit; omega), trivial⟩
theorem k_ftrD0 {V : zVw} {i k d H l n a b z : Int} (T0 : q_dgs (V 92) H l n i a b) (T1 : (mOP 108 (Int32.ofInt a) (Int32.ofInt (6 : Int))).toInt = d) (T2 : (mOP 101 (Int32.ofInt b) (Int32.ofInt (1 : Int))).toInt = z) (C0 : 0 ≤ i) (C1 : 0 ≤ l - i - 1) (C2 : 0 ≤ 6 - l) (C3 : 0 ≤ z - 1) (C4 : 0 ≤ k) (C5 : 0 ≤ -d) (F0 : (0 : Int) ≤ i ∧ (i : Int) < j_len 92 ∧ V 92 (i) = d) : (True) ∧ (q_ftr (V 42) (V 43) (V 44) (g_sg (V 20) (g_b (V 77) 0)) H k l n (0 : Int) ∧ True) := by
  have h1 : g_op 108 a 6 = d := T1
  have e1 := r_dgs_d T0 h1
  have d6 := r_D_b (l := l) (n := n) (i := i)
  rw [← e1] at d6
  have an := r_dgs_n T0
  have b9 := T0.2.2.1
  have h2 : g_op 101 b 1 = z := T2
  have h3 : g_op 105 b d = b := by
    rw [show d = 0 by omega]
    exact g_sh0 (by omega) (by omega)
  have h4 := g_bitm (k := b) (i := d) (by omega) (by omega) (by omega) (by omega) h3 h2
  have h5 := g_and_1 h2
  exact ⟨trivial, r_ftrD T0 h1 (by omega) (by unfold r_bit; omega), trivial⟩
theorem k_dgsS {V : zVw} {i d H l n a b s1 z n1 b2 a2 : Int} (T0 : q_dgs (V 92) H l n i a b) (T1 : (mOP 108 (Int32.ofInt a) (Int32.ofInt (6 : Int))).toInt = d) (T2 : (mOP 107 (Int32.ofInt a) (Int32.ofInt (6 : Int))).toInt = a2) (T3 : (mOP 101 (Int32.ofInt s1) (Int32.ofInt (1 : Int))).toInt = z) (T4 : (mOP 105 (Int32.ofInt b) (Int32.ofInt d)).toInt = s1) (T5 : (mOP 102 (Int32.ofInt b) (Int32.ofInt n1)).toInt = b2) (T6 : (mOP 104 (Int32.ofInt (1 : Int)) (Int32.ofInt d)).toInt = n1) (C0 : 0 ≤ i) (C1 : 0 ≤ l - i - 1) (C2 : 0 ≤ 6 - l) (C3 : 0 ≤ H - d - 1) (C4 : 0 ≤ -z) (F0 : (0 : Int) ≤ i ∧ (i : Int) < j_len 92 ∧ V 92 (i) = d) : (0 ≤ b2 ∧ 0 ≤ 63 - b2 ∧ True) ∧ (q_dgs (V 92) H l n (i - 1) a2 b2 ∧ True) := by
  have h1 : g_op 108 a 6 = d := T1
  have e1 := r_dgs_d T0 h1
  have d6 := r_D_b (l := l) (n := n) (i := i)
  rw [← e1] at d6
  have an := r_dgs_n T0
  have b9 := T0.2.2.1
  have h2 : g_op 107 a 6 = a2 := T2
  have h3 : g_op 101 s1 1 = z := T3
  have h4 : g_op 105 b d = s1 := T4
  have h5 : g_op 102 b n1 = b2 := T5
  have h6 : g_op 104 1 d = n1 := T6
  have h7 := g_bitm (k := b) (i := d) (by omega) (by omega) (by omega) (by omega) h4 h3
  have h8 := r_dgsS T0 h1 h2 (by omega) (by omega) (by omega) (by unfold r_bit; omega) h6 h5 F0.2.2
  exact ⟨⟨by omega, by omega, trivial⟩, h8.2, trivial⟩
theorem k_dga {V : zVw} {i k H l n a b : Int} (T0 : q_dgs (V 92) H l n i a b) (C0 : 0 ≤ -i - 1) (C1 : 0 ≤ k) : (True) ∧ (q_dgd (V 92) H l n (-1) ∧ q_ft2 (V 42) (V 43) (V 44) (g_sg (V 20) (g_b (V 77) 0)) H l n (0 : Int) ∧ True) := by
  have h9 := r_dga (pl := V 42) (le := V 43) (so := V 44) (st := (g_sg (V 20) (g_b (V 77) 0))) T0 (by omega)
  exact ⟨trivial, h9.1, h9.2, trivial⟩
theorem k_ftrP {V : zVw} {j p H k l n : Int} (T0 : q_teq (V 42) (V 43) (V 44) (V 89) (V 90) (V 91)) (T1 : q_ft2 (V 42) (V 43) (V 44) (g_sg (V 20) (g_b (V 77) 0)) H l n j) (C0 : 0 ≤ j) (C1 : 0 ≤ k - j - 1) (C2 : 0 ≤ 20 - k) (C3 : 0 ≤ p) (C4 : 0 ≤ 6 - l) (C5 : 0 ≤ p - l) (F0 : (0 : Int) ≤ j ∧ (j : Int) < j_len 89 ∧ V 89 (j) = p) : (True) ∧ (q_ftr (V 42) (V 43) (V 44) (g_sg (V 20) (g_b (V 77) 0)) H k l n (0 : Int) ∧ True) := by
  have f0 := F0.2.2
  have t9 := (T0 j (by omega)).1
  exact ⟨trivial, r_ftrP T1 (by omega) (by omega) (t9.trans f0) (by omega), trivial⟩
