/-! ===== the lemmas in plain numbers, by program ===== -/
theorem k_peaN {V : zVw} {w W a_ r p_ i H z n q b s o a1 a2 a3 p y d : Int} (T0 : q_sto V 0 H p y d q b s o a1 a2 a3) (T1 : q_not (V 40) (V 34) (o_J (V 35)) w W a_ (384 : Int) r p_ i) (T2 : q_dpt (V 37) (V 38) (V 40) (V 34) (o_J (V 35)) w a_ (384 : Int)) (T3 : q_sts (V 34) (fun i_ => g_sg (V 20) (g_F V q b s o a1 a2 a3 (g_nw V)) i_) H) (T4 : q_jrw (V 35) (g_jy V q (g_F V q b s o a1 a2 a3 (g_nw V)) (0 : Int)) (g_F V q b s o a1 a2 a3 (g_nw V)) H (0 : Int) z) (T5 : q_smp V q b s o a1 a2 a3 n) (T6 : (mOP 104 (Int32.ofInt (1 : Int)) (Int32.ofInt H)).toInt = n) (T7 : q_qry V (46 : Int) q b s o a1 a2 a3 (6 : Int) (0 : Int) a_) (C0 : 0 ≤ -r) (C1 : 0 ≤ w) (C2 : 0 ≤ -w) (C3 : 0 ≤ H) (C4 : 0 ≤ 6 - H) : (True) ∧ (q_qry V (59 : Int) q b s o a1 a2 a3 W (0 : Int) (-2 : Int) ∧ True) := by
  have h1 : g_op 104 1 H = n := T6
  have e6 : a_ = g_ab (g_F V q b s o a1 a2 a3 (g_nw V)) 6 := g_k46 T7
  have g9 := o_agr_mk T0.1.1 (by omega) (by omega) T3 T4 T5.2.2 h1 e6
  have w9 : w = 0 := by omega
  rw [w9] at T1
  have e9 := o_peaN g9 T1 (by omega)
  exact ⟨trivial, g_qs T0 (g_Q59 e9), trivial⟩
theorem k_neeC {V : zVw} {w W a_ r p_ i H z n q b s o a1 a2 a3 u p y d : Int} (T0 : q_sto V 0 H p y d q b s o a1 a2 a3) (T1 : q_not (V 40) (V 34) (o_J (V 35)) w W a_ (384 : Int) r p_ i) (T2 : q_dpt (V 37) (V 38) (V 40) (V 34) (o_J (V 35)) w a_ (384 : Int)) (T3 : q_sts (V 34) (fun i_ => g_sg (V 20) (g_F V q b s o a1 a2 a3 (g_nw V)) i_) H) (T4 : q_jrw (V 35) (g_jy V q (g_F V q b s o a1 a2 a3 (g_nw V)) (0 : Int)) (g_F V q b s o a1 a2 a3 (g_nw V)) H (0 : Int) z) (T5 : q_smp V q b s o a1 a2 a3 n) (T6 : (mOP 104 (Int32.ofInt (1 : Int)) (Int32.ofInt H)).toInt = n) (T7 : q_qry V (46 : Int) q b s o a1 a2 a3 (6 : Int) (0 : Int) a_) (C0 : 0 ≤ r - 1) (C1 : 0 ≤ u - i) (C2 : 0 ≤ i - u) (C3 : 0 ≤ H) (C4 : 0 ≤ 6 - H) : (True) ∧ (q_qry V (60 : Int) q b s o a1 a2 a3 w W u ∧ True) := by
  have h1 : g_op 104 1 H = n := T6
  have e6 : a_ = g_ab (g_F V q b s o a1 a2 a3 (g_nw V)) 6 := g_k46 T7
  have g9 := o_agr_mk T0.1.1 (by omega) (by omega) T3 T4 T5.2.2 h1 e6
  have e9 := o_neeC g9 T1 (by omega)
  rw [show i = u by omega] at e9
  exact ⟨trivial, g_qs T0 (g_Q60 e9), trivial⟩
theorem k_neeN {V : zVw} {w W a_ r p_ i H z n q b s o a1 a2 a3 p y d : Int} (T0 : q_sto V 0 H p y d q b s o a1 a2 a3) (T1 : q_not (V 40) (V 34) (o_J (V 35)) w W a_ (384 : Int) r p_ i) (T2 : q_dpt (V 37) (V 38) (V 40) (V 34) (o_J (V 35)) w a_ (384 : Int)) (T3 : q_sts (V 34) (fun i_ => g_sg (V 20) (g_F V q b s o a1 a2 a3 (g_nw V)) i_) H) (T4 : q_jrw (V 35) (g_jy V q (g_F V q b s o a1 a2 a3 (g_nw V)) (0 : Int)) (g_F V q b s o a1 a2 a3 (g_nw V)) H (0 : Int) z) (T5 : q_smp V q b s o a1 a2 a3 n) (T6 : (mOP 104 (Int32.ofInt (1 : Int)) (Int32.ofInt H)).toInt = n) (T7 : q_qry V (46 : Int) q b s o a1 a2 a3 (6 : Int) (0 : Int) a_) (C0 : 0 ≤ -r) (C1 : 0 ≤ H) (C2 : 0 ≤ 6 - H) : (True) ∧ (q_qry V (60 : Int) q b s o a1 a2 a3 w W (-2 : Int) ∧ True) := by
  have h1 : g_op 104 1 H = n := T6
  have e6 : a_ = g_ab (g_F V q b s o a1 a2 a3 (g_nw V)) 6 := g_k46 T7
  have g9 := o_agr_mk T0.1.1 (by omega) (by omega) T3 T4 T5.2.2 h1 e6
  have e9 := o_neeN g9 T1 (by omega)
  exact ⟨trivial, g_qs T0 (g_Q60 e9), trivial⟩
theorem k_sta_0 {V : zVw} {H q b s o a1 a2 a3 : Int} (T0 : q_rwo V H q b s o a1 a2 a3) : (True) ∧ ((q_sta (V 83) (fun i_ => g_sg (V 20) (g_F V q b s o a1 a2 a3 (g_nw V)) i_) (g_ha (g_F V q b s o a1 a2 a3 (g_nw V))) (0 : Int)) ∧ True) := by
  exact ⟨trivial, fun i i0 i1 => absurd i1 (by omega), trivial⟩
theorem k_sta_Y {V : zVw} {i x H q b s o a1 a2 a3 : Int} (T0 : q_rwo V H q b s o a1 a2 a3) (T1 : q_sta (V 83) (fun i_ => g_sg (V 20) (g_F V q b s o a1 a2 a3 (g_nw V)) i_) (g_ha (g_F V q b s o a1 a2 a3 (g_nw V))) i) (T2 : q_qry V (7 : Int) q b s o a1 a2 a3 i (0 : Int) x) (C0 : 0 ≤ i) (C1 : 0 ≤ 5 - i) (C2 : 0 ≤ H - i - 1) (F0 : (0 : Int) ≤ i ∧ (i : Int) < j_len 83 ∧ V 83 (i) = x) : (True) ∧ ((q_sta (V 83) (fun i_ => g_sg (V 20) (g_F V q b s o a1 a2 a3 (g_nw V)) i_) (g_ha (g_F V q b s o a1 a2 a3 (g_nw V))) (i + 1)) ∧ True) := by
  have w9 := T0.1.1
  have s9 := T0.1.2.2 i (by omega) (by omega)
  have u9 : x = g_sg (V 20) (g_F V q b s o a1 a2 a3 (g_nw V)) i := g_k7 T2
  have g9 := o_sg_b (S := V 20) w9 (by omega) (by omega) s9
  rw [← u9] at g9
  have f0 := F0.2.2
  exact ⟨trivial, fun j j0 j1 => by
    by_cases d : j = i
    · rw [d, f0]
      exact ⟨g9, fun _ => u9⟩
    · exact T1 j j0 (by omega), trivial⟩
theorem k_sta_N {V : zVw} {i x H q b s o a1 a2 a3 : Int} (T0 : q_rwo V H q b s o a1 a2 a3) (T1 : q_sta (V 83) (fun i_ => g_sg (V 20) (g_F V q b s o a1 a2 a3 (g_nw V)) i_) (g_ha (g_F V q b s o a1 a2 a3 (g_nw V))) i) (C0 : 0 ≤ i) (C1 : 0 ≤ 5 - i) (C2 : 0 ≤ i - H) (C3 : 0 ≤ x) (C4 : 0 ≤ -x) (F0 : (0 : Int) ≤ i ∧ (i : Int) < j_len 83 ∧ V 83 (i) = x) : (True) ∧ ((q_sta (V 83) (fun i_ => g_sg (V 20) (g_F V q b s o a1 a2 a3 (g_nw V)) i_) (g_ha (g_F V q b s o a1 a2 a3 (g_nw V))) (i + 1)) ∧ True) := by
  have z9 := g_ha_out T0.1.1 (h := i) (by omega) (by omega)
  have f0 := F0.2.2
  exact ⟨trivial, fun j j0 j1 => by
    by_cases d : j = i
    · rw [d, f0]
      exact ⟨⟨by omega, by omega⟩, fun c9 => absurd c9 (by rw [z9]; omega)⟩
    · exact T1 j j0 (by omega), trivial⟩
theorem k_hld0 {V : zVw} {H q b s o a1 a2 a3 : Int} (T0 : q_rwo V H q b s o a1 a2 a3) : (True) ∧ (q_hld (V 86) (g_jy V q (g_F V q b s o a1 a2 a3 (g_nw V)) (0 : Int)) (g_F V q b s o a1 a2 a3 (g_nw V)) (0 : Int) ∧ True) := by
  exact ⟨trivial, fun k k0 k1 => absurd k1 (by omega), trivial⟩
theorem k_hldY {V : zVw} {k u g1 g2 q b s o a1 a2 a3 : Int} (T0 : (mOP 107 (Int32.ofInt k) (Int32.ofInt (6 : Int))).toInt = g1) (T1 : (mOP 108 (Int32.ofInt k) (Int32.ofInt (6 : Int))).toInt = g2) (T2 : q_qry V (5 : Int) q b s o a1 a2 a3 g1 g2 u) (T3 : q_hld (V 86) (g_jy V q (g_F V q b s o a1 a2 a3 (g_nw V)) (0 : Int)) (g_F V q b s o a1 a2 a3 (g_nw V)) k) (C0 : 0 ≤ k) (C1 : 0 ≤ 35 - k) (F0 : (0 : Int) ≤ k ∧ (k : Int) < j_len 86 ∧ V 86 (k) = u) : (True) ∧ (q_hld (V 86) (g_jy V q (g_F V q b s o a1 a2 a3 (g_nw V)) (0 : Int)) (g_F V q b s o a1 a2 a3 (g_nw V)) (k + 1) ∧ True) := by
  have h1 : g_op 107 k 6 = g1 := T0
  have h2 : g_op 108 k 6 = g2 := T1
  rw [g_op_div (by omega) (by omega) (by omega) (by omega)] at h1
  rw [g_op_rem (by omega) (by omega) (by omega) (by omega)] at h2
  have u9 : u = g_jo V q (g_F V q b s o a1 a2 a3 (g_nw V)) g1 g2 := g_k5 T2
  exact ⟨trivial, o_hldS T3 (Or.inl (by rw [g_jy0 (by omega) (by omega), F0.2.2, u9, h1, h2])), trivial⟩
theorem k_hldNa {V : zVw} {k g1 g2 H q b s o a1 a2 a3 : Int} (T0 : (mOP 107 (Int32.ofInt k) (Int32.ofInt (6 : Int))).toInt = g1) (T1 : (mOP 108 (Int32.ofInt k) (Int32.ofInt (6 : Int))).toInt = g2) (T2 : q_rwo V H q b s o a1 a2 a3) (T3 : q_hld (V 86) (g_jy V q (g_F V q b s o a1 a2 a3 (g_nw V)) (0 : Int)) (g_F V q b s o a1 a2 a3 (g_nw V)) k) (C0 : 0 ≤ k) (C1 : 0 ≤ 35 - k) (C2 : 0 ≤ g1 - H) : (True) ∧ (q_hld (V 86) (g_jy V q (g_F V q b s o a1 a2 a3 (g_nw V)) (0 : Int)) (g_F V q b s o a1 a2 a3 (g_nw V)) (k + 1) ∧ True) := by
  have h1 : g_op 107 k 6 = g1 := T0
  have h2 : g_op 108 k 6 = g2 := T1
  rw [g_op_div (by omega) (by omega) (by omega) (by omega)] at h1
  rw [g_op_rem (by omega) (by omega) (by omega) (by omega)] at h2
  have z9 := g_ha_out T2.1.1 (h := g1) (by omega) (by omega)
  have m9 : ¬ o_ab (g_F V q b s o a1 a2 a3 (g_nw V)) (k / 6) := fun c9 => by
    have c8 := c9.2
    rw [h1, z9] at c8
    omega
  exact ⟨trivial, o_hldS T3 (Or.inr (Or.inl m9)), trivial⟩
theorem k_hldNb {V : zVw} {k g1 g2 H q b s o a1 a2 a3 : Int} (T0 : (mOP 107 (Int32.ofInt k) (Int32.ofInt (6 : Int))).toInt = g1) (T1 : (mOP 108 (Int32.ofInt k) (Int32.ofInt (6 : Int))).toInt = g2) (T2 : q_rwo V H q b s o a1 a2 a3) (T3 : q_hld (V 86) (g_jy V q (g_F V q b s o a1 a2 a3 (g_nw V)) (0 : Int)) (g_F V q b s o a1 a2 a3 (g_nw V)) k) (C0 : 0 ≤ k) (C1 : 0 ≤ 35 - k) (C2 : 0 ≤ g2 - H) : (True) ∧ (q_hld (V 86) (g_jy V q (g_F V q b s o a1 a2 a3 (g_nw V)) (0 : Int)) (g_F V q b s o a1 a2 a3 (g_nw V)) (k + 1) ∧ True) := by
  have h1 : g_op 107 k 6 = g1 := T0
  have h2 : g_op 108 k 6 = g2 := T1
  rw [g_op_div (by omega) (by omega) (by omega) (by omega)] at h1
  rw [g_op_rem (by omega) (by omega) (by omega) (by omega)] at h2
  have z9 := g_ha_out T2.1.1 (h := g2) (by omega) (by omega)
  have m9 : ¬ o_ab (g_F V q b s o a1 a2 a3 (g_nw V)) (k % 6) := fun c9 => by
    have c8 := c9.2
    rw [h2, z9] at c8
    omega
  exact ⟨trivial, o_hldS T3 (Or.inr (Or.inr (Or.inl m9))), trivial⟩
theorem k_hldNe {V : zVw} {k g1 g2 H q b s o a1 a2 a3 : Int} (T0 : (mOP 107 (Int32.ofInt k) (Int32.ofInt (6 : Int))).toInt = g1) (T1 : (mOP 108 (Int32.ofInt k) (Int32.ofInt (6 : Int))).toInt = g2) (T2 : q_rwo V H q b s o a1 a2 a3) (T3 : q_hld (V 86) (g_jy V q (g_F V q b s o a1 a2 a3 (g_nw V)) (0 : Int)) (g_F V q b s o a1 a2 a3 (g_nw V)) k) (C0 : 0 ≤ k) (C1 : 0 ≤ 35 - k) (C2 : 0 ≤ g1 - g2) (C3 : 0 ≤ g2 - g1) : (True) ∧ (q_hld (V 86) (g_jy V q (g_F V q b s o a1 a2 a3 (g_nw V)) (0 : Int)) (g_F V q b s o a1 a2 a3 (g_nw V)) (k + 1) ∧ True) := by
  have h1 : g_op 107 k 6 = g1 := T0
  have h2 : g_op 108 k 6 = g2 := T1
  rw [g_op_div (by omega) (by omega) (by omega) (by omega)] at h1
  rw [g_op_rem (by omega) (by omega) (by omega) (by omega)] at h2
  exact ⟨trivial, o_hldS T3 (Or.inr (Or.inr (Or.inr (by omega)))), trivial⟩
theorem k_d6r {V : zVw} {k a : Int} (T0 : (mOP 107 (Int32.ofInt k) (Int32.ofInt (6 : Int))).toInt = a) (C0 : 0 ≤ k) (C1 : 0 ≤ 35 - k) : (0 ≤ a ∧ 0 ≤ 5 - a ∧ True) ∧ (True) := by
  have h1 : g_op 107 k 6 = a := T0
  rw [g_op_div (by omega) (by omega) (by omega) (by omega)] at h1
  exact ⟨⟨by omega, by omega, trivial⟩, trivial⟩
theorem k_d6m {V : zVw} {k a : Int} (T0 : (mOP 108 (Int32.ofInt k) (Int32.ofInt (6 : Int))).toInt = a) (C0 : 0 ≤ k) (C1 : 0 ≤ 35 - k) : (0 ≤ a ∧ 0 ≤ 5 - a ∧ True) ∧ (True) := by
  have h1 : g_op 108 k 6 = a := T0
  rw [g_op_rem (by omega) (by omega) (by omega) (by omega)] at h1
  exact ⟨⟨by omega, by omega, trivial⟩, trivial⟩
theorem k_d6z {V : zVw} {k a : Int} (T0 : (mOP 108 (Int32.ofInt k) (Int32.ofInt (6 : Int))).toInt = a) (C0 : 0 ≤ k) (C1 : 0 ≤ -k) : (0 ≤ a ∧ 0 ≤ -a ∧ True) ∧ (True) := by
  have h1 : g_op 108 k 6 = a := T0
  rw [g_op_rem (by omega) (by omega) (by omega) (by omega)] at h1
  exact ⟨⟨by omega, by omega, trivial⟩, trivial⟩
theorem k_inl {V : zVw} {i h m : Int} (C0 : 0 ≤ i) (C1 : 0 ≤ m - i - 1) (C2 : 0 ≤ 6 - m) (F0 : (0 : Int) ≤ i ∧ (i : Int) < j_len 87 ∧ V 87 (i) = h) : (True) ∧ (((0 ≤ m ∧ m ≤ 6) ∧ h ∈ o_l (V 87) m.toNat) ∧ True) := by
  exact ⟨trivial, ⟨⟨by omega, by omega⟩, (o_l_mem (V 87) m.toNat).mpr ⟨i, ⟨by omega, by omega⟩, F0.2.2⟩⟩, trivial⟩
theorem k_nil0 {V : zVw} {h : Int} : (True) ∧ (((0 ≤ (0 : Int) ∧ (0 : Int) ≤ 6) ∧ ∀ t : Int, 0 ≤ t → t < (0 : Int) → V 87 t ≠ h) ∧ True) := by
  exact ⟨trivial, ⟨⟨by omega, by omega⟩, fun t t0 t1 => absurd t1 (by omega)⟩, trivial⟩
theorem k_nilA {V : zVw} {i h u : Int} (T0 : (0 ≤ i ∧ i ≤ 6) ∧ ∀ t : Int, 0 ≤ t → t < i → V 87 t ≠ h) (C0 : 0 ≤ i) (C1 : 0 ≤ 5 - i) (C2 : 0 ≤ u - h - 1) (F0 : (0 : Int) ≤ i ∧ (i : Int) < j_len 87 ∧ V 87 (i) = u) : (True) ∧ (((0 ≤ (i + 1) ∧ (i + 1) ≤ 6) ∧ ∀ t : Int, 0 ≤ t → t < (i + 1) → V 87 t ≠ h) ∧ True) := by
  have f9 := F0.2.2
  exact ⟨trivial, ⟨⟨by omega, by omega⟩, fun t t0 t1 => by
    by_cases d : t = i
    · rw [d, f9]; omega
    · exact T0.2 t t0 (by omega)⟩, trivial⟩
theorem k_nilB {V : zVw} {i h u : Int} (T0 : (0 ≤ i ∧ i ≤ 6) ∧ ∀ t : Int, 0 ≤ t → t < i → V 87 t ≠ h) (C0 : 0 ≤ i) (C1 : 0 ≤ 5 - i) (C2 : 0 ≤ h - u - 1) (F0 : (0 : Int) ≤ i ∧ (i : Int) < j_len 87 ∧ V 87 (i) = u) : (True) ∧ (((0 ≤ (i + 1) ∧ (i + 1) ≤ 6) ∧ ∀ t : Int, 0 ≤ t → t < (i + 1) → V 87 t ≠ h) ∧ True) := by
  have f9 := F0.2.2
  exact ⟨trivial, ⟨⟨by omega, by omega⟩, fun t t0 t1 => by
    by_cases d : t = i
    · rw [d, f9]; omega
    · exact T0.2 t t0 (by omega)⟩, trivial⟩
theorem k_nilE {V : zVw} {i h m : Int} (T0 : (0 ≤ i ∧ i ≤ 6) ∧ ∀ t : Int, 0 ≤ t → t < i → V 87 t ≠ h) (C0 : 0 ≤ i - m) (C1 : 0 ≤ m - i) : (True) ∧ (((0 ≤ m ∧ m ≤ 6) ∧ ∀ t : Int, 0 ≤ t → t < m → V 87 t ≠ h) ∧ True) := by
  have e9 : i = m := by omega
  rw [e9] at T0
  exact ⟨trivial, T0, trivial⟩
theorem k_nxs0 {V : zVw} {x m q b s o a1 a2 a3 : Int} (T0 : q_lng V q b s o a1 a2 a3 (6 : Int)) (C0 : 0 ≤ x) (C1 : 0 ≤ 6 - x) (C2 : 0 ≤ m) (C3 : 0 ≤ 6 - m) : (True) ∧ (q_nxs (V 87) (g_F V q b s o a1 a2 a3 (g_nw V)) x m x ∧ True) := by
  exact ⟨trivial, ⟨⟨by omega, by omega, by omega⟩, fun j j0 j1 => absurd j1 (by omega)⟩, trivial⟩
theorem k_nxsL {V : zVw} {x m k g q b s o a1 a2 a3 : Int} (T0 : q_lng V q b s o a1 a2 a3 (6 : Int)) (T1 : q_nxs (V 87) (g_F V q b s o a1 a2 a3 (g_nw V)) x m k) (C0 : 0 ≤ x) (C1 : 0 ≤ k - x) (C2 : 0 ≤ 5 - k) (C3 : 0 ≤ -g) (F0 : (0 : Int) ≤ k ∧ (k : Int) < j_len 82 ∧ V 82 (k) = g) : (True) ∧ (q_nxs (V 87) (g_F V q b s o a1 a2 a3 (g_nw V)) x m (k + 1) ∧ True) := by
  have g9 := T0.2 k (by omega) (by omega)
  have f9 := F0.2.2
  rw [f9] at g9
  exact ⟨trivial, ⟨T1.1, fun j j0 j1 c => by
    by_cases d : j = k
    · rw [d] at c; have := c.1; omega
    · exact T1.2 j j0 (by omega) c⟩, trivial⟩
theorem k_nxsI {V : zVw} {x m k q b s o a1 a2 a3 : Int} (T0 : (0 ≤ m ∧ m ≤ 6) ∧ k ∈ o_l (V 87) m.toNat) (T1 : q_nxs (V 87) (g_F V q b s o a1 a2 a3 (g_nw V)) x m k) (C0 : 0 ≤ x) (C1 : 0 ≤ k - x) (C2 : 0 ≤ 5 - k) : (True) ∧ (q_nxs (V 87) (g_F V q b s o a1 a2 a3 (g_nw V)) x m (k + 1) ∧ True) := by
  exact ⟨trivial, ⟨T1.1, fun j j0 j1 c => by
    by_cases d : j = k
    · rw [d] at c; exact c.2 T0.2
    · exact T1.2 j j0 (by omega) c⟩, trivial⟩
theorem k_nxfY {V : zVw} {x m k g q b s o a1 a2 a3 : Int} (T0 : q_lng V q b s o a1 a2 a3 (6 : Int)) (T1 : (0 ≤ m ∧ m ≤ 6) ∧ ∀ t : Int, 0 ≤ t → t < m → V 87 t ≠ k) (T2 : q_nxs (V 87) (g_F V q b s o a1 a2 a3 (g_nw V)) x m k) (C0 : 0 ≤ x) (C1 : 0 ≤ k - x) (C2 : 0 ≤ 5 - k) (C3 : 0 ≤ g - 1) (F0 : (0 : Int) ≤ k ∧ (k : Int) < j_len 82 ∧ V 82 (k) = g) : (True) ∧ (q_nxf (V 87) (g_F V q b s o a1 a2 a3 (g_nw V)) x m k ∧ True) := by
  have g9 := T0.2 k (by omega) (by omega)
  have f9 := F0.2.2
  rw [f9] at g9
  exact ⟨trivial, ⟨T2.1, Or.inr ⟨⟨by omega, by omega⟩, ⟨by omega, fun c => by
    obtain ⟨i, i0, i1⟩ := (o_l_mem (V 87) m.toNat).mp c
    exact T1.2 i i0.1 (by have := T1.1; omega) i1⟩, fun j j0 j1 => T2.2 j j0 j1⟩⟩, trivial⟩
theorem k_nxfN {V : zVw} {x m k q b s o a1 a2 a3 : Int} (T0 : q_nxs (V 87) (g_F V q b s o a1 a2 a3 (g_nw V)) x m k) (C0 : 0 ≤ k - 6) : (True) ∧ (q_nxf (V 87) (g_F V q b s o a1 a2 a3 (g_nw V)) x m (-1 : Int) ∧ True) := by
  exact ⟨trivial, ⟨T0.1, Or.inl ⟨rfl, fun j j0 j1 => T0.2 j j0 (by omega)⟩⟩, trivial⟩
theorem k_posU {V : zVw} {k x m y r q b s o a1 a2 a3 : Int} (T0 : q_pos (V 87) (g_F V q b s o a1 a2 a3 (g_nw V)) k x (m + 1)) (T1 : q_nxf (V 87) (g_F V q b s o a1 a2 a3 (g_nw V)) x (m + 1) r) (C0 : 0 ≤ m) (C1 : 0 ≤ 5 - m) (C2 : 0 ≤ -r - 1) (F0 : (0 : Int) ≤ m ∧ (m : Int) < j_len 87 ∧ V 87 (m) = y) : (0 ≤ y ∧ 0 ≤ 5 - y ∧ True) ∧ (q_pos (V 87) (g_F V q b s o a1 a2 a3 (g_nw V)) k (y + 1) m ∧ True) := by
  have h9 := o_pos_u T0 T1 (by omega) C0 F0.2.2
  have h8 := h9.1
  exact ⟨⟨by omega, by omega, trivial⟩, h9.2, trivial⟩
theorem k_posY {V : zVw} {k x m h q b s o a1 a2 a3 : Int} (T0 : q_pos (V 87) (g_F V q b s o a1 a2 a3 (g_nw V)) k x m) (T1 : q_nxf (V 87) (g_F V q b s o a1 a2 a3 (g_nw V)) x m h) (C0 : 0 ≤ h) (C1 : 0 ≤ 5 - h) (C2 : 0 ≤ m) (C3 : 0 ≤ 5 - m) (F0 : (0 : Int) ≤ m ∧ (m : Int) < j_len 87 ∧ V 87 (m) = h) : (0 ≤ 335921 - k ∧ True) ∧ (q_pos (V 87) (g_F V q b s o a1 a2 a3 (g_nw V)) (k + 1) (0 : Int) (m + 1) ∧ q_cur (V 87) (g_F V q b s o a1 a2 a3 (g_nw V)) k (m + 1) ∧ True) := by
  have h9 := o_pos_y T0 T1 C0 (by omega) F0.2.2
  have h8 := h9.1
  exact ⟨⟨by omega, trivial⟩, h9.2.1, h9.2.2, trivial⟩
theorem k_posN {V : zVw} {k x m h q b s o a1 a2 a3 : Int} (T0 : q_pos (V 87) (g_F V q b s o a1 a2 a3 (g_nw V)) k x m) (T1 : q_nxf (V 87) (g_F V q b s o a1 a2 a3 (g_nw V)) x m h) (C0 : 0 ≤ -h - 1) (C1 : 0 ≤ m) (C2 : 0 ≤ -m) : (True) ∧ ((0 ≤ k ∧ (o_A (o_a (g_F V q b s o a1 a2 a3 (g_nw V)))).drop k.toNat = []) ∧ True) := by
  exact ⟨trivial, o_pos_n T0 T1 (by omega) (by omega), trivial⟩
theorem k_spl0 {V : zVw} {k m yy q b s o a1 a2 a3 : Int} (T0 : q_hld (V 86) (g_jy V q (g_F V q b s o a1 a2 a3 (g_nw V)) yy) (g_F V q b s o a1 a2 a3 (g_nw V)) (36 : Int)) (T1 : q_cur (V 87) (g_F V q b s o a1 a2 a3 (g_nw V)) k m) (C0 : 0 ≤ m - 1) (C1 : 0 ≤ 6 - m) : (True) ∧ (q_spl (V 87) V (g_jy V q (g_F V q b s o a1 a2 a3 (g_nw V)) yy) (g_F V q b s o a1 a2 a3 (g_nw V)) m (m - 1) (999 : Int) (0 : Int) ∧ True) := by
  exact ⟨trivial, o_spl0 (by omega) (by omega), trivial⟩
theorem k_curR {V : zVw} {k m i h q b s o a1 a2 a3 : Int} (T0 : q_cur (V 87) (g_F V q b s o a1 a2 a3 (g_nw V)) k m) (C0 : 0 ≤ i) (C1 : 0 ≤ m - i - 1) (C2 : 0 ≤ 6 - m) (F0 : (0 : Int) ≤ i ∧ (i : Int) < j_len 87 ∧ V 87 (i) = h) : (0 ≤ h ∧ 0 ≤ 5 - h ∧ True) ∧ (True) := by
  have h9 := (o_cur_ab T0 (i := i) (by omega) (by omega)).1
  rw [F0.2.2] at h9
  exact ⟨⟨by omega, by omega, trivial⟩, trivial⟩
theorem k_lgr {V : zVw} {h g q b s o a1 a2 a3 : Int} (T0 : q_lng V q b s o a1 a2 a3 (6 : Int)) (C0 : 0 ≤ h) (C1 : 0 ≤ 5 - h) (F0 : (0 : Int) ≤ h ∧ (h : Int) < j_len 82 ∧ V 82 (h) = g) : (0 ≤ g ∧ 0 ≤ 99 - g ∧ True) ∧ (True) := by
  obtain ⟨⟨H9, w9⟩, T8⟩ := T0
  have g9 := T8 h (by omega) (by omega)
  have a9 := g_ha_b w9 (h := h) (by omega) (by omega)
  have f9 := F0.2.2
  rw [f9] at g9
  exact ⟨⟨by omega, by omega, trivial⟩, trivial⟩
theorem k_sbr {V : zVw} {h g q b s o a1 a2 a3 : Int} (T0 : q_sta (V 83) (fun i_ => g_sg (V 20) (g_F V q b s o a1 a2 a3 (g_nw V)) i_) (g_ha (g_F V q b s o a1 a2 a3 (g_nw V))) (6 : Int)) (C0 : 0 ≤ h) (C1 : 0 ≤ 5 - h) (F0 : (0 : Int) ≤ h ∧ (h : Int) < j_len 83 ∧ V 83 (h) = g) : (0 ≤ g ∧ 0 ≤ 99 - g ∧ True) ∧ (True) := by
  have h9 := (T0 h (by omega) (by omega)).1
  rw [F0.2.2] at h9
  exact ⟨⟨by omega, by omega, trivial⟩, trivial⟩
theorem k_hbr {V : zVw} {k m i t h u yy q b s o a1 a2 a3 : Int} (T0 : q_hld (V 86) (g_jy V q (g_F V q b s o a1 a2 a3 (g_nw V)) yy) (g_F V q b s o a1 a2 a3 (g_nw V)) (36 : Int)) (T1 : q_cur (V 87) (g_F V q b s o a1 a2 a3 (g_nw V)) k m) (C0 : 0 ≤ i - 1) (C1 : 0 ≤ m - i - 1) (C2 : 0 ≤ 6 - m) (F0 : (0 : Int) ≤ i - 1 ∧ (i - 1 : Int) < j_len 87 ∧ V 87 (i - 1) = t) (F1 : (0 : Int) ≤ i ∧ (i : Int) < j_len 87 ∧ V 87 (i) = h) (F2 : (0 : Int) ≤ 6 * t + h ∧ (6 * t + h : Int) < j_len 86 ∧ V 86 (6 * t + h) = u) : (0 ≤ u ∧ 0 ≤ 999 - u ∧ True) ∧ (True) := by
  have p1 := o_cur_ab T1 (i := i - 1) (by omega) (by omega)
  have p2 := o_cur_ab T1 (i := i) (by omega) (by omega)
  have ne := o_cur_ne T1 (i := i) (by omega) (by omega)
  rw [F0.2.2] at p1 ne
  rw [F1.2.2] at p2 ne
  have j9 := o_hld36 T0 p1 p2 ne
  rw [F2.2.2] at j9
  have b9 := g_jy_b (v := V) (q := q) (A := (g_F V q b s o a1 a2 a3 (g_nw V))) (x := t) (y := h) (z := yy)
  rw [← j9] at b9
  exact ⟨⟨by omega, by omega, trivial⟩, trivial⟩
theorem k_spA {V : zVw} {m i e b_ h s_ g k yy q b s o a1 a2 a3 : Int} (T0 : q_lng V q b s o a1 a2 a3 (6 : Int)) (T1 : q_sta (V 83) (fun i_ => g_sg (V 20) (g_F V q b s o a1 a2 a3 (g_nw V)) i_) (g_ha (g_F V q b s o a1 a2 a3 (g_nw V))) (6 : Int)) (T2 : q_cur (V 87) (g_F V q b s o a1 a2 a3 (g_nw V)) k m) (T3 : q_spl (V 87) V (g_jy V q (g_F V q b s o a1 a2 a3 (g_nw V)) yy) (g_F V q b s o a1 a2 a3 (g_nw V)) m i e b_) (C0 : 0 ≤ i) (C1 : 0 ≤ m - i - 1) (C2 : 0 ≤ 6 - m) (C3 : 0 ≤ h) (C4 : 0 ≤ 5 - h) (C5 : 0 ≤ s_ - e - b_) (F0 : (0 : Int) ≤ i ∧ (i : Int) < j_len 87 ∧ V 87 (i) = h) (F1 : (0 : Int) ≤ h ∧ (h : Int) < j_len 83 ∧ V 83 (h) = s_) (F2 : (0 : Int) ≤ h ∧ (h : Int) < j_len 82 ∧ V 82 (h) = g) : (0 ≤ 594 - b_ - g ∧ True) ∧ (q_sp1 (V 87) V (g_jy V q (g_F V q b s o a1 a2 a3 (g_nw V)) yy) (g_F V q b s o a1 a2 a3 (g_nw V)) m i e (b_ + g) ∧ True) := by
  obtain ⟨⟨H9, w9⟩, l9⟩ := T0
  have p9 := o_cur_ab T2 (i := i) (by omega) (by omega)
  rw [F0.2.2] at p9
  have s9 := (T1 h (by omega) (by omega)).2 p9.2
  rw [F1.2.2] at s9
  have g9 := l9 h (by omega) (by omega)
  rw [F2.2.2] at g9
  have h9 := o_sp (e2 := e) w9 T2 T3 (by omega) F0.2.2 s9 g9 (by rw [if_neg (by omega)])
  have h8 := h9.1
  exact ⟨⟨by omega, trivial⟩, h9.2, trivial⟩
theorem k_spB {V : zVw} {m i e b_ h s_ g k yy q b s o a1 a2 a3 : Int} (T0 : q_lng V q b s o a1 a2 a3 (6 : Int)) (T1 : q_sta (V 83) (fun i_ => g_sg (V 20) (g_F V q b s o a1 a2 a3 (g_nw V)) i_) (g_ha (g_F V q b s o a1 a2 a3 (g_nw V))) (6 : Int)) (T2 : q_cur (V 87) (g_F V q b s o a1 a2 a3 (g_nw V)) k m) (T3 : q_spl (V 87) V (g_jy V q (g_F V q b s o a1 a2 a3 (g_nw V)) yy) (g_F V q b s o a1 a2 a3 (g_nw V)) m i e b_) (C0 : 0 ≤ i) (C1 : 0 ≤ m - i - 1) (C2 : 0 ≤ 6 - m) (C3 : 0 ≤ h) (C4 : 0 ≤ 5 - h) (C5 : 0 ≤ e + b_ - s_ - 1) (F0 : (0 : Int) ≤ i ∧ (i : Int) < j_len 87 ∧ V 87 (i) = h) (F1 : (0 : Int) ≤ h ∧ (h : Int) < j_len 83 ∧ V 83 (h) = s_) (F2 : (0 : Int) ≤ h ∧ (h : Int) < j_len 82 ∧ V 82 (h) = g) : (0 ≤ 594 - b_ - g ∧ True) ∧ (q_sp1 (V 87) V (g_jy V q (g_F V q b s o a1 a2 a3 (g_nw V)) yy) (g_F V q b s o a1 a2 a3 (g_nw V)) m i (s_ - b_) (b_ + g) ∧ True) := by
  obtain ⟨⟨H9, w9⟩, l9⟩ := T0
  have p9 := o_cur_ab T2 (i := i) (by omega) (by omega)
  rw [F0.2.2] at p9
  have s9 := (T1 h (by omega) (by omega)).2 p9.2
  rw [F1.2.2] at s9
  have g9 := l9 h (by omega) (by omega)
  rw [F2.2.2] at g9
  have h9 := o_sp (e2 := s_ - b_) w9 T2 T3 (by omega) F0.2.2 s9 g9 (by rw [if_pos (by omega)])
  have h8 := h9.1
  exact ⟨⟨by omega, trivial⟩, h9.2, trivial⟩
theorem k_spE {V : zVw} {m i e b_ yy q b s o a1 a2 a3 : Int} (T0 : q_sp1 (V 87) V (g_jy V q (g_F V q b s o a1 a2 a3 (g_nw V)) yy) (g_F V q b s o a1 a2 a3 (g_nw V)) m i e b_) (C0 : 0 ≤ i) (C1 : 0 ≤ -i) : (True) ∧ (q_spl (V 87) V (g_jy V q (g_F V q b s o a1 a2 a3 (g_nw V)) yy) (g_F V q b s o a1 a2 a3 (g_nw V)) m (-1 : Int) e b_ ∧ True) := by
  have e9 : i = 0 := by omega
  rw [e9] at T0
  exact ⟨trivial, o_spE T0, trivial⟩
theorem k_spK {V : zVw} {m i e b_ t h u k yy q b s o a1 a2 a3 : Int} (T0 : q_hld (V 86) (g_jy V q (g_F V q b s o a1 a2 a3 (g_nw V)) yy) (g_F V q b s o a1 a2 a3 (g_nw V)) (36 : Int)) (T1 : q_cur (V 87) (g_F V q b s o a1 a2 a3 (g_nw V)) k m) (T2 : q_sp1 (V 87) V (g_jy V q (g_F V q b s o a1 a2 a3 (g_nw V)) yy) (g_F V q b s o a1 a2 a3 (g_nw V)) m i e b_) (C0 : 0 ≤ i - 1) (C1 : 0 ≤ m - i - 1) (C2 : 0 ≤ 6 - m) (C3 : 0 ≤ u - e - b_) (F0 : (0 : Int) ≤ i - 1 ∧ (i - 1 : Int) < j_len 87 ∧ V 87 (i - 1) = t) (F1 : (0 : Int) ≤ i ∧ (i : Int) < j_len 87 ∧ V 87 (i) = h) (F2 : (0 : Int) ≤ 6 * t + h ∧ (6 * t + h : Int) < j_len 86 ∧ V 86 (6 * t + h) = u) : (True) ∧ (q_spl (V 87) V (g_jy V q (g_F V q b s o a1 a2 a3 (g_nw V)) yy) (g_F V q b s o a1 a2 a3 (g_nw V)) m (i - 1) e b_ ∧ True) := by
  have p1 := o_cur_ab T1 (i := i - 1) (by omega) (by omega)
  have p2 := o_cur_ab T1 (i := i) (by omega) (by omega)
  have ne := o_cur_ne T1 (i := i) (by omega) (by omega)
  rw [F0.2.2] at p1 ne
  rw [F1.2.2] at p2 ne
  have j9 := o_hld36 T0 p1 p2 ne
  rw [F2.2.2] at j9
  have j8 : u = g_jy V q (g_F V q b s o a1 a2 a3 (g_nw V)) yy (V 87 (i - 1)) (V 87 i) := by rw [F0.2.2, F1.2.2]; exact j9
  exact ⟨trivial, o_spJ (e2 := e) T2 (by omega) j8 (by rw [if_neg (by omega)]), trivial⟩
theorem k_spJ {V : zVw} {m i e b_ t h u k yy q b s o a1 a2 a3 : Int} (T0 : q_hld (V 86) (g_jy V q (g_F V q b s o a1 a2 a3 (g_nw V)) yy) (g_F V q b s o a1 a2 a3 (g_nw V)) (36 : Int)) (T1 : q_cur (V 87) (g_F V q b s o a1 a2 a3 (g_nw V)) k m) (T2 : q_sp1 (V 87) V (g_jy V q (g_F V q b s o a1 a2 a3 (g_nw V)) yy) (g_F V q b s o a1 a2 a3 (g_nw V)) m i e b_) (C0 : 0 ≤ i - 1) (C1 : 0 ≤ m - i - 1) (C2 : 0 ≤ 6 - m) (C3 : 0 ≤ e + b_ - u - 1) (F0 : (0 : Int) ≤ i - 1 ∧ (i - 1 : Int) < j_len 87 ∧ V 87 (i - 1) = t) (F1 : (0 : Int) ≤ i ∧ (i : Int) < j_len 87 ∧ V 87 (i) = h) (F2 : (0 : Int) ≤ 6 * t + h ∧ (6 * t + h : Int) < j_len 86 ∧ V 86 (6 * t + h) = u) : (True) ∧ (q_spl (V 87) V (g_jy V q (g_F V q b s o a1 a2 a3 (g_nw V)) yy) (g_F V q b s o a1 a2 a3 (g_nw V)) m (i - 1) (u - b_) b_ ∧ True) := by
  have p1 := o_cur_ab T1 (i := i - 1) (by omega) (by omega)
  have p2 := o_cur_ab T1 (i := i) (by omega) (by omega)
  have ne := o_cur_ne T1 (i := i) (by omega) (by omega)
  rw [F0.2.2] at p1 ne
  rw [F1.2.2] at p2 ne
  have j9 := o_hld36 T0 p1 p2 ne
  rw [F2.2.2] at j9
  have j8 : u = g_jy V q (g_F V q b s o a1 a2 a3 (g_nw V)) yy (V 87 (i - 1)) (V 87 i) := by rw [F0.2.2, F1.2.2]; exact j9
  exact ⟨trivial, o_spJ (e2 := u - b_) T2 (by omega) j8 (by rw [if_pos (by omega)]), trivial⟩
theorem k_orvW {V : zVw} {m i e b_ k l W y u yy q b s o a1 a2 a3 : Int} (T0 : q_spl (V 87) V (g_jy V q (g_F V q b s o a1 a2 a3 (g_nw V)) yy) (g_F V q b s o a1 a2 a3 (g_nw V)) m i e b_) (T1 : q_cur (V 87) (g_F V q b s o a1 a2 a3 (g_nw V)) k m) (T2 : 0 ≤ l ∧ l ≠ y ∧ V 61 l = W) (C0 : 0 ≤ i + 1) (C1 : 0 ≤ -i - 1) (C2 : 0 ≤ u - b_ - 1) (F0 : (0 : Int) ≤ l ∧ (l : Int) < j_len 61 ∧ V 61 (l) = u) : (True) ∧ (o_v V (g_jy V q (g_F V q b s o a1 a2 a3 (g_nw V)) yy) (g_F V q b s o a1 a2 a3 (g_nw V)) W k (-1 : Int) ∧ True) := by
  have e9 : i = -1 := by omega
  rw [e9] at T0
  have u9 : u = W := F0.2.2.symm.trans T2.2.2
  exact ⟨trivial, o_orvN T0 T1 (Or.inl (by omega)), trivial⟩
theorem k_orvE {V : zVw} {m i e b_ k l W y u yy q b s o a1 a2 a3 : Int} (T0 : q_spl (V 87) V (g_jy V q (g_F V q b s o a1 a2 a3 (g_nw V)) yy) (g_F V q b s o a1 a2 a3 (g_nw V)) m i e b_) (T1 : q_cur (V 87) (g_F V q b s o a1 a2 a3 (g_nw V)) k m) (T2 : 0 ≤ l ∧ l ≠ y ∧ V 61 l = W) (C0 : 0 ≤ i + 1) (C1 : 0 ≤ -i - 1) (C2 : 0 ≤ b_ - u) (C3 : 0 ≤ -e - 1) (F0 : (0 : Int) ≤ l ∧ (l : Int) < j_len 61 ∧ V 61 (l) = u) : (True) ∧ (o_v V (g_jy V q (g_F V q b s o a1 a2 a3 (g_nw V)) yy) (g_F V q b s o a1 a2 a3 (g_nw V)) W k (-1 : Int) ∧ True) := by
  have e9 : i = -1 := by omega
  rw [e9] at T0
  have u9 : u = W := F0.2.2.symm.trans T2.2.2
  exact ⟨trivial, o_orvN T0 T1 (Or.inr (by omega)), trivial⟩
theorem k_orvY {V : zVw} {m i e b_ k l W y u yy q b s o a1 a2 a3 : Int} (T0 : q_spl (V 87) V (g_jy V q (g_F V q b s o a1 a2 a3 (g_nw V)) yy) (g_F V q b s o a1 a2 a3 (g_nw V)) m i e b_) (T1 : q_cur (V 87) (g_F V q b s o a1 a2 a3 (g_nw V)) k m) (T2 : 0 ≤ l ∧ l ≠ y ∧ V 61 l = W) (C0 : 0 ≤ i + 1) (C1 : 0 ≤ -i - 1) (C2 : 0 ≤ b_ - u) (C3 : 0 ≤ e) (F0 : (0 : Int) ≤ l ∧ (l : Int) < j_len 61 ∧ V 61 (l) = u) : (True) ∧ (o_v V (g_jy V q (g_F V q b s o a1 a2 a3 (g_nw V)) yy) (g_F V q b s o a1 a2 a3 (g_nw V)) W k e ∧ True) := by
  have e9 : i = -1 := by omega
  rw [e9] at T0
  have u9 : u = W := F0.2.2.symm.trans T2.2.2
  exact ⟨trivial, o_orvY T0 T1 (by omega) (by omega), trivial⟩
theorem k_curP {V : zVw} {k m i h q b s o a1 a2 a3 : Int} (T0 : q_cur (V 87) (g_F V q b s o a1 a2 a3 (g_nw V)) k m) (C0 : 0 ≤ i - 1) (C1 : 0 ≤ m - i - 1) (C2 : 0 ≤ 6 - m) (F0 : (0 : Int) ≤ i - 1 ∧ (i - 1 : Int) < j_len 87 ∧ V 87 (i - 1) = h) : (0 ≤ h ∧ 0 ≤ 5 - h ∧ True) ∧ (True) := by
  have h9 := (o_cur_ab T0 (i := i - 1) (by omega) (by omega)).1
  rw [F0.2.2] at h9
  exact ⟨⟨by omega, by omega, trivial⟩, trivial⟩
theorem k_pos0 {V : zVw} {q b s o a1 a2 a3 : Int} (T0 : q_lng V q b s o a1 a2 a3 (6 : Int)) : (True) ∧ (q_pos (V 87) (g_F V q b s o a1 a2 a3 (g_nw V)) (0 : Int) (0 : Int) (0 : Int) ∧ True) := by
  exact ⟨trivial, ⟨⟨by omega, by omega, by omega⟩, ⟨List.nodup_nil, fun h hh => absurd (show h ∈ ([] : List Int) from hh) List.not_mem_nil⟩, rfl⟩, trivial⟩
theorem k_mpk0 {V : zVw} {l W y yy q b s o a1 a2 a3 : Int} (T0 : q_lng V q b s o a1 a2 a3 (6 : Int)) (T1 : q_hld (V 86) (g_jy V q (g_F V q b s o a1 a2 a3 (g_nw V)) yy) (g_F V q b s o a1 a2 a3 (g_nw V)) (36 : Int)) (T2 : 0 ≤ l ∧ l ≠ y ∧ V 61 l = W) : (True) ∧ (q_mpk V (g_jy V q (g_F V q b s o a1 a2 a3 (g_nw V)) yy) (g_F V q b s o a1 a2 a3 (g_nw V)) W (0 : Int) (-2 : Int) ∧ True) := by
  exact ⟨trivial, o_mpk0, trivial⟩
theorem k_mpkA {V : zVw} {W k v p_ yy q b s o a1 a2 a3 : Int} (T0 : o_v V (g_jy V q (g_F V q b s o a1 a2 a3 (g_nw V)) yy) (g_F V q b s o a1 a2 a3 (g_nw V)) W k v) (T1 : q_mpk V (g_jy V q (g_F V q b s o a1 a2 a3 (g_nw V)) yy) (g_F V q b s o a1 a2 a3 (g_nw V)) W k p_) (C0 : 0 ≤ v) (C1 : 0 ≤ v - p_ - 1) : (True) ∧ (q_mpk V (g_jy V q (g_F V q b s o a1 a2 a3 (g_nw V)) yy) (g_F V q b s o a1 a2 a3 (g_nw V)) W (k + 1) v ∧ True) := by
  exact ⟨trivial, (o_mpkS T0 T1).1 (by omega) (by omega), trivial⟩
theorem k_mpkB {V : zVw} {W k v p_ yy q b s o a1 a2 a3 : Int} (T0 : o_v V (g_jy V q (g_F V q b s o a1 a2 a3 (g_nw V)) yy) (g_F V q b s o a1 a2 a3 (g_nw V)) W k v) (T1 : q_mpk V (g_jy V q (g_F V q b s o a1 a2 a3 (g_nw V)) yy) (g_F V q b s o a1 a2 a3 (g_nw V)) W k p_) (C0 : 0 ≤ -v - 1) : (True) ∧ (q_mpk V (g_jy V q (g_F V q b s o a1 a2 a3 (g_nw V)) yy) (g_F V q b s o a1 a2 a3 (g_nw V)) W (k + 1) p_ ∧ True) := by
  exact ⟨trivial, (o_mpkS T0 T1).2 (Or.inl (by omega)), trivial⟩
theorem k_mpkC {V : zVw} {W k v p_ yy q b s o a1 a2 a3 : Int} (T0 : o_v V (g_jy V q (g_F V q b s o a1 a2 a3 (g_nw V)) yy) (g_F V q b s o a1 a2 a3 (g_nw V)) W k v) (T1 : q_mpk V (g_jy V q (g_F V q b s o a1 a2 a3 (g_nw V)) yy) (g_F V q b s o a1 a2 a3 (g_nw V)) W k p_) (C0 : 0 ≤ v) (C1 : 0 ≤ p_ - v) : (True) ∧ (q_mpk V (g_jy V q (g_F V q b s o a1 a2 a3 (g_nw V)) yy) (g_F V q b s o a1 a2 a3 (g_nw V)) W (k + 1) p_ ∧ True) := by
  exact ⟨trivial, (o_mpkS T0 T1).2 (Or.inr (by omega)), trivial⟩
theorem k_mpkE {V : zVw} {W k p_ yy q b s o a1 a2 a3 : Int} (T0 : q_lng V q b s o a1 a2 a3 (6 : Int)) (T1 : 0 ≤ k ∧ (o_A (o_a (g_F V q b s o a1 a2 a3 (g_nw V)))).drop k.toNat = []) (T2 : q_mpk V (g_jy V q (g_F V q b s o a1 a2 a3 (g_nw V)) yy) (g_F V q b s o a1 a2 a3 (g_nw V)) W k p_) : (True) ∧ (q_qry V (59 : Int) q b s o a1 a2 a3 W yy p_ ∧ True) := by
  have h9 := T2.2
  rw [o_don T1.2] at h9
  exact ⟨trivial, ⟨T0.1, g_Q59 h9⟩, trivial⟩
theorem k_moc0 {V : zVw} {w l W y q b s o a1 a2 a3 : Int} (T0 : q_lng V q b s o a1 a2 a3 (6 : Int)) (T1 : 0 ≤ l ∧ l ≠ y ∧ V 61 l = W) (C0 : 0 ≤ w) (C1 : 0 ≤ 999 - w) : (True) ∧ (q_moc V (g_jy V q (g_F V q b s o a1 a2 a3 (g_nw V)) 0) (g_F V q b s o a1 a2 a3 (g_nw V)) w W (0 : Int) (0 : Int) ∧ True) := by
  exact ⟨trivial, o_moc0, trivial⟩
theorem k_mocY {V : zVw} {w W k n v q b s o a1 a2 a3 : Int} (T0 : o_v V (g_jy V q (g_F V q b s o a1 a2 a3 (g_nw V)) (0 : Int)) (g_F V q b s o a1 a2 a3 (g_nw V)) W k v) (T1 : q_moc V (g_jy V q (g_F V q b s o a1 a2 a3 (g_nw V)) 0) (g_F V q b s o a1 a2 a3 (g_nw V)) w W k n) (C0 : 0 ≤ v - w) (C1 : 0 ≤ w) : (True) ∧ (q_moc V (g_jy V q (g_F V q b s o a1 a2 a3 (g_nw V)) 0) (g_F V q b s o a1 a2 a3 (g_nw V)) w W (k + 1) (n + 1) ∧ True) := by
  exact ⟨trivial, (o_mocS T0 T1 (by omega)).1 (by omega), trivial⟩
theorem k_mocN {V : zVw} {w W k n v q b s o a1 a2 a3 : Int} (T0 : o_v V (g_jy V q (g_F V q b s o a1 a2 a3 (g_nw V)) (0 : Int)) (g_F V q b s o a1 a2 a3 (g_nw V)) W k v) (T1 : q_moc V (g_jy V q (g_F V q b s o a1 a2 a3 (g_nw V)) 0) (g_F V q b s o a1 a2 a3 (g_nw V)) w W k n) (C0 : 0 ≤ w - v - 1) (C1 : 0 ≤ w) : (True) ∧ (q_moc V (g_jy V q (g_F V q b s o a1 a2 a3 (g_nw V)) 0) (g_F V q b s o a1 a2 a3 (g_nw V)) w W (k + 1) n ∧ True) := by
  exact ⟨trivial, (o_mocS T0 T1 (by omega)).2 (by omega), trivial⟩
theorem k_mocE {V : zVw} {w W k n q b s o a1 a2 a3 : Int} (T0 : q_lng V q b s o a1 a2 a3 (6 : Int)) (T1 : 0 ≤ k ∧ (o_A (o_a (g_F V q b s o a1 a2 a3 (g_nw V)))).drop k.toNat = []) (T2 : q_moc V (g_jy V q (g_F V q b s o a1 a2 a3 (g_nw V)) 0) (g_F V q b s o a1 a2 a3 (g_nw V)) w W k n) : (True) ∧ (q_qry V (58 : Int) q b s o a1 a2 a3 w W n ∧ True) := by
  have h9 := T2.2
  rw [o_don T1.2] at h9
  exact ⟨trivial, ⟨T0.1, g_Q58 h9⟩, trivial⟩
theorem k_mne0 {V : zVw} {w l W y q b s o a1 a2 a3 : Int} (T0 : q_lng V q b s o a1 a2 a3 (6 : Int)) (T1 : 0 ≤ l ∧ l ≠ y ∧ V 61 l = W) (C0 : 0 ≤ w) (C1 : 0 ≤ 999 - w) : (True) ∧ (q_mne V (g_jy V q (g_F V q b s o a1 a2 a3 (g_nw V)) 0) (g_F V q b s o a1 a2 a3 (g_nw V)) w W (0 : Int) (-1 : Int) ∧ True) := by
  exact ⟨trivial, o_mne0, trivial⟩
theorem k_mneN {V : zVw} {w W k i v q b s o a1 a2 a3 : Int} (T0 : o_v V (g_jy V q (g_F V q b s o a1 a2 a3 (g_nw V)) (0 : Int)) (g_F V q b s o a1 a2 a3 (g_nw V)) W k v) (T1 : q_mne V (g_jy V q (g_F V q b s o a1 a2 a3 (g_nw V)) 0) (g_F V q b s o a1 a2 a3 (g_nw V)) w W k i) (C0 : 0 ≤ w - v - 1) (C1 : 0 ≤ w) : (True) ∧ (q_mne V (g_jy V q (g_F V q b s o a1 a2 a3 (g_nw V)) 0) (g_F V q b s o a1 a2 a3 (g_nw V)) w W (k + 1) i ∧ True) := by
  exact ⟨trivial, o_mneN T0 T1 (by omega) (by omega), trivial⟩
theorem k_mneA {V : zVw} {w W k i v s_ m q b s o a1 a2 a3 : Int} (T0 : (0 ≤ m ∧ m ≤ 6) ∧ s_ = o_t (o_l (V 87) m.toNat)) (T1 : q_cur (V 87) (g_F V q b s o a1 a2 a3 (g_nw V)) k m) (T2 : o_v V (g_jy V q (g_F V q b s o a1 a2 a3 (g_nw V)) (0 : Int)) (g_F V q b s o a1 a2 a3 (g_nw V)) W k v) (T3 : q_mne V (g_jy V q (g_F V q b s o a1 a2 a3 (g_nw V)) 0) (g_F V q b s o a1 a2 a3 (g_nw V)) w W k i) (C0 : 0 ≤ v - w) (C1 : 0 ≤ w) (C2 : 0 ≤ -i - 1) : (True) ∧ (q_mne V (g_jy V q (g_F V q b s o a1 a2 a3 (g_nw V)) 0) (g_F V q b s o a1 a2 a3 (g_nw V)) w W (k + 1) s_ ∧ True) := by
  exact ⟨trivial, o_mneA T0.2 T1 T2 T3 (by omega) (by omega) (by omega), trivial⟩
theorem k_mneB {V : zVw} {w W k i v s_ m u q b s o a1 a2 a3 : Int} (T0 : (mOP 101 (Int32.ofInt i) (Int32.ofInt s_)).toInt = u) (T1 : (0 ≤ m ∧ m ≤ 6) ∧ s_ = o_t (o_l (V 87) m.toNat)) (T2 : q_cur (V 87) (g_F V q b s o a1 a2 a3 (g_nw V)) k m) (T3 : o_v V (g_jy V q (g_F V q b s o a1 a2 a3 (g_nw V)) (0 : Int)) (g_F V q b s o a1 a2 a3 (g_nw V)) W k v) (T4 : q_mne V (g_jy V q (g_F V q b s o a1 a2 a3 (g_nw V)) 0) (g_F V q b s o a1 a2 a3 (g_nw V)) w W k i) (C0 : 0 ≤ v - w) (C1 : 0 ≤ w) (C2 : 0 ≤ i) (C3 : 0 ≤ 63 - i) (C4 : 0 ≤ s_) (C5 : 0 ≤ 63 - s_) : (0 ≤ u ∧ 0 ≤ 63 - u ∧ True) ∧ (q_mne V (g_jy V q (g_F V q b s o a1 a2 a3 (g_nw V)) 0) (g_F V q b s o a1 a2 a3 (g_nw V)) w W (k + 1) u ∧ True) := by
  have h1 : g_op 101 i s_ = u := T0
  have h9 := o_mneB T1.2 T2 T3 T4 (by omega) (by omega) (by omega) h1
  have h8 := h9.1
  exact ⟨⟨by omega, by omega, trivial⟩, h9.2, trivial⟩
theorem k_mneE {V : zVw} {w W k i u q b s o a1 a2 a3 : Int} (T0 : q_lng V q b s o a1 a2 a3 (6 : Int)) (T1 : 0 ≤ k ∧ (o_A (o_a (g_F V q b s o a1 a2 a3 (g_nw V)))).drop k.toNat = []) (T2 : q_mne V (g_jy V q (g_F V q b s o a1 a2 a3 (g_nw V)) 0) (g_F V q b s o a1 a2 a3 (g_nw V)) w W k i) (C0 : 0 ≤ i) (C1 : 0 ≤ u - i) (C2 : 0 ≤ i - u) : (True) ∧ (q_qry V (60 : Int) q b s o a1 a2 a3 w W u ∧ True) := by
  have h9 := T2.2
  rw [o_don T1.2] at h9
  rw [show i = u by omega] at h9
  exact ⟨trivial, ⟨T0.1, g_Q60 (o_i_E h9 (by omega))⟩, trivial⟩
theorem k_mneF {V : zVw} {w W k i u q b s o a1 a2 a3 : Int} (T0 : q_lng V q b s o a1 a2 a3 (6 : Int)) (T1 : 0 ≤ k ∧ (o_A (o_a (g_F V q b s o a1 a2 a3 (g_nw V)))).drop k.toNat = []) (T2 : q_mne V (g_jy V q (g_F V q b s o a1 a2 a3 (g_nw V)) 0) (g_F V q b s o a1 a2 a3 (g_nw V)) w W k i) (C0 : 0 ≤ -i - 1) (C1 : 0 ≤ u + 2) (C2 : 0 ≤ -u - 2) : (True) ∧ (q_qry V (60 : Int) q b s o a1 a2 a3 w W (-2 : Int) ∧ True) := by
  have h9 := T2.2
  rw [o_don T1.2] at h9
  exact ⟨trivial, ⟨T0.1, g_Q60 (o_i_F h9 (by omega))⟩, trivial⟩
theorem k_mbs0 {V : zVw} {k m q b s o a1 a2 a3 : Int} (T0 : q_cur (V 87) (g_F V q b s o a1 a2 a3 (g_nw V)) k m) : (True) ∧ (((0 ≤ (0 : Int) ∧ (0 : Int) ≤ 6) ∧ (0 : Int) = o_t (o_l (V 87) (0 : Int).toNat)) ∧ True) := by
  exact ⟨trivial, ⟨⟨by omega, by omega⟩, rfl⟩, trivial⟩
theorem k_mbsS {V : zVw} {i h s_ n u k m q b s o a1 a2 a3 : Int} (T0 : (mOP 102 (Int32.ofInt s_) (Int32.ofInt n)).toInt = u) (T1 : (mOP 104 (Int32.ofInt (1 : Int)) (Int32.ofInt h)).toInt = n) (T2 : (0 ≤ i ∧ i ≤ 6) ∧ s_ = o_t (o_l (V 87) i.toNat)) (T3 : q_cur (V 87) (g_F V q b s o a1 a2 a3 (g_nw V)) k m) (C0 : 0 ≤ i) (C1 : 0 ≤ m - i - 1) (C2 : 0 ≤ 6 - m) (C3 : 0 ≤ s_) (C4 : 0 ≤ 63 - s_) (F0 : (0 : Int) ≤ i ∧ (i : Int) < j_len 87 ∧ V 87 (i) = h) : (0 ≤ u ∧ 0 ≤ 63 - u ∧ True) ∧ (((0 ≤ (i + 1) ∧ (i + 1) ≤ 6) ∧ u = o_t (o_l (V 87) (i + 1).toNat)) ∧ True) := by
  have h1 : g_op 104 1 h = n := T1
  have h2 : g_op 102 s_ n = u := T0
  have p9 := (o_cur_ab T3 (i := i) (by omega) (by omega)).1
  have f0 := F0.2.2
  rw [f0] at p9
  have o9 := r_or (x := s_) (i := h) (by omega) (by omega) (by omega) (by omega) h1 h2
  have o8 := o9.1
  exact ⟨⟨by omega, by omega, trivial⟩, ⟨⟨by omega, by omega⟩, by
    rw [o_l_s (by omega), f0]
    show u = g_op 102 (o_t (o_l (V 87) i.toNat)) (g_op 104 1 h)
    rw [← T2.2, h1, h2]⟩, trivial⟩
theorem k_qeOr {V : zVw} {q x u w y : Int} (T0 : q_qry V (58 : Int) q (0 : Int) (0 : Int) (0 : Int) (0 : Int) (0 : Int) (0 : Int) x y u) (T1 : q_qry V (58 : Int) q (0 : Int) (0 : Int) (0 : Int) (0 : Int) (0 : Int) (0 : Int) x y w) : (0 ≤ u - w ∧ 0 ≤ w - u ∧ True) ∧ (True) := by
  have h1 : u = _ := g_k58 T0
  have h2 : w = _ := g_k58 T1
  rw [← h2] at h1
  exact ⟨⟨by omega, by omega, trivial⟩, trivial⟩
theorem k_qePr {V : zVw} {q x u w : Int} (T0 : q_qry V (59 : Int) q (0 : Int) (0 : Int) (0 : Int) (0 : Int) (0 : Int) (0 : Int) x (0 : Int) u) (T1 : q_qry V (59 : Int) q (0 : Int) (0 : Int) (0 : Int) (0 : Int) (0 : Int) (0 : Int) x (0 : Int) w) : (0 ≤ u - w ∧ 0 ≤ w - u ∧ True) ∧ (True) := by
  have h1 := o_x_u (g_k59 T0) (g_k59 T1)
  exact ⟨⟨by omega, by omega, trivial⟩, trivial⟩
theorem k_qeNr {V : zVw} {q x u w y : Int} (T0 : q_qry V (60 : Int) q (0 : Int) (0 : Int) (0 : Int) (0 : Int) (0 : Int) (0 : Int) x y u) (T1 : q_qry V (60 : Int) q (0 : Int) (0 : Int) (0 : Int) (0 : Int) (0 : Int) (0 : Int) x y w) : (0 ≤ u - w ∧ 0 ≤ w - u ∧ True) ∧ (True) := by
  have h1 := o_i_u (g_k60 T0) (g_k60 T1)
  exact ⟨⟨by omega, by omega, trivial⟩, trivial⟩
theorem k_joQ9 {V : zVw} {h g r e0 e1 e2 e3 e4 e5 e6 e7 e8 q b s o a1 a2 a3 : Int} (T0 : q_plc V q (2 : Int) r (e_9 e0 e1 e2 e3 e4 e5 e6 e7 e8)) (T1 : q_qry V (8 : Int) q b s o a1 a2 a3 h (0 : Int) e0) (T2 : q_qry V (7 : Int) q b s o a1 a2 a3 h (0 : Int) e1) (T3 : q_qry V (8 : Int) q b s o a1 a2 a3 (31 : Int) (0 : Int) e3) (T4 : q_qry V (16 : Int) q b s o a1 a2 a3 h (0 : Int) e4) (T5 : q_qry V (8 : Int) q b s o a1 a2 a3 (24 : Int) (0 : Int) e6) (T6 : q_qry V (8 : Int) q b s o a1 a2 a3 (h + 18) (0 : Int) e7) (T7 : q_qry V (7 : Int) q b s o a1 a2 a3 g (0 : Int) e8) (C0 : 0 ≤ e5 - h) (C1 : 0 ≤ h - e5) (C2 : 0 ≤ h) (C3 : 0 ≤ 5 - h) (C4 : 0 ≤ g) (C5 : 0 ≤ 5 - g) (C6 : 0 ≤ e2 - 9) (C7 : 0 ≤ 9 - e2) : (True) ∧ (q_qry V (64 : Int) q b s o a1 a2 a3 h g r ∧ True) := by
  have z0 := g_k8 T1
  have z1 := g_k7 T2
  have z3 := g_k8 T3
  have z4 := g_k16 T4
  have z6 := g_k8 T5
  have z7 := g_k8 T6
  have z5 : e5 = h := by omega
  have z8 := g_k7 T7
  have z2 : e2 = 9 := by omega
  rw [show h + 18 = 18 + h by omega] at z7
  have h9 : e_C (V 21) (V 22) q (e_9 e0 e1 e2 e3 e4 e5 e6 e7 e8) 432 (V 23 2) [] = r := T0
  rw [z0, z1, z2, z3, z4, z5, z6, z7, z8] at h9
  exact ⟨trivial, g_qq T1 (g_Q64 h9.symm), trivial⟩
theorem k_lawU1n {V : zVw} {k h r u q b s o a1 a2 a3 : Int} (T0 : q_qry V (64 : Int) q b s o a1 a2 a3 k h r) (C0 : 0 ≤ r) (C1 : 0 ≤ 999 - r) (C2 : 0 ≤ u - r) (C3 : 0 ≤ r - u) : (True) ∧ (q_qry V (65 : Int) q b s o a1 a2 a3 k h u ∧ True) := by
  have h9 := g_k64 T0
  exact ⟨trivial, g_qq T0 (g_Q65 (show u = g_cl 999 _ by rw [← h9]; unfold g_cl; rw [if_neg (by omega), if_neg (by omega)]; omega)), trivial⟩
theorem k_lawU0n {V : zVw} {k h r u q b s o a1 a2 a3 : Int} (T0 : q_qry V (64 : Int) q b s o a1 a2 a3 k h r) (C0 : 0 ≤ -r - 1) (C1 : 0 ≤ u) (C2 : 0 ≤ -u) : (True) ∧ (q_qry V (65 : Int) q b s o a1 a2 a3 k h u ∧ True) := by
  have h9 := g_k64 T0
  exact ⟨trivial, g_qq T0 (g_Q65 (show u = g_cl 999 _ by rw [← h9]; unfold g_cl; rw [if_pos (by omega)]; omega)), trivial⟩
theorem k_lawU9n {V : zVw} {k h r u q b s o a1 a2 a3 : Int} (T0 : q_qry V (64 : Int) q b s o a1 a2 a3 k h r) (C0 : 0 ≤ r - 1000) (C1 : 0 ≤ u - 999) (C2 : 0 ≤ 999 - u) : (True) ∧ (q_qry V (65 : Int) q b s o a1 a2 a3 k h u ∧ True) := by
  have h9 := g_k64 T0
  exact ⟨trivial, g_qq T0 (g_Q65 (show u = g_cl 999 _ by rw [← h9]; unfold g_cl; rw [if_neg (by omega), if_pos (by omega)]; omega)), trivial⟩
theorem k_prw0 {V : zVw} {H p y d q b s o a1 a2 a3 : Int} (T0 : q_sto V 0 H p y d q b s o a1 a2 a3) : (True) ∧ (q_jrw (V 36) (g_j9 V q (g_F V q b s o a1 a2 a3 (g_nw V))) (g_F V q b s o a1 a2 a3 (g_nw V)) (0 : Int) (0 : Int) (0 : Int) ∧ True) := by
  exact ⟨trivial, ⟨⟨by omega, by omega, by omega, by omega⟩, fun i k c1 c2 c3 c4 => by
    have := c1.1
    have := c2.1
    omega⟩, trivial⟩
theorem k_prwY {V : zVw} {i j z u q b s o a1 a2 a3 : Int} (T0 : q_jrw (V 36) (g_j9 V q (g_F V q b s o a1 a2 a3 (g_nw V))) (g_F V q b s o a1 a2 a3 (g_nw V)) i j z) (T1 : q_qry V (65 : Int) q b s o a1 a2 a3 i j u) (C0 : 0 ≤ i) (C1 : 0 ≤ 5 - i) (C2 : 0 ≤ j) (C3 : 0 ≤ 5 - j) (C4 : 0 ≤ z - 6 * i - j) (C5 : 0 ≤ 6 * i + j - z) (F0 : (0 : Int) ≤ z ∧ (z : Int) < j_len 36 ∧ V 36 (z) = u) : (True) ∧ (q_jrw (V 36) (g_j9 V q (g_F V q b s o a1 a2 a3 (g_nw V))) (g_F V q b s o a1 a2 a3 (g_nw V)) i (j + 1) (z + 1) ∧ True) := by
  have u9 : u = g_j9 V q (g_F V q b s o a1 a2 a3 (g_nw V)) i j := g_k65 T1
  exact ⟨trivial, o_jrwS T0 (by omega) (Or.inl (F0.2.2.trans u9)), trivial⟩
theorem k_prwE {V : zVw} {i j z q b s o a1 a2 a3 : Int} (T0 : q_jrw (V 36) (g_j9 V q (g_F V q b s o a1 a2 a3 (g_nw V))) (g_F V q b s o a1 a2 a3 (g_nw V)) i j z) (C0 : 0 ≤ i) (C1 : 0 ≤ 5 - i) (C2 : 0 ≤ j) (C3 : 0 ≤ 5 - j) (C4 : 0 ≤ z - 6 * i - j) (C5 : 0 ≤ 6 * i + j - z) (C6 : 0 ≤ i - j) (C7 : 0 ≤ j - i) : (True) ∧ (q_jrw (V 36) (g_j9 V q (g_F V q b s o a1 a2 a3 (g_nw V))) (g_F V q b s o a1 a2 a3 (g_nw V)) i (j + 1) (z + 1) ∧ True) := by
  exact ⟨trivial, o_jrwS T0 (by omega) (Or.inr (Or.inl (by omega))), trivial⟩
theorem k_prwNi {V : zVw} {i j z a_ q b s o a1 a2 a3 : Int} (T0 : (0 ≤ a_ ∧ a_ < 64 ∧ 0 ≤ i ∧ i < 6) ∧ (((0 : Int) = 1 ∧ r_bit a_ i) ∨ ((0 : Int) = 0 ∧ ¬ r_bit a_ i))) (T1 : q_qry V (46 : Int) q b s o a1 a2 a3 (6 : Int) (0 : Int) a_) (T2 : q_jrw (V 36) (g_j9 V q (g_F V q b s o a1 a2 a3 (g_nw V))) (g_F V q b s o a1 a2 a3 (g_nw V)) i j z) (C0 : 0 ≤ i) (C1 : 0 ≤ 5 - i) (C2 : 0 ≤ j) (C3 : 0 ≤ 5 - j) (C4 : 0 ≤ z - 6 * i - j) (C5 : 0 ≤ 6 * i + j - z) : (True) ∧ (q_jrw (V 36) (g_j9 V q (g_F V q b s o a1 a2 a3 (g_nw V))) (g_F V q b s o a1 a2 a3 (g_nw V)) i (j + 1) (z + 1) ∧ True) := by
  have n9 : ¬ r_bit a_ i := by
    rcases T0.2 with c9 | c9
    · exact absurd c9.1 (by decide)
    · exact c9.2
  have e6 : a_ = g_ab (g_F V q b s o a1 a2 a3 (g_nw V)) 6 := g_k46 T1
  have m9 : ¬ o_ab (g_F V q b s o a1 a2 a3 (g_nw V)) i := fun c9 => n9 ((o_ab_bit e6 (by omega) (by omega)).mpr c9)
  exact ⟨trivial, o_jrwS T2 (by omega) (Or.inr (Or.inr (Or.inl m9))), trivial⟩
theorem k_prwNj {V : zVw} {i j z a_ q b s o a1 a2 a3 : Int} (T0 : (0 ≤ a_ ∧ a_ < 64 ∧ 0 ≤ j ∧ j < 6) ∧ (((0 : Int) = 1 ∧ r_bit a_ j) ∨ ((0 : Int) = 0 ∧ ¬ r_bit a_ j))) (T1 : q_qry V (46 : Int) q b s o a1 a2 a3 (6 : Int) (0 : Int) a_) (T2 : q_jrw (V 36) (g_j9 V q (g_F V q b s o a1 a2 a3 (g_nw V))) (g_F V q b s o a1 a2 a3 (g_nw V)) i j z) (C0 : 0 ≤ i) (C1 : 0 ≤ 5 - i) (C2 : 0 ≤ j) (C3 : 0 ≤ 5 - j) (C4 : 0 ≤ z - 6 * i - j) (C5 : 0 ≤ 6 * i + j - z) : (True) ∧ (q_jrw (V 36) (g_j9 V q (g_F V q b s o a1 a2 a3 (g_nw V))) (g_F V q b s o a1 a2 a3 (g_nw V)) i (j + 1) (z + 1) ∧ True) := by
  have n9 : ¬ r_bit a_ j := by
    rcases T0.2 with c9 | c9
    · exact absurd c9.1 (by decide)
    · exact c9.2
  have e6 : a_ = g_ab (g_F V q b s o a1 a2 a3 (g_nw V)) 6 := g_k46 T1
  have m9 : ¬ o_ab (g_F V q b s o a1 a2 a3 (g_nw V)) j := fun c9 => n9 ((o_ab_bit e6 (by omega) (by omega)).mpr c9)
  exact ⟨trivial, o_jrwS T2 (by omega) (Or.inr (Or.inr (Or.inr m9))), trivial⟩
theorem k_prwL {V : zVw} {i j z H p y d q b s o a1 a2 a3 : Int} (T0 : q_sto V 0 H p y d q b s o a1 a2 a3) (T1 : q_jrw (V 36) (g_j9 V q (g_F V q b s o a1 a2 a3 (g_nw V))) (g_F V q b s o a1 a2 a3 (g_nw V)) i j z) (C0 : 0 ≤ j - H) (C1 : 0 ≤ H - j) (C2 : 0 ≤ i) (C3 : 0 ≤ 5 - i) : (True) ∧ (q_jrw (V 36) (g_j9 V q (g_F V q b s o a1 a2 a3 (g_nw V))) (g_F V q b s o a1 a2 a3 (g_nw V)) (i + 1) (0 : Int) (6 * i + 6) ∧ True) := by
  exact ⟨trivial, o_jrwL T0.1.1 T1 (by omega), trivial⟩
theorem k_prwX {V : zVw} {i z H p y d q b s o a1 a2 a3 : Int} (T0 : q_sto V 0 H p y d q b s o a1 a2 a3) (T1 : q_jrw (V 36) (g_j9 V q (g_F V q b s o a1 a2 a3 (g_nw V))) (g_F V q b s o a1 a2 a3 (g_nw V)) i (0 : Int) z) (C0 : 0 ≤ i - H) (C1 : 0 ≤ H - i) (C2 : 0 ≤ z - 6 * i) (C3 : 0 ≤ 6 * i - z) : (True) ∧ (q_jrw (V 36) (g_j9 V q (g_F V q b s o a1 a2 a3 (g_nw V))) (g_F V q b s o a1 a2 a3 (g_nw V)) H (0 : Int) (6 * H) ∧ True) := by
  have e9 : i = H := by omega
  have z9 : z = 6 * H := by omega
  rw [e9, z9] at T1
  exact ⟨trivial, T1, trivial⟩
theorem k_d6k {V : zVw} {k g1 g2 : Int} (T0 : (mOP 107 (Int32.ofInt k) (Int32.ofInt (6 : Int))).toInt = g1) (T1 : (mOP 108 (Int32.ofInt k) (Int32.ofInt (6 : Int))).toInt = g2) (C0 : 0 ≤ k) (C1 : 0 ≤ 35 - k) : (0 ≤ g2 ∧ 0 ≤ 5 - g2 ∧ 0 ≤ k - 6 * g1 - g2 ∧ 0 ≤ 6 * g1 + g2 - k ∧ True) ∧ (True) := by
  have h1 : g_op 107 k 6 = g1 := T0
  have h2 : g_op 108 k 6 = g2 := T1
  rw [g_op_div (by omega) (by omega) (by omega) (by omega)] at h1
  rw [g_op_rem (by omega) (by omega) (by omega) (by omega)] at h2
  exact ⟨⟨by omega, by omega, by omega, by omega, trivial⟩, trivial⟩
theorem k_ipY {V : zVw} {k a g1 g2 : Int} (T0 : (mOP 107 (Int32.ofInt k) (Int32.ofInt (6 : Int))).toInt = g1) (T1 : (mOP 108 (Int32.ofInt k) (Int32.ofInt (6 : Int))).toInt = g2) (T2 : (0 ≤ a ∧ a < 64 ∧ 0 ≤ g1 ∧ g1 < 6) ∧ (((1 : Int) = 1 ∧ r_bit a g1) ∨ ((1 : Int) = 0 ∧ ¬ r_bit a g1))) (T3 : (0 ≤ a ∧ a < 64 ∧ 0 ≤ g2 ∧ g2 < 6) ∧ (((1 : Int) = 1 ∧ r_bit a g2) ∨ ((1 : Int) = 0 ∧ ¬ r_bit a g2))) (C0 : 0 ≤ k) (C1 : 0 ≤ 35 - k) (C2 : 0 ≤ g2 - g1 - 1) : (True) ∧ (q_pak a k g1 g2 ∧ True) := by
  have h1 : g_op 107 k 6 = g1 := T0
  have h2 : g_op 108 k 6 = g2 := T1
  rw [g_op_div (by omega) (by omega) (by omega) (by omega)] at h1
  rw [g_op_rem (by omega) (by omega) (by omega) (by omega)] at h2
  have b2 : r_bit a g1 := by
    rcases T2.2 with c9 | c9
    · exact c9.2
    · exact absurd c9.1 (by decide)
  have b3 : r_bit a g2 := by
    rcases T3.2 with c9 | c9
    · exact c9.2
    · exact absurd c9.1 (by decide)
  have a9 := T2.1
  exact ⟨trivial, ⟨⟨⟨by omega, by omega, by omega⟩, by omega, by omega⟩, by omega, b2, b3⟩, trivial⟩
theorem k_ipNa {V : zVw} {k g1 g2 a : Int} (T0 : (mOP 107 (Int32.ofInt k) (Int32.ofInt (6 : Int))).toInt = g1) (T1 : (mOP 108 (Int32.ofInt k) (Int32.ofInt (6 : Int))).toInt = g2) (C0 : 0 ≤ k) (C1 : 0 ≤ 35 - k) (C2 : 0 ≤ g1 - g2) : (True) ∧ (q_npk a k ∧ True) := by
  have h1 : g_op 107 k 6 = g1 := T0
  have h2 : g_op 108 k 6 = g2 := T1
  rw [g_op_div (by omega) (by omega) (by omega) (by omega)] at h1
  rw [g_op_rem (by omega) (by omega) (by omega) (by omega)] at h2
  exact ⟨trivial, fun t z t0 tz z6 b1 b2 e => by omega, trivial⟩
theorem k_ipNb {V : zVw} {k g1 g2 a : Int} (T0 : (mOP 107 (Int32.ofInt k) (Int32.ofInt (6 : Int))).toInt = g1) (T1 : (mOP 108 (Int32.ofInt k) (Int32.ofInt (6 : Int))).toInt = g2) (T2 : (0 ≤ a ∧ a < 64 ∧ 0 ≤ g1 ∧ g1 < 6) ∧ (((0 : Int) = 1 ∧ r_bit a g1) ∨ ((0 : Int) = 0 ∧ ¬ r_bit a g1))) (C0 : 0 ≤ k) (C1 : 0 ≤ 35 - k) : (True) ∧ (q_npk a k ∧ True) := by
  have h1 : g_op 107 k 6 = g1 := T0
  have h2 : g_op 108 k 6 = g2 := T1
  rw [g_op_div (by omega) (by omega) (by omega) (by omega)] at h1
  rw [g_op_rem (by omega) (by omega) (by omega) (by omega)] at h2
  have n9 : ¬ r_bit a g1 := by
    rcases T2.2 with c9 | c9
    · exact absurd c9.1 (by decide)
    · exact c9.2
  exact ⟨trivial, fun t z t0 tz z6 b1 b2 e => n9 (by rw [show g1 = t by omega]; exact b1), trivial⟩
theorem k_ipNc {V : zVw} {k g1 g2 a : Int} (T0 : (mOP 107 (Int32.ofInt k) (Int32.ofInt (6 : Int))).toInt = g1) (T1 : (mOP 108 (Int32.ofInt k) (Int32.ofInt (6 : Int))).toInt = g2) (T2 : (0 ≤ a ∧ a < 64 ∧ 0 ≤ g2 ∧ g2 < 6) ∧ (((0 : Int) = 1 ∧ r_bit a g2) ∨ ((0 : Int) = 0 ∧ ¬ r_bit a g2))) (C0 : 0 ≤ k) (C1 : 0 ≤ 35 - k) : (True) ∧ (q_npk a k ∧ True) := by
  have h1 : g_op 107 k 6 = g1 := T0
  have h2 : g_op 108 k 6 = g2 := T1
  rw [g_op_div (by omega) (by omega) (by omega) (by omega)] at h1
  rw [g_op_rem (by omega) (by omega) (by omega) (by omega)] at h2
  have n9 : ¬ r_bit a g2 := by
    rcases T2.2 with c9 | c9
    · exact absurd c9.1 (by decide)
    · exact c9.2
  exact ⟨trivial, fun t z t0 tz z6 b1 b2 e => n9 (by rw [show g2 = z by omega]; exact b2), trivial⟩
theorem k_xcv {V : zVw} {i a b_ e1 e2 e3 e4 q b s o a1 a2 a3 : Int} (T0 : q_xch (V 35) (V 36) (g_jo V q (g_F V q b s o a1 a2 a3 (g_nw V))) (g_j9 V q (g_F V q b s o a1 a2 a3 (g_nw V))) (g_F V q b s o a1 a2 a3 (g_nw V)) e1 e2 e3 e4) (C0 : 0 ≤ i) (C1 : 0 ≤ 35 - i) (F0 : (0 : Int) ≤ i ∧ (i : Int) < j_len 35 ∧ V 35 (i) = a) (F1 : (0 : Int) ≤ i ∧ (i : Int) < j_len 36 ∧ V 36 (i) = b_) : (True) ∧ (q_xcx (V 35) (V 36) (g_jo V q (g_F V q b s o a1 a2 a3 (g_nw V))) (g_j9 V q (g_F V q b s o a1 a2 a3 (g_nw V))) (g_F V q b s o a1 a2 a3 (g_nw V)) e1 e2 e3 e4 i ∧ q_xvl (g_jo V q (g_F V q b s o a1 a2 a3 (g_nw V))) (g_j9 V q (g_F V q b s o a1 a2 a3 (g_nw V))) (g_F V q b s o a1 a2 a3 (g_nw V)) e1 e2 e3 e4 i a b_ ∧ True) := by
  have h9 := o_xcv T0 F0.2.2 F1.2.2
  exact ⟨trivial, h9.1, h9.2, trivial⟩
theorem k_xcA0 {V : zVw} {i a b_ e2 e3 e4 q b s o a1 a2 a3 : Int} (T0 : q_xcx (V 35) (V 36) (g_jo V q (g_F V q b s o a1 a2 a3 (g_nw V))) (g_j9 V q (g_F V q b s o a1 a2 a3 (g_nw V))) (g_F V q b s o a1 a2 a3 (g_nw V)) (-1 : Int) e2 e3 e4 i) (T1 : q_xvl (g_jo V q (g_F V q b s o a1 a2 a3 (g_nw V))) (g_j9 V q (g_F V q b s o a1 a2 a3 (g_nw V))) (g_F V q b s o a1 a2 a3 (g_nw V)) (-1 : Int) e2 e3 e4 i a b_) (C0 : 0 ≤ i) (C1 : 0 ≤ 35 - i) (F0 : (0 : Int) ≤ i ∧ (i : Int) < j_len 35 ∧ V 35 (i) = b_) (F1 : (0 : Int) ≤ i ∧ (i : Int) < j_len 36 ∧ V 36 (i) = a) : (True) ∧ (q_xch (V 35) (V 36) (g_jo V q (g_F V q b s o a1 a2 a3 (g_nw V))) (g_j9 V q (g_F V q b s o a1 a2 a3 (g_nw V))) (g_F V q b s o a1 a2 a3 (g_nw V)) i e2 e3 e4 ∧ True) := by
  exact ⟨trivial, o_xcs T0 T1 F0.2.2 F1.2.2 (fun z z0 => o_od_A0 (by omega) z0), trivial⟩
theorem k_xcR0 {V : zVw} {i a b_ e2 e3 e4 q b s o a1 a2 a3 : Int} (T0 : q_xcx (V 35) (V 36) (g_jo V q (g_F V q b s o a1 a2 a3 (g_nw V))) (g_j9 V q (g_F V q b s o a1 a2 a3 (g_nw V))) (g_F V q b s o a1 a2 a3 (g_nw V)) i e2 e3 e4 i) (T1 : q_xvl (g_jo V q (g_F V q b s o a1 a2 a3 (g_nw V))) (g_j9 V q (g_F V q b s o a1 a2 a3 (g_nw V))) (g_F V q b s o a1 a2 a3 (g_nw V)) i e2 e3 e4 i a b_) (C0 : 0 ≤ i) (C1 : 0 ≤ 35 - i) (F0 : (0 : Int) ≤ i ∧ (i : Int) < j_len 35 ∧ V 35 (i) = b_) (F1 : (0 : Int) ≤ i ∧ (i : Int) < j_len 36 ∧ V 36 (i) = a) : (True) ∧ (q_xch (V 35) (V 36) (g_jo V q (g_F V q b s o a1 a2 a3 (g_nw V))) (g_j9 V q (g_F V q b s o a1 a2 a3 (g_nw V))) (g_F V q b s o a1 a2 a3 (g_nw V)) (-1 : Int) e2 e3 e4 ∧ True) := by
  exact ⟨trivial, o_xcs T0 T1 F0.2.2 F1.2.2 (fun z z0 => o_od_R (o_od_A0 (by omega) z0)), trivial⟩
theorem k_xcA1 {V : zVw} {i a b_ e1 e3 e4 q b s o a1 a2 a3 : Int} (T0 : q_xcx (V 35) (V 36) (g_jo V q (g_F V q b s o a1 a2 a3 (g_nw V))) (g_j9 V q (g_F V q b s o a1 a2 a3 (g_nw V))) (g_F V q b s o a1 a2 a3 (g_nw V)) e1 (-1 : Int) e3 e4 i) (T1 : q_xvl (g_jo V q (g_F V q b s o a1 a2 a3 (g_nw V))) (g_j9 V q (g_F V q b s o a1 a2 a3 (g_nw V))) (g_F V q b s o a1 a2 a3 (g_nw V)) e1 (-1 : Int) e3 e4 i a b_) (C0 : 0 ≤ i) (C1 : 0 ≤ 35 - i) (F0 : (0 : Int) ≤ i ∧ (i : Int) < j_len 35 ∧ V 35 (i) = b_) (F1 : (0 : Int) ≤ i ∧ (i : Int) < j_len 36 ∧ V 36 (i) = a) : (True) ∧ (q_xch (V 35) (V 36) (g_jo V q (g_F V q b s o a1 a2 a3 (g_nw V))) (g_j9 V q (g_F V q b s o a1 a2 a3 (g_nw V))) (g_F V q b s o a1 a2 a3 (g_nw V)) e1 i e3 e4 ∧ True) := by
  exact ⟨trivial, o_xcs T0 T1 F0.2.2 F1.2.2 (fun z z0 => o_od_A1 (by omega) z0), trivial⟩
theorem k_xcR1 {V : zVw} {i a b_ e1 e3 e4 q b s o a1 a2 a3 : Int} (T0 : q_xcx (V 35) (V 36) (g_jo V q (g_F V q b s o a1 a2 a3 (g_nw V))) (g_j9 V q (g_F V q b s o a1 a2 a3 (g_nw V))) (g_F V q b s o a1 a2 a3 (g_nw V)) e1 i e3 e4 i) (T1 : q_xvl (g_jo V q (g_F V q b s o a1 a2 a3 (g_nw V))) (g_j9 V q (g_F V q b s o a1 a2 a3 (g_nw V))) (g_F V q b s o a1 a2 a3 (g_nw V)) e1 i e3 e4 i a b_) (C0 : 0 ≤ i) (C1 : 0 ≤ 35 - i) (F0 : (0 : Int) ≤ i ∧ (i : Int) < j_len 35 ∧ V 35 (i) = b_) (F1 : (0 : Int) ≤ i ∧ (i : Int) < j_len 36 ∧ V 36 (i) = a) : (True) ∧ (q_xch (V 35) (V 36) (g_jo V q (g_F V q b s o a1 a2 a3 (g_nw V))) (g_j9 V q (g_F V q b s o a1 a2 a3 (g_nw V))) (g_F V q b s o a1 a2 a3 (g_nw V)) e1 (-1 : Int) e3 e4 ∧ True) := by
  exact ⟨trivial, o_xcs T0 T1 F0.2.2 F1.2.2 (fun z z0 => o_od_R (o_od_A1 (by omega) z0)), trivial⟩
theorem k_xcA2 {V : zVw} {i a b_ e1 e2 e4 q b s o a1 a2 a3 : Int} (T0 : q_xcx (V 35) (V 36) (g_jo V q (g_F V q b s o a1 a2 a3 (g_nw V))) (g_j9 V q (g_F V q b s o a1 a2 a3 (g_nw V))) (g_F V q b s o a1 a2 a3 (g_nw V)) e1 e2 (-1 : Int) e4 i) (T1 : q_xvl (g_jo V q (g_F V q b s o a1 a2 a3 (g_nw V))) (g_j9 V q (g_F V q b s o a1 a2 a3 (g_nw V))) (g_F V q b s o a1 a2 a3 (g_nw V)) e1 e2 (-1 : Int) e4 i a b_) (C0 : 0 ≤ i) (C1 : 0 ≤ 35 - i) (F0 : (0 : Int) ≤ i ∧ (i : Int) < j_len 35 ∧ V 35 (i) = b_) (F1 : (0 : Int) ≤ i ∧ (i : Int) < j_len 36 ∧ V 36 (i) = a) : (True) ∧ (q_xch (V 35) (V 36) (g_jo V q (g_F V q b s o a1 a2 a3 (g_nw V))) (g_j9 V q (g_F V q b s o a1 a2 a3 (g_nw V))) (g_F V q b s o a1 a2 a3 (g_nw V)) e1 e2 i e4 ∧ True) := by
  exact ⟨trivial, o_xcs T0 T1 F0.2.2 F1.2.2 (fun z z0 => o_od_A2 (by omega) z0), trivial⟩
theorem k_xcR2 {V : zVw} {i a b_ e1 e2 e4 q b s o a1 a2 a3 : Int} (T0 : q_xcx (V 35) (V 36) (g_jo V q (g_F V q b s o a1 a2 a3 (g_nw V))) (g_j9 V q (g_F V q b s o a1 a2 a3 (g_nw V))) (g_F V q b s o a1 a2 a3 (g_nw V)) e1 e2 i e4 i) (T1 : q_xvl (g_jo V q (g_F V q b s o a1 a2 a3 (g_nw V))) (g_j9 V q (g_F V q b s o a1 a2 a3 (g_nw V))) (g_F V q b s o a1 a2 a3 (g_nw V)) e1 e2 i e4 i a b_) (C0 : 0 ≤ i) (C1 : 0 ≤ 35 - i) (F0 : (0 : Int) ≤ i ∧ (i : Int) < j_len 35 ∧ V 35 (i) = b_) (F1 : (0 : Int) ≤ i ∧ (i : Int) < j_len 36 ∧ V 36 (i) = a) : (True) ∧ (q_xch (V 35) (V 36) (g_jo V q (g_F V q b s o a1 a2 a3 (g_nw V))) (g_j9 V q (g_F V q b s o a1 a2 a3 (g_nw V))) (g_F V q b s o a1 a2 a3 (g_nw V)) e1 e2 (-1 : Int) e4 ∧ True) := by
  exact ⟨trivial, o_xcs T0 T1 F0.2.2 F1.2.2 (fun z z0 => o_od_R (o_od_A2 (by omega) z0)), trivial⟩
theorem k_xcA3 {V : zVw} {i a b_ e1 e2 e3 q b s o a1 a2 a3 : Int} (T0 : q_xcx (V 35) (V 36) (g_jo V q (g_F V q b s o a1 a2 a3 (g_nw V))) (g_j9 V q (g_F V q b s o a1 a2 a3 (g_nw V))) (g_F V q b s o a1 a2 a3 (g_nw V)) e1 e2 e3 (-1 : Int) i) (T1 : q_xvl (g_jo V q (g_F V q b s o a1 a2 a3 (g_nw V))) (g_j9 V q (g_F V q b s o a1 a2 a3 (g_nw V))) (g_F V q b s o a1 a2 a3 (g_nw V)) e1 e2 e3 (-1 : Int) i a b_) (C0 : 0 ≤ i) (C1 : 0 ≤ 35 - i) (F0 : (0 : Int) ≤ i ∧ (i : Int) < j_len 35 ∧ V 35 (i) = b_) (F1 : (0 : Int) ≤ i ∧ (i : Int) < j_len 36 ∧ V 36 (i) = a) : (True) ∧ (q_xch (V 35) (V 36) (g_jo V q (g_F V q b s o a1 a2 a3 (g_nw V))) (g_j9 V q (g_F V q b s o a1 a2 a3 (g_nw V))) (g_F V q b s o a1 a2 a3 (g_nw V)) e1 e2 e3 i ∧ True) := by
  exact ⟨trivial, o_xcs T0 T1 F0.2.2 F1.2.2 (fun z z0 => o_od_A3 (by omega) z0), trivial⟩
theorem k_xcR3 {V : zVw} {i a b_ e1 e2 e3 q b s o a1 a2 a3 : Int} (T0 : q_xcx (V 35) (V 36) (g_jo V q (g_F V q b s o a1 a2 a3 (g_nw V))) (g_j9 V q (g_F V q b s o a1 a2 a3 (g_nw V))) (g_F V q b s o a1 a2 a3 (g_nw V)) e1 e2 e3 i i) (T1 : q_xvl (g_jo V q (g_F V q b s o a1 a2 a3 (g_nw V))) (g_j9 V q (g_F V q b s o a1 a2 a3 (g_nw V))) (g_F V q b s o a1 a2 a3 (g_nw V)) e1 e2 e3 i i a b_) (C0 : 0 ≤ i) (C1 : 0 ≤ 35 - i) (F0 : (0 : Int) ≤ i ∧ (i : Int) < j_len 35 ∧ V 35 (i) = b_) (F1 : (0 : Int) ≤ i ∧ (i : Int) < j_len 36 ∧ V 36 (i) = a) : (True) ∧ (q_xch (V 35) (V 36) (g_jo V q (g_F V q b s o a1 a2 a3 (g_nw V))) (g_j9 V q (g_F V q b s o a1 a2 a3 (g_nw V))) (g_F V q b s o a1 a2 a3 (g_nw V)) e1 e2 e3 (-1 : Int) ∧ True) := by
  exact ⟨trivial, o_xcs T0 T1 F0.2.2 F1.2.2 (fun z z0 => o_od_R (o_od_A3 (by omega) z0)), trivial⟩
theorem k_pkm {V : zVw} {k a lo hi g : Int} (T0 : (mOP 108 (Int32.ofInt k) (Int32.ofInt (6 : Int))).toInt = g) (T1 : q_pak a k lo hi) : (0 ≤ g - hi ∧ 0 ≤ hi - g ∧ True) ∧ (True) := by
  obtain ⟨⟨⟨p1, p2, p3⟩, -⟩, p4, -⟩ := T1
  have h1 : g_op 108 k 6 = g := T0
  rw [g_op_rem (by omega) (by omega) (by omega) (by omega)] at h1
  exact ⟨⟨by omega, by omega, trivial⟩, trivial⟩
theorem k_pkd {V : zVw} {k a lo hi g : Int} (T0 : (mOP 107 (Int32.ofInt k) (Int32.ofInt (6 : Int))).toInt = g) (T1 : q_pak a k lo hi) : (0 ≤ g - lo ∧ 0 ≤ lo - g ∧ True) ∧ (True) := by
  obtain ⟨⟨⟨p1, p2, p3⟩, -⟩, p4, -⟩ := T1
  have h1 : g_op 107 k 6 = g := T0
  rw [g_op_div (by omega) (by omega) (by omega) (by omega)] at h1
  exact ⟨⟨by omega, by omega, trivial⟩, trivial⟩
theorem k_xcs1 {V : zVw} {i e1 e2 e3 e4 q b s o a1 a2 a3 : Int} (T0 : q_xch (V 35) (V 36) (g_jo V q (g_F V q b s o a1 a2 a3 (g_nw V))) (g_j9 V q (g_F V q b s o a1 a2 a3 (g_nw V))) (g_F V q b s o a1 a2 a3 (g_nw V)) e1 e2 e3 e4) (C0 : 0 ≤ e2 - i) (C1 : 0 ≤ i - e2) : (True) ∧ (q_xch (V 35) (V 36) (g_jo V q (g_F V q b s o a1 a2 a3 (g_nw V))) (g_j9 V q (g_F V q b s o a1 a2 a3 (g_nw V))) (g_F V q b s o a1 a2 a3 (g_nw V)) e1 i e3 e4 ∧ True) := by
  have e9 : e2 = i := by omega
  rw [e9] at T0
  exact ⟨trivial, T0, trivial⟩
