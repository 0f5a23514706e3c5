/-! ===== the lemmas in plain numbers, by program ===== -/
theorem k_xcq1 {V : zVw} {k a lo hi e1 e2 e3 e4 q b s o a1 a2 a3 : Int} (T0 : q_pak a k lo hi) (T1 : q_xch (V 35) (V 36) (g_jo V q (g_F V q b s o a1 a2 a3 (g_nw V))) (g_j9 V q (g_F V q b s o a1 a2 a3 (g_nw V))) (g_F V q b s o a1 a2 a3 (g_nw V)) e1 e2 e3 e4) (C0 : 0 ≤ e2 - lo - 6 * hi) (C1 : 0 ≤ lo + 6 * hi - e2) : (True) ∧ (q_xch (V 35) (V 36) (g_jo V q (g_F V q b s o a1 a2 a3 (g_nw V))) (g_j9 V q (g_F V q b s o a1 a2 a3 (g_nw V))) (g_F V q b s o a1 a2 a3 (g_nw V)) e1 (lo + 6 * hi) e3 e4 ∧ True) := by
  have e9 : e2 = lo + 6 * hi := by omega
  rw [e9] at T1
  exact ⟨trivial, T1, trivial⟩
theorem k_xcs3 {V : zVw} {i e1 e2 e3 e4 q b s o a1 a2 a3 : Int} (T0 : q_xch (V 35) (V 36) (g_jo V q (g_F V q b s o a1 a2 a3 (g_nw V))) (g_j9 V q (g_F V q b s o a1 a2 a3 (g_nw V))) (g_F V q b s o a1 a2 a3 (g_nw V)) e1 e2 e3 e4) (C0 : 0 ≤ e4 - i) (C1 : 0 ≤ i - e4) : (True) ∧ (q_xch (V 35) (V 36) (g_jo V q (g_F V q b s o a1 a2 a3 (g_nw V))) (g_j9 V q (g_F V q b s o a1 a2 a3 (g_nw V))) (g_F V q b s o a1 a2 a3 (g_nw V)) e1 e2 e3 i ∧ True) := by
  have e9 : e4 = i := by omega
  rw [e9] at T0
  exact ⟨trivial, T0, trivial⟩
theorem k_xcq3 {V : zVw} {k a lo hi e1 e2 e3 e4 q b s o a1 a2 a3 : Int} (T0 : q_pak a k lo hi) (T1 : q_xch (V 35) (V 36) (g_jo V q (g_F V q b s o a1 a2 a3 (g_nw V))) (g_j9 V q (g_F V q b s o a1 a2 a3 (g_nw V))) (g_F V q b s o a1 a2 a3 (g_nw V)) e1 e2 e3 e4) (C0 : 0 ≤ e4 - lo - 6 * hi) (C1 : 0 ≤ lo + 6 * hi - e4) : (True) ∧ (q_xch (V 35) (V 36) (g_jo V q (g_F V q b s o a1 a2 a3 (g_nw V))) (g_j9 V q (g_F V q b s o a1 a2 a3 (g_nw V))) (g_F V q b s o a1 a2 a3 (g_nw V)) e1 e2 e3 (lo + 6 * hi) ∧ True) := by
  have e9 : e4 = lo + 6 * hi := by omega
  rw [e9] at T1
  exact ⟨trivial, T1, trivial⟩
theorem k_pkt {V : zVw} {k a lo hi g h i : Int} (T0 : (mOP 107 (Int32.ofInt k) (Int32.ofInt (6 : Int))).toInt = g) (T1 : (mOP 108 (Int32.ofInt k) (Int32.ofInt (6 : Int))).toInt = h) (T2 : q_pak a k lo hi) (C0 : 0 ≤ i - g - 6 * h) (C1 : 0 ≤ g + 6 * h - i) : (0 ≤ i - lo - 6 * hi ∧ 0 ≤ lo + 6 * hi - i ∧ True) ∧ (True) := by
  obtain ⟨⟨⟨p1, p2, p3⟩, -⟩, p4, -⟩ := T2
  have h1 : g_op 107 k 6 = g := T0
  have h2 : g_op 108 k 6 = h := T1
  rw [g_op_div (by omega) (by omega) (by omega) (by omega)] at h1
  rw [g_op_rem (by omega) (by omega) (by omega) (by omega)] at h2
  exact ⟨⟨by omega, by omega, trivial⟩, trivial⟩
theorem k_hoY {V : zVw} {w W a_ r p_ i H z n yy p y d q b s o a1 a2 a3 : Int} (T0 : q_sto V 0 H p y d q b s o a1 a2 a3) (T1 : q_not (V 40) (V 34) (o_J (V 35)) w W a_ (384 : Int) r p_ i) (T2 : q_dpt (V 37) (V 38) (V 40) (V 34) (o_J (V 35)) w a_ (384 : Int)) (T3 : q_sts (V 34) (fun i_ => g_sg (V 20) (g_F V q b s o a1 a2 a3 (g_nw V)) i_) H) (T4 : q_jrw (V 35) (g_jy V q (g_F V q b s o a1 a2 a3 (g_nw V)) yy) (g_F V q b s o a1 a2 a3 (g_nw V)) H (0 : Int) z) (T5 : q_smp V q b s o a1 a2 a3 n) (T6 : (mOP 104 (Int32.ofInt (1 : Int)) (Int32.ofInt H)).toInt = n) (T7 : q_qry V (46 : Int) q b s o a1 a2 a3 (6 : Int) (0 : Int) a_) (C0 : 0 ≤ r - 1) (C1 : 0 ≤ H) (C2 : 0 ≤ 6 - H) : (True) ∧ (o_E V (g_jy V q (g_F V q b s o a1 a2 a3 (g_nw V)) yy) (g_F V q b s o a1 a2 a3 (g_nw V)) w W ∧ True) := by
  have h1 : g_op 104 1 H = n := T6
  have e6 : a_ = g_ab (g_F V q b s o a1 a2 a3 (g_nw V)) 6 := g_k46 T7
  have g9 := o_agr_mk T0.1.1 (by omega) (by omega) T3 T4 T5.2.2 h1 e6
  exact ⟨trivial, o_E_Y g9 T1 (by omega), trivial⟩
theorem k_hoN {V : zVw} {w W a_ r p_ i H z n yy p y d q b s o a1 a2 a3 : Int} (T0 : q_sto V 0 H p y d q b s o a1 a2 a3) (T1 : q_not (V 40) (V 34) (o_J (V 35)) w W a_ (384 : Int) r p_ i) (T2 : q_dpt (V 37) (V 38) (V 40) (V 34) (o_J (V 35)) w a_ (384 : Int)) (T3 : q_sts (V 34) (fun i_ => g_sg (V 20) (g_F V q b s o a1 a2 a3 (g_nw V)) i_) H) (T4 : q_jrw (V 35) (g_jy V q (g_F V q b s o a1 a2 a3 (g_nw V)) yy) (g_F V q b s o a1 a2 a3 (g_nw V)) H (0 : Int) z) (T5 : q_smp V q b s o a1 a2 a3 n) (T6 : (mOP 104 (Int32.ofInt (1 : Int)) (Int32.ofInt H)).toInt = n) (T7 : q_qry V (46 : Int) q b s o a1 a2 a3 (6 : Int) (0 : Int) a_) (C0 : 0 ≤ -r) (C1 : 0 ≤ H) (C2 : 0 ≤ 6 - H) : (True) ∧ (¬ o_E V (g_jy V q (g_F V q b s o a1 a2 a3 (g_nw V)) yy) (g_F V q b s o a1 a2 a3 (g_nw V)) w W ∧ True) := by
  have h1 : g_op 104 1 H = n := T6
  have e6 : a_ = g_ab (g_F V q b s o a1 a2 a3 (g_nw V)) 6 := g_k46 T7
  have g9 := o_agr_mk T0.1.1 (by omega) (by omega) T3 T4 T5.2.2 h1 e6
  exact ⟨trivial, o_E_N g9 T1 (by omega), trivial⟩
theorem k_xjS {V : zVw} {k k2 lo hi a_ H p y d q b s o a1 a2 a3 : Int} (T0 : q_pak a_ k lo hi) (T1 : q_qry V (46 : Int) q b s o a1 a2 a3 (6 : Int) (0 : Int) a_) (T2 : q_sto V 0 H p y d q b s o a1 a2 a3) (T3 : q_xch (V 35) (V 36) (g_jo V q (g_F V q b s o a1 a2 a3 (g_nw V))) (g_j9 V q (g_F V q b s o a1 a2 a3 (g_nw V))) (g_F V q b s o a1 a2 a3 (g_nw V)) k k2 (-1 : Int) (-1 : Int)) (C0 : 0 ≤ k2 - lo - 6 * hi) (C1 : 0 ≤ lo + 6 * hi - k2) (C2 : 0 ≤ H) (C3 : 0 ≤ 6 - H) : (True) ∧ (q_jrw (V 35) (g_jy V q (g_F V q b s o a1 a2 a3 (g_nw V)) (10 * lo + hi + 1)) (g_F V q b s o a1 a2 a3 (g_nw V)) H (0 : Int) (6 * H) ∧ True) := by
  have e6 : a_ = g_ab (g_F V q b s o a1 a2 a3 (g_nw V)) 6 := g_k46 T1
  exact ⟨trivial, o_xjS e6 T0 T3 (by omega) (by omega), trivial⟩
theorem k_xjD {V : zVw} {k k2 lo hi l l2 lo2 hi2 a_ H p y d q b s o a1 a2 a3 : Int} (T0 : q_pak a_ k lo hi) (T1 : q_pak a_ l lo2 hi2) (T2 : q_qry V (46 : Int) q b s o a1 a2 a3 (6 : Int) (0 : Int) a_) (T3 : q_sto V 0 H p y d q b s o a1 a2 a3) (T4 : q_xch (V 35) (V 36) (g_jo V q (g_F V q b s o a1 a2 a3 (g_nw V))) (g_j9 V q (g_F V q b s o a1 a2 a3 (g_nw V))) (g_F V q b s o a1 a2 a3 (g_nw V)) k k2 l l2) (C0 : 0 ≤ k2 - lo - 6 * hi) (C1 : 0 ≤ lo + 6 * hi - k2) (C2 : 0 ≤ l2 - lo2 - 6 * hi2) (C3 : 0 ≤ lo2 + 6 * hi2 - l2) (C4 : 0 ≤ l - k - 1) (C5 : 0 ≤ H) (C6 : 0 ≤ 6 - H) : (True) ∧ (q_jrw (V 35) (g_jy V q (g_F V q b s o a1 a2 a3 (g_nw V)) (10 * lo + hi + 1000 * lo2 + 100 * hi2 + 101)) (g_F V q b s o a1 a2 a3 (g_nw V)) H (0 : Int) (6 * H) ∧ True) := by
  have e6 : a_ = g_ab (g_F V q b s o a1 a2 a3 (g_nw V)) 6 := g_k46 T2
  exact ⟨trivial, o_xjD e6 T0 T1 T4 (by omega) (by omega) (by omega) (by omega), trivial⟩
theorem k_pka {V : zVw} {k a lo hi g h r : Int} (T0 : (mOP 107 (Int32.ofInt k) (Int32.ofInt (6 : Int))).toInt = g) (T1 : (mOP 108 (Int32.ofInt k) (Int32.ofInt (6 : Int))).toInt = h) (T2 : q_pak a k lo hi) (C0 : 0 ≤ r - 10 * g - h) (C1 : 0 ≤ 10 * g + h - r) : (0 ≤ r - 10 * lo - hi ∧ 0 ≤ 10 * lo + hi - r ∧ True) ∧ (True) := by
  obtain ⟨⟨⟨p1, p2, p3⟩, -⟩, p4, -⟩ := T2
  have h1 : g_op 107 k 6 = g := T0
  have h2 : g_op 108 k 6 = h := T1
  rw [g_op_div (by omega) (by omega) (by omega) (by omega)] at h1
  rw [g_op_rem (by omega) (by omega) (by omega) (by omega)] at h2
  exact ⟨⟨by omega, by omega, trivial⟩, trivial⟩
theorem k_pcA0 {V : zVw} {v w W H p y d q b s o a1 a2 a3 : Int} (T0 : o_E V (g_jy V q (g_F V q b s o a1 a2 a3 (g_nw V)) (0 : Int)) (g_F V q b s o a1 a2 a3 (g_nw V)) w W) (T1 : q_sto V 0 H p y d q b s o a1 a2 a3) (C0 : 0 ≤ v) (C1 : 0 ≤ -v) (C2 : 0 ≤ w) (C3 : 0 ≤ 999 - w) : (True) ∧ (q_qry V (63 : Int) q b s o a1 a2 a3 (1000 * v + w) W (0 : Int) ∧ True) := by
  exact ⟨trivial, g_qs T1 (g_Qpc (by omega) (by omega) (by omega) (Or.inl ⟨T0, (o_pn0 (by omega)).symm⟩)), trivial⟩
theorem k_pcA1 {V : zVw} {v w W H p y d q b s o a1 a2 a3 : Int} (T0 : o_E V (g_jy V q (g_F V q b s o a1 a2 a3 (g_nw V)) (0 : Int)) (g_F V q b s o a1 a2 a3 (g_nw V)) w W) (T1 : q_sto V 0 H p y d q b s o a1 a2 a3) (C0 : 0 ≤ v - 1) (C1 : 0 ≤ 2 - v) (C2 : 0 ≤ w) (C3 : 0 ≤ 999 - w) : (True) ∧ (q_qry V (63 : Int) q b s o a1 a2 a3 (1000 * v + w) W (-1 : Int) ∧ True) := by
  exact ⟨trivial, g_qs T1 (g_Qpc (by omega) (by omega) (by omega) (Or.inl ⟨T0, (by
    rcases (show v = 1 ∨ 2 ≤ v by omega) with h | h
    · exact (o_pn1 h).symm
    · exact (o_pn2 h).symm)⟩)), trivial⟩
theorem k_xc0 {V : zVw} {H z w W p y d q b s o a1 a2 a3 : Int} (T0 : q_sto V 0 H p y d q b s o a1 a2 a3) (T1 : q_jrw (V 35) (g_jy V q (g_F V q b s o a1 a2 a3 (g_nw V)) (0 : Int)) (g_F V q b s o a1 a2 a3 (g_nw V)) H (0 : Int) z) (T2 : q_jrw (V 36) (g_j9 V q (g_F V q b s o a1 a2 a3 (g_nw V))) (g_F V q b s o a1 a2 a3 (g_nw V)) H (0 : Int) z) (T3 : ¬ o_E V (g_jy V q (g_F V q b s o a1 a2 a3 (g_nw V)) (0 : Int)) (g_F V q b s o a1 a2 a3 (g_nw V)) w W) : (True) ∧ (q_xch (V 35) (V 36) (g_jo V q (g_F V q b s o a1 a2 a3 (g_nw V))) (g_j9 V q (g_F V q b s o a1 a2 a3 (g_nw V))) (g_F V q b s o a1 a2 a3 (g_nw V)) (-1 : Int) (-1 : Int) (-1 : Int) (-1 : Int) ∧ o_k1 V (g_F V q b s o a1 a2 a3 (g_nw V)) (g_jy V q (g_F V q b s o a1 a2 a3 (g_nw V))) w W (0 : Int) ∧ True) := by
  exact ⟨trivial, o_xc0 T1 T2 (fun t k a b => g_jy0 a.1.1 b.1.1) (fun t a => o_ab_H T0.1.1 a), o_k1_0, trivial⟩
theorem k_pk1N {V : zVw} {k a_ w W q b s o a1 a2 a3 : Int} (T0 : q_npk a_ k) (T1 : q_qry V (46 : Int) q b s o a1 a2 a3 (6 : Int) (0 : Int) a_) (T2 : o_k1 V (g_F V q b s o a1 a2 a3 (g_nw V)) (g_jy V q (g_F V q b s o a1 a2 a3 (g_nw V))) w W k) (C0 : 0 ≤ k) : (True) ∧ (o_k1 V (g_F V q b s o a1 a2 a3 (g_nw V)) (g_jy V q (g_F V q b s o a1 a2 a3 (g_nw V))) w W (k + 1) ∧ True) := by
  have e6 : a_ = g_ab (g_F V q b s o a1 a2 a3 (g_nw V)) 6 := g_k46 T1
  exact ⟨trivial, o_k1_S T2 (fun t z p1 p2 g e => absurd e (o_npk e6 T0 p1 p2 g)), trivial⟩
theorem k_pk1H {V : zVw} {k a_ lo hi y w W q b s o a1 a2 a3 : Int} (T0 : q_pak a_ k lo hi) (T1 : o_k1 V (g_F V q b s o a1 a2 a3 (g_nw V)) (g_jy V q (g_F V q b s o a1 a2 a3 (g_nw V))) w W k) (T2 : ¬ o_E V (g_jy V q (g_F V q b s o a1 a2 a3 (g_nw V)) y) (g_F V q b s o a1 a2 a3 (g_nw V)) w W) (C0 : 0 ≤ k) (C1 : 0 ≤ y - 10 * lo - hi - 1) (C2 : 0 ≤ 10 * lo + hi - y + 1) : (True) ∧ (o_k1 V (g_F V q b s o a1 a2 a3 (g_nw V)) (g_jy V q (g_F V q b s o a1 a2 a3 (g_nw V))) w W (k + 1) ∧ True) := by
  obtain ⟨⟨⟨p1, p2, p3⟩, -⟩, p4, -⟩ := T0
  exact ⟨trivial, o_k1_S T1 (fun t z q1 q2 g e => by
    have a9 := q1.1
    have b9 := q2.1
    rw [show 10 * t + z + 1 = y by omega]
    exact T2), trivial⟩
theorem k_ph1 {V : zVw} {k a_ lo hi y w W q b s o a1 a2 a3 : Int} (T0 : q_pak a_ k lo hi) (T1 : q_qry V (46 : Int) q b s o a1 a2 a3 (6 : Int) (0 : Int) a_) (T2 : o_k1 V (g_F V q b s o a1 a2 a3 (g_nw V)) (g_jy V q (g_F V q b s o a1 a2 a3 (g_nw V))) w W k) (T3 : o_E V (g_jy V q (g_F V q b s o a1 a2 a3 (g_nw V)) y) (g_F V q b s o a1 a2 a3 (g_nw V)) w W) (T4 : ¬ o_E V (g_jy V q (g_F V q b s o a1 a2 a3 (g_nw V)) (0 : Int)) (g_F V q b s o a1 a2 a3 (g_nw V)) w W) (C0 : 0 ≤ k) (C1 : 0 ≤ y - 10 * lo - hi - 1) (C2 : 0 ≤ 10 * lo + hi - y + 1) : (True) ∧ ((¬ o_E V (g_jy V q (g_F V q b s o a1 a2 a3 (g_nw V)) 0) (g_F V q b s o a1 a2 a3 (g_nw V)) w W ∧ o_f1 V (g_F V q b s o a1 a2 a3 (g_nw V)) (g_jy V q (g_F V q b s o a1 a2 a3 (g_nw V))) w W (10 * lo + hi)) ∧ True) := by
  have e6 : a_ = g_ab (g_F V q b s o a1 a2 a3 (g_nw V)) 6 := g_k46 T1
  exact ⟨trivial, ⟨T4, o_f1_k e6 T0 T2 (by omega) T3⟩, trivial⟩
theorem k_pk20 {V : zVw} {k w W q b s o a1 a2 a3 : Int} (T0 : o_k1 V (g_F V q b s o a1 a2 a3 (g_nw V)) (g_jy V q (g_F V q b s o a1 a2 a3 (g_nw V))) w W k) (C0 : 0 ≤ k - 36) : (True) ∧ (o_k1 V (g_F V q b s o a1 a2 a3 (g_nw V)) (g_jy V q (g_F V q b s o a1 a2 a3 (g_nw V))) w W (36 : Int) ∧ o_k2 V (g_F V q b s o a1 a2 a3 (g_nw V)) (g_jy V q (g_F V q b s o a1 a2 a3 (g_nw V))) w W (0 : Int) (0 : Int) ∧ True) := by
  exact ⟨trivial, o_k1_36 T0 (by omega), o_k2_0, trivial⟩
theorem k_pk2e {V : zVw} {k w W q b s o a1 a2 a3 : Int} (T0 : o_k2 V (g_F V q b s o a1 a2 a3 (g_nw V)) (g_jy V q (g_F V q b s o a1 a2 a3 (g_nw V))) w W k (0 : Int)) (C0 : 0 ≤ k) : (True) ∧ (o_k2 V (g_F V q b s o a1 a2 a3 (g_nw V)) (g_jy V q (g_F V q b s o a1 a2 a3 (g_nw V))) w W k (k + 1) ∧ True) := by
  exact ⟨trivial, o_k2_e T0, trivial⟩
theorem k_pk2A {V : zVw} {k l a_ w W q b s o a1 a2 a3 : Int} (T0 : q_npk a_ k) (T1 : q_qry V (46 : Int) q b s o a1 a2 a3 (6 : Int) (0 : Int) a_) (T2 : o_k2 V (g_F V q b s o a1 a2 a3 (g_nw V)) (g_jy V q (g_F V q b s o a1 a2 a3 (g_nw V))) w W k l) (C0 : 0 ≤ k) (C1 : 0 ≤ l) : (True) ∧ (o_k2 V (g_F V q b s o a1 a2 a3 (g_nw V)) (g_jy V q (g_F V q b s o a1 a2 a3 (g_nw V))) w W k (l + 1) ∧ True) := by
  have e6 : a_ = g_ab (g_F V q b s o a1 a2 a3 (g_nw V)) 6 := g_k46 T1
  exact ⟨trivial, o_k2_S T2 (fun t z x y p1 p2 h p3 p4 h2 c1 c2 => absurd c1 (o_npk e6 T0 p1 p2 h)), trivial⟩
theorem k_pk2B {V : zVw} {k l a_ w W q b s o a1 a2 a3 : Int} (T0 : q_npk a_ l) (T1 : q_qry V (46 : Int) q b s o a1 a2 a3 (6 : Int) (0 : Int) a_) (T2 : o_k2 V (g_F V q b s o a1 a2 a3 (g_nw V)) (g_jy V q (g_F V q b s o a1 a2 a3 (g_nw V))) w W k l) (C0 : 0 ≤ k) (C1 : 0 ≤ l) : (True) ∧ (o_k2 V (g_F V q b s o a1 a2 a3 (g_nw V)) (g_jy V q (g_F V q b s o a1 a2 a3 (g_nw V))) w W k (l + 1) ∧ True) := by
  have e6 : a_ = g_ab (g_F V q b s o a1 a2 a3 (g_nw V)) 6 := g_k46 T1
  exact ⟨trivial, o_k2_S T2 (fun t z x y p1 p2 h p3 p4 h2 c1 c2 => absurd c2 (o_npk e6 T0 p3 p4 h2)), trivial⟩
theorem k_pk2H {V : zVw} {k l a_ lo hi lo2 hi2 y w W q b s o a1 a2 a3 : Int} (T0 : q_pak a_ k lo hi) (T1 : q_pak a_ l lo2 hi2) (T2 : o_k2 V (g_F V q b s o a1 a2 a3 (g_nw V)) (g_jy V q (g_F V q b s o a1 a2 a3 (g_nw V))) w W k l) (T3 : ¬ o_E V (g_jy V q (g_F V q b s o a1 a2 a3 (g_nw V)) y) (g_F V q b s o a1 a2 a3 (g_nw V)) w W) (C0 : 0 ≤ k) (C1 : 0 ≤ l) (C2 : 0 ≤ y - 10 * lo - hi - 1000 * lo2 - 100 * hi2 - 101) (C3 : 0 ≤ 10 * lo + hi + 1000 * lo2 + 100 * hi2 - y + 101) : (True) ∧ (o_k2 V (g_F V q b s o a1 a2 a3 (g_nw V)) (g_jy V q (g_F V q b s o a1 a2 a3 (g_nw V))) w W k (l + 1) ∧ True) := by
  obtain ⟨⟨⟨p1, p2, p3⟩, -⟩, p4, -⟩ := T0
  obtain ⟨⟨⟨r1, r2, r3⟩, -⟩, r4, -⟩ := T1
  exact ⟨trivial, o_k2_S T2 (fun t z x z2 q1 q2 h q3 q4 h2 c1 c2 => by
    have a9 := q1.1
    have b9 := q2.1
    have c9 := q3.1
    have d9 := q4.1
    rw [show 10 * t + z + 1000 * x + 100 * z2 + 101 = y by omega]
    exact T3), trivial⟩
theorem k_pk2o {V : zVw} {k l w W q b s o a1 a2 a3 : Int} (T0 : o_k2 V (g_F V q b s o a1 a2 a3 (g_nw V)) (g_jy V q (g_F V q b s o a1 a2 a3 (g_nw V))) w W k l) (C0 : 0 ≤ k) (C1 : 0 ≤ l - 36) : (True) ∧ (o_k2 V (g_F V q b s o a1 a2 a3 (g_nw V)) (g_jy V q (g_F V q b s o a1 a2 a3 (g_nw V))) w W (k + 1) (0 : Int) ∧ True) := by
  exact ⟨trivial, o_k2_o T0 (by omega), trivial⟩
theorem k_ph2 {V : zVw} {k l a_ lo hi lo2 hi2 y w W q b s o a1 a2 a3 : Int} (T0 : q_pak a_ k lo hi) (T1 : q_pak a_ l lo2 hi2) (T2 : q_qry V (46 : Int) q b s o a1 a2 a3 (6 : Int) (0 : Int) a_) (T3 : o_k2 V (g_F V q b s o a1 a2 a3 (g_nw V)) (g_jy V q (g_F V q b s o a1 a2 a3 (g_nw V))) w W k l) (T4 : o_k1 V (g_F V q b s o a1 a2 a3 (g_nw V)) (g_jy V q (g_F V q b s o a1 a2 a3 (g_nw V))) w W (36 : Int)) (T5 : o_E V (g_jy V q (g_F V q b s o a1 a2 a3 (g_nw V)) y) (g_F V q b s o a1 a2 a3 (g_nw V)) w W) (T6 : ¬ o_E V (g_jy V q (g_F V q b s o a1 a2 a3 (g_nw V)) (0 : Int)) (g_F V q b s o a1 a2 a3 (g_nw V)) w W) (C0 : 0 ≤ k) (C1 : 0 ≤ l - k - 1) (C2 : 0 ≤ y - 10 * lo - hi - 1000 * lo2 - 100 * hi2 - 101) (C3 : 0 ≤ 10 * lo + hi + 1000 * lo2 + 100 * hi2 - y + 101) : (True) ∧ ((¬ o_E V (g_jy V q (g_F V q b s o a1 a2 a3 (g_nw V)) 0) (g_F V q b s o a1 a2 a3 (g_nw V)) w W ∧ o_n1 V (g_F V q b s o a1 a2 a3 (g_nw V)) (g_jy V q (g_F V q b s o a1 a2 a3 (g_nw V))) w W ∧ o_f2 V (g_F V q b s o a1 a2 a3 (g_nw V)) (g_jy V q (g_F V q b s o a1 a2 a3 (g_nw V))) w W (10 * lo + hi) (10 * lo2 + hi2)) ∧ True) := by
  have e6 : a_ = g_ab (g_F V q b s o a1 a2 a3 (g_nw V)) 6 := g_k46 T2
  exact ⟨trivial, ⟨T6, o_k1_n T4, o_f2_k e6 T0 T1 (by omega) T3 (by omega) T5⟩, trivial⟩
theorem k_pc10 {V : zVw} {v r w W H p y d c_ q b s o a1 a2 a3 : Int} (T0 : ¬ o_E V (g_jy V q (g_F V q b s o a1 a2 a3 (g_nw V)) 0) (g_F V q b s o a1 a2 a3 (g_nw V)) w W ∧ o_f1 V (g_F V q b s o a1 a2 a3 (g_nw V)) (g_jy V q (g_F V q b s o a1 a2 a3 (g_nw V))) w W c_) (T1 : q_sto V 0 H p y d q b s o a1 a2 a3) (C0 : 0 ≤ v) (C1 : 0 ≤ -v) (C2 : 0 ≤ r - 1) (C3 : 0 ≤ 1 - r) (C4 : 0 ≤ w) (C5 : 0 ≤ 999 - w) : (True) ∧ (q_qry V (63 : Int) q b s o a1 a2 a3 (1000 * v + w) W r ∧ True) := by
  exact ⟨trivial, g_qs T1 (g_Qpc (by omega) (by omega) (by omega) (Or.inr (Or.inl ⟨T0.1, c_, T0.2, by rw [o_pn0 (by omega)]; omega⟩))), trivial⟩
theorem k_pc11 {V : zVw} {v r w W H p y d c_ q b s o a1 a2 a3 : Int} (T0 : ¬ o_E V (g_jy V q (g_F V q b s o a1 a2 a3 (g_nw V)) 0) (g_F V q b s o a1 a2 a3 (g_nw V)) w W ∧ o_f1 V (g_F V q b s o a1 a2 a3 (g_nw V)) (g_jy V q (g_F V q b s o a1 a2 a3 (g_nw V))) w W c_) (T1 : q_sto V 0 H p y d q b s o a1 a2 a3) (C0 : 0 ≤ v - 1) (C1 : 0 ≤ 1 - v) (C2 : 0 ≤ r - c_) (C3 : 0 ≤ c_ - r) (C4 : 0 ≤ w) (C5 : 0 ≤ 999 - w) : (True) ∧ (q_qry V (63 : Int) q b s o a1 a2 a3 (1000 * v + w) W r ∧ True) := by
  exact ⟨trivial, g_qs T1 (g_Qpc (by omega) (by omega) (by omega) (Or.inr (Or.inl ⟨T0.1, c_, T0.2, by rw [o_pn1 (by omega)]; omega⟩))), trivial⟩
theorem k_pc12 {V : zVw} {v r w W H p y d c_ q b s o a1 a2 a3 : Int} (T0 : ¬ o_E V (g_jy V q (g_F V q b s o a1 a2 a3 (g_nw V)) 0) (g_F V q b s o a1 a2 a3 (g_nw V)) w W ∧ o_f1 V (g_F V q b s o a1 a2 a3 (g_nw V)) (g_jy V q (g_F V q b s o a1 a2 a3 (g_nw V))) w W c_) (T1 : q_sto V 0 H p y d q b s o a1 a2 a3) (C0 : 0 ≤ v - 2) (C1 : 0 ≤ 2 - v) (C2 : 0 ≤ r + 1) (C3 : 0 ≤ -r - 1) (C4 : 0 ≤ w) (C5 : 0 ≤ 999 - w) : (True) ∧ (q_qry V (63 : Int) q b s o a1 a2 a3 (1000 * v + w) W r ∧ True) := by
  exact ⟨trivial, g_qs T1 (g_Qpc (by omega) (by omega) (by omega) (Or.inr (Or.inl ⟨T0.1, c_, T0.2, by rw [o_pn2 (by omega)]; omega⟩))), trivial⟩
theorem k_pc20 {V : zVw} {v r w W H p y d c_ d_ q b s o a1 a2 a3 : Int} (T0 : ¬ o_E V (g_jy V q (g_F V q b s o a1 a2 a3 (g_nw V)) 0) (g_F V q b s o a1 a2 a3 (g_nw V)) w W ∧ o_n1 V (g_F V q b s o a1 a2 a3 (g_nw V)) (g_jy V q (g_F V q b s o a1 a2 a3 (g_nw V))) w W ∧ o_f2 V (g_F V q b s o a1 a2 a3 (g_nw V)) (g_jy V q (g_F V q b s o a1 a2 a3 (g_nw V))) w W c_ d_) (T1 : q_sto V 0 H p y d q b s o a1 a2 a3) (C0 : 0 ≤ v) (C1 : 0 ≤ -v) (C2 : 0 ≤ r - 2) (C3 : 0 ≤ 2 - r) (C4 : 0 ≤ w) (C5 : 0 ≤ 999 - w) : (True) ∧ (q_qry V (63 : Int) q b s o a1 a2 a3 (1000 * v + w) W r ∧ True) := by
  exact ⟨trivial, g_qs T1 (g_Qpc (by omega) (by omega) (by omega) (Or.inr (Or.inr (Or.inl ⟨T0.1, T0.2.1, c_, d_, T0.2.2, by rw [o_pn0 (by omega)]; omega⟩)))), trivial⟩
theorem k_pc21 {V : zVw} {v r w W H p y d c_ d_ q b s o a1 a2 a3 : Int} (T0 : ¬ o_E V (g_jy V q (g_F V q b s o a1 a2 a3 (g_nw V)) 0) (g_F V q b s o a1 a2 a3 (g_nw V)) w W ∧ o_n1 V (g_F V q b s o a1 a2 a3 (g_nw V)) (g_jy V q (g_F V q b s o a1 a2 a3 (g_nw V))) w W ∧ o_f2 V (g_F V q b s o a1 a2 a3 (g_nw V)) (g_jy V q (g_F V q b s o a1 a2 a3 (g_nw V))) w W c_ d_) (T1 : q_sto V 0 H p y d q b s o a1 a2 a3) (C0 : 0 ≤ v - 1) (C1 : 0 ≤ 1 - v) (C2 : 0 ≤ r - c_) (C3 : 0 ≤ c_ - r) (C4 : 0 ≤ w) (C5 : 0 ≤ 999 - w) : (True) ∧ (q_qry V (63 : Int) q b s o a1 a2 a3 (1000 * v + w) W r ∧ True) := by
  exact ⟨trivial, g_qs T1 (g_Qpc (by omega) (by omega) (by omega) (Or.inr (Or.inr (Or.inl ⟨T0.1, T0.2.1, c_, d_, T0.2.2, by rw [o_pn1 (by omega)]; omega⟩)))), trivial⟩
theorem k_pc22 {V : zVw} {v r w W H p y d c_ d_ q b s o a1 a2 a3 : Int} (T0 : ¬ o_E V (g_jy V q (g_F V q b s o a1 a2 a3 (g_nw V)) 0) (g_F V q b s o a1 a2 a3 (g_nw V)) w W ∧ o_n1 V (g_F V q b s o a1 a2 a3 (g_nw V)) (g_jy V q (g_F V q b s o a1 a2 a3 (g_nw V))) w W ∧ o_f2 V (g_F V q b s o a1 a2 a3 (g_nw V)) (g_jy V q (g_F V q b s o a1 a2 a3 (g_nw V))) w W c_ d_) (T1 : q_sto V 0 H p y d q b s o a1 a2 a3) (C0 : 0 ≤ v - 2) (C1 : 0 ≤ 2 - v) (C2 : 0 ≤ r - d_) (C3 : 0 ≤ d_ - r) (C4 : 0 ≤ w) (C5 : 0 ≤ 999 - w) : (True) ∧ (q_qry V (63 : Int) q b s o a1 a2 a3 (1000 * v + w) W r ∧ True) := by
  exact ⟨trivial, g_qs T1 (g_Qpc (by omega) (by omega) (by omega) (Or.inr (Or.inr (Or.inl ⟨T0.1, T0.2.1, c_, d_, T0.2.2, by rw [o_pn2 (by omega)]; omega⟩)))), trivial⟩
theorem k_pcZ {V : zVw} {k v w W H p y d q b s o a1 a2 a3 : Int} (T0 : q_sto V 0 H p y d q b s o a1 a2 a3) (T1 : o_k1 V (g_F V q b s o a1 a2 a3 (g_nw V)) (g_jy V q (g_F V q b s o a1 a2 a3 (g_nw V))) w W (36 : Int)) (T2 : o_k2 V (g_F V q b s o a1 a2 a3 (g_nw V)) (g_jy V q (g_F V q b s o a1 a2 a3 (g_nw V))) w W k (0 : Int)) (T3 : ¬ o_E V (g_jy V q (g_F V q b s o a1 a2 a3 (g_nw V)) (0 : Int)) (g_F V q b s o a1 a2 a3 (g_nw V)) w W) (C0 : 0 ≤ k - 36) (C1 : 0 ≤ v) (C2 : 0 ≤ 2 - v) (C3 : 0 ≤ w) (C4 : 0 ≤ 999 - w) : (True) ∧ (q_qry V (63 : Int) q b s o a1 a2 a3 (1000 * v + w) W (-2 : Int) ∧ True) := by
  exact ⟨trivial, g_qs T0 (g_Qpc (by omega) (by omega) (by omega) (Or.inr (Or.inr (Or.inr ⟨T3, o_k1_n T1, o_k2_n T2 (by omega), rfl⟩)))), trivial⟩
theorem k_job0 {V : zVw} {H q b s o a1 a2 a3 : Int} (T0 : q_rwo V H q b s o a1 a2 a3) : (True) ∧ (q_hld (V 84) (g_jo V q (g_F V q b s o a1 a2 a3 (g_nw V))) (g_F V q b s o a1 a2 a3 (g_nw V)) (0 : Int) ∧ True) := by
  exact ⟨trivial, fun k k0 k1 => absurd k1 (by omega), trivial⟩
theorem k_jobY {V : zVw} {k u g1 g2 q b s o a1 a2 a3 : Int} (T0 : (mOP 107 (Int32.ofInt k) (Int32.ofInt (6 : Int))).toInt = g1) (T1 : (mOP 108 (Int32.ofInt k) (Int32.ofInt (6 : Int))).toInt = g2) (T2 : q_qry V (5 : Int) q b s o a1 a2 a3 g1 g2 u) (T3 : q_hld (V 84) (g_jo V q (g_F V q b s o a1 a2 a3 (g_nw V))) (g_F V q b s o a1 a2 a3 (g_nw V)) k) (C0 : 0 ≤ k) (C1 : 0 ≤ 35 - k) (F0 : (0 : Int) ≤ k ∧ (k : Int) < j_len 84 ∧ V 84 (k) = u) : (True) ∧ (q_hld (V 84) (g_jo V q (g_F V q b s o a1 a2 a3 (g_nw V))) (g_F V q b s o a1 a2 a3 (g_nw V)) (k + 1) ∧ True) := by
  have h1 : g_op 107 k 6 = g1 := T0
  have h2 : g_op 108 k 6 = g2 := T1
  rw [g_op_div (by omega) (by omega) (by omega) (by omega)] at h1
  rw [g_op_rem (by omega) (by omega) (by omega) (by omega)] at h2
  have u9 : u = g_jo V q (g_F V q b s o a1 a2 a3 (g_nw V)) g1 g2 := g_k5 T2
  exact ⟨trivial, o_hldS T3 (Or.inl (by rw [F0.2.2, u9, h1, h2])), trivial⟩
theorem k_jobNa {V : zVw} {k g1 g2 H q b s o a1 a2 a3 : Int} (T0 : (mOP 107 (Int32.ofInt k) (Int32.ofInt (6 : Int))).toInt = g1) (T1 : (mOP 108 (Int32.ofInt k) (Int32.ofInt (6 : Int))).toInt = g2) (T2 : q_rwo V H q b s o a1 a2 a3) (T3 : q_hld (V 84) (g_jo V q (g_F V q b s o a1 a2 a3 (g_nw V))) (g_F V q b s o a1 a2 a3 (g_nw V)) k) (C0 : 0 ≤ k) (C1 : 0 ≤ 35 - k) (C2 : 0 ≤ g1 - H) : (True) ∧ (q_hld (V 84) (g_jo V q (g_F V q b s o a1 a2 a3 (g_nw V))) (g_F V q b s o a1 a2 a3 (g_nw V)) (k + 1) ∧ True) := by
  have h1 : g_op 107 k 6 = g1 := T0
  have h2 : g_op 108 k 6 = g2 := T1
  rw [g_op_div (by omega) (by omega) (by omega) (by omega)] at h1
  rw [g_op_rem (by omega) (by omega) (by omega) (by omega)] at h2
  have z9 := g_ha_out T2.1.1 (h := g1) (by omega) (by omega)
  have m9 : ¬ o_ab (g_F V q b s o a1 a2 a3 (g_nw V)) (k / 6) := fun c9 => by
    have c8 := c9.2
    rw [h1, z9] at c8
    omega
  exact ⟨trivial, o_hldS T3 (Or.inr (Or.inl m9)), trivial⟩
theorem k_jobNb {V : zVw} {k g1 g2 H q b s o a1 a2 a3 : Int} (T0 : (mOP 107 (Int32.ofInt k) (Int32.ofInt (6 : Int))).toInt = g1) (T1 : (mOP 108 (Int32.ofInt k) (Int32.ofInt (6 : Int))).toInt = g2) (T2 : q_rwo V H q b s o a1 a2 a3) (T3 : q_hld (V 84) (g_jo V q (g_F V q b s o a1 a2 a3 (g_nw V))) (g_F V q b s o a1 a2 a3 (g_nw V)) k) (C0 : 0 ≤ k) (C1 : 0 ≤ 35 - k) (C2 : 0 ≤ g2 - H) : (True) ∧ (q_hld (V 84) (g_jo V q (g_F V q b s o a1 a2 a3 (g_nw V))) (g_F V q b s o a1 a2 a3 (g_nw V)) (k + 1) ∧ True) := by
  have h1 : g_op 107 k 6 = g1 := T0
  have h2 : g_op 108 k 6 = g2 := T1
  rw [g_op_div (by omega) (by omega) (by omega) (by omega)] at h1
  rw [g_op_rem (by omega) (by omega) (by omega) (by omega)] at h2
  have z9 := g_ha_out T2.1.1 (h := g2) (by omega) (by omega)
  have m9 : ¬ o_ab (g_F V q b s o a1 a2 a3 (g_nw V)) (k % 6) := fun c9 => by
    have c8 := c9.2
    rw [h2, z9] at c8
    omega
  exact ⟨trivial, o_hldS T3 (Or.inr (Or.inr (Or.inl m9))), trivial⟩
theorem k_jobNe {V : zVw} {k g1 g2 H q b s o a1 a2 a3 : Int} (T0 : (mOP 107 (Int32.ofInt k) (Int32.ofInt (6 : Int))).toInt = g1) (T1 : (mOP 108 (Int32.ofInt k) (Int32.ofInt (6 : Int))).toInt = g2) (T2 : q_rwo V H q b s o a1 a2 a3) (T3 : q_hld (V 84) (g_jo V q (g_F V q b s o a1 a2 a3 (g_nw V))) (g_F V q b s o a1 a2 a3 (g_nw V)) k) (C0 : 0 ≤ k) (C1 : 0 ≤ 35 - k) (C2 : 0 ≤ g1 - g2) (C3 : 0 ≤ g2 - g1) : (True) ∧ (q_hld (V 84) (g_jo V q (g_F V q b s o a1 a2 a3 (g_nw V))) (g_F V q b s o a1 a2 a3 (g_nw V)) (k + 1) ∧ True) := by
  have h1 : g_op 107 k 6 = g1 := T0
  have h2 : g_op 108 k 6 = g2 := T1
  rw [g_op_div (by omega) (by omega) (by omega) (by omega)] at h1
  rw [g_op_rem (by omega) (by omega) (by omega) (by omega)] at h2
  exact ⟨trivial, o_hldS T3 (Or.inr (Or.inr (Or.inr (by omega)))), trivial⟩
theorem k_nib0 {V : zVw} {H q b s o a1 a2 a3 : Int} (T0 : q_rwo V H q b s o a1 a2 a3) : (True) ∧ (q_hld (V 85) (g_j9 V q (g_F V q b s o a1 a2 a3 (g_nw V))) (g_F V q b s o a1 a2 a3 (g_nw V)) (0 : Int) ∧ True) := by
  exact ⟨trivial, fun k k0 k1 => absurd k1 (by omega), trivial⟩
theorem k_nibY {V : zVw} {k u g1 g2 q b s o a1 a2 a3 : Int} (T0 : (mOP 107 (Int32.ofInt k) (Int32.ofInt (6 : Int))).toInt = g1) (T1 : (mOP 108 (Int32.ofInt k) (Int32.ofInt (6 : Int))).toInt = g2) (T2 : q_qry V (65 : Int) q b s o a1 a2 a3 g1 g2 u) (T3 : q_hld (V 85) (g_j9 V q (g_F V q b s o a1 a2 a3 (g_nw V))) (g_F V q b s o a1 a2 a3 (g_nw V)) k) (C0 : 0 ≤ k) (C1 : 0 ≤ 35 - k) (F0 : (0 : Int) ≤ k ∧ (k : Int) < j_len 85 ∧ V 85 (k) = u) : (True) ∧ (q_hld (V 85) (g_j9 V q (g_F V q b s o a1 a2 a3 (g_nw V))) (g_F V q b s o a1 a2 a3 (g_nw V)) (k + 1) ∧ True) := by
  have h1 : g_op 107 k 6 = g1 := T0
  have h2 : g_op 108 k 6 = g2 := T1
  rw [g_op_div (by omega) (by omega) (by omega) (by omega)] at h1
  rw [g_op_rem (by omega) (by omega) (by omega) (by omega)] at h2
  have u9 : u = g_j9 V q (g_F V q b s o a1 a2 a3 (g_nw V)) g1 g2 := g_k65 T2
  exact ⟨trivial, o_hldS T3 (Or.inl (by rw [F0.2.2, u9, h1, h2])), trivial⟩
theorem k_nibNa {V : zVw} {k g1 g2 H q b s o a1 a2 a3 : Int} (T0 : (mOP 107 (Int32.ofInt k) (Int32.ofInt (6 : Int))).toInt = g1) (T1 : (mOP 108 (Int32.ofInt k) (Int32.ofInt (6 : Int))).toInt = g2) (T2 : q_rwo V H q b s o a1 a2 a3) (T3 : q_hld (V 85) (g_j9 V q (g_F V q b s o a1 a2 a3 (g_nw V))) (g_F V q b s o a1 a2 a3 (g_nw V)) k) (C0 : 0 ≤ k) (C1 : 0 ≤ 35 - k) (C2 : 0 ≤ g1 - H) : (True) ∧ (q_hld (V 85) (g_j9 V q (g_F V q b s o a1 a2 a3 (g_nw V))) (g_F V q b s o a1 a2 a3 (g_nw V)) (k + 1) ∧ True) := by
  have h1 : g_op 107 k 6 = g1 := T0
  have h2 : g_op 108 k 6 = g2 := T1
  rw [g_op_div (by omega) (by omega) (by omega) (by omega)] at h1
  rw [g_op_rem (by omega) (by omega) (by omega) (by omega)] at h2
  have z9 := g_ha_out T2.1.1 (h := g1) (by omega) (by omega)
  have m9 : ¬ o_ab (g_F V q b s o a1 a2 a3 (g_nw V)) (k / 6) := fun c9 => by
    have c8 := c9.2
    rw [h1, z9] at c8
    omega
  exact ⟨trivial, o_hldS T3 (Or.inr (Or.inl m9)), trivial⟩
theorem k_nibNb {V : zVw} {k g1 g2 H q b s o a1 a2 a3 : Int} (T0 : (mOP 107 (Int32.ofInt k) (Int32.ofInt (6 : Int))).toInt = g1) (T1 : (mOP 108 (Int32.ofInt k) (Int32.ofInt (6 : Int))).toInt = g2) (T2 : q_rwo V H q b s o a1 a2 a3) (T3 : q_hld (V 85) (g_j9 V q (g_F V q b s o a1 a2 a3 (g_nw V))) (g_F V q b s o a1 a2 a3 (g_nw V)) k) (C0 : 0 ≤ k) (C1 : 0 ≤ 35 - k) (C2 : 0 ≤ g2 - H) : (True) ∧ (q_hld (V 85) (g_j9 V q (g_F V q b s o a1 a2 a3 (g_nw V))) (g_F V q b s o a1 a2 a3 (g_nw V)) (k + 1) ∧ True) := by
  have h1 : g_op 107 k 6 = g1 := T0
  have h2 : g_op 108 k 6 = g2 := T1
  rw [g_op_div (by omega) (by omega) (by omega) (by omega)] at h1
  rw [g_op_rem (by omega) (by omega) (by omega) (by omega)] at h2
  have z9 := g_ha_out T2.1.1 (h := g2) (by omega) (by omega)
  have m9 : ¬ o_ab (g_F V q b s o a1 a2 a3 (g_nw V)) (k % 6) := fun c9 => by
    have c8 := c9.2
    rw [h2, z9] at c8
    omega
  exact ⟨trivial, o_hldS T3 (Or.inr (Or.inr (Or.inl m9))), trivial⟩
theorem k_nibNe {V : zVw} {k g1 g2 H q b s o a1 a2 a3 : Int} (T0 : (mOP 107 (Int32.ofInt k) (Int32.ofInt (6 : Int))).toInt = g1) (T1 : (mOP 108 (Int32.ofInt k) (Int32.ofInt (6 : Int))).toInt = g2) (T2 : q_rwo V H q b s o a1 a2 a3) (T3 : q_hld (V 85) (g_j9 V q (g_F V q b s o a1 a2 a3 (g_nw V))) (g_F V q b s o a1 a2 a3 (g_nw V)) k) (C0 : 0 ≤ k) (C1 : 0 ≤ 35 - k) (C2 : 0 ≤ g1 - g2) (C3 : 0 ≤ g2 - g1) : (True) ∧ (q_hld (V 85) (g_j9 V q (g_F V q b s o a1 a2 a3 (g_nw V))) (g_F V q b s o a1 a2 a3 (g_nw V)) (k + 1) ∧ True) := by
  have h1 : g_op 107 k 6 = g1 := T0
  have h2 : g_op 108 k 6 = g2 := T1
  rw [g_op_div (by omega) (by omega) (by omega) (by omega)] at h1
  rw [g_op_rem (by omega) (by omega) (by omega) (by omega)] at h2
  exact ⟨trivial, o_hldS T3 (Or.inr (Or.inr (Or.inr (by omega)))), trivial⟩
theorem k_hly0 {V : zVw} {g h yy q b s o a1 a2 a3 : Int} (T0 : q_hld (V 86) (g_jy V q (g_F V q b s o a1 a2 a3 (g_nw V)) yy) (g_F V q b s o a1 a2 a3 (g_nw V)) (36 : Int)) : (True) ∧ (q_hly (V 86) (g_jy V q (g_F V q b s o a1 a2 a3 (g_nw V)) yy) (g_F V q b s o a1 a2 a3 (g_nw V)) (6 * g + h) (g + 6 * h) ∧ True) := by
  exact ⟨trivial, fun k k0 k1 _ _ c1 c2 ne => T0 k k0 k1 c1 c2 ne, trivial⟩
theorem k_d10r {V : zVw} {k g : Int} (T0 : (mOP 107 (Int32.ofInt k) (Int32.ofInt (10 : Int))).toInt = g) (C0 : 0 ≤ k) (C1 : 0 ≤ 59 - k) : (0 ≤ g ∧ 0 ≤ 5 - g ∧ True) ∧ (True) := by
  have h1 : g_op 107 k 10 = g := T0
  rw [g_op_div (by omega) (by omega) (by omega) (by omega)] at h1
  exact ⟨⟨by omega, by omega, trivial⟩, trivial⟩
theorem k_d10m {V : zVw} {k g h : Int} (T0 : (mOP 107 (Int32.ofInt k) (Int32.ofInt (10 : Int))).toInt = g) (T1 : (mOP 108 (Int32.ofInt k) (Int32.ofInt (10 : Int))).toInt = h) (C0 : 0 ≤ k) (C1 : 0 ≤ 59 - k) : (0 ≤ h ∧ 0 ≤ 9 - h ∧ 0 ≤ k - 10 * g - h ∧ 0 ≤ 10 * g + h - k ∧ True) ∧ (True) := by
  have h1 : g_op 107 k 10 = g := T0
  have h2 : g_op 108 k 10 = h := T1
  rw [g_op_div (by omega) (by omega) (by omega) (by omega)] at h1
  rw [g_op_rem (by omega) (by omega) (by omega) (by omega)] at h2
  exact ⟨⟨by omega, by omega, by omega, by omega, trivial⟩, trivial⟩
theorem k_d10p {V : zVw} {k lo hi g h : Int} (T0 : (mOP 107 (Int32.ofInt k) (Int32.ofInt (10 : Int))).toInt = g) (T1 : (mOP 108 (Int32.ofInt k) (Int32.ofInt (10 : Int))).toInt = h) (T2 : (0 ≤ lo ∧ lo < hi ∧ hi ≤ 9) ∧ k = 10 * lo + hi) (C0 : 0 ≤ k) (C1 : 0 ≤ 59 - k) : (0 ≤ h - g - 1 ∧ 0 ≤ g - lo ∧ 0 ≤ lo - g ∧ 0 ≤ h - hi ∧ 0 ≤ hi - h ∧ True) ∧ (True) := by
  have h1 : g_op 107 k 10 = g := T0
  have h2 : g_op 108 k 10 = h := T1
  rw [g_op_div (by omega) (by omega) (by omega) (by omega)] at h1
  rw [g_op_rem (by omega) (by omega) (by omega) (by omega)] at h2
  exact ⟨⟨by omega, by omega, by omega, by omega, by omega, trivial⟩, trivial⟩
theorem k_lkmA {V : zVw} {g h k yy u v q b s o a1 a2 a3 : Int} (T0 : (mOP 107 (Int32.ofInt k) (Int32.ofInt (10 : Int))).toInt = g) (T1 : (mOP 108 (Int32.ofInt k) (Int32.ofInt (10 : Int))).toInt = h) (T2 : q_hly (V 86) (g_jy V q (g_F V q b s o a1 a2 a3 (g_nw V)) yy) (g_F V q b s o a1 a2 a3 (g_nw V)) (6 * g + h) (g + 6 * h)) (T3 : q_hld (V 85) (g_j9 V q (g_F V q b s o a1 a2 a3 (g_nw V))) (g_F V q b s o a1 a2 a3 (g_nw V)) (36 : Int)) (C0 : 0 ≤ k) (C1 : 0 ≤ 59 - k) (C2 : 0 ≤ h - g - 1) (C3 : 0 ≤ 5 - h) (C4 : 0 ≤ yy) (C5 : 0 ≤ -yy) (F0 : (0 : Int) ≤ 6 * g + h ∧ (6 * g + h : Int) < j_len 86 ∧ V 86 (6 * g + h) = u) (F1 : (0 : Int) ≤ 6 * g + h ∧ (6 * g + h : Int) < j_len 85 ∧ V 85 (6 * g + h) = u) (F2 : (0 : Int) ≤ g + 6 * h ∧ (g + 6 * h : Int) < j_len 86 ∧ V 86 (g + 6 * h) = v) (F3 : (0 : Int) ≤ g + 6 * h ∧ (g + 6 * h : Int) < j_len 85 ∧ V 85 (g + 6 * h) = v) : (True) ∧ (q_hld (V 86) (g_jy V q (g_F V q b s o a1 a2 a3 (g_nw V)) (k + 1)) (g_F V q b s o a1 a2 a3 (g_nw V)) (36 : Int) ∧ True) := by
  have h1 : g_op 107 k 10 = g := T0
  have h2 : g_op 108 k 10 = h := T1
  rw [g_op_div (by omega) (by omega) (by omega) (by omega)] at h1
  rw [g_op_rem (by omega) (by omega) (by omega) (by omega)] at h2
  have y9 : yy = 0 := by omega
  rw [y9] at T2
  have hy := o_jyA (v := V) (q := q) (A := (g_F V q b s o a1 a2 a3 (g_nw V))) (c := 10 * g + h) (by omega) (by omega)
  rw [show k + 1 = 10 * g + h + 1 by omega]
  exact ⟨trivial, o_lkm T2 T3 (by omega) (by omega) (by omega) (F0.2.2.trans F1.2.2.symm) (F2.2.2.trans F3.2.2.symm) hy, trivial⟩
theorem k_lkmB {V : zVw} {g h k yy u v q b s o a1 a2 a3 : Int} (T0 : (mOP 107 (Int32.ofInt k) (Int32.ofInt (10 : Int))).toInt = g) (T1 : (mOP 108 (Int32.ofInt k) (Int32.ofInt (10 : Int))).toInt = h) (T2 : q_hly (V 86) (g_jy V q (g_F V q b s o a1 a2 a3 (g_nw V)) yy) (g_F V q b s o a1 a2 a3 (g_nw V)) (6 * g + h) (g + 6 * h)) (T3 : q_hld (V 85) (g_j9 V q (g_F V q b s o a1 a2 a3 (g_nw V))) (g_F V q b s o a1 a2 a3 (g_nw V)) (36 : Int)) (C0 : 0 ≤ k) (C1 : 0 ≤ 59 - k) (C2 : 0 ≤ h - g - 1) (C3 : 0 ≤ 5 - h) (C4 : 0 ≤ yy - 1) (C5 : 0 ≤ 60 - yy) (F0 : (0 : Int) ≤ 6 * g + h ∧ (6 * g + h : Int) < j_len 86 ∧ V 86 (6 * g + h) = u) (F1 : (0 : Int) ≤ 6 * g + h ∧ (6 * g + h : Int) < j_len 85 ∧ V 85 (6 * g + h) = u) (F2 : (0 : Int) ≤ g + 6 * h ∧ (g + 6 * h : Int) < j_len 86 ∧ V 86 (g + 6 * h) = v) (F3 : (0 : Int) ≤ g + 6 * h ∧ (g + 6 * h : Int) < j_len 85 ∧ V 85 (g + 6 * h) = v) : (True) ∧ (q_hld (V 86) (g_jy V q (g_F V q b s o a1 a2 a3 (g_nw V)) (100 * k + yy + 100)) (g_F V q b s o a1 a2 a3 (g_nw V)) (36 : Int) ∧ True) := by
  have h1 : g_op 107 k 10 = g := T0
  have h2 : g_op 108 k 10 = h := T1
  rw [g_op_div (by omega) (by omega) (by omega) (by omega)] at h1
  rw [g_op_rem (by omega) (by omega) (by omega) (by omega)] at h2
  have hy := o_jyB (v := V) (q := q) (A := (g_F V q b s o a1 a2 a3 (g_nw V))) (c := 10 * g + h) (y := yy) (by omega) (by omega) (by omega) (by omega)
  rw [show 100 * k + yy + 100 = 100 * (10 * g + h) + yy + 100 by omega]
  exact ⟨trivial, o_lkm T2 T3 (by omega) (by omega) (by omega) (F0.2.2.trans F1.2.2.symm) (F2.2.2.trans F3.2.2.symm) hy, trivial⟩
theorem k_lkd {V : zVw} {g h : Int} (C0 : 0 ≤ h - g - 1) : (0 ≤ 5 * h - 5 * g - 1 ∧ True) ∧ (True) := by
  exact ⟨⟨by omega, trivial⟩, trivial⟩
theorem k_hldc0 {V : zVw} {q b s o a1 a2 a3 : Int} (T0 : q_hld (V 84) (g_jo V q (g_F V q b s o a1 a2 a3 (g_nw V))) (g_F V q b s o a1 a2 a3 (g_nw V)) (36 : Int)) : (True) ∧ (q_hld (V 86) (g_jy V q (g_F V q b s o a1 a2 a3 (g_nw V)) (0 : Int)) (g_F V q b s o a1 a2 a3 (g_nw V)) (0 : Int) ∧ True) := by
  exact ⟨trivial, fun k k0 k1 => absurd k1 (by omega), trivial⟩
theorem k_hldC {V : zVw} {k u q b s o a1 a2 a3 : Int} (T0 : q_hld (V 84) (g_jo V q (g_F V q b s o a1 a2 a3 (g_nw V))) (g_F V q b s o a1 a2 a3 (g_nw V)) (36 : Int)) (T1 : q_hld (V 86) (g_jy V q (g_F V q b s o a1 a2 a3 (g_nw V)) (0 : Int)) (g_F V q b s o a1 a2 a3 (g_nw V)) k) (C0 : 0 ≤ k) (C1 : 0 ≤ 35 - k) (F0 : (0 : Int) ≤ k ∧ (k : Int) < j_len 86 ∧ V 86 (k) = u) (F1 : (0 : Int) ≤ k ∧ (k : Int) < j_len 84 ∧ V 84 (k) = u) : (True) ∧ (q_hld (V 86) (g_jy V q (g_F V q b s o a1 a2 a3 (g_nw V)) (0 : Int)) (g_F V q b s o a1 a2 a3 (g_nw V)) (k + 1) ∧ True) := by
  exact ⟨trivial, fun t t0 t1 c1 c2 ne => by
    by_cases d : t = k
    · rw [d] at c1 c2 ne ⊢
      rw [g_jy0 c1.1.1 c2.1.1, F0.2.2, ← F1.2.2]
      exact T0 k (by omega) (by omega) c1 c2 ne
    · exact T1 t t0 (by omega) c1 c2 ne, trivial⟩
theorem k_hldE {V : zVw} {k q b s o a1 a2 a3 : Int} (T0 : q_hld (V 86) (g_jy V q (g_F V q b s o a1 a2 a3 (g_nw V)) (0 : Int)) (g_F V q b s o a1 a2 a3 (g_nw V)) k) (C0 : 0 ≤ k - 36) (C1 : 0 ≤ 36 - k) : (True) ∧ (q_hld (V 86) (g_jy V q (g_F V q b s o a1 a2 a3 (g_nw V)) (0 : Int)) (g_F V q b s o a1 a2 a3 (g_nw V)) (36 : Int) ∧ True) := by
  have e9 : k = 36 := by omega
  rw [e9] at T0
  exact ⟨trivial, T0, trivial⟩
theorem k_mhoY {V : zVw} {w u W yy q b s o a1 a2 a3 : Int} (T0 : q_qry V (59 : Int) q b s o a1 a2 a3 W yy u) (C0 : 0 ≤ w) (C1 : 0 ≤ u - w) : (True) ∧ (o_E V (g_jy V q (g_F V q b s o a1 a2 a3 (g_nw V)) yy) (g_F V q b s o a1 a2 a3 (g_nw V)) w W ∧ True) := by
  exact ⟨trivial, (o_E_x (g_k59 T0) (by omega)).1 (by omega), trivial⟩
theorem k_mhoN {V : zVw} {w u W yy q b s o a1 a2 a3 : Int} (T0 : q_qry V (59 : Int) q b s o a1 a2 a3 W yy u) (C0 : 0 ≤ w) (C1 : 0 ≤ w - u - 1) : (True) ∧ (¬ o_E V (g_jy V q (g_F V q b s o a1 a2 a3 (g_nw V)) yy) (g_F V q b s o a1 a2 a3 (g_nw V)) w W ∧ True) := by
  exact ⟨trivial, (o_E_x (g_k59 T0) (by omega)).2 (by omega), trivial⟩
theorem k_mipP {V : zVw} {k g h : Int} (T0 : (mOP 108 (Int32.ofInt k) (Int32.ofInt (10 : Int))).toInt = h) (T1 : (mOP 107 (Int32.ofInt k) (Int32.ofInt (10 : Int))).toInt = g) (C0 : 0 ≤ k) (C1 : 0 ≤ 59 - k) (C2 : 0 ≤ h - g - 1) : (True) ∧ (((0 ≤ g ∧ g < h ∧ h ≤ 9) ∧ k = 10 * g + h) ∧ True) := by
  have h1 : g_op 107 k 10 = g := T1
  have h2 : g_op 108 k 10 = h := T0
  rw [g_op_div (by omega) (by omega) (by omega) (by omega)] at h1
  rw [g_op_rem (by omega) (by omega) (by omega) (by omega)] at h2
  exact ⟨trivial, ⟨⟨by omega, by omega, by omega⟩, by omega⟩, trivial⟩
theorem k_mipE {V : zVw} {k g h w : Int} (T0 : (mOP 108 (Int32.ofInt k) (Int32.ofInt (10 : Int))).toInt = w) (T1 : (0 ≤ g ∧ g < h ∧ h ≤ 9) ∧ k = 10 * g + h) (C0 : 0 ≤ k) (C1 : 0 ≤ 59 - k) : (0 ≤ w - h ∧ 0 ≤ h - w ∧ True) ∧ (True) := by
  have h2 : g_op 108 k 10 = w := T0
  rw [g_op_rem (by omega) (by omega) (by omega) (by omega)] at h2
  exact ⟨⟨by omega, by omega, trivial⟩, trivial⟩
theorem k_mipNa {V : zVw} {k g h l H x : Int} (T0 : (mOP 108 (Int32.ofInt k) (Int32.ofInt (10 : Int))).toInt = h) (T1 : (mOP 107 (Int32.ofInt k) (Int32.ofInt (10 : Int))).toInt = g) (T2 : 0 ≤ l ∧ l ≠ x ∧ V 56 l = H) (C0 : 0 ≤ k) (C1 : 0 ≤ 59 - k) (C2 : 0 ≤ g - h) : (True) ∧ ((∀ t_ z_ : Int, 0 ≤ t_ → t_ < z_ → z_ < H → z_ < 6 → k ≠ 10 * t_ + z_) ∧ True) := by
  have h1 : g_op 107 k 10 = g := T1
  have h2 : g_op 108 k 10 = h := T0
  rw [g_op_div (by omega) (by omega) (by omega) (by omega)] at h1
  rw [g_op_rem (by omega) (by omega) (by omega) (by omega)] at h2
  exact ⟨trivial, fun x y x0 xy yH y6 e => by omega, trivial⟩
theorem k_mipNb {V : zVw} {k g h w l H x : Int} (T0 : (mOP 108 (Int32.ofInt k) (Int32.ofInt (10 : Int))).toInt = w) (T1 : (0 ≤ g ∧ g < h ∧ h ≤ 9) ∧ k = 10 * g + h) (T2 : 0 ≤ l ∧ l ≠ x ∧ V 56 l = H) (C0 : 0 ≤ k) (C1 : 0 ≤ 59 - k) (C2 : 0 ≤ w - H) : (True) ∧ ((∀ t_ z_ : Int, 0 ≤ t_ → t_ < z_ → z_ < H → z_ < 6 → k ≠ 10 * t_ + z_) ∧ True) := by
  have h2 : g_op 108 k 10 = w := T0
  rw [g_op_rem (by omega) (by omega) (by omega) (by omega)] at h2
  exact ⟨trivial, fun x y x0 xy yH y6 e => by omega, trivial⟩
theorem k_mipH {V : zVw} {k g h w l H x : Int} (T0 : (mOP 108 (Int32.ofInt k) (Int32.ofInt (10 : Int))).toInt = w) (T1 : (0 ≤ g ∧ g < h ∧ h ≤ 9) ∧ k = 10 * g + h) (T2 : 0 ≤ l ∧ l ≠ x ∧ V 56 l = H) (C0 : 0 ≤ k) (C1 : 0 ≤ 59 - k) (C2 : 0 ≤ H - w - 1) (C3 : 0 ≤ 6 - H) : (0 ≤ H - h - 1 ∧ 0 ≤ 5 - h ∧ True) ∧ (True) := by
  have h2 : g_op 108 k 10 = w := T0
  rw [g_op_rem (by omega) (by omega) (by omega) (by omega)] at h2
  exact ⟨⟨by omega, by omega, trivial⟩, trivial⟩
theorem k_mpA0 {V : zVw} {v w W H q b s o a1 a2 a3 : Int} (T0 : o_E V (g_jy V q (g_F V q b s o a1 a2 a3 (g_nw V)) (0 : Int)) (g_F V q b s o a1 a2 a3 (g_nw V)) w W) (T1 : q_rwo V H q b s o a1 a2 a3) (C0 : 0 ≤ v) (C1 : 0 ≤ -v) (C2 : 0 ≤ w) (C3 : 0 ≤ 999 - w) : (True) ∧ (q_qry V (63 : Int) q b s o a1 a2 a3 (1000 * v + w) W (0 : Int) ∧ True) := by
  exact ⟨trivial, g_qr T1 (g_Qpc (by omega) (by omega) (by omega) (Or.inl ⟨T0, (o_pn0 (by omega)).symm⟩)), trivial⟩
theorem k_mpA1 {V : zVw} {v w W H q b s o a1 a2 a3 : Int} (T0 : o_E V (g_jy V q (g_F V q b s o a1 a2 a3 (g_nw V)) (0 : Int)) (g_F V q b s o a1 a2 a3 (g_nw V)) w W) (T1 : q_rwo V H q b s o a1 a2 a3) (C0 : 0 ≤ v - 1) (C1 : 0 ≤ 2 - v) (C2 : 0 ≤ w) (C3 : 0 ≤ 999 - w) : (True) ∧ (q_qry V (63 : Int) q b s o a1 a2 a3 (1000 * v + w) W (-1 : Int) ∧ True) := by
  exact ⟨trivial, g_qr T1 (g_Qpc (by omega) (by omega) (by omega) (Or.inl ⟨T0, (by
    rcases (show v = 1 ∨ 2 ≤ v by omega) with h | h
    · exact (o_pn1 h).symm
    · exact (o_pn2 h).symm)⟩)), trivial⟩
theorem k_pm10 {V : zVw} {w W q b s o a1 a2 a3 : Int} (T0 : ¬ o_E V (g_jy V q (g_F V q b s o a1 a2 a3 (g_nw V)) (0 : Int)) (g_F V q b s o a1 a2 a3 (g_nw V)) w W) : (True) ∧ (o_p1 V (g_F V q b s o a1 a2 a3 (g_nw V)) (g_jy V q (g_F V q b s o a1 a2 a3 (g_nw V))) w W (0 : Int) ∧ True) := by
  exact ⟨trivial, o_p1_0, trivial⟩
theorem k_pm1N {V : zVw} {k H w W q b s o a1 a2 a3 : Int} (T0 : ∀ t_ z_ : Int, 0 ≤ t_ → t_ < z_ → z_ < H → z_ < 6 → k ≠ 10 * t_ + z_) (T1 : q_rwo V H q b s o a1 a2 a3) (T2 : o_p1 V (g_F V q b s o a1 a2 a3 (g_nw V)) (g_jy V q (g_F V q b s o a1 a2 a3 (g_nw V))) w W k) (C0 : 0 ≤ k) : (True) ∧ (o_p1 V (g_F V q b s o a1 a2 a3 (g_nw V)) (g_jy V q (g_F V q b s o a1 a2 a3 (g_nw V))) w W (k + 1) ∧ True) := by
  exact ⟨trivial, o_p1_S T2 (fun p => absurd p (o_npi T1.1.1 T0)), trivial⟩
theorem k_pm1H {V : zVw} {k w W y q b s o a1 a2 a3 : Int} (T0 : o_p1 V (g_F V q b s o a1 a2 a3 (g_nw V)) (g_jy V q (g_F V q b s o a1 a2 a3 (g_nw V))) w W k) (T1 : ¬ o_E V (g_jy V q (g_F V q b s o a1 a2 a3 (g_nw V)) y) (g_F V q b s o a1 a2 a3 (g_nw V)) w W) (C0 : 0 ≤ k) (C1 : 0 ≤ y - k - 1) (C2 : 0 ≤ k - y + 1) (C3 : 0 ≤ 59 - k) : (True) ∧ (o_p1 V (g_F V q b s o a1 a2 a3 (g_nw V)) (g_jy V q (g_F V q b s o a1 a2 a3 (g_nw V))) w W (k + 1) ∧ True) := by
  exact ⟨trivial, o_p1_S T0 (fun _ => by
    rw [show k + 1 = y by omega]
    exact T1), trivial⟩
theorem k_mph1 {V : zVw} {k lo hi y w W q b s o a1 a2 a3 : Int} (T0 : (0 ≤ lo ∧ lo < hi ∧ hi ≤ 9) ∧ k = 10 * lo + hi) (T1 : o_p1 V (g_F V q b s o a1 a2 a3 (g_nw V)) (g_jy V q (g_F V q b s o a1 a2 a3 (g_nw V))) w W k) (T2 : o_E V (g_jy V q (g_F V q b s o a1 a2 a3 (g_nw V)) y) (g_F V q b s o a1 a2 a3 (g_nw V)) w W) (T3 : ¬ o_E V (g_jy V q (g_F V q b s o a1 a2 a3 (g_nw V)) (0 : Int)) (g_F V q b s o a1 a2 a3 (g_nw V)) w W) (C0 : 0 ≤ k) (C1 : 0 ≤ y - k - 1) (C2 : 0 ≤ k - y + 1) (C3 : 0 ≤ 59 - k) : (True) ∧ ((¬ o_E V (g_jy V q (g_F V q b s o a1 a2 a3 (g_nw V)) 0) (g_F V q b s o a1 a2 a3 (g_nw V)) w W ∧ o_f1 V (g_F V q b s o a1 a2 a3 (g_nw V)) (g_jy V q (g_F V q b s o a1 a2 a3 (g_nw V))) w W k) ∧ True) := by
  exact ⟨trivial, ⟨T3, o_f1_m (by omega) (by omega) T1 (by rw [show k + 1 = y by omega]; exact T2) T3⟩, trivial⟩
theorem k_pm20 {V : zVw} {k w W q b s o a1 a2 a3 : Int} (T0 : o_p1 V (g_F V q b s o a1 a2 a3 (g_nw V)) (g_jy V q (g_F V q b s o a1 a2 a3 (g_nw V))) w W k) (C0 : 0 ≤ k - 60) : (True) ∧ (o_p1 V (g_F V q b s o a1 a2 a3 (g_nw V)) (g_jy V q (g_F V q b s o a1 a2 a3 (g_nw V))) w W (60 : Int) ∧ o_p2 V (g_F V q b s o a1 a2 a3 (g_nw V)) (g_jy V q (g_F V q b s o a1 a2 a3 (g_nw V))) w W (0 : Int) (0 : Int) ∧ True) := by
  exact ⟨trivial, o_p1_60 T0 (by omega), o_p2_0, trivial⟩
theorem k_pm2e {V : zVw} {k l w W q b s o a1 a2 a3 : Int} (T0 : o_p2 V (g_F V q b s o a1 a2 a3 (g_nw V)) (g_jy V q (g_F V q b s o a1 a2 a3 (g_nw V))) w W k (0 : Int)) (C0 : 0 ≤ k) (C1 : 0 ≤ l - k - 1) (C2 : 0 ≤ k - l + 1) : (True) ∧ (o_p2 V (g_F V q b s o a1 a2 a3 (g_nw V)) (g_jy V q (g_F V q b s o a1 a2 a3 (g_nw V))) w W k l ∧ True) := by
  exact ⟨trivial, o_p2_e T0 (by omega), trivial⟩
theorem k_pm2S {V : zVw} {k l H w W q b s o a1 a2 a3 : Int} (T0 : ∀ t_ z_ : Int, 0 ≤ t_ → t_ < z_ → z_ < H → z_ < 6 → k ≠ 10 * t_ + z_) (T1 : q_rwo V H q b s o a1 a2 a3) (T2 : o_p2 V (g_F V q b s o a1 a2 a3 (g_nw V)) (g_jy V q (g_F V q b s o a1 a2 a3 (g_nw V))) w W k l) (C0 : 0 ≤ k) (C1 : 0 ≤ l) : (True) ∧ (o_p2 V (g_F V q b s o a1 a2 a3 (g_nw V)) (g_jy V q (g_F V q b s o a1 a2 a3 (g_nw V))) w W (k + 1) (0 : Int) ∧ True) := by
  exact ⟨trivial, o_p2_o T2 (Or.inr (o_npi T1.1.1 T0)), trivial⟩
theorem k_pm2B {V : zVw} {k l H w W q b s o a1 a2 a3 : Int} (T0 : ∀ t_ z_ : Int, 0 ≤ t_ → t_ < z_ → z_ < H → z_ < 6 → l ≠ 10 * t_ + z_) (T1 : q_rwo V H q b s o a1 a2 a3) (T2 : o_p2 V (g_F V q b s o a1 a2 a3 (g_nw V)) (g_jy V q (g_F V q b s o a1 a2 a3 (g_nw V))) w W k l) (C0 : 0 ≤ k) (C1 : 0 ≤ l) : (True) ∧ (o_p2 V (g_F V q b s o a1 a2 a3 (g_nw V)) (g_jy V q (g_F V q b s o a1 a2 a3 (g_nw V))) w W k (l + 1) ∧ True) := by
  exact ⟨trivial, o_p2_S T2 (fun _ p => absurd p (o_npi T1.1.1 T0)), trivial⟩
theorem k_pm2H {V : zVw} {k l w W y q b s o a1 a2 a3 : Int} (T0 : o_p2 V (g_F V q b s o a1 a2 a3 (g_nw V)) (g_jy V q (g_F V q b s o a1 a2 a3 (g_nw V))) w W k l) (T1 : ¬ o_E V (g_jy V q (g_F V q b s o a1 a2 a3 (g_nw V)) y) (g_F V q b s o a1 a2 a3 (g_nw V)) w W) (C0 : 0 ≤ k) (C1 : 0 ≤ l) (C2 : 0 ≤ y - k - 100 * l - 101) (C3 : 0 ≤ k + 100 * l - y + 101) (C4 : 0 ≤ 59 - k) (C5 : 0 ≤ 59 - l) : (True) ∧ (o_p2 V (g_F V q b s o a1 a2 a3 (g_nw V)) (g_jy V q (g_F V q b s o a1 a2 a3 (g_nw V))) w W k (l + 1) ∧ True) := by
  exact ⟨trivial, o_p2_S T0 (fun _ _ => by
    rw [show k + 100 * l + 101 = y by omega]
    exact T1), trivial⟩
theorem k_pm2o {V : zVw} {k l w W q b s o a1 a2 a3 : Int} (T0 : o_p2 V (g_F V q b s o a1 a2 a3 (g_nw V)) (g_jy V q (g_F V q b s o a1 a2 a3 (g_nw V))) w W k l) (C0 : 0 ≤ k) (C1 : 0 ≤ l - 60) : (True) ∧ (o_p2 V (g_F V q b s o a1 a2 a3 (g_nw V)) (g_jy V q (g_F V q b s o a1 a2 a3 (g_nw V))) w W (k + 1) (0 : Int) ∧ True) := by
  exact ⟨trivial, o_p2_o T0 (Or.inl (by omega)), trivial⟩
theorem k_mph2 {V : zVw} {k l lo hi lo2 hi2 y w W q b s o a1 a2 a3 : Int} (T0 : (0 ≤ lo ∧ lo < hi ∧ hi ≤ 9) ∧ k = 10 * lo + hi) (T1 : (0 ≤ lo2 ∧ lo2 < hi2 ∧ hi2 ≤ 9) ∧ l = 10 * lo2 + hi2) (T2 : o_p2 V (g_F V q b s o a1 a2 a3 (g_nw V)) (g_jy V q (g_F V q b s o a1 a2 a3 (g_nw V))) w W k l) (T3 : o_p1 V (g_F V q b s o a1 a2 a3 (g_nw V)) (g_jy V q (g_F V q b s o a1 a2 a3 (g_nw V))) w W (60 : Int)) (T4 : o_E V (g_jy V q (g_F V q b s o a1 a2 a3 (g_nw V)) y) (g_F V q b s o a1 a2 a3 (g_nw V)) w W) (T5 : ¬ o_E V (g_jy V q (g_F V q b s o a1 a2 a3 (g_nw V)) (0 : Int)) (g_F V q b s o a1 a2 a3 (g_nw V)) w W) (C0 : 0 ≤ k) (C1 : 0 ≤ l - k - 1) (C2 : 0 ≤ y - k - 100 * l - 101) (C3 : 0 ≤ k + 100 * l - y + 101) (C4 : 0 ≤ 59 - k) (C5 : 0 ≤ 59 - l) : (True) ∧ ((¬ o_E V (g_jy V q (g_F V q b s o a1 a2 a3 (g_nw V)) 0) (g_F V q b s o a1 a2 a3 (g_nw V)) w W ∧ o_n1 V (g_F V q b s o a1 a2 a3 (g_nw V)) (g_jy V q (g_F V q b s o a1 a2 a3 (g_nw V))) w W ∧ o_f2 V (g_F V q b s o a1 a2 a3 (g_nw V)) (g_jy V q (g_F V q b s o a1 a2 a3 (g_nw V))) w W k l) ∧ True) := by
  exact ⟨trivial, ⟨T5, o_f2_m (by omega) (by omega) (by omega) (by omega) (by omega) T2 T3 (by rw [show k + 100 * l + 101 = y by omega]; exact T4) T5⟩, trivial⟩
theorem k_mp10 {V : zVw} {v r w W H c_ q b s o a1 a2 a3 : Int} (T0 : ¬ o_E V (g_jy V q (g_F V q b s o a1 a2 a3 (g_nw V)) 0) (g_F V q b s o a1 a2 a3 (g_nw V)) w W ∧ o_f1 V (g_F V q b s o a1 a2 a3 (g_nw V)) (g_jy V q (g_F V q b s o a1 a2 a3 (g_nw V))) w W c_) (T1 : q_rwo V H q b s o a1 a2 a3) (C0 : 0 ≤ v) (C1 : 0 ≤ -v) (C2 : 0 ≤ r - 1) (C3 : 0 ≤ 1 - r) (C4 : 0 ≤ w) (C5 : 0 ≤ 999 - w) : (True) ∧ (q_qry V (63 : Int) q b s o a1 a2 a3 (1000 * v + w) W r ∧ True) := by
  exact ⟨trivial, g_qr T1 (g_Qpc (by omega) (by omega) (by omega) (Or.inr (Or.inl ⟨T0.1, c_, T0.2, by rw [o_pn0 (by omega)]; omega⟩))), trivial⟩
theorem k_mp11 {V : zVw} {v r w W H c_ q b s o a1 a2 a3 : Int} (T0 : ¬ o_E V (g_jy V q (g_F V q b s o a1 a2 a3 (g_nw V)) 0) (g_F V q b s o a1 a2 a3 (g_nw V)) w W ∧ o_f1 V (g_F V q b s o a1 a2 a3 (g_nw V)) (g_jy V q (g_F V q b s o a1 a2 a3 (g_nw V))) w W c_) (T1 : q_rwo V H q b s o a1 a2 a3) (C0 : 0 ≤ v - 1) (C1 : 0 ≤ 1 - v) (C2 : 0 ≤ r - c_) (C3 : 0 ≤ c_ - r) (C4 : 0 ≤ w) (C5 : 0 ≤ 999 - w) : (True) ∧ (q_qry V (63 : Int) q b s o a1 a2 a3 (1000 * v + w) W r ∧ True) := by
  exact ⟨trivial, g_qr T1 (g_Qpc (by omega) (by omega) (by omega) (Or.inr (Or.inl ⟨T0.1, c_, T0.2, by rw [o_pn1 (by omega)]; omega⟩))), trivial⟩
theorem k_mp12 {V : zVw} {v r w W H c_ q b s o a1 a2 a3 : Int} (T0 : ¬ o_E V (g_jy V q (g_F V q b s o a1 a2 a3 (g_nw V)) 0) (g_F V q b s o a1 a2 a3 (g_nw V)) w W ∧ o_f1 V (g_F V q b s o a1 a2 a3 (g_nw V)) (g_jy V q (g_F V q b s o a1 a2 a3 (g_nw V))) w W c_) (T1 : q_rwo V H q b s o a1 a2 a3) (C0 : 0 ≤ v - 2) (C1 : 0 ≤ 2 - v) (C2 : 0 ≤ r + 1) (C3 : 0 ≤ -r - 1) (C4 : 0 ≤ w) (C5 : 0 ≤ 999 - w) : (True) ∧ (q_qry V (63 : Int) q b s o a1 a2 a3 (1000 * v + w) W r ∧ True) := by
  exact ⟨trivial, g_qr T1 (g_Qpc (by omega) (by omega) (by omega) (Or.inr (Or.inl ⟨T0.1, c_, T0.2, by rw [o_pn2 (by omega)]; omega⟩))), trivial⟩
theorem k_mp20 {V : zVw} {v r w W H c_ d_ q b s o a1 a2 a3 : Int} (T0 : ¬ o_E V (g_jy V q (g_F V q b s o a1 a2 a3 (g_nw V)) 0) (g_F V q b s o a1 a2 a3 (g_nw V)) w W ∧ o_n1 V (g_F V q b s o a1 a2 a3 (g_nw V)) (g_jy V q (g_F V q b s o a1 a2 a3 (g_nw V))) w W ∧ o_f2 V (g_F V q b s o a1 a2 a3 (g_nw V)) (g_jy V q (g_F V q b s o a1 a2 a3 (g_nw V))) w W c_ d_) (T1 : q_rwo V H q b s o a1 a2 a3) (C0 : 0 ≤ v) (C1 : 0 ≤ -v) (C2 : 0 ≤ r - 2) (C3 : 0 ≤ 2 - r) (C4 : 0 ≤ w) (C5 : 0 ≤ 999 - w) : (True) ∧ (q_qry V (63 : Int) q b s o a1 a2 a3 (1000 * v + w) W r ∧ True) := by
  exact ⟨trivial, g_qr T1 (g_Qpc (by omega) (by omega) (by omega) (Or.inr (Or.inr (Or.inl ⟨T0.1, T0.2.1, c_, d_, T0.2.2, by rw [o_pn0 (by omega)]; omega⟩)))), trivial⟩
theorem k_mp21 {V : zVw} {v r w W H c_ d_ q b s o a1 a2 a3 : Int} (T0 : ¬ o_E V (g_jy V q (g_F V q b s o a1 a2 a3 (g_nw V)) 0) (g_F V q b s o a1 a2 a3 (g_nw V)) w W ∧ o_n1 V (g_F V q b s o a1 a2 a3 (g_nw V)) (g_jy V q (g_F V q b s o a1 a2 a3 (g_nw V))) w W ∧ o_f2 V (g_F V q b s o a1 a2 a3 (g_nw V)) (g_jy V q (g_F V q b s o a1 a2 a3 (g_nw V))) w W c_ d_) (T1 : q_rwo V H q b s o a1 a2 a3) (C0 : 0 ≤ v - 1) (C1 : 0 ≤ 1 - v) (C2 : 0 ≤ r - c_) (C3 : 0 ≤ c_ - r) (C4 : 0 ≤ w) (C5 : 0 ≤ 999 - w) : (True) ∧ (q_qry V (63 : Int) q b s o a1 a2 a3 (1000 * v + w) W r ∧ True) := by
  exact ⟨trivial, g_qr T1 (g_Qpc (by omega) (by omega) (by omega) (Or.inr (Or.inr (Or.inl ⟨T0.1, T0.2.1, c_, d_, T0.2.2, by rw [o_pn1 (by omega)]; omega⟩)))), trivial⟩
theorem k_mp22 {V : zVw} {v r w W H c_ d_ q b s o a1 a2 a3 : Int} (T0 : ¬ o_E V (g_jy V q (g_F V q b s o a1 a2 a3 (g_nw V)) 0) (g_F V q b s o a1 a2 a3 (g_nw V)) w W ∧ o_n1 V (g_F V q b s o a1 a2 a3 (g_nw V)) (g_jy V q (g_F V q b s o a1 a2 a3 (g_nw V))) w W ∧ o_f2 V (g_F V q b s o a1 a2 a3 (g_nw V)) (g_jy V q (g_F V q b s o a1 a2 a3 (g_nw V))) w W c_ d_) (T1 : q_rwo V H q b s o a1 a2 a3) (C0 : 0 ≤ v - 2) (C1 : 0 ≤ 2 - v) (C2 : 0 ≤ r - d_) (C3 : 0 ≤ d_ - r) (C4 : 0 ≤ w) (C5 : 0 ≤ 999 - w) : (True) ∧ (q_qry V (63 : Int) q b s o a1 a2 a3 (1000 * v + w) W r ∧ True) := by
  exact ⟨trivial, g_qr T1 (g_Qpc (by omega) (by omega) (by omega) (Or.inr (Or.inr (Or.inl ⟨T0.1, T0.2.1, c_, d_, T0.2.2, by rw [o_pn2 (by omega)]; omega⟩)))), trivial⟩
theorem k_pmZ {V : zVw} {k v w W H q b s o a1 a2 a3 : Int} (T0 : q_rwo V H q b s o a1 a2 a3) (T1 : o_p1 V (g_F V q b s o a1 a2 a3 (g_nw V)) (g_jy V q (g_F V q b s o a1 a2 a3 (g_nw V))) w W (60 : Int)) (T2 : o_p2 V (g_F V q b s o a1 a2 a3 (g_nw V)) (g_jy V q (g_F V q b s o a1 a2 a3 (g_nw V))) w W k (0 : Int)) (T3 : ¬ o_E V (g_jy V q (g_F V q b s o a1 a2 a3 (g_nw V)) (0 : Int)) (g_F V q b s o a1 a2 a3 (g_nw V)) w W) (C0 : 0 ≤ k - 60) (C1 : 0 ≤ v) (C2 : 0 ≤ 2 - v) (C3 : 0 ≤ w) (C4 : 0 ≤ 999 - w) : (True) ∧ (q_qry V (63 : Int) q b s o a1 a2 a3 (1000 * v + w) W (-2 : Int) ∧ True) := by
  exact ⟨trivial, g_qr T0 (g_Qpc (by omega) (by omega) (by omega) (Or.inr (Or.inr (Or.inr ⟨T3, o_p1_n T1, o_p2_n T2 (by omega), rfl⟩)))), trivial⟩
theorem k_qePc {V : zVw} {q x W u w : Int} (T0 : q_qry V (63 : Int) q (0 : Int) (0 : Int) (0 : Int) (0 : Int) (0 : Int) (0 : Int) x W u) (T1 : q_qry V (63 : Int) q (0 : Int) (0 : Int) (0 : Int) (0 : Int) (0 : Int) (0 : Int) x W w) : (0 ≤ u - w ∧ 0 ≤ w - u ∧ True) ∧ (True) := by
  have h9 := o_pce_u (g_k63 T0) (g_k63 T1)
  exact ⟨⟨by omega, by omega, trivial⟩, trivial⟩
