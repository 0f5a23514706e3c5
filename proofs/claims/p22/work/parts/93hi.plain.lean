/-! ===== the lemmas in plain numbers, by program ===== -/
theorem k_hbY {V : zVw} {w i u m : Int} (T0 : ∀ t : Int, 0 ≤ t → t < i → w ≤ V 25 t) (C0 : 0 ≤ i) (C1 : 0 ≤ 10 - i) (C2 : 0 ≤ w - u - 1) (C3 : 0 ≤ m - i - 1) (F0 : (0 : Int) ≤ i ∧ (i : Int) < j_len 25 ∧ V 25 (i) = u) : (True) ∧ (((0 ≤ i ∧ i < m ∧ V 25 i < w ∧ ∀ t : Int, 0 ≤ t → t < i → w ≤ V 25 t) ∨ (i = -1 ∧ ∀ t : Int, 0 ≤ t → t < m → w ≤ V 25 t)) ∧ True) := by
  have h7 := F0.2.2
  exact ⟨trivial, Or.inl ⟨by omega, by omega, by omega, T0⟩, trivial⟩
theorem k_hbN {V : zVw} {w i m : Int} (T0 : ∀ t : Int, 0 ≤ t → t < i → w ≤ V 25 t) (C0 : 0 ≤ i - m) (C1 : 0 ≤ m) : (True) ∧ (((0 ≤ (-1 : Int) ∧ (-1 : Int) < m ∧ V 25 (-1 : Int) < w ∧ ∀ t : Int, 0 ≤ t → t < (-1 : Int) → w ≤ V 25 t) ∨ ((-1 : Int) = -1 ∧ ∀ t : Int, 0 ≤ t → t < m → w ≤ V 25 t)) ∧ True) := by
  exact ⟨trivial, Or.inr ⟨rfl, fun t t0 t1 => T0 t t0 (by omega)⟩, trivial⟩
theorem k_brk1 {V : zVw} {w m i q b s o a1 a2 a3 : Int} (T0 : q_mgn V q b s o a1 a2 a3 (-2 : Int) m) (T1 : (0 ≤ i ∧ i < m ∧ V 25 i < w ∧ ∀ t : Int, 0 ≤ t → t < i → w ≤ V 25 t) ∨ (i = -1 ∧ ∀ t : Int, 0 ≤ t → t < m → w ≤ V 25 t)) (C0 : 0 ≤ i) (C1 : 0 ≤ 9999 - w) : (True) ∧ (q_qry V (3 : Int) q b s o a1 a2 a3 w (0 : Int) (i + 1) ∧ True) := by
  obtain ⟨h9, h8, h7⟩ := T0
  have h6 : ∀ t : Int, 0 ≤ t → t < m → V 25 t = g_sp V q (g_F V q b s o a1 a2 a3 (g_nw V)) (t + 1) := fun t t0 t1 => h7 t t0 (by omega) t1
  obtain ⟨H9, w9⟩ := id h9
  have w24 := w9.2.1
  have h5 : m ≤ 2 * g_F V q b s o a1 a2 a3 (g_nw V) 24 - 1 ∨ m = 0 := by
    rw [h8]; split <;> omega
  rcases T1 with ⟨i0, i1, i2, i3⟩ | ⟨i0, -⟩
  · refine ⟨trivial, ⟨h9, show g_br _ _ _ w (i + 1) from Or.inl ⟨by omega, by omega, by rw [← h6 i i0 i1]; exact i2, fun k k0 k1 => ?_⟩⟩, trivial⟩
    by_cases c9 : k = 0
    · rw [c9, g_sp_0]; omega
    · have h4 := h6 (k - 1) (by omega) (by omega)
      rw [show k - 1 + 1 = k by omega] at h4
      rw [← h4]; exact i3 (k - 1) (by omega) (by omega)
  · omega
theorem k_brk0 {V : zVw} {w m q b s o a1 a2 a3 : Int} (T0 : q_mgn V q b s o a1 a2 a3 (-2 : Int) m) (T1 : (0 ≤ (-1 : Int) ∧ (-1 : Int) < m ∧ V 25 (-1 : Int) < w ∧ ∀ t : Int, 0 ≤ t → t < (-1 : Int) → w ≤ V 25 t) ∨ ((-1 : Int) = -1 ∧ ∀ t : Int, 0 ≤ t → t < m → w ≤ V 25 t)) (C0 : 0 ≤ 9999 - w) : (True) ∧ (q_qry V (3 : Int) q b s o a1 a2 a3 w (0 : Int) (-1 : Int) ∧ True) := by
  obtain ⟨h9, h8, h7⟩ := T0
  have h6 : ∀ t : Int, 0 ≤ t → t < m → V 25 t = g_sp V q (g_F V q b s o a1 a2 a3 (g_nw V)) (t + 1) := fun t t0 t1 => h7 t t0 (by omega) t1
  have hm : ∀ k : Int, k < 2 * g_F V q b s o a1 a2 a3 (g_nw V) 24 → 1 ≤ k → k - 1 < m := fun k k1 k2 => by
    rw [h8]; split <;> omega
  rcases T1 with ⟨i0, i1, i2, i3⟩ | ⟨-, i3⟩
  · omega
  · refine ⟨trivial, ⟨h9, show g_br _ _ _ w (-1) from Or.inr ⟨rfl, fun k k0 k1 => ?_⟩⟩, trivial⟩
    by_cases c9 : k = 0
    · rw [c9, g_sp_0]; omega
    · have h5 := hm k k1 (by omega)
      have h4 := h6 (k - 1) (by omega) h5
      rw [show k - 1 + 1 = k by omega] at h4
      rw [← h4]; exact i3 (k - 1) (by omega) h5
theorem k_mix {V : zVw} {h it a g c e i : Int} (T0 : (mOP 103 (Int32.ofInt h) (Int32.ofInt it)).toInt = a) (T1 : (mOP 100 (Int32.ofInt a) (Int32.ofInt (1103515245 : Int))).toInt = g) (T2 : (mOP 110 (Int32.ofInt g) (Int32.ofInt (12345 : Int))).toInt = c) (T3 : (mOP 106 (Int32.ofInt c) (Int32.ofInt (15 : Int))).toInt = i) (T4 : (mOP 103 (Int32.ofInt c) (Int32.ofInt i)).toInt = e) : (True) ∧ ((e = g_mx h it) ∧ True) := by
  subst T0 T1 T2 T3 T4
  exact ⟨trivial, rfl, trivial⟩
theorem k_lot {V : zVw} {z w a c e r : Int} (T0 : a = g_mx z (219 : Int)) (T1 : c = g_mx a w) (T2 : (mOP 106 (Int32.ofInt c) (Int32.ofInt (1 : Int))).toInt = e) (T3 : (mOP 108 (Int32.ofInt e) (Int32.ofInt (100 : Int))).toInt = r) : (0 ≤ r ∧ 0 ≤ 99 - r ∧ True) ∧ ((r = g_lot z w) ∧ True) := by
  have h9 : r = g_lot z w := by
    subst T0 T1 T2 T3; rfl
  have h8 := g_lot_b z w
  rw [← h9] at h8
  exact ⟨⟨by omega, by omega, trivial⟩, h9, trivial⟩
theorem k_saxY {V : zVw} {h i x z H p y d q b s o a1 a2 a3 : Int} (T0 : q_sto V 0 H p y d q b s o a1 a2 a3) (T1 : q_qry V (6 : Int) q b s o a1 a2 a3 h (0 : Int) i) (T2 : q_qry V (8 : Int) q b s o a1 a2 a3 h (0 : Int) x) (T3 : q_qry V (8 : Int) q b s o a1 a2 a3 (h + 12) (0 : Int) z) (C0 : 0 ≤ i) (C1 : 0 ≤ 5 - i) (C2 : 0 ≤ h) (C3 : 0 ≤ 5 - h) : (True) ∧ (q_sax V 0 H p y d q b s o a1 a2 a3 h i x z ∧ True) := by
  have z0 := g_k8 T2
  have z1 := g_k8 T3
  rw [show h + 12 = 12 + h by omega] at z1
  exact ⟨trivial, ⟨T0.1, g_sax_mk T0.1.1 T0.2 (g_k6 T1) (by omega) (by omega) z0.symm (fun _ => z1.symm)⟩, trivial⟩
theorem k_saxN {V : zVw} {h x H p y d q b s o a1 a2 a3 : Int} (T0 : q_sto V 0 H p y d q b s o a1 a2 a3) (T1 : q_qry V (6 : Int) q b s o a1 a2 a3 h (0 : Int) (-1 : Int)) (T2 : q_qry V (8 : Int) q b s o a1 a2 a3 h (0 : Int) x) (C0 : 0 ≤ h) (C1 : 0 ≤ H - h - 1) (C2 : 0 ≤ 6 - H) : (True) ∧ (q_sax V 0 H p y d q b s o a1 a2 a3 h (-1 : Int) x (0 : Int) ∧ True) := by
  have z0 := g_k8 T2
  exact ⟨trivial, ⟨T0.1, g_sax_mk T0.1.1 T0.2 (g_k6 T1) (by omega) (by omega) z0.symm (fun z9 => by omega)⟩, trivial⟩
theorem k_ageEY {V : zVw} {h i x z v w n H p y d q b s : Int} (T0 : q_sax V 0 H p y d q b s (4 : Int) n h H h i x z) (T1 : q_qry V (20 : Int) q b s (4 : Int) n h H h (0 : Int) v) (T2 : q_qry V (21 : Int) q b s (4 : Int) n h H h (0 : Int) w) (T3 : q_qry V (6 : Int) q b s (4 : Int) n h H h (0 : Int) i) (C0 : 0 ≤ i) (C1 : 0 ≤ 5 - i) (C2 : 0 ≤ h) (C3 : 0 ≤ H - h - 1) (C4 : 0 ≤ 6 - H) (C5 : 0 ≤ p - i - 1) (C6 : 0 ≤ 6 - p) (F0 : (0 : Int) ≤ h ∧ (h : Int) < j_len 27 ∧ V 27 (h) = v) (F1 : (0 : Int) ≤ i ∧ (i : Int) < j_len 31 ∧ V 31 (i) = w) : (True) ∧ (q_sto V 0 H p y d q b s (4 : Int) n (h + 1) H ∧ True) := by
  have z0 := g_k20 T1
  have z1 := g_k21 T2
  have z2 := g_k6 T3
  obtain ⟨h9, h8⟩ := g_sax_y1 T0.1.1 T0.2 z2 (by omega) (by omega) (F0.2.2.trans z0) (fun _ => F1.2.2.trans z1)
  have h7 : g_F V q b s 4 n (h + 1) H (g_nw V) = g_y1 V q b s (g_F V q b s 4 n h H (g_nw V)) h := by
    show g_ya V q b s (g_yr V q b s H (g_nw V) n.toNat) (h + 1).toNat = g_y1 V q b s (g_ya V q b s (g_yr V q b s H (g_nw V) n.toNat) h.toNat) h
    rw [show (h + 1).toNat = h.toNat + 1 by omega]
    show g_y1 V q b s _ ((h.toNat : Nat) : Int) = _
    rw [show ((h.toNat : Nat) : Int) = h by omega]
  exact ⟨trivial, ⟨⟨by rw [h7]; exact h9, T0.1.2⟩, by rw [h7]; exact h8⟩, trivial⟩
theorem k_ageEN {V : zVw} {h x v n H p y d q b s : Int} (T0 : q_sax V 0 H p y d q b s (4 : Int) n h H h (-1 : Int) x (0 : Int)) (T1 : q_qry V (20 : Int) q b s (4 : Int) n h H h (0 : Int) v) (T2 : q_qry V (6 : Int) q b s (4 : Int) n h H h (0 : Int) (-1 : Int)) (C0 : 0 ≤ h) (C1 : 0 ≤ H - h - 1) (C2 : 0 ≤ 6 - H) (C3 : 0 ≤ p) (C4 : 0 ≤ 6 - p) (F0 : (0 : Int) ≤ h ∧ (h : Int) < j_len 27 ∧ V 27 (h) = v) : (True) ∧ (q_sto V 0 H p y d q b s (4 : Int) n (h + 1) H ∧ True) := by
  have z0 := g_k20 T1
  have z2 := g_k6 T2
  obtain ⟨h9, h8⟩ := g_sax_y1 T0.1.1 T0.2 z2 (by omega) (by omega) (F0.2.2.trans z0) (fun z9 => by omega)
  have h7 : g_F V q b s 4 n (h + 1) H (g_nw V) = g_y1 V q b s (g_F V q b s 4 n h H (g_nw V)) h := by
    show g_ya V q b s (g_yr V q b s H (g_nw V) n.toNat) (h + 1).toNat = g_y1 V q b s (g_ya V q b s (g_yr V q b s H (g_nw V) n.toNat) h.toNat) h
    rw [show (h + 1).toNat = h.toNat + 1 by omega]
    show g_y1 V q b s _ ((h.toNat : Nat) : Int) = _
    rw [show ((h.toNat : Nat) : Int) = h by omega]
  exact ⟨trivial, ⟨⟨by rw [h7]; exact h9, T0.1.2⟩, by rw [h7]; exact h8⟩, trivial⟩
theorem k_ageSY {V : zVw} {h i x z v w n H p y d q b s : Int} (T0 : q_sax V 0 H p y d q b s (5 : Int) n h (0 : Int) h i x z) (T1 : q_qry V (20 : Int) q b s (5 : Int) n h (0 : Int) h (0 : Int) v) (T2 : q_qry V (21 : Int) q b s (5 : Int) n h (0 : Int) h (0 : Int) w) (T3 : q_qry V (6 : Int) q b s (5 : Int) n h (0 : Int) h (0 : Int) i) (C0 : 0 ≤ i) (C1 : 0 ≤ 5 - i) (C2 : 0 ≤ h) (C3 : 0 ≤ H - h - 1) (C4 : 0 ≤ 6 - H) (C5 : 0 ≤ p - i - 1) (C6 : 0 ≤ 6 - p) (F0 : (0 : Int) ≤ h ∧ (h : Int) < j_len 27 ∧ V 27 (h) = v) (F1 : (0 : Int) ≤ i ∧ (i : Int) < j_len 31 ∧ V 31 (i) = w) : (True) ∧ (q_sto V 0 H p y d q b s (5 : Int) n h (1 : Int) ∧ True) := by
  have z0 := g_k20 T1
  have z1 := g_k21 T2
  have z2 := g_k6 T3
  obtain ⟨h9, h8⟩ := g_sax_y1 T0.1.1 T0.2 z2 (by omega) (by omega) (F0.2.2.trans z0) (fun _ => F1.2.2.trans z1)
  exact ⟨trivial, ⟨⟨h9, T0.1.2⟩, h8⟩, trivial⟩
theorem k_ageSN {V : zVw} {h x v n H p y d q b s : Int} (T0 : q_sax V 0 H p y d q b s (5 : Int) n h (0 : Int) h (-1 : Int) x (0 : Int)) (T1 : q_qry V (20 : Int) q b s (5 : Int) n h (0 : Int) h (0 : Int) v) (T2 : q_qry V (6 : Int) q b s (5 : Int) n h (0 : Int) h (0 : Int) (-1 : Int)) (C0 : 0 ≤ h) (C1 : 0 ≤ H - h - 1) (C2 : 0 ≤ 6 - H) (C3 : 0 ≤ p) (C4 : 0 ≤ 6 - p) (F0 : (0 : Int) ≤ h ∧ (h : Int) < j_len 27 ∧ V 27 (h) = v) : (True) ∧ (q_sto V 0 H p y d q b s (5 : Int) n h (1 : Int) ∧ True) := by
  have z0 := g_k20 T1
  have z2 := g_k6 T2
  obtain ⟨h9, h8⟩ := g_sax_y1 T0.1.1 T0.2 z2 (by omega) (by omega) (F0.2.2.trans z0) (fun z9 => by omega)
  exact ⟨trivial, ⟨⟨h9, T0.1.2⟩, h8⟩, trivial⟩
theorem k_ns1 {V : zVw} {h i z w v q b s o a1 a2 a3 : Int} (T0 : q_qry V (6 : Int) q b s o a1 a2 a3 h (0 : Int) i) (T1 : q_qry V (8 : Int) q b s o a1 a2 a3 (h + 12) (0 : Int) z) (T2 : q_qry V (4 : Int) q b s o a1 a2 a3 (1 : Int) h w) (C0 : 0 ≤ i) (C1 : 0 ≤ 5 - i) (C2 : 0 ≤ h) (C3 : 0 ≤ 5 - h) (C4 : 0 ≤ z - w) (C5 : 0 ≤ w + v - z) (C6 : 0 ≤ z - w - v) (F0 : (0 : Int) ≤ i ∧ (i : Int) < j_len 31 ∧ V 31 (i) = v) : (True) ∧ (q_qry V (21 : Int) q b s o a1 a2 a3 h (0 : Int) v ∧ True) := by
  have z0 := g_k6 T0
  have z1 := g_k8 T1
  have z2 := g_k4 T2
  obtain ⟨⟨H9, w9⟩, -⟩ := id T0
  have h8 := z0.get (by omega)
  have h7 := w9.len (i := i) (by omega) (by omega)
  rw [h8.1] at h7
  rw [show h + 12 = 12 + h by omega] at z1
  exact ⟨trivial, g_qq T0 (show v = g_nst _ _ _ h by unfold g_nst; rw [if_pos h7.1, ← z1, ← z2, if_pos (by omega)]; omega), trivial⟩
theorem k_ns0 {V : zVw} {h i z w v q b s o a1 a2 a3 : Int} (T0 : q_qry V (6 : Int) q b s o a1 a2 a3 h (0 : Int) i) (T1 : q_qry V (8 : Int) q b s o a1 a2 a3 (h + 12) (0 : Int) z) (T2 : q_qry V (4 : Int) q b s o a1 a2 a3 (1 : Int) h w) (C0 : 0 ≤ i) (C1 : 0 ≤ 5 - i) (C2 : 0 ≤ h) (C3 : 0 ≤ 5 - h) (C4 : 0 ≤ w - z - 1) (C5 : 0 ≤ v) (C6 : 0 ≤ -v) (F0 : (0 : Int) ≤ i ∧ (i : Int) < j_len 31 ∧ V 31 (i) = v) : (True) ∧ (q_qry V (21 : Int) q b s o a1 a2 a3 h (0 : Int) v ∧ True) := by
  have z0 := g_k6 T0
  have z1 := g_k8 T1
  have z2 := g_k4 T2
  obtain ⟨⟨H9, w9⟩, -⟩ := id T0
  have h8 := z0.get (by omega)
  have h7 := w9.len (i := i) (by omega) (by omega)
  rw [h8.1] at h7
  rw [show h + 12 = 12 + h by omega] at z1
  exact ⟨trivial, g_qq T0 (show v = g_nst _ _ _ h by unfold g_nst; rw [if_pos h7.1, ← z1, ← z2, if_neg (by omega)]; omega), trivial⟩
theorem k_saxYt {V : zVw} {h i x z H p y d q b s o a1 a2 a3 : Int} (T0 : q_sto V 1 H p y d q b s o a1 a2 a3) (T1 : q_qry V (6 : Int) q b s o a1 a2 a3 h (0 : Int) i) (T2 : q_qry V (8 : Int) q b s o a1 a2 a3 h (0 : Int) x) (T3 : q_qry V (8 : Int) q b s o a1 a2 a3 (h + 12) (0 : Int) z) (C0 : 0 ≤ i) (C1 : 0 ≤ 5 - i) (C2 : 0 ≤ h) (C3 : 0 ≤ 5 - h) : (True) ∧ (q_sax V 1 H p y d q b s o a1 a2 a3 h i x z ∧ True) := by
  have z0 := g_k8 T2
  have z1 := g_k8 T3
  rw [show h + 12 = 12 + h by omega] at z1
  exact ⟨trivial, ⟨T0.1, g_sax_mk T0.1.1 T0.2 (g_k6 T1) (by omega) (by omega) z0.symm (fun _ => z1.symm)⟩, trivial⟩
theorem k_saxNt {V : zVw} {h x H p y d q b s o a1 a2 a3 : Int} (T0 : q_sto V 1 H p y d q b s o a1 a2 a3) (T1 : q_qry V (6 : Int) q b s o a1 a2 a3 h (0 : Int) (-1 : Int)) (T2 : q_qry V (8 : Int) q b s o a1 a2 a3 h (0 : Int) x) (C0 : 0 ≤ h) (C1 : 0 ≤ H - h - 1) (C2 : 0 ≤ 6 - H) : (True) ∧ (q_sax V 1 H p y d q b s o a1 a2 a3 h (-1 : Int) x (0 : Int) ∧ True) := by
  have z0 := g_k8 T2
  exact ⟨trivial, ⟨T0.1, g_sax_mk T0.1.1 T0.2 (g_k6 T1) (by omega) (by omega) z0.symm (fun z9 => by omega)⟩, trivial⟩
theorem k_ageEYt {V : zVw} {h i x z v w n H p y d q b s : Int} (T0 : q_sax V 1 H p y d q b s (4 : Int) n h H h i x z) (T1 : q_qry V (20 : Int) q b s (4 : Int) n h H h (0 : Int) v) (T2 : q_qry V (21 : Int) q b s (4 : Int) n h H h (0 : Int) w) (T3 : q_qry V (6 : Int) q b s (4 : Int) n h H h (0 : Int) i) (C0 : 0 ≤ i) (C1 : 0 ≤ 5 - i) (C2 : 0 ≤ h) (C3 : 0 ≤ H - h - 1) (C4 : 0 ≤ 6 - H) (C5 : 0 ≤ p - i - 1) (C6 : 0 ≤ 6 - p) (F0 : (0 : Int) ≤ h ∧ (h : Int) < j_len 107 ∧ V 107 (h) = v) (F1 : (0 : Int) ≤ i ∧ (i : Int) < j_len 111 ∧ V 111 (i) = w) : (True) ∧ (q_sto V 1 H p y d q b s (4 : Int) n (h + 1) H ∧ True) := by
  have z0 := g_k20 T1
  have z1 := g_k21 T2
  have z2 := g_k6 T3
  obtain ⟨h9, h8⟩ := g_sax_y1 T0.1.1 T0.2 z2 (by omega) (by omega) (F0.2.2.trans z0) (fun _ => F1.2.2.trans z1)
  have h7 : g_F V q b s 4 n (h + 1) H (g_nw V) = g_y1 V q b s (g_F V q b s 4 n h H (g_nw V)) h := by
    show g_ya V q b s (g_yr V q b s H (g_nw V) n.toNat) (h + 1).toNat = g_y1 V q b s (g_ya V q b s (g_yr V q b s H (g_nw V) n.toNat) h.toNat) h
    rw [show (h + 1).toNat = h.toNat + 1 by omega]
    show g_y1 V q b s _ ((h.toNat : Nat) : Int) = _
    rw [show ((h.toNat : Nat) : Int) = h by omega]
  exact ⟨trivial, ⟨⟨by rw [h7]; exact h9, T0.1.2⟩, by rw [h7]; exact h8⟩, trivial⟩
theorem k_ageENt {V : zVw} {h x v n H p y d q b s : Int} (T0 : q_sax V 1 H p y d q b s (4 : Int) n h H h (-1 : Int) x (0 : Int)) (T1 : q_qry V (20 : Int) q b s (4 : Int) n h H h (0 : Int) v) (T2 : q_qry V (6 : Int) q b s (4 : Int) n h H h (0 : Int) (-1 : Int)) (C0 : 0 ≤ h) (C1 : 0 ≤ H - h - 1) (C2 : 0 ≤ 6 - H) (C3 : 0 ≤ p) (C4 : 0 ≤ 6 - p) (F0 : (0 : Int) ≤ h ∧ (h : Int) < j_len 107 ∧ V 107 (h) = v) : (True) ∧ (q_sto V 1 H p y d q b s (4 : Int) n (h + 1) H ∧ True) := by
  have z0 := g_k20 T1
  have z2 := g_k6 T2
  obtain ⟨h9, h8⟩ := g_sax_y1 T0.1.1 T0.2 z2 (by omega) (by omega) (F0.2.2.trans z0) (fun z9 => by omega)
  have h7 : g_F V q b s 4 n (h + 1) H (g_nw V) = g_y1 V q b s (g_F V q b s 4 n h H (g_nw V)) h := by
    show g_ya V q b s (g_yr V q b s H (g_nw V) n.toNat) (h + 1).toNat = g_y1 V q b s (g_ya V q b s (g_yr V q b s H (g_nw V) n.toNat) h.toNat) h
    rw [show (h + 1).toNat = h.toNat + 1 by omega]
    show g_y1 V q b s _ ((h.toNat : Nat) : Int) = _
    rw [show ((h.toNat : Nat) : Int) = h by omega]
  exact ⟨trivial, ⟨⟨by rw [h7]; exact h9, T0.1.2⟩, by rw [h7]; exact h8⟩, trivial⟩
theorem k_ageSYt {V : zVw} {h i x z v w n H p y d q b s : Int} (T0 : q_sax V 1 H p y d q b s (5 : Int) n h (0 : Int) h i x z) (T1 : q_qry V (20 : Int) q b s (5 : Int) n h (0 : Int) h (0 : Int) v) (T2 : q_qry V (21 : Int) q b s (5 : Int) n h (0 : Int) h (0 : Int) w) (T3 : q_qry V (6 : Int) q b s (5 : Int) n h (0 : Int) h (0 : Int) i) (C0 : 0 ≤ i) (C1 : 0 ≤ 5 - i) (C2 : 0 ≤ h) (C3 : 0 ≤ H - h - 1) (C4 : 0 ≤ 6 - H) (C5 : 0 ≤ p - i - 1) (C6 : 0 ≤ 6 - p) (F0 : (0 : Int) ≤ h ∧ (h : Int) < j_len 107 ∧ V 107 (h) = v) (F1 : (0 : Int) ≤ i ∧ (i : Int) < j_len 111 ∧ V 111 (i) = w) : (True) ∧ (q_sto V 1 H p y d q b s (5 : Int) n h (1 : Int) ∧ True) := by
  have z0 := g_k20 T1
  have z1 := g_k21 T2
  have z2 := g_k6 T3
  obtain ⟨h9, h8⟩ := g_sax_y1 T0.1.1 T0.2 z2 (by omega) (by omega) (F0.2.2.trans z0) (fun _ => F1.2.2.trans z1)
  exact ⟨trivial, ⟨⟨h9, T0.1.2⟩, h8⟩, trivial⟩
theorem k_ageSNt {V : zVw} {h x v n H p y d q b s : Int} (T0 : q_sax V 1 H p y d q b s (5 : Int) n h (0 : Int) h (-1 : Int) x (0 : Int)) (T1 : q_qry V (20 : Int) q b s (5 : Int) n h (0 : Int) h (0 : Int) v) (T2 : q_qry V (6 : Int) q b s (5 : Int) n h (0 : Int) h (0 : Int) (-1 : Int)) (C0 : 0 ≤ h) (C1 : 0 ≤ H - h - 1) (C2 : 0 ≤ 6 - H) (C3 : 0 ≤ p) (C4 : 0 ≤ 6 - p) (F0 : (0 : Int) ≤ h ∧ (h : Int) < j_len 107 ∧ V 107 (h) = v) : (True) ∧ (q_sto V 1 H p y d q b s (5 : Int) n h (1 : Int) ∧ True) := by
  have z0 := g_k20 T1
  have z2 := g_k6 T2
  obtain ⟨h9, h8⟩ := g_sax_y1 T0.1.1 T0.2 z2 (by omega) (by omega) (F0.2.2.trans z0) (fun z9 => by omega)
  exact ⟨trivial, ⟨⟨h9, T0.1.2⟩, h8⟩, trivial⟩
theorem k_ns1t {V : zVw} {h i z w v q b s o a1 a2 a3 : Int} (T0 : q_qry V (6 : Int) q b s o a1 a2 a3 h (0 : Int) i) (T1 : q_qry V (8 : Int) q b s o a1 a2 a3 (h + 12) (0 : Int) z) (T2 : q_qry V (4 : Int) q b s o a1 a2 a3 (1 : Int) h w) (C0 : 0 ≤ i) (C1 : 0 ≤ 5 - i) (C2 : 0 ≤ h) (C3 : 0 ≤ 5 - h) (C4 : 0 ≤ z - w) (C5 : 0 ≤ w + v - z) (C6 : 0 ≤ z - w - v) (F0 : (0 : Int) ≤ i ∧ (i : Int) < j_len 111 ∧ V 111 (i) = v) : (True) ∧ (q_qry V (21 : Int) q b s o a1 a2 a3 h (0 : Int) v ∧ True) := by
  have z0 := g_k6 T0
  have z1 := g_k8 T1
  have z2 := g_k4 T2
  obtain ⟨⟨H9, w9⟩, -⟩ := id T0
  have h8 := z0.get (by omega)
  have h7 := w9.len (i := i) (by omega) (by omega)
  rw [h8.1] at h7
  rw [show h + 12 = 12 + h by omega] at z1
  exact ⟨trivial, g_qq T0 (show v = g_nst _ _ _ h by unfold g_nst; rw [if_pos h7.1, ← z1, ← z2, if_pos (by omega)]; omega), trivial⟩
theorem k_ns0t {V : zVw} {h i z w v q b s o a1 a2 a3 : Int} (T0 : q_qry V (6 : Int) q b s o a1 a2 a3 h (0 : Int) i) (T1 : q_qry V (8 : Int) q b s o a1 a2 a3 (h + 12) (0 : Int) z) (T2 : q_qry V (4 : Int) q b s o a1 a2 a3 (1 : Int) h w) (C0 : 0 ≤ i) (C1 : 0 ≤ 5 - i) (C2 : 0 ≤ h) (C3 : 0 ≤ 5 - h) (C4 : 0 ≤ w - z - 1) (C5 : 0 ≤ v) (C6 : 0 ≤ -v) (F0 : (0 : Int) ≤ i ∧ (i : Int) < j_len 111 ∧ V 111 (i) = v) : (True) ∧ (q_qry V (21 : Int) q b s o a1 a2 a3 h (0 : Int) v ∧ True) := by
  have z0 := g_k6 T0
  have z1 := g_k8 T1
  have z2 := g_k4 T2
  obtain ⟨⟨H9, w9⟩, -⟩ := id T0
  have h8 := z0.get (by omega)
  have h7 := w9.len (i := i) (by omega) (by omega)
  rw [h8.1] at h7
  rw [show h + 12 = 12 + h by omega] at z1
  exact ⟨trivial, g_qq T0 (show v = g_nst _ _ _ h by unfold g_nst; rw [if_pos h7.1, ← z1, ← z2, if_neg (by omega)]; omega), trivial⟩
theorem k_bli1 {V : zVw} {h y m c r s q b o a1 a2 a3 : Int} (T0 : r = g_lot s c) (T1 : (mOP 100 (Int32.ofInt (8 : Int)) (Int32.ofInt y)).toInt = m) (T2 : (mOP 110 (Int32.ofInt m) (Int32.ofInt h)).toInt = c) (T3 : q_qry V (8 : Int) q b s o a1 a2 a3 (31 : Int) (0 : Int) y) (C0 : 0 ≤ b - r - 1) : (True) ∧ (q_qry V (25 : Int) q b s o a1 a2 a3 h (0 : Int) (1 : Int) ∧ True) := by
  have z0 := g_k8 T3
  have h9 : g_op 110 (g_op 100 8 (g_F V q b s o a1 a2 a3 (g_nw V) 31)) h = c := by
    rw [← z0]
    subst T1
    exact T2
  exact ⟨trivial, g_qq T3 (show (1 : Int) = g_bli _ _ _ h by unfold g_bli; rw [h9, ← T0, if_pos (by omega)]), trivial⟩
theorem k_bli0 {V : zVw} {h y m c r s q b o a1 a2 a3 : Int} (T0 : r = g_lot s c) (T1 : (mOP 100 (Int32.ofInt (8 : Int)) (Int32.ofInt y)).toInt = m) (T2 : (mOP 110 (Int32.ofInt m) (Int32.ofInt h)).toInt = c) (T3 : q_qry V (8 : Int) q b s o a1 a2 a3 (31 : Int) (0 : Int) y) (C0 : 0 ≤ r - b) : (True) ∧ (q_qry V (25 : Int) q b s o a1 a2 a3 h (0 : Int) (0 : Int) ∧ True) := by
  have z0 := g_k8 T3
  have h9 : g_op 110 (g_op 100 8 (g_F V q b s o a1 a2 a3 (g_nw V) 31)) h = c := by
    rw [← z0]
    subst T1
    exact T2
  exact ⟨trivial, g_qq T3 (show (0 : Int) = g_bli _ _ _ h by unfold g_bli; rw [h9, ← T0, if_neg (by omega)]), trivial⟩
theorem k_nhB {V : zVw} {h x v q b s o a1 a2 a3 : Int} (T0 : q_qry V (8 : Int) q b s o a1 a2 a3 h (0 : Int) x) (T1 : (mOP 107 (Int32.ofInt x) (Int32.ofInt (2 : Int))).toInt = v) (T2 : q_qry V (25 : Int) q b s o a1 a2 a3 h (0 : Int) (1 : Int)) (C0 : 0 ≤ h) (C1 : 0 ≤ 5 - h) : (True) ∧ (q_qry V (20 : Int) q b s o a1 a2 a3 h (0 : Int) v ∧ True) := by
  have z0 := g_k8 T0
  have z1 := g_k25 T2
  have h9 : g_op 107 x 2 = v := T1
  exact ⟨trivial, g_qq T0 (show v = g_nha _ _ _ _ _ h by unfold g_nha; rw [if_pos z1.symm, ← z0]; exact h9.symm), trivial⟩
theorem k_nhG1 {V : zVw} {h x v g q b s o a1 a2 a3 : Int} (T0 : q_qry V (8 : Int) q b s o a1 a2 a3 h (0 : Int) x) (T1 : q_qry V (4 : Int) q b s o a1 a2 a3 (0 : Int) h g) (T2 : q_qry V (25 : Int) q b s o a1 a2 a3 h (0 : Int) (0 : Int)) (C0 : 0 ≤ h) (C1 : 0 ≤ 5 - h) (C2 : 0 ≤ 99 - x - g) (C3 : 0 ≤ v - x - g) (C4 : 0 ≤ x + g - v) : (True) ∧ (q_qry V (20 : Int) q b s o a1 a2 a3 h (0 : Int) v ∧ True) := by
  have z0 := g_k8 T0
  have z2 := g_k4 T1
  have z1 := g_k25 T2
  exact ⟨trivial, g_qq T0 (show v = g_nha _ _ _ _ _ h by unfold g_nha; rw [if_neg (by rw [← z1]; omega), ← z0, ← z2, if_pos (by omega)]; omega), trivial⟩
theorem k_nhG9 {V : zVw} {h x v g q b s o a1 a2 a3 : Int} (T0 : q_qry V (8 : Int) q b s o a1 a2 a3 h (0 : Int) x) (T1 : q_qry V (4 : Int) q b s o a1 a2 a3 (0 : Int) h g) (T2 : q_qry V (25 : Int) q b s o a1 a2 a3 h (0 : Int) (0 : Int)) (C0 : 0 ≤ h) (C1 : 0 ≤ 5 - h) (C2 : 0 ≤ x + g - 100) (C3 : 0 ≤ v - 99) (C4 : 0 ≤ 99 - v) : (True) ∧ (q_qry V (20 : Int) q b s o a1 a2 a3 h (0 : Int) v ∧ True) := by
  have z0 := g_k8 T0
  have z2 := g_k4 T1
  have z1 := g_k25 T2
  exact ⟨trivial, g_qq T0 (show v = g_nha _ _ _ _ _ h by unfold g_nha; rw [if_neg (by rw [← z1]; omega), ← z0, ← z2, if_neg (by omega)]; omega), trivial⟩
theorem k_hlf {V : zVw} {x v : Int} (T0 : (mOP 107 (Int32.ofInt x) (Int32.ofInt (2 : Int))).toInt = v) (C0 : 0 ≤ x) (C1 : 0 ≤ 99 - x) : (0 ≤ v ∧ 0 ≤ 49 - v ∧ True) ∧ (True) := by
  have h9 := g_op_div (a := x) (b := 2) (by omega) (by omega) (by omega) (by omega)
  have h8 : g_op 107 x 2 = v := T0
  exact ⟨⟨by omega, by omega, trivial⟩, trivial⟩
theorem k_sp100 {V : zVw} {v : Int} : ((0 ≤ 99 - v ∧ True) ∧ (True)) ∨ ((0 ≤ v - 100 ∧ True) ∧ (True)) := by
  simp only [and_true]
  omega
theorem k_yrE {V : zVw} {p y d n y2 H q b s : Int} (T0 : (mOP 110 (Int32.ofInt y) (Int32.ofInt (1 : Int))).toInt = y2) (T1 : q_sto V 0 H p y d q b s (4 : Int) n H H) (C0 : 0 ≤ H) (C1 : 0 ≤ n) : (True) ∧ (q_sto V 0 H p y2 d q b s (4 : Int) (n + 1) (0 : Int) H ∧ True) := by
  have h9 : g_op 110 y 1 = y2 := T0
  obtain ⟨⟨p1, p2, p3⟩, p4, p5⟩ := g_st0_pt T1
  have w9 := T1.1.1
  have w24 := w9.2.1
  have wH := w9.1
  have h7 : g_F V q b s 4 (n + 1) 0 H (g_nw V) = g_yi (g_F V q b s 4 n H H (g_nw V)) := by
    show g_yr V q b s H (g_nw V) (n + 1).toNat = g_yi (g_ya V q b s (g_yr V q b s H (g_nw V) n.toNat) H.toNat)
    rw [show (n + 1).toNat = n.toNat + 1 by omega]
    rfl
  refine ⟨trivial, ⟨⟨by rw [h7]; exact w9.yi, T1.1.2⟩, ?_⟩, trivial⟩
  rw [h7]
  refine g_pt_rv w9.yi (g_sto_sup T1).yi ⟨⟨?_, ?_, ?_⟩, fun k k0 k1 => ?_, fun i i0 i1 => ?_⟩
  · rw [g_yi_o (by omega)]; exact p1
  · rw [g_yi_y, ← p2]; exact h9.symm
  · rw [g_yi_o (by omega)]; exact p3
  · rw [g_yi_o (by omega), g_yi_o (by omega)]; exact p4 k k0 k1
  · have h6 := w9.pl_lt i0 (show i < _ by omega)
    rw [g_yi_o (by omega), g_yi_o (by omega), g_yi_o (by omega)]; exact p5 i i0 i1
theorem k_yrEt {V : zVw} {p y d n y2 H q b s : Int} (T0 : (mOP 110 (Int32.ofInt y) (Int32.ofInt (1 : Int))).toInt = y2) (T1 : q_sto V 1 H p y d q b s (4 : Int) n H H) (C0 : 0 ≤ H) (C1 : 0 ≤ n) : (True) ∧ (q_sto V 1 H p y2 d q b s (4 : Int) (n + 1) (0 : Int) H ∧ True) := by
  have h9 : g_op 110 y 1 = y2 := T0
  obtain ⟨⟨p1, p2, p3⟩, p4, p5⟩ := g_st1_pt T1
  have w9 := T1.1.1
  have w24 := w9.2.1
  have wH := w9.1
  have h7 : g_F V q b s 4 (n + 1) 0 H (g_nw V) = g_yi (g_F V q b s 4 n H H (g_nw V)) := by
    show g_yr V q b s H (g_nw V) (n + 1).toNat = g_yi (g_ya V q b s (g_yr V q b s H (g_nw V) n.toNat) H.toNat)
    rw [show (n + 1).toNat = n.toNat + 1 by omega]
    rfl
  refine ⟨trivial, ⟨⟨by rw [h7]; exact w9.yi, T1.1.2⟩, ?_⟩, trivial⟩
  rw [h7]
  refine g_pt_rv w9.yi (g_sto_sup T1).yi ⟨⟨?_, ?_, ?_⟩, fun k k0 k1 => ?_, fun i i0 i1 => ?_⟩
  · rw [g_yi_o (by omega)]; exact p1
  · rw [g_yi_y, ← p2]; exact h9.symm
  · rw [g_yi_o (by omega)]; exact p3
  · rw [g_yi_o (by omega), g_yi_o (by omega)]; exact p4 k k0 k1
  · have h6 := w9.pl_lt i0 (show i < _ by omega)
    rw [g_yi_o (by omega), g_yi_o (by omega), g_yi_o (by omega)]; exact p5 i i0 i1
theorem k_yrS {V : zVw} {p y d n y2 h H q b s : Int} (T0 : (mOP 110 (Int32.ofInt y) (Int32.ofInt (1 : Int))).toInt = y2) (T1 : q_sto V 1 H p y d q b s (5 : Int) n h (1 : Int)) (C0 : 0 ≤ n) : (True) ∧ (q_sto V 1 H p y2 d q b s (5 : Int) (n + 1) h (0 : Int) ∧ True) := by
  have h9 : g_op 110 y 1 = y2 := T0
  obtain ⟨⟨p1, p2, p3⟩, p4, p5⟩ := g_st1_pt T1
  have w9 := T1.1.1
  have w24 := w9.2.1
  have wH := w9.1
  have h7 : g_F V q b s 5 (n + 1) h 0 (g_nw V) = g_yi (g_F V q b s 5 n h 1 (g_nw V)) := by
    show g_ys V q b s h (g_nw V) (n + 1).toNat = g_yi (g_y1 V q b s (g_ys V q b s h (g_nw V) n.toNat) h)
    rw [show (n + 1).toNat = n.toNat + 1 by omega]
    rfl
  refine ⟨trivial, ⟨⟨by rw [h7]; exact w9.yi, T1.1.2⟩, ?_⟩, trivial⟩
  rw [h7]
  refine g_pt_rv w9.yi (g_sto_sup T1).yi ⟨⟨?_, ?_, ?_⟩, fun k k0 k1 => ?_, fun i i0 i1 => ?_⟩
  · rw [g_yi_o (by omega)]; exact p1
  · rw [g_yi_y, ← p2]; exact h9.symm
  · rw [g_yi_o (by omega)]; exact p3
  · rw [g_yi_o (by omega), g_yi_o (by omega)]; exact p4 k k0 k1
  · have h6 := w9.pl_lt i0 (show i < _ by omega)
    rw [g_yi_o (by omega), g_yi_o (by omega), g_yi_o (by omega)]; exact p5 i i0 i1
theorem k_qrc {V : zVw} {c x1 x2 u q b s o a1 a2 a3 : Int} (T0 : q_qry V c q b s o a1 a2 a3 x1 x2 u) : (True) ∧ (q_qry V c q b s o a1 a2 a3 x1 x2 u ∧ True) := by
  exact ⟨trivial, T0, trivial⟩
theorem k_pl6 {V : zVw} {h p H y d : Int} (T0 : q_sto V 0 H p y d (0 : Int) (0 : Int) (0 : Int) (0 : Int) (0 : Int) (0 : Int) (0 : Int)) (T1 : q_qry V (6 : Int) (0 : Int) (0 : Int) (0 : Int) (0 : Int) (0 : Int) (0 : Int) (0 : Int) h (0 : Int) (-1 : Int)) (C0 : 0 ≤ h) (C1 : 0 ≤ H - h - 1) (C2 : 0 ≤ 6 - H) (C3 : 0 ≤ p) (C4 : 0 ≤ 6 - p) : (0 ≤ 5 - p ∧ True) ∧ (True) := by
  obtain ⟨⟨p1, p2, p3⟩, p4, p5⟩ := g_st0_pt T0
  have w9 := T0.1.1
  have w24 := w9.2.1
  have wH := w9.1
  have h9 := w9.p5 (by omega) (by omega) (g_k6 T1)
  exact ⟨⟨by omega, trivial⟩, trivial⟩
theorem k_spx {V : zVw} {h x g H p y d : Int} (T0 : q_sto V 0 H p y d (0 : Int) (0 : Int) (0 : Int) (0 : Int) (0 : Int) (0 : Int) (0 : Int)) (T1 : q_qry V (8 : Int) (0 : Int) (0 : Int) (0 : Int) (0 : Int) (0 : Int) (0 : Int) (0 : Int) h (0 : Int) x) (T2 : q_qry V (6 : Int) (0 : Int) (0 : Int) (0 : Int) (0 : Int) (0 : Int) (0 : Int) (0 : Int) h (0 : Int) (-1 : Int)) (C0 : 0 ≤ h) (C1 : 0 ≤ H - h - 1) (C2 : 0 ≤ 6 - H) (F0 : (0 : Int) ≤ h ∧ (h : Int) < j_len 28 ∧ V 28 (h) = g) : (True) ∧ (q_spx V H p y d h x g ∧ True) := by
  obtain ⟨⟨p1, p2, p3⟩, p4, p5⟩ := g_st0_pt T0
  have w9 := T0.1.1
  have w24 := w9.2.1
  have wH := w9.1
  have z0 := g_k8 T1
  have h9 := (p4 h (by omega) (by omega)).2
  have h7 := F0.2.2
  exact ⟨trivial, ⟨w9, T0.1.2.2, ⟨⟨by omega, by omega⟩, p2, p3, p1⟩, ⟨z0.symm, h9.symm.trans h7⟩, fun i i0 i1 _ => p4 i i0 i1, fun i i0 i1 => by
    have h6 := p5 i i0 i1
    rw [h6.1]; exact ⟨rfl, h6.2.1, h6.2.2⟩⟩, trivial⟩
theorem k_spl {V : zVw} {h x g g2 z p H y d : Int} (T0 : q_spx V H p y d h x g) (T1 : q_qry V (7 : Int) (0 : Int) (0 : Int) (0 : Int) (0 : Int) (0 : Int) (0 : Int) (0 : Int) h (0 : Int) z) (T2 : q_qry V (6 : Int) (0 : Int) (0 : Int) (0 : Int) (0 : Int) (0 : Int) (0 : Int) (0 : Int) h (0 : Int) (-1 : Int)) (T3 : q_qry V (8 : Int) (0 : Int) (0 : Int) (0 : Int) (0 : Int) (0 : Int) (0 : Int) (0 : Int) h (0 : Int) x) (T4 : (mOP 110 (Int32.ofInt g) (Int32.ofInt (1 : Int))).toInt = g2) (C0 : 0 ≤ h) (C1 : 0 ≤ H - h - 1) (C2 : 0 ≤ 6 - H) (C3 : 0 ≤ p) (C4 : 0 ≤ 5 - p) (C5 : 0 ≤ x - 1) (F0 : (0 : Int) ≤ h ∧ (h : Int) < j_len 27 ∧ V 27 (h) = 0) (F1 : (0 : Int) ≤ h ∧ (h : Int) < j_len 28 ∧ V 28 (h) = g2) (F2 : (0 : Int) ≤ p ∧ (p : Int) < j_len 29 ∧ V 29 (p) = h) (F3 : (0 : Int) ≤ p ∧ (p : Int) < j_len 30 ∧ V 30 (p) = x) (F4 : (0 : Int) ≤ p ∧ (p : Int) < j_len 31 ∧ V 31 (p) = z) : (True) ∧ (q_sto V 0 H (p + 1) y d (0 : Int) (0 : Int) (0 : Int) (1 : Int) h (0 : Int) (0 : Int) ∧ True) := by
  obtain ⟨w9, sb9, ⟨s0, s1, s2, s3⟩, ⟨s4, s5⟩, s6, s7⟩ := T0
  have z1 := g_k7 T1
  have z2 := g_k6 T2
  have h9 := w9.at_no z2 (by omega) (by omega)
  have h8 : z = V 20 h := by rw [z1]; unfold g_sg; exact if_neg (by have := h9.1; show ¬ 1 ≤ g_nw V (6 + h); omega)
  have h7 : g_op 110 g 1 = g2 := T4
  have wS := w9.spl sb9 (h := h) (by omega) (by omega) (by omega) (by omega) z2
  have eF : g_F V 0 0 0 1 h 0 0 (g_nw V) = g_spl V h (g_nw V) := rfl
  refine ⟨trivial, ⟨⟨wS, w9, sb9⟩, g_pt_rv wS (g_nw_sup.spl (by omega) (by omega) (by omega) (by omega)) ⟨⟨?_, ?_, ?_⟩, fun k k0 k1 => ?_, fun i i0 i1 => ?_⟩⟩, trivial⟩
  · rw [eF, g_spl_p (by omega) (by omega)]; omega
  · rw [eF, g_spl_o (by omega) (by omega) (by omega) (by omega) (by omega) (by omega)]; exact s1
  · rw [eF, g_spl_o (by omega) (by omega) (by omega) (by omega) (by omega) (by omega)]; exact s2
  · by_cases c9 : k = h
    · subst c9; rw [eF, g_spl_h, g_spl_g, s5, h7]; exact ⟨F0.2.2, F1.2.2⟩
    · rw [eF, g_spl_o (by omega) (by omega) (by omega) (by omega) (by omega) (by omega), g_spl_o (by omega) (by omega) (by omega) (by omega) (by omega) (by omega)]; exact s6 k k0 k1 c9
  · by_cases c9 : i < p
    · have s8 := s7 i i0 c9
      have b9 := w9.pl_lt i0 (show i < g_nw V 24 by omega)
      have n9 := z2.no (by omega) i i0 (show i < g_nw V 24 by omega)
      have n8 : g_nw V (25 + i) ≠ h := n9
      rw [s8.1] at s8
      rw [eF, g_spl_o (i := 25 + i) (by omega) (by omega) (by omega) (by omega) (by omega) (by omega), g_spl_o (i := 6 + _) (by omega) (by omega) (by omega) (by omega) (by omega) (by omega), g_spl_o (i := 12 + _) (by omega) (by omega) (by omega) (by omega) (by omega) (by omega)]
      exact ⟨(s7 i i0 c9).1, s8.2.1, s8.2.2⟩
    · have e9 : i = g_nw V 24 := by omega
      rw [e9, eF, g_spl_w (by omega) (by omega) (by omega), g_spl_l, g_spl_s, ← e9, show i = p by omega]
      exact ⟨F2.2.2, F3.2.2.trans s4.symm, F4.2.2.trans h8⟩
theorem k_c24 {V : zVw} {H p y d : Int} (T0 : q_sto V 0 H p y d (0 : Int) (0 : Int) (0 : Int) (0 : Int) (0 : Int) (0 : Int) (0 : Int)) (C0 : 0 ≤ p) (C1 : 0 ≤ 6 - p) : (True) ∧ (q_qry V (8 : Int) (0 : Int) (0 : Int) (0 : Int) (0 : Int) (0 : Int) (0 : Int) (0 : Int) (24 : Int) (0 : Int) p ∧ True) := by
  obtain ⟨⟨p1, p2, p3⟩, p4, p5⟩ := g_st0_pt T0
  have w9 := T0.1.1
  have w24 := w9.2.1
  have wH := w9.1
  exact ⟨trivial, g_qs T0 p1, trivial⟩
theorem k_canY {V : zVw} {h x H p y d : Int} (T0 : q_sto V 0 H p y d (0 : Int) (0 : Int) (0 : Int) (0 : Int) (0 : Int) (0 : Int) (0 : Int)) (T1 : q_qry V (6 : Int) (0 : Int) (0 : Int) (0 : Int) (0 : Int) (0 : Int) (0 : Int) (0 : Int) h (0 : Int) (-1 : Int)) (T2 : q_qry V (8 : Int) (0 : Int) (0 : Int) (0 : Int) (0 : Int) (0 : Int) (0 : Int) (0 : Int) h (0 : Int) x) (C0 : 0 ≤ h) (C1 : 0 ≤ H - h - 1) (C2 : 0 ≤ 6 - H) (C3 : 0 ≤ x - 1) : (True) ∧ (q_qry V (9 : Int) (0 : Int) (0 : Int) (0 : Int) (0 : Int) (0 : Int) (0 : Int) (0 : Int) h H (1 : Int) ∧ True) := by
  have z0 := g_k8 T2
  have z1 := T0.1.1.at_no (g_k6 T1) (by omega) (by omega)
  exact ⟨trivial, g_qs T0 (g_Q9 (by rw [if_pos ⟨by omega, by omega, z1.1, by omega⟩])), trivial⟩
theorem k_canN0 {V : zVw} {h x H p y d : Int} (T0 : q_sto V 0 H p y d (0 : Int) (0 : Int) (0 : Int) (0 : Int) (0 : Int) (0 : Int) (0 : Int)) (T1 : q_qry V (8 : Int) (0 : Int) (0 : Int) (0 : Int) (0 : Int) (0 : Int) (0 : Int) (0 : Int) h (0 : Int) x) (C0 : 0 ≤ h) (C1 : 0 ≤ H - h - 1) (C2 : 0 ≤ 6 - H) (C3 : 0 ≤ -x) : (True) ∧ (q_qry V (9 : Int) (0 : Int) (0 : Int) (0 : Int) (0 : Int) (0 : Int) (0 : Int) (0 : Int) h H (0 : Int) ∧ True) := by
  have z0 := g_k8 T1
  exact ⟨trivial, g_qs T0 (g_Q9 (by rw [if_neg (fun z9 => by omega)])), trivial⟩
theorem k_canN1 {V : zVw} {h i H p y d : Int} (T0 : q_sto V 0 H p y d (0 : Int) (0 : Int) (0 : Int) (0 : Int) (0 : Int) (0 : Int) (0 : Int)) (T1 : q_qry V (6 : Int) (0 : Int) (0 : Int) (0 : Int) (0 : Int) (0 : Int) (0 : Int) (0 : Int) h (0 : Int) i) (C0 : 0 ≤ h) (C1 : 0 ≤ H - h - 1) (C2 : 0 ≤ 6 - H) (C3 : 0 ≤ i) : (True) ∧ (q_qry V (9 : Int) (0 : Int) (0 : Int) (0 : Int) (0 : Int) (0 : Int) (0 : Int) (0 : Int) h H (0 : Int) ∧ True) := by
  have z0 := (g_k6 T1).get (by omega)
  have z1 := T0.1.1.len (i := i) (by omega) z0.2
  rw [z0.1] at z1
  exact ⟨trivial, g_qs T0 (g_Q9 (by rw [if_neg (fun z9 => by omega)])), trivial⟩
theorem k_canN2 {V : zVw} {h H p y d : Int} (T0 : q_sto V 0 H p y d (0 : Int) (0 : Int) (0 : Int) (0 : Int) (0 : Int) (0 : Int) (0 : Int)) (C0 : 0 ≤ -h - 1) : (True) ∧ (q_qry V (9 : Int) (0 : Int) (0 : Int) (0 : Int) (0 : Int) (0 : Int) (0 : Int) (0 : Int) h H (0 : Int) ∧ True) := by
  exact ⟨trivial, g_qs T0 (g_Q9 (by rw [if_neg (fun z9 => by omega)])), trivial⟩
theorem k_canN3 {V : zVw} {h H p y d : Int} (T0 : q_sto V 0 H p y d (0 : Int) (0 : Int) (0 : Int) (0 : Int) (0 : Int) (0 : Int) (0 : Int)) (C0 : 0 ≤ h - H) : (True) ∧ (q_qry V (9 : Int) (0 : Int) (0 : Int) (0 : Int) (0 : Int) (0 : Int) (0 : Int) (0 : Int) h H (0 : Int) ∧ True) := by
  exact ⟨trivial, g_qs T0 (g_Q9 (by rw [if_neg (fun z9 => by omega)])), trivial⟩
theorem k_uns {V : zVw} {H p y d z : Int} (T0 : q_sto V 0 H p y d (0 : Int) (0 : Int) (0 : Int) (0 : Int) (0 : Int) (0 : Int) (0 : Int)) (C0 : 0 ≤ p - 1) (C1 : 0 ≤ z - p + 1) (C2 : 0 ≤ p - z - 1) (C3 : 0 ≤ 6 - p) : (True) ∧ (q_sto V 0 H z y d (0 : Int) (0 : Int) (0 : Int) (2 : Int) z (0 : Int) (0 : Int) ∧ True) := by
  obtain ⟨⟨p1, p2, p3⟩, p4, p5⟩ := g_st0_pt T0
  have w9 := T0.1.1
  have w24 := w9.2.1
  have wH := w9.1
  have wL := w9.los (j := z) (by omega) (by omega)
  exact ⟨trivial, ⟨⟨wL, T0.1.2⟩, g_pt_rv wL (g_sto_sup T0).los ((g_st0_pt T0).los w9 (by omega) (by omega))⟩, trivial⟩
theorem k_celW0 {V : zVw} {i u H p y d : Int} (T0 : q_sto V 0 H p y d (0 : Int) (0 : Int) (0 : Int) (0 : Int) (0 : Int) (0 : Int) (0 : Int)) (C0 : 0 ≤ i) (C1 : 0 ≤ p - i - 1) (C2 : 0 ≤ 5 - i) (F0 : (0 : Int) ≤ i ∧ (i : Int) < j_len 29 ∧ V 29 (i) = u) : (0 ≤ u ∧ 0 ≤ H - u - 1 ∧ True) ∧ (q_qry V (8 : Int) (0 : Int) (0 : Int) (0 : Int) (0 : Int) (0 : Int) (0 : Int) (0 : Int) (i + 25) (0 : Int) u ∧ True) := by
  obtain ⟨⟨p1, p2, p3⟩, p4, p5⟩ := g_st0_pt T0
  have w9 := T0.1.1
  have w24 := w9.2.1
  have wH := w9.1
  have h9 := (p5 i (by omega) (by omega)).1
  have h8 := w9.pl_lt (i := i) (by omega) (by omega)
  have h7 := F0.2.2
  rw [← h9, h7] at h8
  rw [h7, show 25 + i = i + 25 by omega] at h9
  exact ⟨⟨by omega, by omega, trivial⟩, g_qs T0 h9, trivial⟩
theorem k_stq {V : zVw} {H p y d q : Int} (T0 : q_sto V 0 H p y d (0 : Int) (0 : Int) (0 : Int) (0 : Int) (0 : Int) (0 : Int) (0 : Int)) : (True) ∧ (q_sto V 0 H p y d q (0 : Int) (0 : Int) (0 : Int) (0 : Int) (0 : Int) (0 : Int) ∧ True) := by
  have t9 : q_sto V 0 H p y d q 0 0 0 0 0 0 := by
    unfold q_sto at T0 ⊢
    rw [g_F0] at T0 ⊢
    exact T0
  exact ⟨trivial, t9, trivial⟩
theorem k_drw {V : zVw} {H p y d d2 w q : Int} (T0 : (mOP 110 (Int32.ofInt d) (Int32.ofInt w)).toInt = d2) (T1 : q_sto V 0 H p y d (0 : Int) (0 : Int) (0 : Int) (0 : Int) (0 : Int) (0 : Int) (0 : Int)) (T2 : q_qry V (3 : Int) q (0 : Int) (0 : Int) (0 : Int) (0 : Int) (0 : Int) (0 : Int) w (0 : Int) (-1 : Int)) : (True) ∧ (q_sto V 0 H p y d2 (0 : Int) (0 : Int) (0 : Int) (3 : Int) w (0 : Int) (0 : Int) ∧ q_qry V (3 : Int) q (0 : Int) (0 : Int) (0 : Int) (0 : Int) (0 : Int) (0 : Int) w (0 : Int) (-1 : Int) ∧ True) := by
  have h9 : g_op 110 d w = d2 := T0
  obtain ⟨⟨p1, p2, p3⟩, p4, p5⟩ := g_st0_pt T1
  have w9 := T1.1.1
  have w24 := w9.2.1
  have wH := w9.1
  have eF : g_F V 0 0 0 3 w 0 0 (g_nw V) = g_drw w (g_nw V) := rfl
  have eG : g_F V 0 0 0 0 0 0 0 (g_nw V) = g_nw V := rfl
  rw [eG] at p1 p2 p3 p4 p5 w9 w24
  refine ⟨trivial, ⟨⟨w9.drw, T1.1.2⟩, g_pt_rv w9.drw (g_sto_sup T1).drw ⟨⟨?_, ?_, ?_⟩, fun k k0 k1 => ?_, fun i i0 i1 => ?_⟩⟩, T2, trivial⟩
  · rw [eF, g_drw_o (by omega)]; exact p1
  · rw [eF, g_drw_o (by omega)]; exact p2
  · rw [eF, g_drw_d, ← p3]; exact h9.symm
  · rw [eF, g_drw_o (by omega), g_drw_o (by omega)]; exact p4 k k0 k1
  · have h6 := w9.pl_lt i0 (show i < _ by omega)
    rw [eF, g_drw_o (by omega), g_drw_o (by omega), g_drw_o (by omega)]; exact p5 i i0 i1
theorem k_bpl {V : zVw} {w i j k q H p y d : Int} (T0 : (mOP 107 (Int32.ofInt k) (Int32.ofInt (2 : Int))).toInt = j) (T1 : q_qry V (3 : Int) q (0 : Int) (0 : Int) (0 : Int) (0 : Int) (0 : Int) (0 : Int) w (0 : Int) k) (T2 : q_sto V 0 H p y d q (0 : Int) (0 : Int) (0 : Int) (0 : Int) (0 : Int) (0 : Int)) (C0 : 0 ≤ i - k + 1) (C1 : 0 ≤ k - i - 1) (C2 : 0 ≤ i) : (0 ≤ k - 2 * j ∧ 0 ≤ 2 * j - k + 1 ∧ 0 ≤ p - j - 1 ∧ True) ∧ (q_qry V (3 : Int) q (0 : Int) (0 : Int) (0 : Int) (0 : Int) (0 : Int) (0 : Int) w (0 : Int) k ∧ q_qry V (22 : Int) q (0 : Int) (0 : Int) (0 : Int) (0 : Int) (0 : Int) (0 : Int) w (0 : Int) j ∧ True) := by
  obtain ⟨⟨p1, p2, p3⟩, p4, p5⟩ := g_st0_pt T2
  have w9 := T2.1.1
  have w24 := w9.2.1
  have wH := w9.1
  have z0 := g_k3 T1
  have h9 := g_br_b w9 z0
  have h8 := g_op_div (a := k) (b := 2) (by omega) (by omega) (by omega) (by omega)
  have h7 : g_op 107 k 2 = j := T0
  have h6 : k < 2 * g_F V q 0 0 0 0 0 0 (g_nw V) 24 := by
    rcases z0 with z9 | z9
    · exact z9.2.1
    · omega
  exact ⟨⟨by omega, by omega, by omega, trivial⟩, T1, g_qq T1 ⟨k, z0, h7.symm⟩, trivial⟩
theorem k_uns2 {V : zVw} {H p y d z : Int} (T0 : q_sto V 0 H p y d (0 : Int) (0 : Int) (0 : Int) (0 : Int) (0 : Int) (0 : Int) (0 : Int)) (T1 : True) (C0 : 0 ≤ z) (C1 : 0 ≤ p - z) (C2 : 0 ≤ 6 - p) : (True) ∧ (q_sto V 0 H z y d (0 : Int) (0 : Int) (0 : Int) (2 : Int) z (0 : Int) (0 : Int) ∧ True) := by
  obtain ⟨⟨p1, p2, p3⟩, p4, p5⟩ := g_st0_pt T0
  have w9 := T0.1.1
  have w24 := w9.2.1
  have wH := w9.1
  have wL := w9.los (j := z) (by omega) (by omega)
  exact ⟨trivial, ⟨⟨wL, T0.1.2⟩, g_pt_rv wL (g_sto_sup T0).los ((g_st0_pt T0).los w9 (by omega) (by omega))⟩, trivial⟩
theorem k_hf {V : zVw} {a u : Int} (T0 : (mOP 107 (Int32.ofInt a) (Int32.ofInt (2 : Int))).toInt = u) (C0 : 0 ≤ a) (C1 : 0 ≤ 1000 - a) : (0 ≤ a - 2 * u ∧ 0 ≤ 2 * u - a + 1 ∧ True) ∧ (True) := by
  have h9 := g_op_div (a := a) (b := 2) (by omega) (by omega) (by omega) (by omega)
  have h8 : g_op 107 a 2 = u := T0
  exact ⟨⟨by omega, by omega, trivial⟩, trivial⟩
theorem k_qrc0 {V : zVw} {p u : Int} (T0 : q_qry V (1 : Int) (0 : Int) (0 : Int) (0 : Int) (0 : Int) (0 : Int) (0 : Int) (0 : Int) (0 : Int) p u) : (True) ∧ (q_qry V (1 : Int) (0 : Int) (0 : Int) (0 : Int) (0 : Int) (0 : Int) (0 : Int) (0 : Int) (0 : Int) p u ∧ True) := by
  exact ⟨trivial, T0, trivial⟩
theorem k_y0 {V : zVw} {H p y d q b s : Int} (T0 : True) (T1 : q_sto V 0 H p y d (0 : Int) (0 : Int) (0 : Int) (0 : Int) (0 : Int) (0 : Int) (0 : Int)) : (True) ∧ (q_sto V 0 H p y d q b s (4 : Int) (0 : Int) (0 : Int) H ∧ True) := by
  exact ⟨trivial, g_sto40 T1, trivial⟩
theorem k_rcel0 {V : zVw} {h u H q b s o a1 a2 a3 : Int} (T0 : q_rwo V H q b s o a1 a2 a3) (C0 : 0 ≤ h) (C1 : 0 ≤ 32 - h) (F0 : (0 : Int) ≤ h ∧ (h : Int) < j_len 78 ∧ V 78 (h) = u) : (True) ∧ (q_qry V (8 : Int) q b s o a1 a2 a3 h (0 : Int) u ∧ True) := by
  have h9 := g_rwo_at T0 (i := h) (by omega) (by omega)
  have h7 := F0.2.2
  exact ⟨trivial, g_qr T0 (show u = _ from h7.symm.trans h9), trivial⟩
theorem k_rcel6 {V : zVw} {h u H q b s o a1 a2 a3 : Int} (T0 : q_rwo V H q b s o a1 a2 a3) (C0 : 0 ≤ h) (C1 : 0 ≤ 26 - h) (F0 : (0 : Int) ≤ h + 6 ∧ (h + 6 : Int) < j_len 78 ∧ V 78 (h + 6) = u) : (True) ∧ (q_qry V (8 : Int) q b s o a1 a2 a3 (h + 6) (0 : Int) u ∧ True) := by
  have h9 := g_rwo_at T0 (i := h + 6) (by omega) (by omega)
  have h7 := F0.2.2
  exact ⟨trivial, g_qr T0 (show u = _ from h7.symm.trans h9), trivial⟩
theorem k_rcel12 {V : zVw} {h u H q b s o a1 a2 a3 : Int} (T0 : q_rwo V H q b s o a1 a2 a3) (C0 : 0 ≤ h) (C1 : 0 ≤ 20 - h) (F0 : (0 : Int) ≤ h + 12 ∧ (h + 12 : Int) < j_len 78 ∧ V 78 (h + 12) = u) : (True) ∧ (q_qry V (8 : Int) q b s o a1 a2 a3 (h + 12) (0 : Int) u ∧ True) := by
  have h9 := g_rwo_at T0 (i := h + 12) (by omega) (by omega)
  have h7 := F0.2.2
  exact ⟨trivial, g_qr T0 (show u = _ from h7.symm.trans h9), trivial⟩
theorem k_rcel18 {V : zVw} {h u H q b s o a1 a2 a3 : Int} (T0 : q_rwo V H q b s o a1 a2 a3) (C0 : 0 ≤ h) (C1 : 0 ≤ 14 - h) (F0 : (0 : Int) ≤ h + 18 ∧ (h + 18 : Int) < j_len 78 ∧ V 78 (h + 18) = u) : (True) ∧ (q_qry V (8 : Int) q b s o a1 a2 a3 (h + 18) (0 : Int) u ∧ True) := by
  have h9 := g_rwo_at T0 (i := h + 18) (by omega) (by omega)
  have h7 := F0.2.2
  exact ⟨trivial, g_qr T0 (show u = _ from h7.symm.trans h9), trivial⟩
theorem k_rcelc24 {V : zVw} {u H q b s o a1 a2 a3 : Int} (T0 : q_rwo V H q b s o a1 a2 a3) (F0 : (0 : Int) ≤ 24 ∧ (24 : Int) < j_len 78 ∧ V 78 (24) = u) : (True) ∧ (q_qry V (8 : Int) q b s o a1 a2 a3 (24 : Int) (0 : Int) u ∧ True) := by
  have h9 := g_rwo_at T0 (i := 24) (by omega) (by omega)
  have h7 := F0.2.2
  exact ⟨trivial, g_qr T0 (show u = _ from h7.symm.trans h9), trivial⟩
theorem k_rcelc31 {V : zVw} {u H q b s o a1 a2 a3 : Int} (T0 : q_rwo V H q b s o a1 a2 a3) (F0 : (0 : Int) ≤ 31 ∧ (31 : Int) < j_len 78 ∧ V 78 (31) = u) : (True) ∧ (q_qry V (8 : Int) q b s o a1 a2 a3 (31 : Int) (0 : Int) u ∧ True) := by
  have h9 := g_rwo_at T0 (i := 31) (by omega) (by omega)
  have h7 := F0.2.2
  exact ⟨trivial, g_qr T0 (show u = _ from h7.symm.trans h9), trivial⟩
theorem k_mfs {V : zVw} {h u l x H : Int} (T0 : (1 : Int) = 1 → 0 ≤ l ∧ 0 ≤ x ∧ l + x = 1 ∧ H ≤ 6 ∧ ∀ i_ : Int, 0 ≤ i_ → i_ < H → V 19 i_ = V 57 (6 * l + i_) ∧ V 20 i_ = V 58 (6 * l + i_)) (C0 : 0 ≤ h) (C1 : 0 ≤ H - h - 1) (F0 : (0 : Int) ≤ h + 6 * l ∧ (h + 6 * l : Int) < j_len 58 ∧ V 58 (h + 6 * l) = u) : (True) ∧ ((V 20 h = u) ∧ True) := by
  obtain ⟨h9, h8, h7, h6, h5⟩ := T0 rfl
  have h4 := (h5 h (by omega) (by omega)).2
  have h3 := F0.2.2
  rw [show 6 * l + h = h + 6 * l by omega] at h4
  exact ⟨trivial, h4.trans h3, trivial⟩
theorem k_mstgY {V : zVw} {h x u q b s o a1 a2 a3 H : Int} (T0 : q_qry V (8 : Int) q b s o a1 a2 a3 (h + 6) (0 : Int) x) (T1 : q_qry V (8 : Int) q b s o a1 a2 a3 (h + 12) (0 : Int) u) (T2 : q_rwo V H q b s o a1 a2 a3) (C0 : 0 ≤ h) (C1 : 0 ≤ H - h - 1) (C2 : 0 ≤ 6 - H) (C3 : 0 ≤ x - 1) : (True) ∧ (q_qry V (7 : Int) q b s o a1 a2 a3 h (0 : Int) u ∧ True) := by
  have z0 := g_k8 T0
  have z1 := g_k8 T1
  rw [show h + 6 = 6 + h by omega] at z0
  rw [show h + 12 = 12 + h by omega] at z1
  exact ⟨trivial, g_qq T0 (show u = g_sg _ _ h by unfold g_sg; rw [← z0, if_pos (by omega)]; exact z1), trivial⟩
theorem k_mstgN {V : zVw} {h u q b s o a1 a2 a3 H : Int} (T0 : q_qry V (8 : Int) q b s o a1 a2 a3 (h + 6) (0 : Int) (0 : Int)) (T1 : V 20 h = u) (T2 : q_rwo V H q b s o a1 a2 a3) (C0 : 0 ≤ h) (C1 : 0 ≤ H - h - 1) (C2 : 0 ≤ 6 - H) : (True) ∧ (q_qry V (7 : Int) q b s o a1 a2 a3 h (0 : Int) u ∧ True) := by
  have z0 := g_k8 T0
  rw [show h + 6 = 6 + h by omega] at z0
  exact ⟨trivial, g_qq T0 (show u = g_sg _ _ h by unfold g_sg; rw [← z0, if_neg (by omega)]; exact T1.symm), trivial⟩
theorem k_p0M {V : zVw} {h q b s o a1 a2 a3 H : Int} (T0 : q_qry V (8 : Int) q b s o a1 a2 a3 (h + 6) (0 : Int) (0 : Int)) (T1 : q_rwo V H q b s o a1 a2 a3) (C0 : 0 ≤ h) (C1 : 0 ≤ 5 - h) : (True) ∧ (q_qry V (16 : Int) q b s o a1 a2 a3 h (0 : Int) (0 : Int) ∧ True) := by
  have z0 := g_k8 T0
  rw [show h + 6 = 6 + h by omega] at z0
  have h9 := g_at_iff.mp (T1.1.1.no_at (h := h) (by omega) (by omega) z0.symm)
  exact ⟨trivial, g_qq T0 (show (0 : Int) = g_p0 _ h by unfold g_p0; rw [← h9, if_neg (by omega)]), trivial⟩
theorem k_plx {V : zVw} {h x q b s o a1 a2 a3 H : Int} (T0 : q_qry V (8 : Int) q b s o a1 a2 a3 (h + 6) (0 : Int) x) (T1 : q_qry V (6 : Int) q b s o a1 a2 a3 h (0 : Int) (-1 : Int)) (T2 : q_rwo V H q b s o a1 a2 a3) (C0 : 0 ≤ h) (C1 : 0 ≤ 5 - h) (C2 : 0 ≤ x - 1) : (0 ≤ (-1) ∧ True) ∧ (True) := by
  have z0 := g_k8 T0
  rw [show h + 6 = 6 + h by omega] at z0
  have h9 := T2.1.1.at_no (g_k6 T1) (by omega) (by omega)
  exfalso
  omega
theorem k_rpl0 {V : zVw} {h H q b s o a1 a2 a3 : Int} (T0 : q_rwo V H q b s o a1 a2 a3) : (True) ∧ (q_qry V (12 : Int) q b s o a1 a2 a3 h (0 : Int) (1 : Int) ∧ True) := by
  exact ⟨trivial, g_qr T0 (fun i i0 i1 => absurd i1 (by omega)), trivial⟩
theorem k_rplSa {V : zVw} {h i w p H q b s o a1 a2 a3 : Int} (T0 : q_rwo V H q b s o a1 a2 a3) (T1 : q_qry V (12 : Int) q b s o a1 a2 a3 h i (1 : Int)) (C0 : 0 ≤ i) (C1 : 0 ≤ p - i - 1) (C2 : 0 ≤ 5 - i) (C3 : 0 ≤ h - w - 1) (F0 : (0 : Int) ≤ i + 25 ∧ (i + 25 : Int) < j_len 78 ∧ V 78 (i + 25) = w) (F1 : (0 : Int) ≤ 24 ∧ (24 : Int) < j_len 78 ∧ V 78 (24) = p) : (True) ∧ (q_qry V (12 : Int) q b s o a1 a2 a3 h (i + 1) (1 : Int) ∧ True) := by
  have h9 := g_rwo_at T0 (i := i + 25) (by omega) (by omega)
  rw [show i + 25 = 25 + i by omega] at h9 F0
  have h7 := F0.2.2
  have h8 := g_rwo_at T0 (i := 24) (by omega) (by omega)
  have h6 := F1.2.2
  exact ⟨trivial, g_qr T0 (fun j j0 j1 he => by
    by_cases h5 : j < i
    · exact g_k12 T1 j j0 h5 he
    · rw [show j = i by omega] at he; omega), trivial⟩
theorem k_rplSb {V : zVw} {h i w p H q b s o a1 a2 a3 : Int} (T0 : q_rwo V H q b s o a1 a2 a3) (T1 : q_qry V (12 : Int) q b s o a1 a2 a3 h i (1 : Int)) (C0 : 0 ≤ i) (C1 : 0 ≤ p - i - 1) (C2 : 0 ≤ 5 - i) (C3 : 0 ≤ w - h - 1) (F0 : (0 : Int) ≤ i + 25 ∧ (i + 25 : Int) < j_len 78 ∧ V 78 (i + 25) = w) (F1 : (0 : Int) ≤ 24 ∧ (24 : Int) < j_len 78 ∧ V 78 (24) = p) : (True) ∧ (q_qry V (12 : Int) q b s o a1 a2 a3 h (i + 1) (1 : Int) ∧ True) := by
  have h9 := g_rwo_at T0 (i := i + 25) (by omega) (by omega)
  rw [show i + 25 = 25 + i by omega] at h9 F0
  have h7 := F0.2.2
  have h8 := g_rwo_at T0 (i := 24) (by omega) (by omega)
  have h6 := F1.2.2
  exact ⟨trivial, g_qr T0 (fun j j0 j1 he => by
    by_cases h5 : j < i
    · exact g_k12 T1 j j0 h5 he
    · rw [show j = i by omega] at he; omega), trivial⟩
theorem k_rplY {V : zVw} {h i w p H q b s o a1 a2 a3 : Int} (T0 : q_rwo V H q b s o a1 a2 a3) (T1 : q_qry V (12 : Int) q b s o a1 a2 a3 h i (1 : Int)) (C0 : 0 ≤ i) (C1 : 0 ≤ p - i - 1) (C2 : 0 ≤ 5 - i) (C3 : 0 ≤ w - h) (C4 : 0 ≤ h - w) (F0 : (0 : Int) ≤ i + 25 ∧ (i + 25 : Int) < j_len 78 ∧ V 78 (i + 25) = w) (F1 : (0 : Int) ≤ 24 ∧ (24 : Int) < j_len 78 ∧ V 78 (24) = p) : (True) ∧ (q_qry V (6 : Int) q b s o a1 a2 a3 h (0 : Int) i ∧ True) := by
  have h9 := g_rwo_at T0 (i := i + 25) (by omega) (by omega)
  rw [show i + 25 = 25 + i by omega] at h9 F0
  have h7 := F0.2.2
  have h8 := g_rwo_at T0 (i := 24) (by omega) (by omega)
  have h6 := F1.2.2
  exact ⟨trivial, g_qr T0 (Or.inl ⟨by omega, by omega, by omega, g_k12 T1⟩), trivial⟩
theorem k_rplN {V : zVw} {h i p H q b s o a1 a2 a3 : Int} (T0 : q_rwo V H q b s o a1 a2 a3) (T1 : q_qry V (12 : Int) q b s o a1 a2 a3 h i (1 : Int)) (C0 : 0 ≤ i - p) (C1 : 0 ≤ p) (C2 : 0 ≤ 6 - p) (F0 : (0 : Int) ≤ 24 ∧ (24 : Int) < j_len 78 ∧ V 78 (24) = p) : (True) ∧ (q_qry V (6 : Int) q b s o a1 a2 a3 h (0 : Int) (-1 : Int) ∧ True) := by
  have h8 := g_rwo_at T0 (i := 24) (by omega) (by omega)
  have h6 := F0.2.2
  exact ⟨trivial, g_qr T0 (Or.inr ⟨rfl, fun j j0 j1 => g_k12 T1 j j0 (by omega)⟩), trivial⟩
theorem k_mclv {V : zVw} {h g l x u : Int} (T0 : (1 : Int) = 1 → 0 ≤ l ∧ 0 ≤ x ∧ l + x = 1 ∧ q_66 fun a b => V 18 (6 * a + b) = V 60 (36 * l + (6 * a + b))) (T1 : V 60 (6 * h + g + 36 * l) = u) (C0 : 0 ≤ h) (C1 : 0 ≤ 5 - h) (C2 : 0 ≤ g) (C3 : 0 ≤ 5 - g) : (True) ∧ ((V 18 (6 * h + g) = u) ∧ True) := by
  obtain ⟨h9, h8, h7, h6⟩ := T0 rfl
  have h5 : V 18 (6 * h + g) = V 60 (36 * l + (6 * h + g)) := h6 h g (by omega) (by omega) (by omega) (by omega)
  rw [show 36 * l + (6 * h + g) = 6 * h + g + 36 * l by omega] at h5
  exact ⟨trivial, h5.trans T1, trivial⟩
theorem k_mlep {V : zVw} {k w x p H q b s o a1 a2 a3 : Int} (T0 : q_rwo V H q b s o a1 a2 a3) (C0 : 0 ≤ k) (C1 : 0 ≤ p - k - 1) (C2 : 0 ≤ 5 - k) (F0 : (0 : Int) ≤ k + 25 ∧ (k + 25 : Int) < j_len 78 ∧ V 78 (k + 25) = w) (F1 : (0 : Int) ≤ 24 ∧ (24 : Int) < j_len 78 ∧ V 78 (24) = p) (F2 : (0 : Int) ≤ w + 6 ∧ (w + 6 : Int) < j_len 78 ∧ V 78 (w + 6) = x) : (0 ≤ x - 1 ∧ 0 ≤ 99 - x ∧ True) ∧ (q_qry V (19 : Int) q b s o a1 a2 a3 k (0 : Int) x ∧ True) := by
  have w9 := T0.1.1
  have w24 := w9.2.1
  have wH := w9.1
  have h9 := g_rwo_at T0 (i := k + 25) (by omega) (by omega)
  have h8 := g_rwo_at T0 (i := 24) (by omega) (by omega)
  rw [show k + 25 = 25 + k by omega] at h9 F0
  have h7 := F0.2.2
  have h6 := F1.2.2
  have h5 := w9.pl_lt (i := k) (by omega) (by omega)
  have h3 := w9.len (i := k) (by omega) (by omega)
  rw [← h9, h7] at h5 h3
  have h4 := g_rwo_at T0 (i := w + 6) (by omega) (by omega)
  rw [show w + 6 = 6 + w by omega] at h4 F2
  have h2 := F2.2.2
  have h1 := w9.2.2.2.2.2.2.1 w (by omega) (by omega)
  exact ⟨⟨by omega, by omega, trivial⟩, g_qr T0 (show x = g_F V q b s o a1 a2 a3 (g_nw V) (6 + g_F V q b s o a1 a2 a3 (g_nw V) (25 + k)) by rw [← h9, h7]; exact h2.symm.trans h4), trivial⟩
theorem k_mstp {V : zVw} {k w x p H q b s o a1 a2 a3 : Int} (T0 : q_rwo V H q b s o a1 a2 a3) (C0 : 0 ≤ k) (C1 : 0 ≤ p - k - 1) (C2 : 0 ≤ 5 - k) (F0 : (0 : Int) ≤ k + 25 ∧ (k + 25 : Int) < j_len 78 ∧ V 78 (k + 25) = w) (F1 : (0 : Int) ≤ 24 ∧ (24 : Int) < j_len 78 ∧ V 78 (24) = p) (F2 : (0 : Int) ≤ w + 12 ∧ (w + 12 : Int) < j_len 78 ∧ V 78 (w + 12) = x) : (0 ≤ x ∧ 0 ≤ 99 - x ∧ True) ∧ (q_qry V (18 : Int) q b s o a1 a2 a3 k (0 : Int) x ∧ True) := by
  have w9 := T0.1.1
  have w24 := w9.2.1
  have wH := w9.1
  have h9 := g_rwo_at T0 (i := k + 25) (by omega) (by omega)
  have h8 := g_rwo_at T0 (i := 24) (by omega) (by omega)
  rw [show k + 25 = 25 + k by omega] at h9 F0
  have h7 := F0.2.2
  have h6 := F1.2.2
  have h5 := w9.pl_lt (i := k) (by omega) (by omega)
  have h3 := w9.len (i := k) (by omega) (by omega)
  rw [← h9, h7] at h5 h3
  have h4 := g_rwo_at T0 (i := w + 12) (by omega) (by omega)
  rw [show w + 12 = 12 + w by omega] at h4 F2
  have h2 := F2.2.2
  have h1 := w9.2.2.2.2.2.2.1 w (by omega) (by omega)
  exact ⟨⟨by omega, by omega, trivial⟩, g_qr T0 (show x = g_F V q b s o a1 a2 a3 (g_nw V) (12 + g_F V q b s o a1 a2 a3 (g_nw V) (25 + k)) by rw [← h9, h7]; exact h2.symm.trans h4), trivial⟩
theorem k_msum1 {V : zVw} {a H q b s o a1 a2 a3 : Int} (T0 : q_rwo V H q b s o a1 a2 a3) (C0 : 0 ≤ a) : (True) ∧ (q_qry V (1 : Int) q b s o a1 a2 a3 (a + 1) (a + 1) (0 : Int) ∧ True) := by
  exact ⟨trivial, g_qr T0 (show (0 : Int) = g_su _ (a + 1) _ by rw [show ((a + 1) - (a + 1)).toNat = 0 by omega]; rfl), trivial⟩
theorem k_dm2 {V : zVw} {k i r : Int} (T0 : (mOP 107 (Int32.ofInt k) (Int32.ofInt (2 : Int))).toInt = i) (T1 : (mOP 108 (Int32.ofInt k) (Int32.ofInt (2 : Int))).toInt = r) (C0 : 0 ≤ k) (C1 : 0 ≤ 1000 - k) : (0 ≤ k - 2 * i - r ∧ 0 ≤ 2 * i + r - k ∧ 0 ≤ r ∧ 0 ≤ 1 - r ∧ 0 ≤ i ∧ True) ∧ (True) := by
  have h9 := g_op_div (a := k) (b := 2) (by omega) (by omega) (by omega) (by omega)
  have h8 : g_op 107 k 2 = i := T0
  have h7 := g_op_rem (a := k) (b := 2) (by omega) (by omega) (by omega) (by omega)
  have h6 : g_op 108 k 2 = r := T1
  exact ⟨⟨by omega, by omega, by omega, by omega, by omega, trivial⟩, trivial⟩
theorem k_mspP {V : zVw} {i p z w u k q b s o a1 a2 a3 H : Int} (T0 : q_qry V (18 : Int) q b s o a1 a2 a3 i (0 : Int) w) (T1 : q_qry V (1 : Int) q b s o a1 a2 a3 (i + 1) p z) (T2 : q_rwo V H q b s o a1 a2 a3) (C0 : 0 ≤ i) (C1 : 0 ≤ p - i - 1) (C2 : 0 ≤ 6 - p) (C3 : 0 ≤ z + u - w) (C4 : 0 ≤ w - z - u) (C5 : 0 ≤ k - 2 * i - 1) (C6 : 0 ≤ 2 * i - k + 1) (F0 : (0 : Int) ≤ 24 ∧ (24 : Int) < j_len 78 ∧ V 78 (24) = p) : (True) ∧ (q_qry V (2 : Int) q b s o a1 a2 a3 k (0 : Int) u ∧ True) := by
  have z0 := g_k18 T0
  have z1 := g_k1 T1
  have h8 := g_rwo_at T2 (i := 24) (by omega) (by omega)
  have h6 := F0.2.2
  exact ⟨trivial, g_qq T0 (show u = g_sp _ _ _ k by rw [show k = 2 * i + 1 by omega, g_sp_odd, ← z0, ← h8, h6, ← z1]; omega), trivial⟩
theorem k_mspJ {V : zVw} {i p z w u k l q b s o a1 a2 a3 H : Int} (T0 : q_qry V (17 : Int) q b s o a1 a2 a3 i (0 : Int) w) (T1 : q_qry V (1 : Int) q b s o a1 a2 a3 (i + 1) p z) (T2 : q_qry V (19 : Int) q b s o a1 a2 a3 i (0 : Int) l) (T3 : q_rwo V H q b s o a1 a2 a3) (C0 : 0 ≤ i - 1) (C1 : 0 ≤ p - i - 1) (C2 : 0 ≤ 6 - p) (C3 : 0 ≤ z + u + l - w) (C4 : 0 ≤ w - z - u - l) (C5 : 0 ≤ k - 2 * i) (C6 : 0 ≤ 2 * i - k) (F0 : (0 : Int) ≤ 24 ∧ (24 : Int) < j_len 78 ∧ V 78 (24) = p) : (True) ∧ (q_qry V (2 : Int) q b s o a1 a2 a3 k (0 : Int) u ∧ True) := by
  have z0 := g_k17 T0
  have z1 := g_k1 T1
  have z2 := g_k19 T2
  have h8 := g_rwo_at T3 (i := 24) (by omega) (by omega)
  have h6 := F0.2.2
  exact ⟨trivial, g_qq T0 (show u = g_sp _ _ _ k by rw [show k = 2 * i by omega, g_sp_ev (by omega), ← z0, ← h8, h6, g_su_dn (by omega), ← z1, ← z2]; omega), trivial⟩
theorem k_msp0 {V : zVw} {k u H q b s o a1 a2 a3 : Int} (T0 : q_rwo V H q b s o a1 a2 a3) (C0 : 0 ≤ k) (C1 : 0 ≤ -k) (C2 : 0 ≤ u - 9999) (C3 : 0 ≤ 9999 - u) : (True) ∧ (q_qry V (2 : Int) q b s o a1 a2 a3 k (0 : Int) u ∧ True) := by
  exact ⟨trivial, g_qr T0 (show u = g_sp _ _ _ k by rw [show k = 0 by omega, g_sp_0]; omega), trivial⟩
theorem k_mjab {V : zVw} {i a g u p q b s o a1 a2 a3 H : Int} (T0 : q_qry V (5 : Int) q b s o a1 a2 a3 a g u) (T1 : q_rwo V H q b s o a1 a2 a3) (C0 : 0 ≤ i - 1) (C1 : 0 ≤ p - i - 1) (C2 : 0 ≤ 5 - i) (F0 : (0 : Int) ≤ i + 24 ∧ (i + 24 : Int) < j_len 78 ∧ V 78 (i + 24) = a) (F1 : (0 : Int) ≤ i + 25 ∧ (i + 25 : Int) < j_len 78 ∧ V 78 (i + 25) = g) (F2 : (0 : Int) ≤ 24 ∧ (24 : Int) < j_len 78 ∧ V 78 (24) = p) : (True) ∧ (q_qry V (17 : Int) q b s o a1 a2 a3 i (0 : Int) u ∧ True) := by
  have z0 := g_k5 T0
  have h8 := g_rwo_at T1 (i := 24) (by omega) (by omega)
  have h9 := g_rwo_at T1 (i := i + 24) (by omega) (by omega)
  have h7 := g_rwo_at T1 (i := i + 25) (by omega) (by omega)
  rw [F0.2.2, show i + 24 = 24 + i by omega] at h9
  rw [F1.2.2, show i + 25 = 25 + i by omega] at h7
  rw [h9, h7] at z0
  exact ⟨trivial, g_qq T0 z0, trivial⟩
theorem k_mwho {V : zVw} {i w p H q b s o a1 a2 a3 : Int} (T0 : q_rwo V H q b s o a1 a2 a3) (C0 : 0 ≤ i) (C1 : 0 ≤ p - i - 1) (C2 : 0 ≤ 5 - i) (F0 : (0 : Int) ≤ i + 25 ∧ (i + 25 : Int) < j_len 78 ∧ V 78 (i + 25) = w) (F1 : (0 : Int) ≤ 24 ∧ (24 : Int) < j_len 78 ∧ V 78 (24) = p) : (0 ≤ w ∧ 0 ≤ H - w - 1 ∧ True) ∧ (True) := by
  have w9 := T0.1.1
  have w24 := w9.2.1
  have wH := w9.1
  have h9 := g_rwo_at T0 (i := i + 25) (by omega) (by omega)
  have h8 := g_rwo_at T0 (i := 24) (by omega) (by omega)
  rw [show i + 25 = 25 + i by omega] at h9 F0
  have h7 := F0.2.2
  have h6 := F1.2.2
  have h5 := w9.pl_lt (i := i) (by omega) (by omega)
  exact ⟨⟨by omega, by omega, trivial⟩, trivial⟩
theorem k_mwhX {V : zVw} {i w p H q b s o a1 a2 a3 : Int} (T0 : q_rwo V H q b s o a1 a2 a3) (C0 : 0 ≤ i - 1) (C1 : 0 ≤ p - i) (C2 : 0 ≤ 6 - i) (F0 : (0 : Int) ≤ i + 24 ∧ (i + 24 : Int) < j_len 78 ∧ V 78 (i + 24) = w) (F1 : (0 : Int) ≤ 24 ∧ (24 : Int) < j_len 78 ∧ V 78 (24) = p) : (0 ≤ w ∧ 0 ≤ H - w - 1 ∧ True) ∧ (True) := by
  have w9 := T0.1.1
  have w24 := w9.2.1
  have wH := w9.1
  have h9 := g_rwo_at T0 (i := i + 24) (by omega) (by omega)
  have h8 := g_rwo_at T0 (i := 24) (by omega) (by omega)
  rw [show i + 24 = 25 + (i - 1) by omega] at h9 F0
  have h7 := F0.2.2
  have h6 := F1.2.2
  have h5 := w9.pl_lt (i := i - 1) (by omega) (by omega)
  exact ⟨⟨by omega, by omega, trivial⟩, trivial⟩
theorem k_hfp {V : zVw} {i k p : Int} (C0 : 0 ≤ 2 * p - k - 1) (C1 : 0 ≤ k - 2 * i) (F0 : (0 : Int) ≤ 24 ∧ (24 : Int) < j_len 78 ∧ V 78 (24) = p) : (0 ≤ p - i - 1 ∧ True) ∧ (True) := by
  exact ⟨⟨by omega, trivial⟩, trivial⟩
theorem k_nbr0 {V : zVw} {w H q b s o a1 a2 a3 : Int} (T0 : q_rwo V H q b s o a1 a2 a3) : (True) ∧ (q_qry V (24 : Int) q b s o a1 a2 a3 w (0 : Int) (1 : Int) ∧ True) := by
  exact ⟨trivial, g_qr T0 (fun i i0 i1 => absurd i1 (by omega)), trivial⟩
theorem k_nbrS {V : zVw} {w k u q b s o a1 a2 a3 : Int} (T0 : q_qry V (24 : Int) q b s o a1 a2 a3 w k (1 : Int)) (T1 : q_qry V (2 : Int) q b s o a1 a2 a3 k (0 : Int) u) (C0 : 0 ≤ k) (C1 : 0 ≤ u - w) : (True) ∧ (q_qry V (24 : Int) q b s o a1 a2 a3 w (k + 1) (1 : Int) ∧ True) := by
  have z0 := g_k24 T0
  have z1 := g_k2 T1
  exact ⟨trivial, g_qq T0 (fun j j0 j1 => by
    by_cases h8 : j < k
    · exact z0 j j0 h8
    · rw [show j = k by omega, ← z1]; omega), trivial⟩
theorem k_nbrY {V : zVw} {w k u p q b s o a1 a2 a3 H : Int} (T0 : q_qry V (24 : Int) q b s o a1 a2 a3 w k (1 : Int)) (T1 : q_qry V (2 : Int) q b s o a1 a2 a3 k (0 : Int) u) (T2 : q_rwo V H q b s o a1 a2 a3) (C0 : 0 ≤ k) (C1 : 0 ≤ w - u - 1) (C2 : 0 ≤ 2 * p - k - 1) (F0 : (0 : Int) ≤ 24 ∧ (24 : Int) < j_len 78 ∧ V 78 (24) = p) : (True) ∧ (q_qry V (3 : Int) q b s o a1 a2 a3 w (0 : Int) k ∧ True) := by
  have z0 := g_k24 T0
  have z1 := g_k2 T1
  have h8 := g_rwo_at T2 (i := 24) (by omega) (by omega)
  have h6 := F0.2.2
  exact ⟨trivial, g_qq T0 (Or.inl ⟨by omega, by omega, by rw [← z1]; omega, z0⟩), trivial⟩
theorem k_nbrN {V : zVw} {w k p q b s o a1 a2 a3 H : Int} (T0 : q_qry V (24 : Int) q b s o a1 a2 a3 w k (1 : Int)) (T1 : q_rwo V H q b s o a1 a2 a3) (C0 : 0 ≤ k - 2 * p) (F0 : (0 : Int) ≤ 24 ∧ (24 : Int) < j_len 78 ∧ V 78 (24) = p) : (True) ∧ (q_qry V (3 : Int) q b s o a1 a2 a3 w (0 : Int) (-1 : Int) ∧ True) := by
  have z0 := g_k24 T0
  have h8 := g_rwo_at T1 (i := 24) (by omega) (by omega)
  have h6 := F0.2.2
  exact ⟨trivial, g_qq T0 (Or.inr ⟨rfl, fun j j0 j1 => z0 j j0 (by omega)⟩), trivial⟩
theorem k_rlen {V : zVw} {p w0 w1 w2 w3 w4 w5 H q b s o a1 a2 a3 : Int} (T0 : q_rwo V H q b s o a1 a2 a3) (F0 : (0 : Int) ≤ 24 ∧ (24 : Int) < j_len 78 ∧ V 78 (24) = p) (F1 : (0 : Int) ≤ 6 ∧ (6 : Int) < j_len 78 ∧ V 78 (6) = w0) (F2 : (0 : Int) ≤ 7 ∧ (7 : Int) < j_len 78 ∧ V 78 (7) = w1) (F3 : (0 : Int) ≤ 8 ∧ (8 : Int) < j_len 78 ∧ V 78 (8) = w2) (F4 : (0 : Int) ≤ 9 ∧ (9 : Int) < j_len 78 ∧ V 78 (9) = w3) (F5 : (0 : Int) ≤ 10 ∧ (10 : Int) < j_len 78 ∧ V 78 (10) = w4) (F6 : (0 : Int) ≤ 11 ∧ (11 : Int) < j_len 78 ∧ V 78 (11) = w5) : (True) ∧ (q_qry V (1 : Int) q b s o a1 a2 a3 (0 : Int) p (w0 + w1 + w2 + w3 + w4 + w5) ∧ True) := by
  have h9 := g_su_all T0.1.1
  have h8 := g_rwo_at T0 (i := 24) (by omega) (by omega)
  have h7 := F0.2.2
  have y0 := (g_rwo_at T0 (i := 6) (by omega) (by omega)).symm.trans F1.2.2
  have y1 := (g_rwo_at T0 (i := 7) (by omega) (by omega)).symm.trans F2.2.2
  have y2 := (g_rwo_at T0 (i := 8) (by omega) (by omega)).symm.trans F3.2.2
  have y3 := (g_rwo_at T0 (i := 9) (by omega) (by omega)).symm.trans F4.2.2
  have y4 := (g_rwo_at T0 (i := 10) (by omega) (by omega)).symm.trans F5.2.2
  have y5 := (g_rwo_at T0 (i := 11) (by omega) (by omega)).symm.trans F6.2.2
  rw [← h8, h7, y0, y1, y2, y3, y4, y5] at h9
  exact ⟨trivial, g_qr T0 h9.symm, trivial⟩
theorem k_rlenR {V : zVw} {u p q b s o a1 a2 a3 H : Int} (T0 : q_qry V (1 : Int) q b s o a1 a2 a3 (0 : Int) p u) (T1 : q_rwo V H q b s o a1 a2 a3) (C0 : 0 ≤ 6 - p) : (0 ≤ u ∧ 0 ≤ 594 - u ∧ True) ∧ (True) := by
  have z0 := g_k1 T0
  have h9 := g_su_b T1.1.1 (p - 0).toNat (by omega)
  exact ⟨⟨by omega, by omega, trivial⟩, trivial⟩
theorem k_los0 {V : zVw} {p H : Int} (T0 : q_rwo V H (0 : Int) (0 : Int) (0 : Int) (0 : Int) (0 : Int) (0 : Int) (0 : Int)) (F0 : (0 : Int) ≤ 24 ∧ (24 : Int) < j_len 78 ∧ V 78 (24) = p) : (True) ∧ (q_rwo V H (0 : Int) (0 : Int) (0 : Int) (2 : Int) p (0 : Int) (0 : Int) ∧ True) := by
  have h8 := g_rwo_at T0 (i := 24) (by omega) (by omega)
  have h7 := F0.2.2
  have h6 : g_nw V 24 = p := h8.symm.trans h7
  have h5 : g_los p (g_nw V) = g_nw V := by rw [← h6]; exact g_los_id T0.1.2.1
  exact ⟨trivial, ⟨⟨show g_wf H (g_los p (g_nw V)) by rw [h5]; exact T0.1.2.1, T0.1.2⟩, show _ = g_los p (g_nw V) by rw [h5]; exact T0.2⟩, trivial⟩
theorem k_losX {V : zVw} {p h H : Int} (T0 : q_rwo V H (0 : Int) (0 : Int) (0 : Int) (2 : Int) p (0 : Int) (0 : Int)) (C0 : 0 ≤ p - 1) (C1 : 0 ≤ 6 - p) (F0 : (0 : Int) ≤ 24 ∧ (24 : Int) < j_len 78 ∧ V 78 (24) = p) (F1 : (0 : Int) ≤ p + 24 ∧ (p + 24 : Int) < j_len 78 ∧ V 78 (p + 24) = h) : (0 ≤ h ∧ 0 ≤ H - h - 1 ∧ True) ∧ (q_rlx V H p (24 : Int) (p + 24) (h + 6) (h + 12) ∧ True) := by
  have w9 : g_wf H (g_los p (g_nw V)) := T0.1.1
  have h9 := g_rwo_at T0 (i := p + 24) (by omega) (by omega)
  have h8 : V 78 (p + 24) = g_los p (g_nw V) (p + 24) := h9
  have h7 := F1.2.2
  have h6 := w9.pl_lt (i := p - 1) (by omega) (by rw [g_los_p]; omega)
  rw [show 25 + (p - 1) = p + 24 by omega] at h6
  have wn := T0.1.2.1
  have w24 := wn.2.1
  have h5 : p ≤ g_nw V 24 := g_los_le wn w9
  have h4 := g_los_w (A := g_nw V) (j := p) (i := p - 1) (by omega) (by omega)
  rw [if_pos (by omega), show 25 + (p - 1) = p + 24 by omega] at h4
  exact ⟨⟨by omega, by omega, trivial⟩, ⟨⟨T0.1, by omega, h5, by rw [show 24 + p = p + 24 by omega]; omega⟩, fun i i0 i1 _ => g_rwo_at T0 i0 i1⟩, trivial⟩
theorem k_losE {V : zVw} {p h H : Int} (T0 : q_rlx V H p (24 : Int) (p + 24) (h + 6) (h + 12)) (C0 : 0 ≤ p - 1) (C1 : 0 ≤ 6 - p) (F0 : (0 : Int) ≤ 24 ∧ (24 : Int) < j_len 78 ∧ V 78 (24) = p - 1) (F1 : (0 : Int) ≤ p + 24 ∧ (p + 24 : Int) < j_len 78 ∧ V 78 (p + 24) = 0) (F2 : (0 : Int) ≤ h + 6 ∧ (h + 6 : Int) < j_len 78 ∧ V 78 (h + 6) = 0) (F3 : (0 : Int) ≤ h + 12 ∧ (h + 12 : Int) < j_len 78 ∧ V 78 (h + 12) = 0) : (True) ∧ (q_rwo V H (0 : Int) (0 : Int) (0 : Int) (2 : Int) (p - 1) (0 : Int) (0 : Int) ∧ True) := by
  obtain ⟨⟨⟨t1, t2, t3⟩, t4, t5, t6⟩, t7⟩ := T0
  have h9 := g_los_step t2 t4 t5 (h := h) (by omega) (R := V 78) (fun i i0 i1 c9 => t7 i i0 i1 c9) F0.2.2 F1.2.2 F2.2.2 F3.2.2
  have wL := t2.los (j := p - 1) (by omega) (by omega)
  exact ⟨trivial, ⟨⟨wL, t2, t3⟩, g_b_fn g_nw_sup.los (fun j j0 j1 => by rw [Int.zero_add]; exact h9 j j0 j1)⟩, trivial⟩
theorem k_blis {V : zVw} {h H q s o a1 a2 a3 : Int} (T0 : q_rwo V H q (0 : Int) s o a1 a2 a3) : (True) ∧ (q_qry V (25 : Int) q (0 : Int) s o a1 a2 a3 h (0 : Int) (0 : Int) ∧ True) := by
  exact ⟨trivial, g_qr T0 (g_Q25s (g_lot_b _ _).1), trivial⟩
theorem k_grn0 {V : zVw} {H q b s o a1 a2 a3 : Int} (T0 : q_rwo V H q b s o a1 a2 a3) : (True) ∧ (q_grn V q b s o a1 a2 a3 (0 : Int) ∧ True) := by
  exact ⟨trivial, (fun i i0 i1 => by omega), trivial⟩
