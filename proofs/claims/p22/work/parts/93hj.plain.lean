/-! ===== the lemmas in plain numbers, by program ===== -/
theorem k_grnS {V : zVw} {i g w q b s o a1 a2 a3 : Int} (T0 : q_grn V q b s o a1 a2 a3 i) (T1 : q_qry V (4 : Int) q b s o a1 a2 a3 (0 : Int) i g) (T2 : q_qry V (4 : Int) q b s o a1 a2 a3 (1 : Int) i w) (C0 : 0 ≤ i) (C1 : 0 ≤ 5 - i) (F0 : (0 : Int) ≤ i ∧ (i : Int) < j_len 79 ∧ V 79 (i) = g) (F1 : (0 : Int) ≤ i ∧ (i : Int) < j_len 80 ∧ V 80 (i) = w) : (True) ∧ (q_grn V q b s o a1 a2 a3 (i + 1) ∧ True) := by
  have z0 := g_k4 T1
  have z1 := g_k4 T2
  exact ⟨trivial, (fun j j0 j1 => by
    by_cases h8 : j < i
    · exact T0 j j0 h8
    · rw [show j = i by omega, F0.2.2, F1.2.2]; exact ⟨z0, z1⟩), trivial⟩
theorem k_grnG {V : zVw} {i g w n H q b s : Int} (T0 : q_rwo V H q b s (4 : Int) n i H) (T1 : q_grn V q b s (4 : Int) n (0 : Int) H H) (C0 : 0 ≤ i) (C1 : 0 ≤ H - i - 1) (C2 : 0 ≤ 6 - H) (F0 : (0 : Int) ≤ i ∧ (i : Int) < j_len 79 ∧ V 79 (i) = g) (F1 : (0 : Int) ≤ i ∧ (i : Int) < j_len 80 ∧ V 80 (i) = w) : (0 ≤ g ∧ 0 ≤ 99 - g ∧ 0 ≤ w ∧ 0 ≤ 99 - w ∧ True) ∧ (q_qry V (4 : Int) q b s (4 : Int) n i H (0 : Int) i g ∧ q_qry V (4 : Int) q b s (4 : Int) n i H (1 : Int) i w ∧ True) := by
  have h9 := T1 i (by omega) (by omega)
  have e9 : ∀ k9 : Int, g_lw V q k9 (g_F V q b s 4 n i H (g_nw V)) i = g_lw V q k9 (g_F V q b s 4 n 0 H (g_nw V)) i := fun k9 => g_lw_ya i.toNat (by omega) (by omega)
  have l0 := g_lw_b V q 0 (g_F V q b s 4 n 0 H (g_nw V)) i
  have l1 := g_lw_b V q 1 (g_F V q b s 4 n 0 H (g_nw V)) i
  have h8 := F0.2.2
  have h7 := F1.2.2
  exact ⟨⟨by omega, by omega, by omega, by omega, trivial⟩, g_qr T0 (show g = g_lw V q 0 _ i by rw [e9]; omega), g_qr T0 (show w = g_lw V q 1 _ i by rw [e9]; omega), trivial⟩
theorem k_ryx {V : zVw} {e H q b s o a1 a2 a3 : Int} (T0 : q_rwo V H q b s o a1 a2 a3) (C0 : 0 ≤ e) (C1 : 0 ≤ 5 - e) : (True) ∧ (q_ryx V H q b s o a1 a2 a3 e (e + 12) ∧ True) := by
  exact ⟨trivial, ⟨T0.1, fun i i0 i1 _ => g_rwo_at T0 i0 i1⟩, trivial⟩
theorem k_ryx31 {V : zVw} {H q b s o a1 a2 a3 : Int} (T0 : q_rwo V H q b s o a1 a2 a3) : (True) ∧ (q_ryx V H q b s o a1 a2 a3 (31 : Int) (31 : Int) ∧ True) := by
  exact ⟨trivial, ⟨T0.1, fun i i0 i1 _ => g_rwo_at T0 i0 i1⟩, trivial⟩
theorem k_rcelb {V : zVw} {h u H q b s o a1 a2 a3 : Int} (T0 : q_rwo V H q b s o a1 a2 a3) (C0 : 0 ≤ h) (C1 : 0 ≤ H - h - 1) (C2 : 0 ≤ 6 - H) (F0 : (0 : Int) ≤ h ∧ (h : Int) < j_len 78 ∧ V 78 (h) = u) : (0 ≤ u ∧ 0 ≤ 99 - u ∧ True) ∧ (q_qry V (8 : Int) q b s o a1 a2 a3 h (0 : Int) u ∧ True) := by
  have h9 := g_rwo_at T0 (i := h) (by omega) (by omega)
  have h7 := F0.2.2
  have h8 := T0.1.1.2.2.2.2.2.2.1 h (by omega) (by omega)
  exact ⟨⟨by omega, by omega, trivial⟩, g_qr T0 (show u = _ from h7.symm.trans h9), trivial⟩
theorem k_rcel12b {V : zVw} {h u H q b s o a1 a2 a3 : Int} (T0 : q_rwo V H q b s o a1 a2 a3) (C0 : 0 ≤ h) (C1 : 0 ≤ H - h - 1) (C2 : 0 ≤ 6 - H) (F0 : (0 : Int) ≤ h + 12 ∧ (h + 12 : Int) < j_len 78 ∧ V 78 (h + 12) = u) : (0 ≤ u ∧ 0 ≤ 99 - u ∧ True) ∧ (q_qry V (8 : Int) q b s o a1 a2 a3 (h + 12) (0 : Int) u ∧ True) := by
  have h9 := g_rwo_at T0 (i := h + 12) (by omega) (by omega)
  have h7 := F0.2.2
  have h8 := T0.1.1.2.2.2.2.2.2.1 h (by omega) (by omega)
  rw [show 12 + h = h + 12 by omega] at h8
  exact ⟨⟨by omega, by omega, trivial⟩, g_qr T0 (show u = _ from h7.symm.trans h9), trivial⟩
theorem k_mns1 {V : zVw} {h x z w v q b s o a1 a2 a3 H : Int} (T0 : q_qry V (8 : Int) q b s o a1 a2 a3 (h + 6) (0 : Int) x) (T1 : q_qry V (8 : Int) q b s o a1 a2 a3 (h + 12) (0 : Int) z) (T2 : q_qry V (4 : Int) q b s o a1 a2 a3 (1 : Int) h w) (T3 : q_ryx V H q b s o a1 a2 a3 h (h + 12)) (C0 : 0 ≤ h) (C1 : 0 ≤ H - h - 1) (C2 : 0 ≤ 6 - H) (C3 : 0 ≤ x - 1) (C4 : 0 ≤ z - w) (C5 : 0 ≤ w + v - z) (C6 : 0 ≤ z - w - v) : (True) ∧ (q_qry V (21 : Int) q b s o a1 a2 a3 h (0 : Int) v ∧ True) := by
  have z0 := g_k8 T0
  have z1 := g_k8 T1
  have z2 := g_k4 T2
  rw [show h + 6 = 6 + h by omega] at z0
  rw [show h + 12 = 12 + h by omega] at z1
  exact ⟨trivial, g_qq T0 (show v = g_nst _ _ _ h by unfold g_nst; rw [← z0, if_pos (by omega), ← z1, ← z2, if_pos (by omega)]; omega), trivial⟩
theorem k_mns0 {V : zVw} {h x z w v q b s o a1 a2 a3 H : Int} (T0 : q_qry V (8 : Int) q b s o a1 a2 a3 (h + 6) (0 : Int) x) (T1 : q_qry V (8 : Int) q b s o a1 a2 a3 (h + 12) (0 : Int) z) (T2 : q_qry V (4 : Int) q b s o a1 a2 a3 (1 : Int) h w) (T3 : q_ryx V H q b s o a1 a2 a3 h (h + 12)) (C0 : 0 ≤ h) (C1 : 0 ≤ H - h - 1) (C2 : 0 ≤ 6 - H) (C3 : 0 ≤ x - 1) (C4 : 0 ≤ w - z - 1) (C5 : 0 ≤ v) (C6 : 0 ≤ -v) : (True) ∧ (q_qry V (21 : Int) q b s o a1 a2 a3 h (0 : Int) v ∧ True) := by
  have z0 := g_k8 T0
  have z1 := g_k8 T1
  have z2 := g_k4 T2
  rw [show h + 6 = 6 + h by omega] at z0
  rw [show h + 12 = 12 + h by omega] at z1
  exact ⟨trivial, g_qq T0 (show v = g_nst _ _ _ h by unfold g_nst; rw [← z0, if_pos (by omega), ← z1, ← z2, if_neg (by omega)]; omega), trivial⟩
theorem k_mnsN {V : zVw} {h z q b s o a1 a2 a3 H : Int} (T0 : q_qry V (8 : Int) q b s o a1 a2 a3 (h + 6) (0 : Int) (0 : Int)) (T1 : q_qry V (8 : Int) q b s o a1 a2 a3 (h + 12) (0 : Int) z) (T2 : q_ryx V H q b s o a1 a2 a3 h (h + 12)) (C0 : 0 ≤ h) (C1 : 0 ≤ H - h - 1) (C2 : 0 ≤ 6 - H) : (0 ≤ z ∧ 0 ≤ -z ∧ True) ∧ (q_qry V (21 : Int) q b s o a1 a2 a3 h (0 : Int) (0 : Int) ∧ True) := by
  have z0 := g_k8 T0
  have z1 := g_k8 T1
  rw [show h + 6 = 6 + h by omega] at z0
  rw [show h + 12 = 12 + h by omega] at z1
  have h9 := T2.1.1.at_no (T2.1.1.no_at (h := h) (by omega) (by omega) z0.symm) (by omega) (by omega)
  exact ⟨⟨by omega, by omega, trivial⟩, g_qq T0 (show (0 : Int) = g_nst _ _ _ h by unfold g_nst; rw [← z0, if_neg (by omega)]), trivial⟩
theorem k_ymE {V : zVw} {h v w n H q b s : Int} (T0 : q_ryx V H q b s (4 : Int) n h H h (h + 12)) (T1 : q_qry V (20 : Int) q b s (4 : Int) n h H h (0 : Int) v) (T2 : q_qry V (21 : Int) q b s (4 : Int) n h H h (0 : Int) w) (C0 : 0 ≤ h) (C1 : 0 ≤ H - h - 1) (C2 : 0 ≤ 6 - H) (F0 : (0 : Int) ≤ h ∧ (h : Int) < j_len 78 ∧ V 78 (h) = v) (F1 : (0 : Int) ≤ h + 12 ∧ (h + 12 : Int) < j_len 78 ∧ V 78 (h + 12) = w) : (True) ∧ (q_rwo V H q b s (4 : Int) n (h + 1) H ∧ True) := by
  have z0 := g_k20 T1
  have z1 := g_k21 T2
  have w9 := T0.1.1
  have h7 : g_F V q b s 4 n (h + 1) H (g_nw V) = g_y1 V q b s (g_F V q b s 4 n h H (g_nw V)) h := by
    show g_ya V q b s (g_yr V q b s H (g_nw V) n.toNat) (h + 1).toNat = g_y1 V q b s (g_ya V q b s (g_yr V q b s H (g_nw V) n.toNat) h.toNat) h
    rw [show (h + 1).toNat = h.toNat + 1 by omega]
    show g_y1 V q b s _ ((h.toNat : Nat) : Int) = _
    rw [show ((h.toNat : Nat) : Int) = h by omega]
  have wY := w9.y1 (v := V) (q := q) (b := b) (s := s) (h := h) (by omega) (by omega)
  have sY : g_sup (g_F V q b s 4 n h H (g_nw V)) := g_ya_sup (g_yr_sup g_nw_sup (by have := w9.1; omega) _) (by omega)
  refine ⟨trivial, ⟨⟨by rw [h7]; exact wY, T0.1.2⟩, ?_⟩, trivial⟩
  rw [h7]
  refine g_but_row (sY.y1 (by omega) (by omega)) T0.2 (fun i i0 i1 c9 => ?_) (fun i i0 i1 c9 => (g_y1_o (by omega) (by omega)).symm)
  rcases c9 with c9 | c9
  · rw [c9, g_y1_h]; exact F0.2.2.trans z0
  · rw [c9, F1.2.2, z1, show h + 12 = 12 + h by omega, g_y1_s]
theorem k_ymZ {V : zVw} {y y2 n H q b s : Int} (T0 : q_ryx V H q b s (4 : Int) n H H (31 : Int) (31 : Int)) (T1 : (mOP 110 (Int32.ofInt y) (Int32.ofInt (1 : Int))).toInt = y2) (T2 : q_qry V (8 : Int) q b s (4 : Int) n H H (31 : Int) (0 : Int) y) (C0 : 0 ≤ n) (C1 : 0 ≤ H) (F0 : (0 : Int) ≤ 31 ∧ (31 : Int) < j_len 78 ∧ V 78 (31) = y2) : (True) ∧ (q_rwo V H q b s (4 : Int) (n + 1) (0 : Int) H ∧ True) := by
  have h9 : g_op 110 y 1 = y2 := T1
  have z0 := g_k8 T2
  have w9 := T0.1.1
  have wH := w9.1
  have sY : g_sup (g_F V q b s 4 n H H (g_nw V)) := g_ya_sup (g_yr_sup g_nw_sup (by omega) _) (by omega)
  have h7 : g_F V q b s 4 (n + 1) 0 H (g_nw V) = g_yi (g_F V q b s 4 n H H (g_nw V)) := by
    show g_yr V q b s H (g_nw V) (n + 1).toNat = g_yi (g_ya V q b s (g_yr V q b s H (g_nw V) n.toNat) H.toNat)
    rw [show (n + 1).toNat = n.toNat + 1 by omega]
    rfl
  refine ⟨trivial, ⟨⟨by rw [h7]; exact w9.yi, T0.1.2⟩, ?_⟩, trivial⟩
  rw [h7]
  refine g_but_row sY.yi T0.2 (fun i i0 i1 c9 => ?_) (fun i i0 i1 c9 => (g_yi_o (by omega)).symm)
  rw [show i = 31 by omega, g_yi_y, F0.2.2, ← z0]
  exact h9.symm
theorem k_qe24 {V : zVw} {u w : Int} (T0 : q_qry V (8 : Int) (0 : Int) (0 : Int) (0 : Int) (0 : Int) (0 : Int) (0 : Int) (0 : Int) (24 : Int) (0 : Int) u) (T1 : q_qry V (8 : Int) (0 : Int) (0 : Int) (0 : Int) (0 : Int) (0 : Int) (0 : Int) (0 : Int) (24 : Int) (0 : Int) w) : (0 ≤ u - w ∧ 0 ≤ w - u ∧ True) ∧ (True) := by
  have h9 := g_k8 T0
  have h8 := g_k8 T1
  exact ⟨⟨by omega, by omega, trivial⟩, trivial⟩
theorem k_qeI {V : zVw} {i u w : Int} (T0 : q_qry V (8 : Int) (0 : Int) (0 : Int) (0 : Int) (0 : Int) (0 : Int) (0 : Int) (0 : Int) i (0 : Int) u) (T1 : q_qry V (8 : Int) (0 : Int) (0 : Int) (0 : Int) (0 : Int) (0 : Int) (0 : Int) (0 : Int) i (0 : Int) w) : (0 ≤ u - w ∧ 0 ≤ w - u ∧ True) ∧ (True) := by
  have h9 := g_k8 T0
  have h8 := g_k8 T1
  exact ⟨⟨by omega, by omega, trivial⟩, trivial⟩
theorem k_qeS {V : zVw} {p u w : Int} (T0 : q_qry V (1 : Int) (0 : Int) (0 : Int) (0 : Int) (0 : Int) (0 : Int) (0 : Int) (0 : Int) (0 : Int) p u) (T1 : q_qry V (1 : Int) (0 : Int) (0 : Int) (0 : Int) (0 : Int) (0 : Int) (0 : Int) (0 : Int) (0 : Int) p w) : (0 ≤ u - w ∧ 0 ≤ w - u ∧ True) ∧ (True) := by
  have h9 := g_k1 T0
  have h8 := g_k1 T1
  exact ⟨⟨by omega, by omega, trivial⟩, trivial⟩
theorem k_qeB {V : zVw} {x u w q b s o a1 a2 a3 : Int} (T0 : q_qry V (3 : Int) q b s o a1 a2 a3 x (0 : Int) u) (T1 : q_qry V (3 : Int) q b s o a1 a2 a3 x (0 : Int) w) : (0 ≤ u - w ∧ 0 ≤ w - u ∧ True) ∧ (True) := by
  have h9 := g_br_eq (g_k3 T0) (g_k3 T1)
  exact ⟨⟨by omega, by omega, trivial⟩, trivial⟩
theorem k_qeP {V : zVw} {x u w q b s o a1 a2 a3 : Int} (T0 : q_qry V (22 : Int) q b s o a1 a2 a3 x (0 : Int) u) (T1 : q_qry V (22 : Int) q b s o a1 a2 a3 x (0 : Int) w) : (0 ≤ u - w ∧ 0 ≤ w - u ∧ True) ∧ (True) := by
  obtain ⟨k9, h9, h8⟩ := g_k22 T0
  obtain ⟨k7, h7, h6⟩ := g_k22 T1
  have h5 := g_br_eq h9 h7
  subst h5
  exact ⟨⟨by omega, by omega, trivial⟩, trivial⟩
theorem k_rwq {V : zVw} {l x q H : Int} (T0 : (1 : Int) = 1 → q_leq V l x q) (T1 : q_rwo V H (0 : Int) (0 : Int) (0 : Int) (0 : Int) (0 : Int) (0 : Int) (0 : Int)) : (True) ∧ (q_rwo V H q (0 : Int) (0 : Int) (0 : Int) (0 : Int) (0 : Int) (0 : Int) ∧ True) := by
  have t9 : q_rwo V H q 0 0 0 0 0 0 := by
    unfold q_rwo at T1 ⊢
    rw [g_F0] at T1 ⊢
    exact T1
  exact ⟨trivial, t9, trivial⟩
theorem k_mcx0 {V : zVw} {h H : Int} (T0 : q_qry V (9 : Int) (0 : Int) (0 : Int) (0 : Int) (0 : Int) (0 : Int) (0 : Int) (0 : Int) h H (1 : Int)) : (0 ≤ h ∧ 0 ≤ H - h - 1 ∧ True) ∧ (True) := by
  have h9 := g_k9 T0
  by_cases c9 : 0 ≤ h ∧ h < H ∧ g_nw V (6 + h) = 0 ∧ 1 ≤ g_nw V h
  · exact ⟨⟨by omega, by omega, trivial⟩, trivial⟩
  · have h8 : (1 : Int) = if 0 ≤ h ∧ h < H ∧ g_nw V (6 + h) = 0 ∧ 1 ≤ g_nw V h then 1 else 0 := h9
    rw [if_neg c9] at h8
    omega
theorem k_mcx1 {V : zVw} {h H x : Int} (T0 : q_qry V (9 : Int) (0 : Int) (0 : Int) (0 : Int) (0 : Int) (0 : Int) (0 : Int) (0 : Int) h H (1 : Int)) (T1 : q_rwo V H (0 : Int) (0 : Int) (0 : Int) (0 : Int) (0 : Int) (0 : Int) (0 : Int)) (C0 : 0 ≤ x - 1) (F0 : (0 : Int) ≤ h + 6 ∧ (h + 6 : Int) < j_len 78 ∧ V 78 (h + 6) = x) : (0 ≤ (-1) ∧ True) ∧ (True) := by
  have h9 := g_k9 T0
  by_cases c9 : 0 ≤ h ∧ h < H ∧ g_nw V (6 + h) = 0 ∧ 1 ≤ g_nw V h
  · have wH := T1.1.1.1
    have h8 : V 78 (6 + h) = g_nw V (6 + h) := g_rwo_at T1 (i := 6 + h) (by omega) (by omega)
    rw [show h + 6 = 6 + h by omega] at F0
    have h7 := F0.2.2
    exfalso
    omega
  · have h8 : (1 : Int) = if 0 ≤ h ∧ h < H ∧ g_nw V (6 + h) = 0 ∧ 1 ≤ g_nw V h then 1 else 0 := h9
    rw [if_neg c9] at h8
    omega
theorem k_mcx2 {V : zVw} {h H x : Int} (T0 : q_qry V (9 : Int) (0 : Int) (0 : Int) (0 : Int) (0 : Int) (0 : Int) (0 : Int) (0 : Int) h H (1 : Int)) (T1 : q_rwo V H (0 : Int) (0 : Int) (0 : Int) (0 : Int) (0 : Int) (0 : Int) (0 : Int)) (C0 : 0 ≤ -x) (F0 : (0 : Int) ≤ h ∧ (h : Int) < j_len 78 ∧ V 78 (h) = x) : (0 ≤ (-1) ∧ True) ∧ (True) := by
  have h9 := g_k9 T0
  by_cases c9 : 0 ≤ h ∧ h < H ∧ g_nw V (6 + h) = 0 ∧ 1 ≤ g_nw V h
  · have wH := T1.1.1.1
    have h8 : V 78 h = g_nw V h := g_rwo_at T1 (i := h) (by omega) (by omega)
    have h7 := F0.2.2
    exfalso
    omega
  · have h8 : (1 : Int) = if 0 ≤ h ∧ h < H ∧ g_nw V (6 + h) = 0 ∧ 1 ≤ g_nw V h then 1 else 0 := h9
    rw [if_neg c9] at h8
    omega
theorem k_mcy {V : zVw} {h H x z : Int} (T0 : q_qry V (9 : Int) (0 : Int) (0 : Int) (0 : Int) (0 : Int) (0 : Int) (0 : Int) (0 : Int) h H (0 : Int)) (T1 : q_rwo V H (0 : Int) (0 : Int) (0 : Int) (0 : Int) (0 : Int) (0 : Int) (0 : Int)) (C0 : 0 ≤ h) (C1 : 0 ≤ H - h - 1) (C2 : 0 ≤ x - 1) (C3 : 0 ≤ -z) (F0 : (0 : Int) ≤ h ∧ (h : Int) < j_len 78 ∧ V 78 (h) = x) (F1 : (0 : Int) ≤ h + 6 ∧ (h + 6 : Int) < j_len 78 ∧ V 78 (h + 6) = z) : (0 ≤ (-1) ∧ True) ∧ (True) := by
  have h9 := g_k9 T0
  have wH := T1.1.1.1
  have w8 := T1.1.2.1.2.2.2.2.2.1 h (by omega) (by omega)
  have h8 : V 78 (6 + h) = g_nw V (6 + h) := g_rwo_at T1 (i := 6 + h) (by omega) (by omega)
  rw [show h + 6 = 6 + h by omega] at F1
  have h7 := F1.2.2
  have h6 : V 78 h = g_nw V h := g_rwo_at T1 (i := h) (by omega) (by omega)
  have h5 := F0.2.2
  have h4 : (0 : Int) = if 0 ≤ h ∧ h < H ∧ g_nw V (6 + h) = 0 ∧ 1 ≤ g_nw V h then 1 else 0 := h9
  rw [if_pos ⟨by omega, by omega, by omega, by omega⟩] at h4
  omega
theorem k_rnx {V : zVw} {h H p : Int} (T0 : q_rwo V H (0 : Int) (0 : Int) (0 : Int) (0 : Int) (0 : Int) (0 : Int) (0 : Int)) (C0 : 0 ≤ h) (C1 : 0 ≤ 5 - h) (F0 : (0 : Int) ≤ 24 ∧ (24 : Int) < j_len 78 ∧ V 78 (24) = p) : (True) ∧ (q_rnx V H h (h + 6) (h + 12) (h + 18) (24 : Int) (p + 25) ∧ True) := by
  exact ⟨trivial, ⟨⟨T0.1.2.1, T0.1.2⟩, fun i i0 i1 _ => g_rwo_at T0 i0 i1⟩, trivial⟩
theorem k_rcelz {V : zVw} {h u H : Int} (T0 : q_rwo V H (0 : Int) (0 : Int) (0 : Int) (0 : Int) (0 : Int) (0 : Int) (0 : Int)) (C0 : 0 ≤ h) (C1 : 0 ≤ 32 - h) (F0 : (0 : Int) ≤ h ∧ (h : Int) < j_len 78 ∧ V 78 (h) = u) : (True) ∧ (q_qry V (8 : Int) (0 : Int) (0 : Int) (0 : Int) (0 : Int) (0 : Int) (0 : Int) (0 : Int) h (0 : Int) u ∧ True) := by
  have h9 := g_rwo_at T0 (i := h) (by omega) (by omega)
  have h7 := F0.2.2
  exact ⟨trivial, g_qr T0 (show u = _ from h7.symm.trans h9), trivial⟩
theorem k_rcelz6 {V : zVw} {h u H : Int} (T0 : q_rwo V H (0 : Int) (0 : Int) (0 : Int) (0 : Int) (0 : Int) (0 : Int) (0 : Int)) (C0 : 0 ≤ h) (C1 : 0 ≤ 5 - h) (F0 : (0 : Int) ≤ h + 6 ∧ (h + 6 : Int) < j_len 78 ∧ V 78 (h + 6) = u) : (True) ∧ (q_qry V (8 : Int) (0 : Int) (0 : Int) (0 : Int) (0 : Int) (0 : Int) (0 : Int) (0 : Int) (h + 6) (0 : Int) u ∧ True) := by
  have h9 := g_rwo_at T0 (i := h + 6) (by omega) (by omega)
  have h7 := F0.2.2
  exact ⟨trivial, g_qr T0 (show u = _ from h7.symm.trans h9), trivial⟩
theorem k_rcelz18 {V : zVw} {h u H : Int} (T0 : q_rwo V H (0 : Int) (0 : Int) (0 : Int) (0 : Int) (0 : Int) (0 : Int) (0 : Int)) (C0 : 0 ≤ h) (C1 : 0 ≤ 5 - h) (F0 : (0 : Int) ≤ h + 18 ∧ (h + 18 : Int) < j_len 78 ∧ V 78 (h + 18) = u) : (True) ∧ (q_qry V (8 : Int) (0 : Int) (0 : Int) (0 : Int) (0 : Int) (0 : Int) (0 : Int) (0 : Int) (h + 18) (0 : Int) u ∧ True) := by
  have h9 := g_rwo_at T0 (i := h + 18) (by omega) (by omega)
  have h7 := F0.2.2
  exact ⟨trivial, g_qr T0 (show u = _ from h7.symm.trans h9), trivial⟩
theorem k_rcelz_24 {V : zVw} {u H : Int} (T0 : q_rwo V H (0 : Int) (0 : Int) (0 : Int) (0 : Int) (0 : Int) (0 : Int) (0 : Int)) (F0 : (0 : Int) ≤ 24 ∧ (24 : Int) < j_len 78 ∧ V 78 (24) = u) : (True) ∧ (q_qry V (8 : Int) (0 : Int) (0 : Int) (0 : Int) (0 : Int) (0 : Int) (0 : Int) (0 : Int) (24 : Int) (0 : Int) u ∧ True) := by
  have h9 := g_rwo_at T0 (i := 24) (by omega) (by omega)
  have h7 := F0.2.2
  exact ⟨trivial, g_qr T0 (show u = _ from h7.symm.trans h9), trivial⟩
theorem k_rcelz_32 {V : zVw} {u H : Int} (T0 : q_rwo V H (0 : Int) (0 : Int) (0 : Int) (0 : Int) (0 : Int) (0 : Int) (0 : Int)) (F0 : (0 : Int) ≤ 32 ∧ (32 : Int) < j_len 78 ∧ V 78 (32) = u) : (True) ∧ (q_qry V (8 : Int) (0 : Int) (0 : Int) (0 : Int) (0 : Int) (0 : Int) (0 : Int) (0 : Int) (32 : Int) (0 : Int) u ∧ True) := by
  have h9 := g_rwo_at T0 (i := 32) (by omega) (by omega)
  have h7 := F0.2.2
  exact ⟨trivial, g_qr T0 (show u = _ from h7.symm.trans h9), trivial⟩
theorem k_mspl {V : zVw} {h H p x z g g2 : Int} (T0 : q_qry V (8 : Int) (0 : Int) (0 : Int) (0 : Int) (0 : Int) (0 : Int) (0 : Int) (0 : Int) (24 : Int) (0 : Int) p) (T1 : q_rnx V H h (h + 6) (h + 12) (h + 18) (24 : Int) (p + 25)) (T2 : q_qry V (8 : Int) (0 : Int) (0 : Int) (0 : Int) (0 : Int) (0 : Int) (0 : Int) (0 : Int) h (0 : Int) x) (T3 : q_qry V (8 : Int) (0 : Int) (0 : Int) (0 : Int) (0 : Int) (0 : Int) (0 : Int) (0 : Int) (h + 18) (0 : Int) g) (T4 : V 20 h = z) (T5 : (mOP 110 (Int32.ofInt g) (Int32.ofInt (1 : Int))).toInt = g2) (T6 : q_qry V (9 : Int) (0 : Int) (0 : Int) (0 : Int) (0 : Int) (0 : Int) (0 : Int) (0 : Int) h H (1 : Int)) (C0 : 0 ≤ p) (C1 : 0 ≤ 5 - p) (F0 : (0 : Int) ≤ h ∧ (h : Int) < j_len 78 ∧ V 78 (h) = 0) (F1 : (0 : Int) ≤ h + 6 ∧ (h + 6 : Int) < j_len 78 ∧ V 78 (h + 6) = x) (F2 : (0 : Int) ≤ h + 12 ∧ (h + 12 : Int) < j_len 78 ∧ V 78 (h + 12) = z) (F3 : (0 : Int) ≤ h + 18 ∧ (h + 18 : Int) < j_len 78 ∧ V 78 (h + 18) = g2) (F4 : (0 : Int) ≤ 24 ∧ (24 : Int) < j_len 78 ∧ V 78 (24) = p + 1) (F5 : (0 : Int) ≤ p + 25 ∧ (p + 25 : Int) < j_len 78 ∧ V 78 (p + 25) = h) : (True) ∧ (q_rwo V H (0 : Int) (0 : Int) (0 : Int) (1 : Int) h (0 : Int) (0 : Int) ∧ True) := by
  obtain ⟨⟨t1, w9, sb9⟩, t7⟩ := T1
  have z0 : p = g_nw V 24 := g_k8 T0
  have z2 : x = g_nw V h := g_k8 T2
  have z3 : g = g_nw V (h + 18) := g_k8 T3
  have h9 : g_op 110 g 1 = g2 := T5
  have h8 : (1 : Int) = if 0 ≤ h ∧ h < H ∧ g_nw V (6 + h) = 0 ∧ 1 ≤ g_nw V h then 1 else 0 := g_k9 T6
  have wH := w9.1
  by_cases c8 : 0 ≤ h ∧ h < H ∧ g_nw V (6 + h) = 0 ∧ 1 ≤ g_nw V h
  · have no := w9.no_at c8.1 (by omega) c8.2.2.1
    have wS := w9.spl sb9 (h := h) (by omega) (by omega) (by omega) (by omega) no
    have eF : g_F V 0 0 0 1 h 0 0 (g_nw V) = g_spl V h (g_nw V) := rfl
    refine ⟨trivial, ⟨⟨wS, w9, sb9⟩, g_but_row (g_nw_sup.spl (by omega) (by omega) (by omega) (by omega)) t7 (fun i i0 i1 c9 => ?_) (fun i i0 i1 c9 => (g_spl_o (by omega) (by omega) (by omega) (by omega) (by omega) (by omega)).symm)⟩, trivial⟩
    rcases c9 with c9 | c9 | c9 | c9 | c9 | c9
    · rw [eF, c9, g_spl_h]; exact F0.2.2
    · rw [eF, c9, F1.2.2, show h + 6 = 6 + h by omega, g_spl_l]; exact z2
    · rw [eF, c9, F2.2.2, show h + 12 = 12 + h by omega, g_spl_s]; exact T4.symm
    · rw [eF, c9, F3.2.2, show h + 18 = 18 + h by omega, g_spl_g, ← h9, z3, show h + 18 = 18 + h by omega]
    · rw [eF, c9, F4.2.2, g_spl_p (by omega) (by omega)]; omega
    · rw [eF, c9, F5.2.2, show p + 25 = 25 + g_nw V 24 by omega, g_spl_w (by omega) (by omega) (by omega)]
  · rw [if_neg c8] at h8
    omega
theorem k_qeT {V : zVw} {h p u w : Int} (T0 : q_qry V (1 : Int) (0 : Int) (0 : Int) (0 : Int) (1 : Int) h (0 : Int) (0 : Int) (0 : Int) p u) (T1 : q_qry V (1 : Int) (0 : Int) (0 : Int) (0 : Int) (1 : Int) h (0 : Int) (0 : Int) (0 : Int) p w) : (0 ≤ u - w ∧ 0 ≤ w - u ∧ True) ∧ (True) := by
  have h9 := g_k1 T0
  have h8 := g_k1 T1
  exact ⟨⟨by omega, by omega, trivial⟩, trivial⟩
theorem k_rp0 {V : zVw} {x H p y d : Int} (T0 : q_rwo V H (0 : Int) (0 : Int) (0 : Int) (0 : Int) (0 : Int) (0 : Int) (0 : Int)) (T1 : q_sto V 0 H p y d (0 : Int) (0 : Int) (0 : Int) (0 : Int) (0 : Int) (0 : Int) (0 : Int)) (F0 : (0 : Int) ≤ 24 ∧ (24 : Int) < j_len 78 ∧ V 78 (24) = x) : (0 ≤ x - p ∧ 0 ≤ p - x ∧ True) ∧ (True) := by
  have h9 := g_rwo_at T0 (i := 24) (by omega) (by omega)
  have h8 := (g_st0_pt T1).1.1
  have h7 := F0.2.2
  exact ⟨⟨by omega, by omega, trivial⟩, trivial⟩
theorem k_nwW {V : zVw} {l u w x : Int} (T0 : 0 ≤ l ∧ l ≠ x ∧ V 61 l = w) (F0 : (0 : Int) ≤ l ∧ (l : Int) < j_len 61 ∧ V 61 (l) = u) : (0 ≤ u - w ∧ 0 ≤ w - u ∧ True) ∧ (True) := by
  have h9 := T0.2.2
  have h8 := F0.2.2
  exact ⟨⟨by omega, by omega, trivial⟩, trivial⟩
theorem k_bplmB {V : zVw} {w j k q b s o a1 a2 a3 : Int} (T0 : (mOP 107 (Int32.ofInt k) (Int32.ofInt (2 : Int))).toInt = j) (T1 : q_qry V (3 : Int) q b s o a1 a2 a3 w (0 : Int) k) (C0 : 0 ≤ k) : (0 ≤ k - 2 * j ∧ 0 ≤ 2 * j - k + 1 ∧ True) ∧ (q_qry V (22 : Int) q b s o a1 a2 a3 w (0 : Int) j ∧ True) := by
  have z0 := g_k3 T1
  obtain ⟨⟨H9, w9⟩, -⟩ := id T1
  have h9 := g_br_b w9 z0
  have h8 := g_op_div (a := k) (b := 2) (by omega) (by omega) (by omega) (by omega)
  have h7 : g_op 107 k 2 = j := T0
  exact ⟨⟨by omega, by omega, trivial⟩, g_qq T1 ⟨k, z0, h7.symm⟩, trivial⟩
theorem k_rnx32 {V : zVw} {H : Int} (T0 : q_rwo V H (0 : Int) (0 : Int) (0 : Int) (0 : Int) (0 : Int) (0 : Int) (0 : Int)) : (True) ∧ (q_rnx V H (32 : Int) (32 : Int) (32 : Int) (32 : Int) (32 : Int) (32 : Int) ∧ True) := by
  exact ⟨trivial, ⟨⟨T0.1.2.1, T0.1.2⟩, fun i i0 i1 _ => g_rwo_at T0 i0 i1⟩, trivial⟩
theorem k_mdrw {V : zVw} {w H x v : Int} (T0 : q_rnx V H (32 : Int) (32 : Int) (32 : Int) (32 : Int) (32 : Int) (32 : Int)) (T1 : q_qry V (8 : Int) (0 : Int) (0 : Int) (0 : Int) (0 : Int) (0 : Int) (0 : Int) (0 : Int) (32 : Int) (0 : Int) x) (T2 : (mOP 110 (Int32.ofInt x) (Int32.ofInt w)).toInt = v) (F0 : (0 : Int) ≤ 32 ∧ (32 : Int) < j_len 78 ∧ V 78 (32) = v) : (True) ∧ (q_rwo V H (0 : Int) (0 : Int) (0 : Int) (3 : Int) w (0 : Int) (0 : Int) ∧ True) := by
  have z0 : x = g_nw V 32 := g_k8 T1
  have h9 : g_op 110 x w = v := T2
  have w9 := T0.1.1
  exact ⟨trivial, ⟨⟨w9.drw, T0.1.2⟩, g_but_row g_nw_sup.drw T0.2 (fun i i0 i1 c9 => by
    rw [show i = 32 by omega, F0.2.2]; show v = g_drw w (g_nw V) 32; rw [g_drw_d, ← z0]; exact h9.symm) (fun i i0 i1 c9 => (g_drw_o (by omega)).symm)⟩, trivial⟩
theorem k_np24 {V : zVw} {x H p y d : Int} (T0 : q_sto V 0 H p y d (0 : Int) (0 : Int) (0 : Int) (0 : Int) (0 : Int) (0 : Int) (0 : Int)) (F0 : (0 : Int) ≤ 24 ∧ (24 : Int) < j_len 77 ∧ V 77 (24) = x) : (0 ≤ x - p ∧ 0 ≤ p - x ∧ True) ∧ (True) := by
  have h9 := (g_st0_pt T0).1.1
  have h7 := F0.2.2
  have h8 : g_nw V 24 = V 77 24 := g_b0 (by omega) (by omega)
  have h6 : _ = g_nw V 24 := h9
  exact ⟨⟨by omega, by omega, trivial⟩, trivial⟩
theorem k_np31 {V : zVw} {x H p y d : Int} (T0 : q_sto V 0 H p y d (0 : Int) (0 : Int) (0 : Int) (0 : Int) (0 : Int) (0 : Int) (0 : Int)) (F0 : (0 : Int) ≤ 31 ∧ (31 : Int) < j_len 77 ∧ V 77 (31) = x) : (0 ≤ x - y ∧ 0 ≤ y - x ∧ True) ∧ (True) := by
  have h9 := (g_st0_pt T0).1.2.1
  have h7 := F0.2.2
  have h8 : g_nw V 31 = V 77 31 := g_b0 (by omega) (by omega)
  have h6 : _ = g_nw V 31 := h9
  exact ⟨⟨by omega, by omega, trivial⟩, trivial⟩
theorem k_nwB {V : zVw} {l u w x : Int} (T0 : 0 ≤ l ∧ l ≠ x ∧ V 63 l = w) (F0 : (0 : Int) ≤ l ∧ (l : Int) < j_len 63 ∧ V 63 (l) = u) : (0 ≤ u - w ∧ 0 ≤ w - u ∧ True) ∧ (True) := by
  have h9 := T0.2.2
  have h8 := F0.2.2
  exact ⟨⟨by omega, by omega, trivial⟩, trivial⟩
theorem k_nwSd {V : zVw} {l u w x : Int} (T0 : 0 ≤ l ∧ l ≠ x ∧ V 64 l = w) (F0 : (0 : Int) ≤ l ∧ (l : Int) < j_len 64 ∧ V 64 (l) = u) : (0 ≤ u - w ∧ 0 ≤ w - u ∧ True) ∧ (True) := by
  have h9 := T0.2.2
  have h8 := F0.2.2
  exact ⟨⟨by omega, by omega, trivial⟩, trivial⟩
theorem k_y0m {V : zVw} {H q b s l x : Int} (T0 : q_rwo V H (0 : Int) (0 : Int) (0 : Int) (0 : Int) (0 : Int) (0 : Int) (0 : Int)) (T1 : (1 : Int) = 1 → q_leq V l x q) (T2 : 0 ≤ l ∧ l ≠ x ∧ V 63 l = b) (T3 : 0 ≤ l ∧ l ≠ x ∧ V 64 l = s) : (True) ∧ (q_rwo V H q b s (4 : Int) (0 : Int) (0 : Int) H ∧ True) := by
  exact ⟨trivial, g_rwo40 T0, trivial⟩
theorem k_hokY {V : zVw} {u v l n w x p : Int} (T0 : q_qry V (1 : Int) (0 : Int) (0 : Int) (0 : Int) (0 : Int) (0 : Int) (0 : Int) (0 : Int) (0 : Int) p n) (T1 : 0 ≤ l ∧ l ≠ x ∧ V 61 l = w) (C0 : 0 ≤ u - n) (C1 : 0 ≤ n - u) (C2 : 0 ≤ v - w) (C3 : 0 ≤ w - v) (C4 : 0 ≤ n - w) : (0 ≤ u - v ∧ True) ∧ (True) := by
  have z0 := g_k1 T0
  have z1 := T1.2.2
  exact ⟨⟨by omega, trivial⟩, trivial⟩
theorem k_hokN {V : zVw} {u v l n w x p : Int} (T0 : q_qry V (1 : Int) (0 : Int) (0 : Int) (0 : Int) (0 : Int) (0 : Int) (0 : Int) (0 : Int) (0 : Int) p n) (T1 : 0 ≤ l ∧ l ≠ x ∧ V 61 l = w) (C0 : 0 ≤ u - n) (C1 : 0 ≤ n - u) (C2 : 0 ≤ v - w) (C3 : 0 ≤ w - v) (C4 : 0 ≤ w - n - 1) : (0 ≤ v - u - 1 ∧ True) ∧ (True) := by
  have z0 := g_k1 T0
  have z1 := T1.2.2
  exact ⟨⟨by omega, trivial⟩, trivial⟩
theorem k_flg0 {V : zVw} {i : Int} (C0 : 0 ≤ -i) (C1 : 0 ≤ i) : (True) ∧ ((∀ t : Int, 0 ≤ t → t < i → V 28 t = 0) ∧ True) := by
  exact ⟨trivial, (fun t t0 t1 => by omega), trivial⟩
theorem k_flgS {V : zVw} {i : Int} (T0 : ∀ t : Int, 0 ≤ t → t < i → V 28 t = 0) (C0 : 0 ≤ i) (F0 : (0 : Int) ≤ i ∧ (i : Int) < j_len 28 ∧ V 28 (i) = 0) : (True) ∧ ((∀ t : Int, 0 ≤ t → t < (i + 1) → V 28 t = 0) ∧ True) := by
  have h7 := F0.2.2
  exact ⟨trivial, (fun t t0 t1 => by
    by_cases h8 : t < i
    · exact T0 t t0 h8
    · rw [show t = i by omega]; exact h7), trivial⟩
theorem k_bgs {V : zVw} {h0 h1 h2 h3 h4 h5 : Int} (T0 : ∀ t : Int, 0 ≤ t → t < (6 : Int) → V 28 t = 0) (F0 : (0 : Int) ≤ 0 ∧ (0 : Int) < j_len 27 ∧ V 27 (0) = h0) (F1 : (0 : Int) ≤ 1 ∧ (1 : Int) < j_len 27 ∧ V 27 (1) = h1) (F2 : (0 : Int) ≤ 2 ∧ (2 : Int) < j_len 27 ∧ V 27 (2) = h2) (F3 : (0 : Int) ≤ 3 ∧ (3 : Int) < j_len 27 ∧ V 27 (3) = h3) (F4 : (0 : Int) ≤ 4 ∧ (4 : Int) < j_len 27 ∧ V 27 (4) = h4) (F5 : (0 : Int) ≤ 5 ∧ (5 : Int) < j_len 27 ∧ V 27 (5) = h5) (F6 : (0 : Int) ≤ 0 ∧ (0 : Int) < j_len 99 ∧ V 99 (0) = h0) (F7 : (0 : Int) ≤ 1 ∧ (1 : Int) < j_len 99 ∧ V 99 (1) = h1) (F8 : (0 : Int) ≤ 2 ∧ (2 : Int) < j_len 99 ∧ V 99 (2) = h2) (F9 : (0 : Int) ≤ 3 ∧ (3 : Int) < j_len 99 ∧ V 99 (3) = h3) (F10 : (0 : Int) ≤ 4 ∧ (4 : Int) < j_len 99 ∧ V 99 (4) = h4) (F11 : (0 : Int) ≤ 5 ∧ (5 : Int) < j_len 99 ∧ V 99 (5) = h5) : (True) ∧ ((∀ i : Int, 0 ≤ i → i < 6 → V 27 i = V 99 i ∧ V 28 i = 0) ∧ True) := by
  exact ⟨trivial, (fun i i0 i1 => ⟨g_all6 (P := fun i => V 27 i = V 99 i) (F0.2.2.trans F6.2.2.symm) (F1.2.2.trans F7.2.2.symm) (F2.2.2.trans F8.2.2.symm) (F3.2.2.trans F9.2.2.symm) (F4.2.2.trans F10.2.2.symm) (F5.2.2.trans F11.2.2.symm) i i0 i1, T0 i i0 i1⟩), trivial⟩
theorem k_bgm0 {V : zVw} {l : Int} (C0 : 0 ≤ l) (C1 : 0 ≤ 1 - l) (F0 : (0 : Int) ≤ 0 ∧ (0 : Int) < j_len 78 ∧ V 78 (0) = 0) (F1 : (0 : Int) ≤ 1 ∧ (1 : Int) < j_len 78 ∧ V 78 (1) = 0) (F2 : (0 : Int) ≤ 2 ∧ (2 : Int) < j_len 78 ∧ V 78 (2) = 0) (F3 : (0 : Int) ≤ 3 ∧ (3 : Int) < j_len 78 ∧ V 78 (3) = 0) (F4 : (0 : Int) ≤ 4 ∧ (4 : Int) < j_len 78 ∧ V 78 (4) = 0) (F5 : (0 : Int) ≤ 5 ∧ (5 : Int) < j_len 78 ∧ V 78 (5) = 0) (F6 : (0 : Int) ≤ 6 ∧ (6 : Int) < j_len 78 ∧ V 78 (6) = 0) (F7 : (0 : Int) ≤ 7 ∧ (7 : Int) < j_len 78 ∧ V 78 (7) = 0) (F8 : (0 : Int) ≤ 8 ∧ (8 : Int) < j_len 78 ∧ V 78 (8) = 0) (F9 : (0 : Int) ≤ 9 ∧ (9 : Int) < j_len 78 ∧ V 78 (9) = 0) (F10 : (0 : Int) ≤ 10 ∧ (10 : Int) < j_len 78 ∧ V 78 (10) = 0) (F11 : (0 : Int) ≤ 11 ∧ (11 : Int) < j_len 78 ∧ V 78 (11) = 0) (F12 : (0 : Int) ≤ 12 ∧ (12 : Int) < j_len 78 ∧ V 78 (12) = 0) (F13 : (0 : Int) ≤ 13 ∧ (13 : Int) < j_len 78 ∧ V 78 (13) = 0) (F14 : (0 : Int) ≤ 14 ∧ (14 : Int) < j_len 78 ∧ V 78 (14) = 0) (F15 : (0 : Int) ≤ 15 ∧ (15 : Int) < j_len 78 ∧ V 78 (15) = 0) (F16 : (0 : Int) ≤ 16 ∧ (16 : Int) < j_len 78 ∧ V 78 (16) = 0) (F17 : (0 : Int) ≤ 17 ∧ (17 : Int) < j_len 78 ∧ V 78 (17) = 0) (F18 : (0 : Int) ≤ 18 ∧ (18 : Int) < j_len 78 ∧ V 78 (18) = 0) (F19 : (0 : Int) ≤ 19 ∧ (19 : Int) < j_len 78 ∧ V 78 (19) = 0) (F20 : (0 : Int) ≤ 20 ∧ (20 : Int) < j_len 78 ∧ V 78 (20) = 0) (F21 : (0 : Int) ≤ 21 ∧ (21 : Int) < j_len 78 ∧ V 78 (21) = 0) (F22 : (0 : Int) ≤ 22 ∧ (22 : Int) < j_len 78 ∧ V 78 (22) = 0) (F23 : (0 : Int) ≤ 23 ∧ (23 : Int) < j_len 78 ∧ V 78 (23) = 0) (F24 : (0 : Int) ≤ 24 ∧ (24 : Int) < j_len 78 ∧ V 78 (24) = 0) (F25 : (0 : Int) ≤ 25 ∧ (25 : Int) < j_len 78 ∧ V 78 (25) = 0) (F26 : (0 : Int) ≤ 26 ∧ (26 : Int) < j_len 78 ∧ V 78 (26) = 0) (F27 : (0 : Int) ≤ 27 ∧ (27 : Int) < j_len 78 ∧ V 78 (27) = 0) (F28 : (0 : Int) ≤ 28 ∧ (28 : Int) < j_len 78 ∧ V 78 (28) = 0) (F29 : (0 : Int) ≤ 29 ∧ (29 : Int) < j_len 78 ∧ V 78 (29) = 0) (F30 : (0 : Int) ≤ 30 ∧ (30 : Int) < j_len 78 ∧ V 78 (30) = 0) (F31 : (0 : Int) ≤ 31 ∧ (31 : Int) < j_len 78 ∧ V 78 (31) = 0) (F32 : (0 : Int) ≤ 32 ∧ (32 : Int) < j_len 78 ∧ V 78 (32) = 0) : (True) ∧ (q_bgm V false l (0 : Int) ∧ True) := by
  exact ⟨trivial, ⟨⟨by omega, by omega⟩, fun i i0 i1 _ => by
    rw [if_neg (by omega)]
    exact g_all33 (P := fun i => V 78 i = 0) F0.2.2 F1.2.2 F2.2.2 F3.2.2 F4.2.2 F5.2.2 F6.2.2 F7.2.2 F8.2.2 F9.2.2 F10.2.2 F11.2.2 F12.2.2 F13.2.2 F14.2.2 F15.2.2 F16.2.2 F17.2.2 F18.2.2 F19.2.2 F20.2.2 F21.2.2 F22.2.2 F23.2.2 F24.2.2 F25.2.2 F26.2.2 F27.2.2 F28.2.2 F29.2.2 F30.2.2 F31.2.2 F32.2.2 i i0 i1⟩, trivial⟩
theorem k_bgx {V : zVw} {h l : Int} (T0 : q_bgm V false l h) : (True) ∧ (q_bgm V true l h ∧ True) := by
  exact ⟨trivial, ⟨T0.1, fun i i0 i1 _ => T0.2 i i0 i1 (fun z9 => by cases z9)⟩, trivial⟩
theorem k_bgmS {V : zVw} {h l u : Int} (T0 : q_bgm V true l h) (C0 : 0 ≤ h) (C1 : 0 ≤ 5 - h) (F0 : (0 : Int) ≤ h ∧ (h : Int) < j_len 78 ∧ V 78 (h) = u) (F1 : (0 : Int) ≤ h + 6 * l ∧ (h + 6 * l : Int) < j_len 57 ∧ V 57 (h + 6 * l) = u) : (True) ∧ (q_bgm V false l (h + 1) ∧ True) := by
  have h7 := F0.2.2
  have h6 := F1.2.2
  exact ⟨trivial, ⟨⟨T0.1.1, by omega⟩, fun i i0 i1 _ => by
    by_cases c9 : i = h
    · rw [c9, if_pos (by omega), show 6 * l + h = h + 6 * l by omega, h7, h6]
    · rw [T0.2 i i0 i1 (fun _ => c9)]
      by_cases c8 : i < h
      · rw [if_pos c8, if_pos (by omega)]
      · rw [if_neg c8, if_neg (by omega)]⟩, trivial⟩
theorem k_nbg {V : zVw} {l h : Int} (T0 : q_bgm V false l h) (T1 : q_ner V) : (True) ∧ (q_nbg V l h ∧ True) := by
  exact ⟨trivial, ⟨T0.1, fun i i0 i1 => by
    rw [show g_nw V = g_b (V 78) 0 from T1, g_b0 i0 i1]
    exact T0.2 i i0 i1 (fun z9 => by cases z9)⟩, trivial⟩
theorem k_stb {V : zVw} {H l n q x : Int} (T0 : ∀ i : Int, 0 ≤ i → i < 6 → V 27 i = V 19 i ∧ V 28 i = 0) (T1 : q_nbg V l H) (T2 : (1 : Int) = 1 → 0 ≤ l ∧ 0 ≤ x ∧ l + x = 1 ∧ H ≤ 6 ∧ ∀ i_ : Int, 0 ≤ i_ → i_ < H → V 19 i_ = V 57 (6 * l + i_) ∧ V 20 i_ = V 58 (6 * l + i_)) (T3 : q_fhs (t_b V) n H (V 19) (V 20)) (T4 : 0 ≤ l ∧ q_fhs (t_b V) n H (fun i_ => V 57 (6 * l + i_)) (fun i_ => V 58 (6 * l + i_))) (T5 : q_fin (t_b V) n (0 : Int) q) (C0 : 0 ≤ l) (C1 : 0 ≤ 1 - l) : (True) ∧ (q_sto V 0 H (0 : Int) (0 : Int) (0 : Int) (0 : Int) (0 : Int) (0 : Int) (0 : Int) (0 : Int) (0 : Int) (0 : Int) ∧ True) := by
  obtain ⟨h9, h8⟩ := T1
  obtain ⟨y0, y1, y2, y3, y4⟩ := T2 rfl
  have hb : ∀ i : Int, 0 ≤ i → i < H → (0 ≤ V 19 i ∧ V 19 i ≤ 20) ∧ 1 ≤ V 20 i ∧ V 20 i ≤ 99 := fun i i0 i1 => c_fhs_bd T3 T5 i0 i1
  have H0 : 0 ≤ H := h9.2
  have w9 : g_wf H (g_nw V) := g_wf0 H0 y3 (fun i i0 i1 => by rw [h8 i i0 (by omega), if_pos i1, ← (y4 i i0 i1).1]; have := hb i i0 i1; omega) (fun i i0 i1 => by rw [h8 i (by omega) i1, if_neg (by omega)])
  refine ⟨trivial, ⟨⟨w9, w9, fun i i0 i1 => by have := hb i i0 i1; omega⟩, g_pt_rv w9 g_nw_sup ⟨⟨?_, ?_, ?_⟩, fun k k0 k1 => ⟨?_, ?_⟩, fun i i0 i1 => by omega⟩⟩, trivial⟩
  · show (0 : Int) = g_nw V 24
    rw [h8 24 (by omega) (by omega), if_neg (by omega)]
  · show (0 : Int) = g_nw V 31
    rw [h8 31 (by omega) (by omega), if_neg (by omega)]
  · show (0 : Int) = g_nw V 32
    rw [h8 32 (by omega) (by omega), if_neg (by omega)]
  · show V 27 k = g_nw V k
    rw [h8 k k0 (by omega), if_pos k1, (T0 k k0 (by omega)).1, (y4 k k0 k1).1]
  · show V 28 k = g_nw V (18 + k)
    rw [h8 (18 + k) (by omega) (by omega), if_neg (by omega), (T0 k k0 (by omega)).2]
theorem k_his0 {V : zVw} {H o p y d : Int} (T0 : q_sto V 0 H p y d (0 : Int) (0 : Int) (0 : Int) (0 : Int) (0 : Int) (0 : Int) (0 : Int)) (C0 : 0 ≤ o) (C1 : 0 ≤ 39 - o) : (True) ∧ (q_hx V (-1) H o (0 : Int) (0 : Int) ∧ True) := by
  exact ⟨trivial, ⟨⟨by omega, by omega, by omega⟩, T0.1.2.2, fun i i0 i1 => by omega⟩, trivial⟩
theorem k_slt0 {V : zVw} {H p y d : Int} (T0 : q_sto V 0 H p y d (0 : Int) (0 : Int) (0 : Int) (0 : Int) (0 : Int) (0 : Int) (0 : Int)) : (True) ∧ (q_sl V (-1) H (0 : Int) (0 : Int) (0 : Int) ∧ True) := by
  exact ⟨trivial, ⟨T0.1.2.2, fun z9 => by omega, fun z9 => by omega, fun z9 => by omega⟩, trivial⟩
theorem k_ncel {V : zVw} {i u H p y d : Int} (T0 : q_sto V 0 H p y d (0 : Int) (0 : Int) (0 : Int) (0 : Int) (0 : Int) (0 : Int) (0 : Int)) (C0 : 0 ≤ i) (C1 : 0 ≤ 5 - i) (F0 : (0 : Int) ≤ i + 25 ∧ (i + 25 : Int) < j_len 77 ∧ V 77 (i + 25) = u) : (True) ∧ (q_qry V (8 : Int) (0 : Int) (0 : Int) (0 : Int) (0 : Int) (0 : Int) (0 : Int) (0 : Int) (i + 25) (0 : Int) u ∧ True) := by
  have h9 : g_nw V (i + 25) = V 77 (i + 25) := g_b0 (by omega) (by omega)
  have h7 := F0.2.2
  exact ⟨trivial, g_qs T0 (show u = g_nw V (i + 25) by omega), trivial⟩
theorem k_qeA {V : zVw} {i u w : Int} (T0 : q_qry V (8 : Int) (0 : Int) (0 : Int) (0 : Int) (0 : Int) (0 : Int) (0 : Int) (0 : Int) (i + 25) (0 : Int) u) (T1 : q_qry V (8 : Int) (0 : Int) (0 : Int) (0 : Int) (0 : Int) (0 : Int) (0 : Int) (0 : Int) (i + 25) (0 : Int) w) : (0 ≤ u - w ∧ 0 ≤ w - u ∧ True) ∧ (True) := by
  have h9 := g_k8 T0
  have h8 := g_k8 T1
  exact ⟨⟨by omega, by omega, trivial⟩, trivial⟩
theorem k_atx {V : zVw} {i u p H y d : Int} (T0 : q_sto V 0 H p y d (0 : Int) (0 : Int) (0 : Int) (0 : Int) (0 : Int) (0 : Int) (0 : Int)) (C0 : 0 ≤ i - u) (C1 : 0 ≤ u - p) (C2 : 0 ≤ p - i - 1) (F0 : (0 : Int) ≤ 24 ∧ (24 : Int) < j_len 77 ∧ V 77 (24) = u) : (0 ≤ (-1) ∧ True) ∧ (True) := by
  exfalso
  omega
theorem k_aty {V : zVw} {i u p H y d : Int} (T0 : q_sto V 0 H p y d (0 : Int) (0 : Int) (0 : Int) (0 : Int) (0 : Int) (0 : Int) (0 : Int)) (C0 : 0 ≤ u - i - 1) (C1 : 0 ≤ p - u) (C2 : 0 ≤ i - p) (F0 : (0 : Int) ≤ 24 ∧ (24 : Int) < j_len 77 ∧ V 77 (24) = u) : (0 ≤ (-1) ∧ True) ∧ (True) := by
  exfalso
  omega
theorem k_qeW {V : zVw} {i p u w : Int} (T0 : q_qry V (1 : Int) (0 : Int) (0 : Int) (0 : Int) (0 : Int) (0 : Int) (0 : Int) (0 : Int) (i + 1) p u) (T1 : q_qry V (1 : Int) (0 : Int) (0 : Int) (0 : Int) (0 : Int) (0 : Int) (0 : Int) (0 : Int) (i + 1) p w) : (0 ≤ u - w ∧ 0 ≤ w - u ∧ True) ∧ (True) := by
  have h9 := g_k1 T0
  have h8 := g_k1 T1
  exact ⟨⟨by omega, by omega, trivial⟩, trivial⟩
theorem k_bex {V : zVw} {i u p H y d : Int} (T0 : q_sto V 0 H p y d (0 : Int) (0 : Int) (0 : Int) (0 : Int) (0 : Int) (0 : Int) (0 : Int)) (C0 : 0 ≤ i - u) (C1 : 0 ≤ u - p) (C2 : 0 ≤ p - i - 1) (F0 : (0 : Int) ≤ 24 ∧ (24 : Int) < j_len 78 ∧ V 78 (24) = u) : (0 ≤ (-1) ∧ True) ∧ (True) := by
  exfalso
  omega
theorem k_bey {V : zVw} {i u p H y d : Int} (T0 : q_sto V 0 H p y d (0 : Int) (0 : Int) (0 : Int) (0 : Int) (0 : Int) (0 : Int) (0 : Int)) (C0 : 0 ≤ u - i - 1) (C1 : 0 ≤ p - u) (C2 : 0 ≤ i - p) (F0 : (0 : Int) ≤ 24 ∧ (24 : Int) < j_len 78 ∧ V 78 (24) = u) : (0 ≤ (-1) ∧ True) ∧ (True) := by
  exfalso
  omega
theorem k_qeJ {V : zVw} {q i j u w : Int} (T0 : q_qry V (5 : Int) q (0 : Int) (0 : Int) (0 : Int) (0 : Int) (0 : Int) (0 : Int) i j w) (T1 : q_qry V (5 : Int) q (0 : Int) (0 : Int) (0 : Int) (0 : Int) (0 : Int) (0 : Int) i j u) : (0 ≤ u - w ∧ 0 ≤ w - u ∧ True) ∧ (True) := by
  have h9 := g_k5 T0
  have h8 := g_k5 T1
  exact ⟨⟨by omega, by omega, trivial⟩, trivial⟩
theorem k_celL0 {V : zVw} {h H p y d : Int} (T0 : q_sto V 0 H p y d (0 : Int) (0 : Int) (0 : Int) (0 : Int) (0 : Int) (0 : Int) (0 : Int)) (T1 : q_qry V (6 : Int) (0 : Int) (0 : Int) (0 : Int) (0 : Int) (0 : Int) (0 : Int) (0 : Int) h (0 : Int) (-1 : Int)) (C0 : 0 ≤ h) (C1 : 0 ≤ H - h - 1) (C2 : 0 ≤ 6 - H) : (True) ∧ (q_qry V (8 : Int) (0 : Int) (0 : Int) (0 : Int) (0 : Int) (0 : Int) (0 : Int) (0 : Int) (h + 6) (0 : Int) (0 : Int) ∧ True) := by
  have h9 := T0.1.1.at_no (g_k6 T1) (by omega) (by omega)
  exact ⟨trivial, g_qq T1 (show (0 : Int) = (g_F V 0 0 0 0 0 0 0 (g_nw V)) (h + 6) by rw [show h + 6 = 6 + h by omega]; exact h9.1.symm), trivial⟩
theorem k_celS0 {V : zVw} {h H p y d : Int} (T0 : q_sto V 0 H p y d (0 : Int) (0 : Int) (0 : Int) (0 : Int) (0 : Int) (0 : Int) (0 : Int)) (T1 : q_qry V (6 : Int) (0 : Int) (0 : Int) (0 : Int) (0 : Int) (0 : Int) (0 : Int) (0 : Int) h (0 : Int) (-1 : Int)) (C0 : 0 ≤ h) (C1 : 0 ≤ H - h - 1) (C2 : 0 ≤ 6 - H) : (True) ∧ (q_qry V (8 : Int) (0 : Int) (0 : Int) (0 : Int) (0 : Int) (0 : Int) (0 : Int) (0 : Int) (h + 12) (0 : Int) (0 : Int) ∧ True) := by
  have h9 := T0.1.1.at_no (g_k6 T1) (by omega) (by omega)
  exact ⟨trivial, g_qq T1 (show (0 : Int) = (g_F V 0 0 0 0 0 0 0 (g_nw V)) (h + 12) by rw [show h + 12 = 12 + h by omega]; exact h9.2.symm), trivial⟩
theorem k_qeC {V : zVw} {h u w : Int} (T0 : q_qry V (8 : Int) (0 : Int) (0 : Int) (0 : Int) (0 : Int) (0 : Int) (0 : Int) (0 : Int) h (0 : Int) u) (T1 : q_qry V (8 : Int) (0 : Int) (0 : Int) (0 : Int) (0 : Int) (0 : Int) (0 : Int) (0 : Int) h (0 : Int) w) : (0 ≤ u - w ∧ 0 ≤ w - u ∧ True) ∧ (True) := by
  have h9 := g_k8 T0
  have h8 := g_k8 T1
  exact ⟨⟨by omega, by omega, trivial⟩, trivial⟩
theorem k_qePl {V : zVw} {h u w : Int} (T0 : q_qry V (6 : Int) (0 : Int) (0 : Int) (0 : Int) (0 : Int) (0 : Int) (0 : Int) (0 : Int) h (0 : Int) u) (T1 : q_qry V (6 : Int) (0 : Int) (0 : Int) (0 : Int) (0 : Int) (0 : Int) (0 : Int) (0 : Int) h (0 : Int) w) : (0 ≤ u - w ∧ 0 ≤ w - u ∧ True) ∧ (True) := by
  have h9 := g_at_iff.mp (g_k6 T0)
  have h8 := g_at_iff.mp (g_k6 T1)
  exact ⟨⟨by omega, by omega, trivial⟩, trivial⟩
theorem k_qeLw {V : zVw} {q k h u w : Int} (T0 : q_qry V (4 : Int) q (0 : Int) (0 : Int) (0 : Int) (0 : Int) (0 : Int) (0 : Int) k h u) (T1 : q_qry V (4 : Int) q (0 : Int) (0 : Int) (0 : Int) (0 : Int) (0 : Int) (0 : Int) k h w) : (0 ≤ u - w ∧ 0 ≤ w - u ∧ True) ∧ (True) := by
  have h9 := g_k4 T0
  have h8 := g_k4 T1
  exact ⟨⟨by omega, by omega, trivial⟩, trivial⟩
theorem k_sfvC {V : zVw} {h u : Int} (C0 : 0 ≤ h) (C1 : 0 ≤ 5 - h) (F0 : (0 : Int) ≤ h ∧ (h : Int) < j_len 20 ∧ V 20 (h) = u) : (True) ∧ ((V 20 h = u) ∧ True) := by
  exact ⟨trivial, F0.2.2, trivial⟩
theorem k_sfe {V : zVw} {h u w : Int} (T0 : V 20 h = u) (T1 : V 20 h = w) : (0 ≤ u - w ∧ 0 ≤ w - u ∧ True) ∧ (True) := by
  have h9 : V 20 h = u := T0
  have h8 : V 20 h = w := T1
  exact ⟨⟨by omega, by omega, trivial⟩, trivial⟩
theorem k_rcelz12 {V : zVw} {h u H : Int} (T0 : q_rwo V H (0 : Int) (0 : Int) (0 : Int) (0 : Int) (0 : Int) (0 : Int) (0 : Int)) (C0 : 0 ≤ h) (C1 : 0 ≤ 5 - h) (F0 : (0 : Int) ≤ h + 12 ∧ (h + 12 : Int) < j_len 78 ∧ V 78 (h + 12) = u) : (True) ∧ (q_qry V (8 : Int) (0 : Int) (0 : Int) (0 : Int) (0 : Int) (0 : Int) (0 : Int) (0 : Int) (h + 12) (0 : Int) u ∧ True) := by
  have h9 := g_rwo_at T0 (i := h + 12) (by omega) (by omega)
  have h7 := F0.2.2
  exact ⟨trivial, g_qr T0 (show u = _ from h7.symm.trans h9), trivial⟩
theorem k_plcN {V : zVw} {h x H : Int} (T0 : q_rwo V H (0 : Int) (0 : Int) (0 : Int) (0 : Int) (0 : Int) (0 : Int) (0 : Int)) (T1 : q_qry V (8 : Int) (0 : Int) (0 : Int) (0 : Int) (0 : Int) (0 : Int) (0 : Int) (0 : Int) (h + 6) (0 : Int) x) (C0 : 0 ≤ h) (C1 : 0 ≤ 5 - h) (C2 : 0 ≤ -x) : (True) ∧ (q_qry V (6 : Int) (0 : Int) (0 : Int) (0 : Int) (0 : Int) (0 : Int) (0 : Int) (0 : Int) h (0 : Int) (-1 : Int) ∧ True) := by
  have z0 := g_k8 T1
  rw [show h + 6 = 6 + h by omega] at z0
  have w8 : (1 ≤ (g_F V 0 0 0 0 0 0 0 (g_nw V)) (6 + h) ∧ _) ∨ ((g_F V 0 0 0 0 0 0 0 (g_nw V)) (6 + h) = 0 ∧ _) := T0.1.1.2.2.2.2.2.1 h (by omega) (by omega)
  have w7 : (g_F V 0 0 0 0 0 0 0 (g_nw V)) (6 + h) = 0 := by
    rcases w8 with w8 | w8
    · have := w8.1; exfalso; omega
    · exact w8.1
  exact ⟨trivial, g_qr T0 (show g_at _ h (-1) from T0.1.1.no_at (by omega) (by omega) w7), trivial⟩
theorem k_suml {V : zVw} {i n H p y d h : Int} (T0 : q_sto V 0 H p y d (0 : Int) (0 : Int) (0 : Int) (0 : Int) (0 : Int) (0 : Int) (0 : Int)) (T1 : q_qry V (6 : Int) (0 : Int) (0 : Int) (0 : Int) (0 : Int) (0 : Int) (0 : Int) (0 : Int) h (0 : Int) i) (T2 : q_qry V (1 : Int) (0 : Int) (0 : Int) (0 : Int) (0 : Int) (0 : Int) (0 : Int) (0 : Int) (0 : Int) p n) (C0 : 0 ≤ i) (C1 : 0 ≤ 6 - p) (C2 : 0 ≤ -n) : (0 ≤ (-1) ∧ True) ∧ (True) := by
  have w9 := T0.1.1
  have z0 := g_k1 T2
  have h9 := w9.at_len (g_k6 T1) (by omega)
  have h8 := (g_st0_pt T0).1.1
  have h7 := g_su_ge w9 (p - 0).toNat (by omega)
  exfalso
  omega
theorem k_msuml {V : zVw} {h x p n H : Int} (T0 : q_rwo V H (0 : Int) (0 : Int) (0 : Int) (0 : Int) (0 : Int) (0 : Int) (0 : Int)) (T1 : q_qry V (8 : Int) (0 : Int) (0 : Int) (0 : Int) (0 : Int) (0 : Int) (0 : Int) (0 : Int) (h + 6) (0 : Int) x) (T2 : q_qry V (1 : Int) (0 : Int) (0 : Int) (0 : Int) (0 : Int) (0 : Int) (0 : Int) (0 : Int) (0 : Int) p n) (C0 : 0 ≤ h) (C1 : 0 ≤ 5 - h) (C2 : 0 ≤ x - 1) (F0 : (0 : Int) ≤ 24 ∧ (24 : Int) < j_len 78 ∧ V 78 (24) = p) : (0 ≤ n - 1 ∧ True) ∧ (True) := by
  have w9 := T0.1.1
  have z0 := g_k1 T2
  have z1 := g_k8 T1
  rw [show h + 6 = 6 + h by omega] at z1
  obtain ⟨u9, u8, u7⟩ := w9.yes_at (h := h) (by omega) (by omega) (by omega)
  have h9 := w9.at_len u7 u8
  have h8 := g_rwo_at T0 (i := 24) (by omega) (by omega)
  have h6 := F0.2.2
  have h7 := g_su_ge w9 (p - 0).toNat (by omega)
  exact ⟨⟨by omega, trivial⟩, trivial⟩
theorem k_qdiv {V : zVw} {a b n k u w : Int} (T0 : (mOP 107 (Int32.ofInt a) (Int32.ofInt n)).toInt = u) (T1 : (mOP 107 (Int32.ofInt b) (Int32.ofInt k)).toInt = w) (C0 : 0 ≤ a - b) (C1 : 0 ≤ b - a) (C2 : 0 ≤ n - k) (C3 : 0 ≤ k - n) : (0 ≤ u - w ∧ 0 ≤ w - u ∧ True) ∧ (True) := by
  have h9 : g_op 107 a n = u := T0
  have h8 : g_op 107 b k = w := T1
  have h7 : a = b := by omega
  have h6 : n = k := by omega
  subst h7
  subst h6
  exact ⟨⟨by omega, by omega, trivial⟩, trivial⟩
theorem k_qshr {V : zVw} {a b n k u w h p x y : Int} (T0 : q_qry V (8 : Int) (0 : Int) (0 : Int) (0 : Int) (0 : Int) (0 : Int) (0 : Int) (0 : Int) h (0 : Int) x) (T1 : q_qry V (8 : Int) (0 : Int) (0 : Int) (0 : Int) (0 : Int) (0 : Int) (0 : Int) (0 : Int) h (0 : Int) y) (T2 : q_qry V (1 : Int) (0 : Int) (0 : Int) (0 : Int) (0 : Int) (0 : Int) (0 : Int) (0 : Int) (0 : Int) p n) (T3 : q_qry V (1 : Int) (0 : Int) (0 : Int) (0 : Int) (0 : Int) (0 : Int) (0 : Int) (0 : Int) (0 : Int) p k) (T4 : (mOP 107 (Int32.ofInt a) (Int32.ofInt n)).toInt = u) (T5 : (mOP 107 (Int32.ofInt b) (Int32.ofInt k)).toInt = w) (C0 : 0 ≤ a - 1000 * x) (C1 : 0 ≤ 1000 * x - a) (C2 : 0 ≤ b - 1000 * y) (C3 : 0 ≤ 1000 * y - b) : (0 ≤ u - w ∧ 0 ≤ w - u ∧ True) ∧ (True) := by
  have z0 := g_k8 T0
  have z1 := g_k8 T1
  have z2 := g_k1 T2
  have z3 := g_k1 T3
  have h9 : g_op 107 a n = u := T4
  have h8 : g_op 107 b k = w := T5
  have h7 : a = b := by omega
  have h6 : n = k := by omega
  subst h7
  subst h6
  exact ⟨⟨by omega, by omega, trivial⟩, trivial⟩
theorem k_min0 {V : zVw} {m q b s o a1 a2 a3 : Int} (T0 : q_mgn V q b s o a1 a2 a3 (-2 : Int) m) : (True) ∧ (q_qry V (26 : Int) q b s o a1 a2 a3 (999 : Int) (1 : Int) (999 : Int) ∧ True) := by
  exact ⟨trivial, ⟨T0.1, show (999 : Int) = g_mi _ 999 (1 : Int).toNat from (g_mi_1 g_sp0).symm⟩, trivial⟩
theorem k_minA {V : zVw} {z i u m q b s o a1 a2 a3 : Int} (T0 : q_mgn V q b s o a1 a2 a3 (-2 : Int) m) (T1 : q_qry V (26 : Int) q b s o a1 a2 a3 (999 : Int) (i + 1) z) (C0 : 0 ≤ i) (C1 : 0 ≤ m - i - 1) (C2 : 0 ≤ u - z) (F0 : (0 : Int) ≤ i ∧ (i : Int) < j_len 25 ∧ V 25 (i) = u) : (True) ∧ (q_qry V (26 : Int) q b s o a1 a2 a3 (999 : Int) (i + 2) z ∧ True) := by
  have h9 := T0.2.2 i (by omega) (by omega) (by omega)
  have z0 := g_k26 T1
  have h7 := F0.2.2
  exact ⟨trivial, g_qq T1 (show z = g_mi _ 999 (i + 2).toNat by rw [show i + 2 = i + 1 + 1 by omega, g_miA (by omega) (by rw [← z0, ← h9]; omega)]; exact z0), trivial⟩
theorem k_minB {V : zVw} {z i u m q b s o a1 a2 a3 : Int} (T0 : q_mgn V q b s o a1 a2 a3 (-2 : Int) m) (T1 : q_qry V (26 : Int) q b s o a1 a2 a3 (999 : Int) (i + 1) z) (C0 : 0 ≤ i) (C1 : 0 ≤ m - i - 1) (C2 : 0 ≤ z - u - 1) (F0 : (0 : Int) ≤ i ∧ (i : Int) < j_len 25 ∧ V 25 (i) = u) : (True) ∧ (q_qry V (26 : Int) q b s o a1 a2 a3 (999 : Int) (i + 2) u ∧ True) := by
  have h9 := T0.2.2 i (by omega) (by omega) (by omega)
  have z0 := g_k26 T1
  have h7 := F0.2.2
  exact ⟨trivial, g_qq T1 (show u = g_mi _ 999 (i + 2).toNat by rw [show i + 2 = i + 1 + 1 by omega, g_miB (by omega) (by rw [← z0, ← h9]; omega)]; exact h7.symm.trans h9), trivial⟩
theorem k_mosN {V : zVw} {z i m q b s o a1 a2 a3 : Int} (T0 : q_mgn V q b s o a1 a2 a3 (-2 : Int) m) (T1 : q_qry V (26 : Int) q b s o a1 a2 a3 (999 : Int) (i + 1) z) (C0 : 0 ≤ i - m) (C1 : 0 ≤ m - i) (C2 : 0 ≤ -z - 1) : (True) ∧ (q_qry V (27 : Int) q b s o a1 a2 a3 (0 : Int) (0 : Int) (-2 : Int) ∧ True) := by
  have z0 := g_k26 T1
  obtain ⟨⟨H9, w9⟩, t2, t3⟩ := T0
  have w24 := w9.2.1
  have h9 := g_mo_c (z := z) t2 w24.1 g_sp0 (by rw [show m + 1 = i + 1 by omega]; exact z0)
  rw [if_pos (by omega)] at h9
  exact ⟨trivial, g_qq T1 (show (-2 : Int) = g_mo _ _ from h9.symm), trivial⟩
theorem k_mosY {V : zVw} {z i m q b s o a1 a2 a3 : Int} (T0 : q_mgn V q b s o a1 a2 a3 (-2 : Int) m) (T1 : q_qry V (26 : Int) q b s o a1 a2 a3 (999 : Int) (i + 1) z) (C0 : 0 ≤ i - m) (C1 : 0 ≤ m - i) (C2 : 0 ≤ z) : (True) ∧ (q_qry V (27 : Int) q b s o a1 a2 a3 (0 : Int) (0 : Int) z ∧ True) := by
  have z0 := g_k26 T1
  obtain ⟨⟨H9, w9⟩, t2, t3⟩ := T0
  have w24 := w9.2.1
  have h9 := g_mo_c (z := z) t2 w24.1 g_sp0 (by rw [show m + 1 = i + 1 by omega]; exact z0)
  rw [if_neg (by omega)] at h9
  exact ⟨trivial, g_qq T1 (show z = g_mo _ _ from h9.symm), trivial⟩
theorem k_mim0 {V : zVw} {H q b s o a1 a2 a3 : Int} (T0 : q_rwo V H q b s o a1 a2 a3) : (True) ∧ (q_qry V (26 : Int) q b s o a1 a2 a3 (9999 : Int) (0 : Int) (9999 : Int) ∧ True) := by
  exact ⟨trivial, g_qr T0 (show (9999 : Int) = g_mi _ 9999 (0 : Int).toNat from rfl), trivial⟩
theorem k_mimA {V : zVw} {z k u q b s o a1 a2 a3 : Int} (T0 : q_qry V (2 : Int) q b s o a1 a2 a3 k (0 : Int) u) (T1 : q_qry V (26 : Int) q b s o a1 a2 a3 (9999 : Int) k z) (C0 : 0 ≤ k) (C1 : 0 ≤ u - z) : (True) ∧ (q_qry V (26 : Int) q b s o a1 a2 a3 (9999 : Int) (k + 1) z ∧ True) := by
  have z0 := g_k2 T0
  have z1 := g_k26 T1
  exact ⟨trivial, g_qq T0 (show z = g_mi _ 9999 (k + 1).toNat by rw [g_miA (by omega) (by rw [← z1, ← z0]; omega)]; exact z1), trivial⟩
theorem k_mimB {V : zVw} {z k u w q b s o a1 a2 a3 : Int} (T0 : q_qry V (2 : Int) q b s o a1 a2 a3 k (0 : Int) u) (T1 : q_qry V (2 : Int) q b s o a1 a2 a3 k (0 : Int) w) (T2 : q_qry V (26 : Int) q b s o a1 a2 a3 (9999 : Int) k z) (C0 : 0 ≤ k) (C1 : 0 ≤ z - u - 1) : (True) ∧ (q_qry V (26 : Int) q b s o a1 a2 a3 (9999 : Int) (k + 1) w ∧ True) := by
  have z0 := g_k2 T0
  have z1 := g_k2 T1
  have z2 := g_k26 T2
  exact ⟨trivial, g_qq T1 (show w = g_mi _ 9999 (k + 1).toNat by rw [g_miB (by omega) (by rw [← z2, ← z1]; omega)]; exact z1), trivial⟩
theorem k_mmoN {V : zVw} {z p H q b s o a1 a2 a3 n : Int} (T0 : q_rwo V H q b s o a1 a2 a3) (T1 : q_qry V (26 : Int) q b s o a1 a2 a3 (9999 : Int) n z) (C0 : 0 ≤ -z - 1) (C1 : 0 ≤ p) (C2 : 0 ≤ n - 2 * p) (C3 : 0 ≤ 2 * p - n) (F0 : (0 : Int) ≤ 24 ∧ (24 : Int) < j_len 78 ∧ V 78 (24) = p) : (True) ∧ (q_qry V (27 : Int) q b s o a1 a2 a3 (0 : Int) (0 : Int) (-2 : Int) ∧ True) := by
  have z0 := g_k26 T1
  have h8 := g_rwo_at T0 (i := 24) (by omega) (by omega)
  have h7 := F0.2.2
  have h6 : (2 * (g_F V q b s o a1 a2 a3 (g_nw V)) 24).toNat = n.toNat := by omega
  exact ⟨trivial, g_qq T1 (show (-2 : Int) = g_mo _ ((g_F V q b s o a1 a2 a3 (g_nw V)) 24) by unfold g_mo; rw [h6, ← z0, if_pos (by omega)]), trivial⟩
theorem k_mmoY {V : zVw} {z p H q b s o a1 a2 a3 n : Int} (T0 : q_rwo V H q b s o a1 a2 a3) (T1 : q_qry V (26 : Int) q b s o a1 a2 a3 (9999 : Int) n z) (C0 : 0 ≤ z) (C1 : 0 ≤ 999 - z) (C2 : 0 ≤ p) (C3 : 0 ≤ n - 2 * p) (C4 : 0 ≤ 2 * p - n) (F0 : (0 : Int) ≤ 24 ∧ (24 : Int) < j_len 78 ∧ V 78 (24) = p) : (True) ∧ (q_qry V (27 : Int) q b s o a1 a2 a3 (0 : Int) (0 : Int) z ∧ True) := by
  have z0 := g_k26 T1
  have h8 := g_rwo_at T0 (i := 24) (by omega) (by omega)
  have h7 := F0.2.2
  have h6 : (2 * (g_F V q b s o a1 a2 a3 (g_nw V)) 24).toNat = n.toNat := by omega
  exact ⟨trivial, g_qq T1 (show z = g_mo _ ((g_F V q b s o a1 a2 a3 (g_nw V)) 24) by unfold g_mo; rw [h6, ← z0, if_neg (by omega), if_neg (by omega)]), trivial⟩
theorem k_mmo9 {V : zVw} {z p H q b s o a1 a2 a3 n : Int} (T0 : q_rwo V H q b s o a1 a2 a3) (T1 : q_qry V (26 : Int) q b s o a1 a2 a3 (9999 : Int) n z) (C0 : 0 ≤ z - 1000) (C1 : 0 ≤ p) (C2 : 0 ≤ n - 2 * p) (C3 : 0 ≤ 2 * p - n) (F0 : (0 : Int) ≤ 24 ∧ (24 : Int) < j_len 78 ∧ V 78 (24) = p) : (True) ∧ (q_qry V (27 : Int) q b s o a1 a2 a3 (0 : Int) (0 : Int) (999 : Int) ∧ True) := by
  have z0 := g_k26 T1
  have h8 := g_rwo_at T0 (i := 24) (by omega) (by omega)
  have h7 := F0.2.2
  have h6 : (2 * (g_F V q b s o a1 a2 a3 (g_nw V)) 24).toNat = n.toNat := by omega
  exact ⟨trivial, g_qq T1 (show (999 : Int) = g_mo _ ((g_F V q b s o a1 a2 a3 (g_nw V)) 24) by unfold g_mo; rw [h6, ← z0, if_neg (by omega), if_pos (by omega)]), trivial⟩
theorem k_rem2 {V : zVw} {n v : Int} (T0 : (mOP 108 (Int32.ofInt n) (Int32.ofInt (2 : Int))).toInt = v) (C0 : 0 ≤ n) (C1 : 0 ≤ 100 - n) : (0 ≤ v ∧ 0 ≤ 1 - v ∧ True) ∧ (True) := by
  have h9 := g_op_rem (a := n) (b := 2) (by omega) (by omega) (by omega) (by omega)
  have h8 : g_op 108 n 2 = v := T0
  exact ⟨⟨by omega, by omega, trivial⟩, trivial⟩
theorem k_mse {V : zVw} {u w q b s o a1 a2 a3 : Int} (T0 : q_qry V (27 : Int) q b s o a1 a2 a3 (0 : Int) (0 : Int) u) (T1 : q_qry V (27 : Int) q b s o a1 a2 a3 (0 : Int) (0 : Int) w) : (0 ≤ u - w ∧ 0 ≤ w - u ∧ True) ∧ (True) := by
  have z0 := g_k27 T0
  have z1 := g_k27 T1
  exact ⟨⟨by omega, by omega, trivial⟩, trivial⟩
theorem k_qeM {V : zVw} {q u w : Int} (T0 : q_qry V (27 : Int) q (0 : Int) (0 : Int) (0 : Int) (0 : Int) (0 : Int) (0 : Int) (0 : Int) (0 : Int) u) (T1 : q_qry V (27 : Int) q (0 : Int) (0 : Int) (0 : Int) (0 : Int) (0 : Int) (0 : Int) (0 : Int) (0 : Int) w) : (0 ≤ u - w ∧ 0 ≤ w - u ∧ True) ∧ (True) := by
  have z0 := g_k27 T0
  have z1 := g_k27 T1
  exact ⟨⟨by omega, by omega, trivial⟩, trivial⟩
theorem k_qeB0 {V : zVw} {q x u w : Int} (T0 : q_qry V (3 : Int) q (0 : Int) (0 : Int) (0 : Int) (0 : Int) (0 : Int) (0 : Int) x (0 : Int) u) (T1 : q_qry V (3 : Int) q (0 : Int) (0 : Int) (0 : Int) (0 : Int) (0 : Int) (0 : Int) x (0 : Int) w) : (0 ≤ u - w ∧ 0 ≤ w - u ∧ True) ∧ (True) := by
  have h9 := g_br_eq (g_k3 T0) (g_k3 T1)
  exact ⟨⟨by omega, by omega, trivial⟩, trivial⟩
theorem k_qrem {V : zVw} {a b u w x : Int} (T0 : (mOP 108 (Int32.ofInt a) (Int32.ofInt (2 : Int))).toInt = u) (T1 : (mOP 108 (Int32.ofInt b) (Int32.ofInt (2 : Int))).toInt = w) (C0 : 0 ≤ w + x - 1) (C1 : 0 ≤ 1 - w - x) (C2 : 0 ≤ b - a - 1) (C3 : 0 ≤ a - b + 1) (C4 : 0 ≤ a) (C5 : 0 ≤ 100 - a) : (0 ≤ u - x ∧ 0 ≤ x - u ∧ True) ∧ (True) := by
  have h9 := g_op_rem (a := a) (b := 2) (by omega) (by omega) (by omega) (by omega)
  have h8 := g_op_rem (a := b) (b := 2) (by omega) (by omega) (by omega) (by omega)
  have h7 : g_op 108 a 2 = u := T0
  have h6 : g_op 108 b 2 = w := T1
  exact ⟨⟨by omega, by omega, trivial⟩, trivial⟩
theorem k_qua0 {V : zVw} {p y d H q b s o a1 a2 a3 : Int} (T0 : q_sto V 0 H p y d q b s o a1 a2 a3) : (True) ∧ (q_qry V (28 : Int) q b s o a1 a2 a3 (1 : Int) (-2 : Int) (-2 : Int) ∧ True) := by
  exact ⟨trivial, g_qs T0 (g_Q28 g_q0), trivial⟩
theorem k_quaT1 {V : zVw} {i u bb l H p y d q b s o a1 a2 a3 : Int} (T0 : q_sto V 0 H p y d q b s o a1 a2 a3) (T1 : q_qry V (28 : Int) q b s o a1 a2 a3 i bb l) (T2 : q_qry V (17 : Int) q b s o a1 a2 a3 i (0 : Int) u) (C0 : 0 ≤ i - 1) (C1 : 0 ≤ p - i - 1) (C2 : 0 ≤ -bb - 1) : (True) ∧ (q_qry V (28 : Int) q b s o a1 a2 a3 (i + 1) i u ∧ True) := by
  have z0 := g_k28 T1
  have z1 := g_k17 T2
  obtain ⟨⟨p1, p2, p3⟩, p4, p5⟩ := g_st0_pt T0
  have w9 := T0.1.1
  have w24 := w9.2.1
  have wH := w9.1
  exact ⟨trivial, g_qs T0 (g_Q28 (g_qT (by omega) (by omega) z0 z1 (Or.inl (by omega)))), trivial⟩
