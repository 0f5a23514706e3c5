/-! ===== the lemmas in plain numbers, by program ===== -/
theorem k_lgr {V : zVw} {h g q b s o a1 a2 a3 : Int} (T0 : q_lng V q b s o a1 a2 a3 (6 : Int)) (C0 : 0 ≤ h) (C1 : 0 ≤ 5 - h) (F0 : (0 : Int) ≤ h ∧ (h : Int) < j_len 82 ∧ V 82 (h) = g) : (0 ≤ g ∧ 0 ≤ 99 - g ∧ True) ∧ (True) := by
  obtain ⟨⟨H9, w9⟩, T8⟩ := T0
  have g9 := T8 h (by omega) (by omega)
  have a9 := g_ha_b w9 (h := h) (by omega) (by omega)
  have f9 := F0.2.2
  rw [f9] at g9
  exact ⟨⟨by omega, by omega, trivial⟩, trivial⟩
theorem k_sbr {V : zVw} {h g q b s o a1 a2 a3 : Int} (T0 : q_sta (V 83) (fun i_ => g_sg (V 20) (g_F V q b s o a1 a2 a3 (g_nw V)) i_) (g_ha (g_F V q b s o a1 a2 a3 (g_nw V))) (6 : Int)) (C0 : 0 ≤ h) (C1 : 0 ≤ 5 - h) (F0 : (0 : Int) ≤ h ∧ (h : Int) < j_len 83 ∧ V 83 (h) = g) : (0 ≤ g ∧ 0 ≤ 99 - g ∧ True) ∧ (True) := by
  have h9 := (T0 h (by omega) (by omega)).1
  rw [F0.2.2] at h9
  exact ⟨⟨by omega, by omega, trivial⟩, trivial⟩
theorem k_hbr {V : zVw} {k m i t h u yy q b s o a1 a2 a3 : Int} (T0 : q_hld (V 86) (g_jy V q (g_F V q b s o a1 a2 a3 (g_nw V)) yy) (g_F V q b s o a1 a2 a3 (g_nw V)) (36 : Int)) (T1 : q_cur (V 87) (g_F V q b s o a1 a2 a3 (g_nw V)) k m) (C0 : 0 ≤ i - 1) (C1 : 0 ≤ m - i - 1) (C2 : 0 ≤ 6 - m) (F0 : (0 : Int) ≤ i - 1 ∧ (i - 1 : Int) < j_len 87 ∧ V 87 (i - 1) = t) (F1 : (0 : Int) ≤ i ∧ (i : Int) < j_len 87 ∧ V 87 (i) = h) (F2 : (0 : Int) ≤ 6 * t + h ∧ (6 * t + h : Int) < j_len 86 ∧ V 86 (6 * t + h) = u) : (0 ≤ u ∧ 0 ≤ 999 - u ∧ True) ∧ (True) := by
  have p1 := o_cur_ab T1 (i := i - 1) (by omega) (by omega)
  have p2 := o_cur_ab T1 (i := i) (by omega) (by omega)
  have ne := o_cur_ne T1 (i := i) (by omega) (by omega)
  rw [F0.2.2] at p1 ne
  rw [F1.2.2] at p2 ne
  have j9 := o_hld36 T0 p1 p2 ne
  rw [F2.2.2] at j9
  have b9 := g_jy_b (v := V) (q := q) (A := (g_F V q b s o a1 a2 a3 (g_nw V))) (x := t) (y := h) (z := yy)
  rw [← j9] at b9
  exact ⟨⟨by omega, by omega, trivial⟩, trivial⟩
theorem k_spA {V : zVw} {m i e b_ h s_ g k yy q b s o a1 a2 a3 : Int} (T0 : q_lng V q b s o a1 a2 a3 (6 : Int)) (T1 : q_sta (V 83) (fun i_ => g_sg (V 20) (g_F V q b s o a1 a2 a3 (g_nw V)) i_) (g_ha (g_F V q b s o a1 a2 a3 (g_nw V))) (6 : Int)) (T2 : q_cur (V 87) (g_F V q b s o a1 a2 a3 (g_nw V)) k m) (T3 : q_spl (V 87) V (g_jy V q (g_F V q b s o a1 a2 a3 (g_nw V)) yy) (g_F V q b s o a1 a2 a3 (g_nw V)) m i e b_) (C0 : 0 ≤ i) (C1 : 0 ≤ m - i - 1) (C2 : 0 ≤ 6 - m) (C3 : 0 ≤ h) (C4 : 0 ≤ 5 - h) (C5 : 0 ≤ s_ - e - b_) (F0 : (0 : Int) ≤ i ∧ (i : Int) < j_len 87 ∧ V 87 (i) = h) (F1 : (0 : Int) ≤ h ∧ (h : Int) < j_len 83 ∧ V 83 (h) = s_) (F2 : (0 : Int) ≤ h ∧ (h : Int) < j_len 82 ∧ V 82 (h) = g) : (0 ≤ 594 - b_ - g ∧ True) ∧ (q_sp1 (V 87) V (g_jy V q (g_F V q b s o a1 a2 a3 (g_nw V)) yy) (g_F V q b s o a1 a2 a3 (g_nw V)) m i e (b_ + g) ∧ True) := by
  obtain ⟨⟨H9, w9⟩, l9⟩ := T0
  have p9 := o_cur_ab T2 (i := i) (by omega) (by omega)
  rw [F0.2.2] at p9
  have s9 := (T1 h (by omega) (by omega)).2 p9.2
  rw [F1.2.2] at s9
  have g9 := l9 h (by omega) (by omega)
  rw [F2.2.2] at g9
  have h9 := o_sp (e2 := e) w9 T2 T3 (by omega) F0.2.2 s9 g9 (by rw [if_neg (by omega)])
  have h8 := h9.1
  exact ⟨⟨by omega, trivial⟩, h9.2, trivial⟩
theorem k_spB {V : zVw} {m i e b_ h s_ g k yy q b s o a1 a2 a3 : Int} (T0 : q_lng V q b s o a1 a2 a3 (6 : Int)) (T1 : q_sta (V 83) (fun i_ => g_sg (V 20) (g_F V q b s o a1 a2 a3 (g_nw V)) i_) (g_ha (g_F V q b s o a1 a2 a3 (g_nw V))) (6 : Int)) (T2 : q_cur (V 87) (g_F V q b s o a1 a2 a3 (g_nw V)) k m) (T3 : q_spl (V 87) V (g_jy V q (g_F V q b s o a1 a2 a3 (g_nw V)) yy) (g_F V q b s o a1 a2 a3 (g_nw V)) m i e b_) (C0 : 0 ≤ i) (C1 : 0 ≤ m - i - 1) (C2 : 0 ≤ 6 - m) (C3 : 0 ≤ h) (C4 : 0 ≤ 5 - h) (C5 : 0 ≤ e + b_ - s_ - 1) (F0 : (0 : Int) ≤ i ∧ (i : Int) < j_len 87 ∧ V 87 (i) = h) (F1 : (0 : Int) ≤ h ∧ (h : Int) < j_len 83 ∧ V 83 (h) = s_) (F2 : (0 : Int) ≤ h ∧ (h : Int) < j_len 82 ∧ V 82 (h) = g) : (0 ≤ 594 - b_ - g ∧ True) ∧ (q_sp1 (V 87) V (g_jy V q (g_F V q b s o a1 a2 a3 (g_nw V)) yy) (g_F V q b s o a1 a2 a3 (g_nw V)) m i (s_ - b_) (b_ + g) ∧ True) := by
  obtain ⟨⟨H9, w9⟩, l9⟩ := T0
  have p9 := o_cur_ab T2 (i := i) (by omega) (by omega)
  rw [F0.2.2] at p9
  have s9 := (T1 h (by omega) (by omega)).2 p9.2
  rw [F1.2.2] at s9
  have g9 := l9 h (by omega) (by omega)
  rw [F2.2.2] at g9
  have h9 := o_sp (e2 := s_ - b_) w9 T2 T3 (by omega) F0.2.2 s9 g9 (by rw [if_pos (by omega)])
  have h8 := h9.1
  exact ⟨⟨by omega, trivial⟩, h9.2, trivial⟩
theorem k_spE {V : zVw} {m i e b_ yy q b s o a1 a2 a3 : Int} (T0 : q_sp1 (V 87) V (g_jy V q (g_F V q b s o a1 a2 a3 (g_nw V)) yy) (g_F V q b s o a1 a2 a3 (g_nw V)) m i e b_) (C0 : 0 ≤ i) (C1 : 0 ≤ -i) : (True) ∧ (q_spl (V 87) V (g_jy V q (g_F V q b s o a1 a2 a3 (g_nw V)) yy) (g_F V q b s o a1 a2 a3 (g_nw V)) m (-1 : Int) e b_ ∧ True) := by
  have e9 : i = 0 := by omega
  rw [e9] at T0
  exact ⟨trivial, o_spE T0, trivial⟩
theorem k_spK {V : zVw} {m i e b_ t h u k yy q b s o a1 a2 a3 : Int} (T0 : q_hld (V 86) (g_jy V q (g_F V q b s o a1 a2 a3 (g_nw V)) yy) (g_F V q b s o a1 a2 a3 (g_nw V)) (36 : Int)) (T1 : q_cur (V 87) (g_F V q b s o a1 a2 a3 (g_nw V)) k m) (T2 : q_sp1 (V 87) V (g_jy V q (g_F V q b s o a1 a2 a3 (g_nw V)) yy) (g_F V q b s o a1 a2 a3 (g_nw V)) m i e b_) (C0 : 0 ≤ i - 1) (C1 : 0 ≤ m - i - 1) (C2 : 0 ≤ 6 - m) (C3 : 0 ≤ u - e - b_) (F0 : (0 : Int) ≤ i - 1 ∧ (i - 1 : Int) < j_len 87 ∧ V 87 (i - 1) = t) (F1 : (0 : Int) ≤ i ∧ (i : Int) < j_len 87 ∧ V 87 (i) = h) (F2 : (0 : Int) ≤ 6 * t + h ∧ (6 * t + h : Int) < j_len 86 ∧ V 86 (6 * t + h) = u) : (True) ∧ (q_spl (V 87) V (g_jy V q (g_F V q b s o a1 a2 a3 (g_nw V)) yy) (g_F V q b s o a1 a2 a3 (g_nw V)) m (i - 1) e b_ ∧ True) := by
  have p1 := o_cur_ab T1 (i := i - 1) (by omega) (by omega)
  have p2 := o_cur_ab T1 (i := i) (by omega) (by omega)
  have ne := o_cur_ne T1 (i := i) (by omega) (by omega)
  rw [F0.2.2] at p1 ne
  rw [F1.2.2] at p2 ne
  have j9 := o_hld36 T0 p1 p2 ne
  rw [F2.2.2] at j9
  have j8 : u = g_jy V q (g_F V q b s o a1 a2 a3 (g_nw V)) yy (V 87 (i - 1)) (V 87 i) := by rw [F0.2.2, F1.2.2]; exact j9
  exact ⟨trivial, o_spJ (e2 := e) T2 (by omega) j8 (by rw [if_neg (by omega)]), trivial⟩
theorem k_spJ {V : zVw} {m i e b_ t h u k yy q b s o a1 a2 a3 : Int} (T0 : q_hld (V 86) (g_jy V q (g_F V q b s o a1 a2 a3 (g_nw V)) yy) (g_F V q b s o a1 a2 a3 (g_nw V)) (36 : Int)) (T1 : q_cur (V 87) (g_F V q b s o a1 a2 a3 (g_nw V)) k m) (T2 : q_sp1 (V 87) V (g_jy V q (g_F V q b s o a1 a2 a3 (g_nw V)) yy) (g_F V q b s o a1 a2 a3 (g_nw V)) m i e b_) (C0 : 0 ≤ i - 1) (C1 : 0 ≤ m - i - 1) (C2 : 0 ≤ 6 - m) (C3 : 0 ≤ e + b_ - u - 1) (F0 : (0 : Int) ≤ i - 1 ∧ (i - 1 : Int) < j_len 87 ∧ V 87 (i - 1) = t) (F1 : (0 : Int) ≤ i ∧ (i : Int) < j_len 87 ∧ V 87 (i) = h) (F2 : (0 : Int) ≤ 6 * t + h ∧ (6 * t + h : Int) < j_len 86 ∧ V 86 (6 * t + h) = u) : (True) ∧ (q_spl (V 87) V (g_jy V q (g_F V q b s o a1 a2 a3 (g_nw V)) yy) (g_F V q b s o a1 a2 a3 (g_nw V)) m (i - 1) (u - b_) b_ ∧ True) := by
  have p1 := o_cur_ab T1 (i := i - 1) (by omega) (by omega)
  have p2 := o_cur_ab T1 (i := i) (by omega) (by omega)
  have ne := o_cur_ne T1 (i := i) (by omega) (by omega)
  rw [F0.2.2] at p1 ne
  rw [F1.2.2] at p2 ne
  have j9 := o_hld36 T0 p1 p2 ne
  rw [F2.2.2] at j9
  have j8 : u = g_jy V q (g_F V q b s o a1 a2 a3 (g_nw V)) yy (V 87 (i - 1)) (V 87 i) := by rw [F0.2.2, F1.2.2]; exact j9
  exact ⟨trivial, o_spJ (e2 := u - b_) T2 (by omega) j8 (by rw [if_pos (by omega)]), trivial⟩
theorem k_orvW {V : zVw} {m i e b_ k l W y u yy q b s o a1 a2 a3 : Int} (T0 : q_spl (V 87) V (g_jy V q (g_F V q b s o a1 a2 a3 (g_nw V)) yy) (g_F V q b s o a1 a2 a3 (g_nw V)) m i e b_) (T1 : q_cur (V 87) (g_F V q b s o a1 a2 a3 (g_nw V)) k m) (T2 : 0 ≤ l ∧ l ≠ y ∧ V 61 l = W) (C0 : 0 ≤ i + 1) (C1 : 0 ≤ -i - 1) (C2 : 0 ≤ u - b_ - 1) (F0 : (0 : Int) ≤ l ∧ (l : Int) < j_len 61 ∧ V 61 (l) = u) : (True) ∧ (o_v V (g_jy V q (g_F V q b s o a1 a2 a3 (g_nw V)) yy) (g_F V q b s o a1 a2 a3 (g_nw V)) W k (-1 : Int) ∧ True) := by
  have e9 : i = -1 := by omega
  rw [e9] at T0
  have u9 : u = W := F0.2.2.symm.trans T2.2.2
  exact ⟨trivial, o_orvN T0 T1 (Or.inl (by omega)), trivial⟩
theorem k_orvE {V : zVw} {m i e b_ k l W y u yy q b s o a1 a2 a3 : Int} (T0 : q_spl (V 87) V (g_jy V q (g_F V q b s o a1 a2 a3 (g_nw V)) yy) (g_F V q b s o a1 a2 a3 (g_nw V)) m i e b_) (T1 : q_cur (V 87) (g_F V q b s o a1 a2 a3 (g_nw V)) k m) (T2 : 0 ≤ l ∧ l ≠ y ∧ V 61 l = W) (C0 : 0 ≤ i + 1) (C1 : 0 ≤ -i - 1) (C2 : 0 ≤ b_ - u) (C3 : 0 ≤ -e - 1) (F0 : (0 : Int) ≤ l ∧ (l : Int) < j_len 61 ∧ V 61 (l) = u) : (True) ∧ (o_v V (g_jy V q (g_F V q b s o a1 a2 a3 (g_nw V)) yy) (g_F V q b s o a1 a2 a3 (g_nw V)) W k (-1 : Int) ∧ True) := by
  have e9 : i = -1 := by omega
  rw [e9] at T0
  have u9 : u = W := F0.2.2.symm.trans T2.2.2
  exact ⟨trivial, o_orvN T0 T1 (Or.inr (by omega)), trivial⟩
theorem k_orvY {V : zVw} {m i e b_ k l W y u yy q b s o a1 a2 a3 : Int} (T0 : q_spl (V 87) V (g_jy V q (g_F V q b s o a1 a2 a3 (g_nw V)) yy) (g_F V q b s o a1 a2 a3 (g_nw V)) m i e b_) (T1 : q_cur (V 87) (g_F V q b s o a1 a2 a3 (g_nw V)) k m) (T2 : 0 ≤ l ∧ l ≠ y ∧ V 61 l = W) (C0 : 0 ≤ i + 1) (C1 : 0 ≤ -i - 1) (C2 : 0 ≤ b_ - u) (C3 : 0 ≤ e) (F0 : (0 : Int) ≤ l ∧ (l : Int) < j_len 61 ∧ V 61 (l) = u) : (True) ∧ (o_v V (g_jy V q (g_F V q b s o a1 a2 a3 (g_nw V)) yy) (g_F V q b s o a1 a2 a3 (g_nw V)) W k e ∧ True) := by
  have e9 : i = -1 := by omega
  rw [e9] at T0
  have u9 : u = W := F0.2.2.symm.trans T2.2.2
  exact ⟨trivial, o_orvY T0 T1 (by omega) (by omega), trivial⟩
theorem k_curP {V : zVw} {k m i h q b s o a1 a2 a3 : Int} (T0 : q_cur (V 87) (g_F V q b s o a1 a2 a3 (g_nw V)) k m) (C0 : 0 ≤ i - 1) (C1 : 0 ≤ m - i - 1) (C2 : 0 ≤ 6 - m) (F0 : (0 : Int) ≤ i - 1 ∧ (i - 1 : Int) < j_len 87 ∧ V 87 (i - 1) = h) : (0 ≤ h ∧ 0 ≤ 5 - h ∧ True) ∧ (True) := by
  have h9 := (o_cur_ab T0 (i := i - 1) (by omega) (by omega)).1
  rw [F0.2.2] at h9
  exact ⟨⟨by omega, by omega, trivial⟩, trivial⟩
theorem k_pos0 {V : zVw} {q b s o a1 a2 a3 : Int} (T0 : q_lng V q b s o a1 a2 a3 (6 : Int)) : (True) ∧ (q_pos (V 87) (g_F V q b s o a1 a2 a3 (g_nw V)) (0 : Int) (0 : Int) (0 : Int) ∧ True) := by
  exact ⟨trivial, ⟨⟨by omega, by omega, by omega⟩, ⟨List.nodup_nil, fun h hh => absurd (show h ∈ ([] : List Int) from hh) List.not_mem_nil⟩, rfl⟩, trivial⟩
theorem k_mpk0 {V : zVw} {l W y yy q b s o a1 a2 a3 : Int} (T0 : q_lng V q b s o a1 a2 a3 (6 : Int)) (T1 : q_hld (V 86) (g_jy V q (g_F V q b s o a1 a2 a3 (g_nw V)) yy) (g_F V q b s o a1 a2 a3 (g_nw V)) (36 : Int)) (T2 : 0 ≤ l ∧ l ≠ y ∧ V 61 l = W) : (True) ∧ (q_mpk V (g_jy V q (g_F V q b s o a1 a2 a3 (g_nw V)) yy) (g_F V q b s o a1 a2 a3 (g_nw V)) W (0 : Int) (-2 : Int) ∧ True) := by
  exact ⟨trivial, o_mpk0, trivial⟩
theorem k_mpkA {V : zVw} {W k v p_ yy q b s o a1 a2 a3 : Int} (T0 : o_v V (g_jy V q (g_F V q b s o a1 a2 a3 (g_nw V)) yy) (g_F V q b s o a1 a2 a3 (g_nw V)) W k v) (T1 : q_mpk V (g_jy V q (g_F V q b s o a1 a2 a3 (g_nw V)) yy) (g_F V q b s o a1 a2 a3 (g_nw V)) W k p_) (C0 : 0 ≤ v) (C1 : 0 ≤ v - p_ - 1) : (True) ∧ (q_mpk V (g_jy V q (g_F V q b s o a1 a2 a3 (g_nw V)) yy) (g_F V q b s o a1 a2 a3 (g_nw V)) W (k + 1) v ∧ True) := by
  exact ⟨trivial, (o_mpkS T0 T1).1 (by omega) (by omega), trivial⟩
theorem k_mpkB {V : zVw} {W k v p_ yy q b s o a1 a2 a3 : Int} (T0 : o_v V (g_jy V q (g_F V q b s o a1 a2 a3 (g_nw V)) yy) (g_F V q b s o a1 a2 a3 (g_nw V)) W k v) (T1 : q_mpk V (g_jy V q (g_F V q b s o a1 a2 a3 (g_nw V)) yy) (g_F V q b s o a1 a2 a3 (g_nw V)) W k p_) (C0 : 0 ≤ -v - 1) : (True) ∧ (q_mpk V (g_jy V q (g_F V q b s o a1 a2 a3 (g_nw V)) yy) (g_F V q b s o a1 a2 a3 (g_nw V)) W (k + 1) p_ ∧ True) := by
  exact ⟨trivial, (o_mpkS T0 T1).2 (Or.inl (by omega)), trivial⟩
theorem k_mpkC {V : zVw} {W k v p_ yy q b s o a1 a2 a3 : Int} (T0 : o_v V (g_jy V q (g_F V q b s o a1 a2 a3 (g_nw V)) yy) (g_F V q b s o a1 a2 a3 (g_nw V)) W k v) (T1 : q_mpk V (g_jy V q (g_F V q b s o a1 a2 a3 (g_nw V)) yy) (g_F V q b s o a1 a2 a3 (g_nw V)) W k p_) (C0 : 0 ≤ v) (C1 : 0 ≤ p_ - v) : (True) ∧ (q_mpk V (g_jy V q (g_F V q b s o a1 a2 a3 (g_nw V)) yy) (g_F V q b s o a1 a2 a3 (g_nw V)) W (k + 1) p_ ∧ True) := by
  exact ⟨trivial, (o_mpkS T0 T1).2 (Or.inr (by omega)), trivial⟩
theorem k_mpkE {V : zVw} {W k p_ yy q b s o a1 a2 a3 : Int} (T0 : q_lng V q b s o a1 a2 a3 (6 : Int)) (T1 : 0 ≤ k ∧ (o_A (o_a (g_F V q b s o a1 a2 a3 (g_nw V)))).drop k.toNat = []) (T2 : q_mpk V (g_jy V q (g_F V q b s o a1 a2 a3 (g_nw V)) yy) (g_F V q b s o a1 a2 a3 (g_nw V)) W k p_) : (True) ∧ (q_qry V (59 : Int) q b s o a1 a2 a3 W yy p_ ∧ True) := by
  have h9 := T2.2
  rw [o_don T1.2] at h9
  exact ⟨trivial, ⟨T0.1, g_Q59 h9⟩, trivial⟩
theorem k_moc0 {V : zVw} {w l W y q b s o a1 a2 a3 : Int} (T0 : q_lng V q b s o a1 a2 a3 (6 : Int)) (T1 : 0 ≤ l ∧ l ≠ y ∧ V 61 l = W) (C0 : 0 ≤ w) (C1 : 0 ≤ 999 - w) : (True) ∧ (q_moc V (g_jy V q (g_F V q b s o a1 a2 a3 (g_nw V)) 0) (g_F V q b s o a1 a2 a3 (g_nw V)) w W (0 : Int) (0 : Int) ∧ True) := by
  exact ⟨trivial, o_moc0, trivial⟩
theorem k_mocY {V : zVw} {w W k n v q b s o a1 a2 a3 : Int} (T0 : o_v V (g_jy V q (g_F V q b s o a1 a2 a3 (g_nw V)) (0 : Int)) (g_F V q b s o a1 a2 a3 (g_nw V)) W k v) (T1 : q_moc V (g_jy V q (g_F V q b s o a1 a2 a3 (g_nw V)) 0) (g_F V q b s o a1 a2 a3 (g_nw V)) w W k n) (C0 : 0 ≤ v - w) (C1 : 0 ≤ w) : (True) ∧ (q_moc V (g_jy V q (g_F V q b s o a1 a2 a3 (g_nw V)) 0) (g_F V q b s o a1 a2 a3 (g_nw V)) w W (k + 1) (n + 1) ∧ True) := by
  exact ⟨trivial, (o_mocS T0 T1 (by omega)).1 (by omega), trivial⟩
theorem k_mocN {V : zVw} {w W k n v q b s o a1 a2 a3 : Int} (T0 : o_v V (g_jy V q (g_F V q b s o a1 a2 a3 (g_nw V)) (0 : Int)) (g_F V q b s o a1 a2 a3 (g_nw V)) W k v) (T1 : q_moc V (g_jy V q (g_F V q b s o a1 a2 a3 (g_nw V)) 0) (g_F V q b s o a1 a2 a3 (g_nw V)) w W k n) (C0 : 0 ≤ w - v - 1) (C1 : 0 ≤ w) : (True) ∧ (q_moc V (g_jy V q (g_F V q b s o a1 a2 a3 (g_nw V)) 0) (g_F V q b s o a1 a2 a3 (g_nw V)) w W (k + 1) n ∧ True) := by
  exact ⟨trivial, (o_mocS T0 T1 (by omega)).2 (by omega), trivial⟩
theorem k_mocE {V : zVw} {w W k n q b s o a1 a2 a3 : Int} (T0 : q_lng V q b s o a1 a2 a3 (6 : Int)) (T1 : 0 ≤ k ∧ (o_A (o_a (g_F V q b s o a1 a2 a3 (g_nw V)))).drop k.toNat = []) (T2 : q_moc V (g_jy V q (g_F V q b s o a1 a2 a3 (g_nw V)) 0) (g_F V q b s o a1 a2 a3 (g_nw V)) w W k n) : (True) ∧ (q_qry V (58 : Int) q b s o a1 a2 a3 w W n ∧ True) := by
  have h9 := T2.2
  rw [o_don T1.2] at h9
  exact ⟨trivial, ⟨T0.1, g_Q58 h9⟩, trivial⟩
theorem k_mne0 {V : zVw} {w l W y q b s o a1 a2 a3 : Int} (T0 : q_lng V q b s o a1 a2 a3 (6 : Int)) (T1 : 0 ≤ l ∧ l ≠ y ∧ V 61 l = W) (C0 : 0 ≤ w) (C1 : 0 ≤ 999 - w) : (True) ∧ (q_mne V (g_jy V q (g_F V q b s o a1 a2 a3 (g_nw V)) 0) (g_F V q b s o a1 a2 a3 (g_nw V)) w W (0 : Int) (-1 : Int) ∧ True) := by
  exact ⟨trivial, o_mne0, trivial⟩
theorem k_mneN {V : zVw} {w W k i v q b s o a1 a2 a3 : Int} (T0 : o_v V (g_jy V q (g_F V q b s o a1 a2 a3 (g_nw V)) (0 : Int)) (g_F V q b s o a1 a2 a3 (g_nw V)) W k v) (T1 : q_mne V (g_jy V q (g_F V q b s o a1 a2 a3 (g_nw V)) 0) (g_F V q b s o a1 a2 a3 (g_nw V)) w W k i) (C0 : 0 ≤ w - v - 1) (C1 : 0 ≤ w) : (True) ∧ (q_mne V (g_jy V q (g_F V q b s o a1 a2 a3 (g_nw V)) 0) (g_F V q b s o a1 a2 a3 (g_nw V)) w W (k + 1) i ∧ True) := by
  exact ⟨trivial, o_mneN T0 T1 (by omega) (by omega), trivial⟩
theorem k_mneA {V : zVw} {w W k i v s_ m q b s o a1 a2 a3 : Int} (T0 : (0 ≤ m ∧ m ≤ 6) ∧ s_ = o_t (o_l (V 87) m.toNat)) (T1 : q_cur (V 87) (g_F V q b s o a1 a2 a3 (g_nw V)) k m) (T2 : o_v V (g_jy V q (g_F V q b s o a1 a2 a3 (g_nw V)) (0 : Int)) (g_F V q b s o a1 a2 a3 (g_nw V)) W k v) (T3 : q_mne V (g_jy V q (g_F V q b s o a1 a2 a3 (g_nw V)) 0) (g_F V q b s o a1 a2 a3 (g_nw V)) w W k i) (C0 : 0 ≤ v - w) (C1 : 0 ≤ w) (C2 : 0 ≤ -i - 1) : (True) ∧ (q_mne V (g_jy V q (g_F V q b s o a1 a2 a3 (g_nw V)) 0) (g_F V q b s o a1 a2 a3 (g_nw V)) w W (k + 1) s_ ∧ True) := by
  exact ⟨trivial, o_mneA T0.2 T1 T2 T3 (by omega) (by omega) (by omega), trivial⟩
theorem k_mneB {V : zVw} {w W k i v s_ m u q b s o a1 a2 a3 : Int} (T0 : (mOP 101 (Int32.ofInt i) (Int32.ofInt s_)).toInt = u) (T1 : (0 ≤ m ∧ m ≤ 6) ∧ s_ = o_t (o_l (V 87) m.toNat)) (T2 : q_cur (V 87) (g_F V q b s o a1 a2 a3 (g_nw V)) k m) (T3 : o_v V (g_jy V q (g_F V q b s o a1 a2 a3 (g_nw V)) (0 : Int)) (g_F V q b s o a1 a2 a3 (g_nw V)) W k v) (T4 : q_mne V (g_jy V q (g_F V q b s o a1 a2 a3 (g_nw V)) 0) (g_F V q b s o a1 a2 a3 (g_nw V)) w W k i) (C0 : 0 ≤ v - w) (C1 : 0 ≤ w) (C2 : 0 ≤ i) (C3 : 0 ≤ 63 - i) (C4 : 0 ≤ s_) (C5 : 0 ≤ 63 - s_) : (0 ≤ u ∧ 0 ≤ 63 - u ∧ True) ∧ (q_mne V (g_jy V q (g_F V q b s o a1 a2 a3 (g_nw V)) 0) (g_F V q b s o a1 a2 a3 (g_nw V)) w W (k + 1) u ∧ True) := by
  have h1 : g_op 101 i s_ = u := T0
  have h9 := o_mneB T1.2 T2 T3 T4 (by omega) (by omega) (by omega) h1
  have h8 := h9.1
  exact ⟨⟨by omega, by omega, trivial⟩, h9.2, trivial⟩
theorem k_mneE {V : zVw} {w W k i u q b s o a1 a2 a3 : Int} (T0 : q_lng V q b s o a1 a2 a3 (6 : Int)) (T1 : 0 ≤ k ∧ (o_A (o_a (g_F V q b s o a1 a2 a3 (g_nw V)))).drop k.toNat = []) (T2 : q_mne V (g_jy V q (g_F V q b s o a1 a2 a3 (g_nw V)) 0) (g_F V q b s o a1 a2 a3 (g_nw V)) w W k i) (C0 : 0 ≤ i) (C1 : 0 ≤ u - i) (C2 : 0 ≤ i - u) : (True) ∧ (q_qry V (60 : Int) q b s o a1 a2 a3 w W u ∧ True) := by
  have h9 := T2.2
  rw [o_don T1.2] at h9
  rw [show i = u by omega] at h9
  exact ⟨trivial, ⟨T0.1, g_Q60 (o_i_E h9 (by omega))⟩, trivial⟩
theorem k_mneF {V : zVw} {w W k i u q b s o a1 a2 a3 : Int} (T0 : q_lng V q b s o a1 a2 a3 (6 : Int)) (T1 : 0 ≤ k ∧ (o_A (o_a (g_F V q b s o a1 a2 a3 (g_nw V)))).drop k.toNat = []) (T2 : q_mne V (g_jy V q (g_F V q b s o a1 a2 a3 (g_nw V)) 0) (g_F V q b s o a1 a2 a3 (g_nw V)) w W k i) (C0 : 0 ≤ -i - 1) (C1 : 0 ≤ u + 2) (C2 : 0 ≤ -u - 2) : (True) ∧ (q_qry V (60 : Int) q b s o a1 a2 a3 w W (-2 : Int) ∧ True) := by
  have h9 := T2.2
  rw [o_don T1.2] at h9
  exact ⟨trivial, ⟨T0.1, g_Q60 (o_i_F h9 (by omega))⟩, trivial⟩
theorem k_mbs0 {V : zVw} {k m q b s o a1 a2 a3 : Int} (T0 : q_cur (V 87) (g_F V q b s o a1 a2 a3 (g_nw V)) k m) : (True) ∧ (((0 ≤ (0 : Int) ∧ (0 : Int) ≤ 6) ∧ (0 : Int) = o_t (o_l (V 87) (0 : Int).toNat)) ∧ True) := by
  exact ⟨trivial, ⟨⟨by omega, by omega⟩, rfl⟩, trivial⟩
theorem k_mbsS {V : zVw} {i h s_ n u k m q b s o a1 a2 a3 : Int} (T0 : (mOP 102 (Int32.ofInt s_) (Int32.ofInt n)).toInt = u) (T1 : (mOP 104 (Int32.ofInt (1 : Int)) (Int32.ofInt h)).toInt = n) (T2 : (0 ≤ i ∧ i ≤ 6) ∧ s_ = o_t (o_l (V 87) i.toNat)) (T3 : q_cur (V 87) (g_F V q b s o a1 a2 a3 (g_nw V)) k m) (C0 : 0 ≤ i) (C1 : 0 ≤ m - i - 1) (C2 : 0 ≤ 6 - m) (C3 : 0 ≤ s_) (C4 : 0 ≤ 63 - s_) (F0 : (0 : Int) ≤ i ∧ (i : Int) < j_len 87 ∧ V 87 (i) = h) : (0 ≤ u ∧ 0 ≤ 63 - u ∧ True) ∧ (((0 ≤ (i + 1) ∧ (i + 1) ≤ 6) ∧ u = o_t (o_l (V 87) (i + 1).toNat)) ∧ True) := by
  have h1 : g_op 104 1 h = n := T1
  have h2 : g_op 102 s_ n = u := T0
  have p9 := (o_cur_ab T3 (i := i) (by omega) (by omega)).1
  have f0 := F0.2.2
  rw [f0] at p9
  have o9 := r_or (x := s_) (i := h) (by omega) (by omega) (by omega) (by omega) h1 h2
  have o8 := o9.1
  exact ⟨⟨by omega, by omega, trivial⟩, ⟨⟨by omega, by omega⟩, by
    rw [o_l_s (by omega), f0]
    show u = g_op 102 (o_t (o_l (V 87) i.toNat)) (g_op 104 1 h)
    rw [← T2.2, h1, h2]⟩, trivial⟩
theorem k_qeOr {V : zVw} {q x u w y : Int} (T0 : q_qry V (58 : Int) q (0 : Int) (0 : Int) (0 : Int) (0 : Int) (0 : Int) (0 : Int) x y u) (T1 : q_qry V (58 : Int) q (0 : Int) (0 : Int) (0 : Int) (0 : Int) (0 : Int) (0 : Int) x y w) : (0 ≤ u - w ∧ 0 ≤ w - u ∧ True) ∧ (True) := by
  have h1 : u = _ := g_k58 T0
  have h2 : w = _ := g_k58 T1
  rw [← h2] at h1
  exact ⟨⟨by omega, by omega, trivial⟩, trivial⟩
theorem k_qePr {V : zVw} {q x u w : Int} (T0 : q_qry V (59 : Int) q (0 : Int) (0 : Int) (0 : Int) (0 : Int) (0 : Int) (0 : Int) x (0 : Int) u) (T1 : q_qry V (59 : Int) q (0 : Int) (0 : Int) (0 : Int) (0 : Int) (0 : Int) (0 : Int) x (0 : Int) w) : (0 ≤ u - w ∧ 0 ≤ w - u ∧ True) ∧ (True) := by
  have h1 := o_x_u (g_k59 T0) (g_k59 T1)
  exact ⟨⟨by omega, by omega, trivial⟩, trivial⟩
theorem k_qeNr {V : zVw} {q x u w y : Int} (T0 : q_qry V (60 : Int) q (0 : Int) (0 : Int) (0 : Int) (0 : Int) (0 : Int) (0 : Int) x y u) (T1 : q_qry V (60 : Int) q (0 : Int) (0 : Int) (0 : Int) (0 : Int) (0 : Int) (0 : Int) x y w) : (0 ≤ u - w ∧ 0 ≤ w - u ∧ True) ∧ (True) := by
  have h1 := o_i_u (g_k60 T0) (g_k60 T1)
  exact ⟨⟨by omega, by omega, trivial⟩, trivial⟩
theorem k_nso0 {V : zVw} {w H p y d q W : Int} (T0 : q_sto V 0 H p y d (0 : Int) (0 : Int) (0 : Int) (0 : Int) (0 : Int) (0 : Int) (0 : Int)) (C0 : 0 ≤ w) (C1 : 0 ≤ H) (C2 : 0 ≤ 6 - H) : (True) ∧ (q_qry V (62 : Int) q (0 : Int) (0 : Int) (0 : Int) (0 : Int) (0 : Int) (0 : Int) (10 * w + H) W (0 : Int) ∧ True) := by
  exact ⟨trivial, ⟨⟨H, by rw [g_F0]; exact T0.1.2.1⟩, g_Q62 (fun k k0 k1 => by omega)⟩, trivial⟩
theorem k_sonY {V : zVw} {n w x H W a_ r p_ i z n2 p y d q : Int} (T0 : q_sto V 1 H p y d q (0 : Int) (0 : Int) (4 : Int) n (0 : Int) H) (T1 : q_not (V 40) (V 34) (o_J (V 35)) w W a_ (384 : Int) r p_ i) (T2 : q_dpt (V 37) (V 38) (V 40) (V 34) (o_J (V 35)) w a_ (384 : Int)) (T3 : q_sts (V 34) (fun i_ => g_sg (V 20) (g_F V q (0 : Int) (0 : Int) (4 : Int) n (0 : Int) H (g_nw V)) i_) H) (T4 : q_jrw (V 35) (g_jy V q (g_F V q (0 : Int) (0 : Int) (4 : Int) n (0 : Int) H (g_nw V)) (0 : Int)) (g_F V q (0 : Int) (0 : Int) (4 : Int) n (0 : Int) H (g_nw V)) H (0 : Int) z) (T5 : q_smp V q (0 : Int) (0 : Int) (4 : Int) n (0 : Int) H n2) (T6 : (mOP 104 (Int32.ofInt (1 : Int)) (Int32.ofInt H)).toInt = n2) (T7 : q_qry V (46 : Int) q (0 : Int) (0 : Int) (4 : Int) n (0 : Int) H (6 : Int) (0 : Int) a_) (T8 : q_qry V (62 : Int) q (0 : Int) (0 : Int) (0 : Int) (0 : Int) (0 : Int) (0 : Int) x W n) (C0 : 0 ≤ x - 10 * w - H) (C1 : 0 ≤ 10 * w + H - x) (C2 : 0 ≤ w) (C3 : 0 ≤ H) (C4 : 0 ≤ 6 - H) (C5 : 0 ≤ n) (C6 : 0 ≤ 60 - n) (C7 : 0 ≤ 999 - w) (C8 : 0 ≤ r - 1) : (True) ∧ (q_qry V (61 : Int) q (0 : Int) (0 : Int) (0 : Int) (0 : Int) (0 : Int) (0 : Int) x W n ∧ True) := by
  have h1 : g_op 104 1 H = n2 := T6
  have e7 : a_ = g_ab (g_F V q 0 0 4 n 0 H (g_nw V)) 6 := g_k46 T7
  have g9 := o_agr_mk T0.1.1 (by omega) (by omega) T3 T4 T5.2.2 h1 e7
  have e6 : x % 10 = H := by omega
  have e5 : x / 10 = w := by omega
  have z1 := g_k62 T8
  have z9 : o_E V (g_jy V q (g_yr V q 0 0 (x % 10) (g_F V q 0 0 0 0 0 0 (g_nw V)) n.toNat) 0) (g_yr V q 0 0 (x % 10) (g_F V q 0 0 0 0 0 0 (g_nw V)) n.toNat) (x / 10) W := by
    rw [e6, e5, g_F0]
    have h5 := o_E_Y g9 T1 (by omega)
    rw [show g_F V q 0 0 4 n 0 H (g_nw V) = g_yr V q 0 0 H (g_nw V) n.toNat from rfl] at h5
    exact h5
  exact ⟨trivial, g_qq T8 (g_Q61 (Or.inl ⟨by omega, by omega, z1, z9⟩)), trivial⟩
theorem k_sonN {V : zVw} {n w x H W a_ r p_ i z n2 p y d q : Int} (T0 : q_sto V 1 H p y d q (0 : Int) (0 : Int) (4 : Int) n (0 : Int) H) (T1 : q_not (V 40) (V 34) (o_J (V 35)) w W a_ (384 : Int) r p_ i) (T2 : q_dpt (V 37) (V 38) (V 40) (V 34) (o_J (V 35)) w a_ (384 : Int)) (T3 : q_sts (V 34) (fun i_ => g_sg (V 20) (g_F V q (0 : Int) (0 : Int) (4 : Int) n (0 : Int) H (g_nw V)) i_) H) (T4 : q_jrw (V 35) (g_jy V q (g_F V q (0 : Int) (0 : Int) (4 : Int) n (0 : Int) H (g_nw V)) (0 : Int)) (g_F V q (0 : Int) (0 : Int) (4 : Int) n (0 : Int) H (g_nw V)) H (0 : Int) z) (T5 : q_smp V q (0 : Int) (0 : Int) (4 : Int) n (0 : Int) H n2) (T6 : (mOP 104 (Int32.ofInt (1 : Int)) (Int32.ofInt H)).toInt = n2) (T7 : q_qry V (46 : Int) q (0 : Int) (0 : Int) (4 : Int) n (0 : Int) H (6 : Int) (0 : Int) a_) (T8 : q_qry V (62 : Int) q (0 : Int) (0 : Int) (0 : Int) (0 : Int) (0 : Int) (0 : Int) x W n) (C0 : 0 ≤ x - 10 * w - H) (C1 : 0 ≤ 10 * w + H - x) (C2 : 0 ≤ w) (C3 : 0 ≤ H) (C4 : 0 ≤ 6 - H) (C5 : 0 ≤ n) (C6 : 0 ≤ 999 - w) (C7 : 0 ≤ -r) : (True) ∧ (q_qry V (62 : Int) q (0 : Int) (0 : Int) (0 : Int) (0 : Int) (0 : Int) (0 : Int) x W (n + 1) ∧ True) := by
  have h1 : g_op 104 1 H = n2 := T6
  have e7 : a_ = g_ab (g_F V q 0 0 4 n 0 H (g_nw V)) 6 := g_k46 T7
  have g9 := o_agr_mk T0.1.1 (by omega) (by omega) T3 T4 T5.2.2 h1 e7
  have e6 : x % 10 = H := by omega
  have e5 : x / 10 = w := by omega
  have z1 := g_k62 T8
  have z9 : ¬ o_E V (g_jy V q (g_yr V q 0 0 (x % 10) (g_F V q 0 0 0 0 0 0 (g_nw V)) n.toNat) 0) (g_yr V q 0 0 (x % 10) (g_F V q 0 0 0 0 0 0 (g_nw V)) n.toNat) (x / 10) W := by
    rw [e6, e5, g_F0]
    have h5 := o_E_N g9 T1 (by omega)
    rw [show g_F V q 0 0 4 n 0 H (g_nw V) = g_yr V q 0 0 H (g_nw V) n.toNat from rfl] at h5
    exact h5
  exact ⟨trivial, g_qq T8 (g_Q62 (fun k k0 k1 => by
    by_cases c9 : k < n
    · exact z1 k k0 c9
    · rw [show k = n by omega]; exact z9)), trivial⟩
theorem k_sonZ {V : zVw} {n x q W : Int} (T0 : q_qry V (62 : Int) q (0 : Int) (0 : Int) (0 : Int) (0 : Int) (0 : Int) (0 : Int) x W n) (C0 : 0 ≤ n - 61) : (True) ∧ (q_qry V (61 : Int) q (0 : Int) (0 : Int) (0 : Int) (0 : Int) (0 : Int) (0 : Int) x W (-2 : Int) ∧ True) := by
  have z1 := g_k62 T0
  exact ⟨trivial, g_qq T0 (g_Q61 (Or.inr ⟨rfl, fun k k0 k1 => z1 k k0 (by omega)⟩)), trivial⟩
theorem k_mso0 {V : zVw} {w H p y d q l x W z : Int} (T0 : q_sto V 0 H p y d (0 : Int) (0 : Int) (0 : Int) (0 : Int) (0 : Int) (0 : Int) (0 : Int)) (T1 : (1 : Int) = 1 → q_leq V l x q) (T2 : 0 ≤ l ∧ l ≠ z ∧ V 61 l = W) (C0 : 0 ≤ w) (C1 : 0 ≤ H) (C2 : 0 ≤ 6 - H) : (True) ∧ (q_qry V (62 : Int) q (0 : Int) (0 : Int) (0 : Int) (0 : Int) (0 : Int) (0 : Int) (10 * w + H) W (0 : Int) ∧ True) := by
  exact ⟨trivial, ⟨⟨H, by rw [g_F0]; exact T0.1.2.1⟩, g_Q62 (fun k k0 k1 => by omega)⟩, trivial⟩
theorem k_mshY {V : zVw} {n w x H W u q : Int} (T0 : q_rwo V H q (0 : Int) (0 : Int) (4 : Int) n (0 : Int) H) (T1 : q_qry V (59 : Int) q (0 : Int) (0 : Int) (4 : Int) n (0 : Int) H W (0 : Int) u) (T2 : q_qry V (62 : Int) q (0 : Int) (0 : Int) (0 : Int) (0 : Int) (0 : Int) (0 : Int) x W n) (C0 : 0 ≤ x - 10 * w - H) (C1 : 0 ≤ 10 * w + H - x) (C2 : 0 ≤ w) (C3 : 0 ≤ H) (C4 : 0 ≤ 6 - H) (C5 : 0 ≤ n) (C6 : 0 ≤ 60 - n) (C7 : 0 ≤ u - w) : (True) ∧ (q_qry V (61 : Int) q (0 : Int) (0 : Int) (0 : Int) (0 : Int) (0 : Int) (0 : Int) x W n ∧ True) := by
  have e6 : x % 10 = H := by omega
  have e5 : x / 10 = w := by omega
  have z1 := g_k62 T2
  have z9 : o_E V (g_jy V q (g_yr V q 0 0 (x % 10) (g_F V q 0 0 0 0 0 0 (g_nw V)) n.toNat) 0) (g_yr V q 0 0 (x % 10) (g_F V q 0 0 0 0 0 0 (g_nw V)) n.toNat) (x / 10) W := by
    rw [e6, e5, g_F0]
    have h5 := (o_E_x (w := w) (g_k59 T1) (by omega)).1 (by omega)
    rw [show g_F V q 0 0 4 n 0 H (g_nw V) = g_yr V q 0 0 H (g_nw V) n.toNat from rfl] at h5
    exact h5
  exact ⟨trivial, g_qq T2 (g_Q61 (Or.inl ⟨by omega, by omega, z1, z9⟩)), trivial⟩
theorem k_mshN {V : zVw} {n w x H W u q : Int} (T0 : q_rwo V H q (0 : Int) (0 : Int) (4 : Int) n (0 : Int) H) (T1 : q_qry V (59 : Int) q (0 : Int) (0 : Int) (4 : Int) n (0 : Int) H W (0 : Int) u) (T2 : q_qry V (62 : Int) q (0 : Int) (0 : Int) (0 : Int) (0 : Int) (0 : Int) (0 : Int) x W n) (C0 : 0 ≤ x - 10 * w - H) (C1 : 0 ≤ 10 * w + H - x) (C2 : 0 ≤ w) (C3 : 0 ≤ H) (C4 : 0 ≤ 6 - H) (C5 : 0 ≤ n) (C6 : 0 ≤ w - u - 1) : (True) ∧ (q_qry V (62 : Int) q (0 : Int) (0 : Int) (0 : Int) (0 : Int) (0 : Int) (0 : Int) x W (n + 1) ∧ True) := by
  have e6 : x % 10 = H := by omega
  have e5 : x / 10 = w := by omega
  have z1 := g_k62 T2
  have z9 : ¬ o_E V (g_jy V q (g_yr V q 0 0 (x % 10) (g_F V q 0 0 0 0 0 0 (g_nw V)) n.toNat) 0) (g_yr V q 0 0 (x % 10) (g_F V q 0 0 0 0 0 0 (g_nw V)) n.toNat) (x / 10) W := by
    rw [e6, e5, g_F0]
    have h5 := (o_E_x (w := w) (g_k59 T1) (by omega)).2 (by omega)
    rw [show g_F V q 0 0 4 n 0 H (g_nw V) = g_yr V q 0 0 H (g_nw V) n.toNat from rfl] at h5
    exact h5
  exact ⟨trivial, g_qq T2 (g_Q62 (fun k k0 k1 => by
    by_cases c9 : k < n
    · exact z1 k k0 c9
    · rw [show k = n by omega]; exact z9)), trivial⟩
theorem k_qeSo {V : zVw} {q x W u w : Int} (T0 : q_qry V (61 : Int) q (0 : Int) (0 : Int) (0 : Int) (0 : Int) (0 : Int) (0 : Int) x W u) (T1 : q_qry V (61 : Int) q (0 : Int) (0 : Int) (0 : Int) (0 : Int) (0 : Int) (0 : Int) x W w) : (0 ≤ u - w ∧ 0 ≤ w - u ∧ True) ∧ (True) := by
  have h9 := o_so_eq (P := fun k => o_E V (g_jy V q (g_yr V q 0 0 (x % 10) (g_F V q 0 0 0 0 0 0 (g_nw V)) k.toNat) 0) (g_yr V q 0 0 (x % 10) (g_F V q 0 0 0 0 0 0 (g_nw V)) k.toNat) (x / 10) W) (g_k61 T0) (g_k61 T1)
  exact ⟨⟨by omega, by omega, trivial⟩, trivial⟩
