/-! ===== the lemmas in plain numbers, by program ===== -/
theorem k_ftjA {V : zVw} {j p w bo d st H k l n q : Int} (T0 : q_teq (V 42) (V 43) (V 44) (V 89) (V 90) (V 91)) (T1 : q_ft2 (V 42) (V 43) (V 44) (g_sg (V 20) (g_b (V 77) 0)) H l n j) (T2 : q_dgd (V 92) H l n (-1)) (T3 : q_stb (V 83) (fun i_ => g_sg (V 20) (g_F V q (0 : Int) (0 : Int) (0 : Int) (0 : Int) (0 : Int) (0 : Int) (g_nw V)) i_) (6 : Int) H) (C0 : 0 ≤ j) (C1 : 0 ≤ k - j - 1) (C2 : 0 ≤ 20 - k) (C3 : 0 ≤ p) (C4 : 0 ≤ 6 - l) (C5 : 0 ≤ l - p - 1) (C6 : 0 ≤ st - w) (C7 : 0 ≤ -bo) (C8 : 0 ≤ bo) (F0 : (0 : Int) ≤ j ∧ (j : Int) < j_len 89 ∧ V 89 (j) = p) (F1 : (0 : Int) ≤ j ∧ (j : Int) < j_len 90 ∧ V 90 (j) = w) (F2 : (0 : Int) ≤ j ∧ (j : Int) < j_len 91 ∧ V 91 (j) = bo) (F3 : (0 : Int) ≤ p ∧ (p : Int) < j_len 92 ∧ V 92 (p) = d) (F4 : (0 : Int) ≤ d ∧ (d : Int) < j_len 83 ∧ V 83 (d) = st) : (True) ∧ (q_ftr (V 42) (V 43) (V 44) (g_sg (V 20) (g_b (V 77) 0)) H k l n (0 : Int) ∧ True) := by
  have f0 := F0.2.2
  have f1 := F1.2.2
  have f2 := F2.2.2
  have f3 := F3.2.2
  have f4 := F4.2.2
  obtain ⟨t7, t8, t9⟩ := T0 j (by omega)
  have e0 := t7.trans f0
  have e1 := t8.trans f1
  have e2 := t9.trans f2
  obtain ⟨d9, x9⟩ := r_dgst (st := (g_sg (V 20) (g_b (V 77) 0))) T2 T3 (by omega) (by omega) f3 f4
  rw [d9] at x9
  exact ⟨trivial, r_ftN (by omega) (by omega) e0 (by omega) (by omega) (fun c9 => by
    rw [e1, e2, ← x9] at c9
    exact c9.mp (by omega) (by omega)), trivial⟩
theorem k_ftjB {V : zVw} {j p w bo d st H k l n q : Int} (T0 : q_teq (V 42) (V 43) (V 44) (V 89) (V 90) (V 91)) (T1 : q_ft2 (V 42) (V 43) (V 44) (g_sg (V 20) (g_b (V 77) 0)) H l n j) (T2 : q_dgd (V 92) H l n (-1)) (T3 : q_stb (V 83) (fun i_ => g_sg (V 20) (g_F V q (0 : Int) (0 : Int) (0 : Int) (0 : Int) (0 : Int) (0 : Int) (g_nw V)) i_) (6 : Int) H) (C0 : 0 ≤ j) (C1 : 0 ≤ k - j - 1) (C2 : 0 ≤ 20 - k) (C3 : 0 ≤ p) (C4 : 0 ≤ 6 - l) (C5 : 0 ≤ l - p - 1) (C6 : 0 ≤ w - st - 1) (C7 : 0 ≤ bo - 1) (F0 : (0 : Int) ≤ j ∧ (j : Int) < j_len 89 ∧ V 89 (j) = p) (F1 : (0 : Int) ≤ j ∧ (j : Int) < j_len 90 ∧ V 90 (j) = w) (F2 : (0 : Int) ≤ j ∧ (j : Int) < j_len 91 ∧ V 91 (j) = bo) (F3 : (0 : Int) ≤ p ∧ (p : Int) < j_len 92 ∧ V 92 (p) = d) (F4 : (0 : Int) ≤ d ∧ (d : Int) < j_len 83 ∧ V 83 (d) = st) : (True) ∧ (q_ftr (V 42) (V 43) (V 44) (g_sg (V 20) (g_b (V 77) 0)) H k l n (0 : Int) ∧ True) := by
  have f0 := F0.2.2
  have f1 := F1.2.2
  have f2 := F2.2.2
  have f3 := F3.2.2
  have f4 := F4.2.2
  obtain ⟨t7, t8, t9⟩ := T0 j (by omega)
  have e0 := t7.trans f0
  have e1 := t8.trans f1
  have e2 := t9.trans f2
  obtain ⟨d9, x9⟩ := r_dgst (st := (g_sg (V 20) (g_b (V 77) 0))) T2 T3 (by omega) (by omega) f3 f4
  rw [d9] at x9
  exact ⟨trivial, r_ftN (by omega) (by omega) e0 (by omega) (by omega) (fun c9 => by
    rw [e1, e2, ← x9] at c9
    have := c9.mpr (by omega)
    omega), trivial⟩
theorem k_ftjC {V : zVw} {j p w bo d st H k l n q : Int} (T0 : q_teq (V 42) (V 43) (V 44) (V 89) (V 90) (V 91)) (T1 : q_ft2 (V 42) (V 43) (V 44) (g_sg (V 20) (g_b (V 77) 0)) H l n j) (T2 : q_dgd (V 92) H l n (-1)) (T3 : q_stb (V 83) (fun i_ => g_sg (V 20) (g_F V q (0 : Int) (0 : Int) (0 : Int) (0 : Int) (0 : Int) (0 : Int) (g_nw V)) i_) (6 : Int) H) (C0 : 0 ≤ j) (C1 : 0 ≤ k - j - 1) (C2 : 0 ≤ 20 - k) (C3 : 0 ≤ p) (C4 : 0 ≤ 6 - l) (C5 : 0 ≤ l - p - 1) (C6 : 0 ≤ st - w) (C7 : 0 ≤ bo - 1) (F0 : (0 : Int) ≤ j ∧ (j : Int) < j_len 89 ∧ V 89 (j) = p) (F1 : (0 : Int) ≤ j ∧ (j : Int) < j_len 90 ∧ V 90 (j) = w) (F2 : (0 : Int) ≤ j ∧ (j : Int) < j_len 91 ∧ V 91 (j) = bo) (F3 : (0 : Int) ≤ p ∧ (p : Int) < j_len 92 ∧ V 92 (p) = d) (F4 : (0 : Int) ≤ d ∧ (d : Int) < j_len 83 ∧ V 83 (d) = st) : (True) ∧ (q_ft2 (V 42) (V 43) (V 44) (g_sg (V 20) (g_b (V 77) 0)) H l n (j + 1) ∧ True) := by
  have f0 := F0.2.2
  have f1 := F1.2.2
  have f2 := F2.2.2
  have f3 := F3.2.2
  have f4 := F4.2.2
  obtain ⟨t7, t8, t9⟩ := T0 j (by omega)
  have e0 := t7.trans f0
  have e1 := t8.trans f1
  have e2 := t9.trans f2
  obtain ⟨d9, x9⟩ := r_dgst (st := (g_sg (V 20) (g_b (V 77) 0))) T2 T3 (by omega) (by omega) f3 f4
  rw [d9] at x9
  exact ⟨trivial, r_ftS T1 (by omega) e0 (by omega) (by omega) (by
    rw [e1, e2, ← x9]
    constructor <;> intro <;> omega), trivial⟩
theorem k_ftjD {V : zVw} {j p w bo d st H k l n q : Int} (T0 : q_teq (V 42) (V 43) (V 44) (V 89) (V 90) (V 91)) (T1 : q_ft2 (V 42) (V 43) (V 44) (g_sg (V 20) (g_b (V 77) 0)) H l n j) (T2 : q_dgd (V 92) H l n (-1)) (T3 : q_stb (V 83) (fun i_ => g_sg (V 20) (g_F V q (0 : Int) (0 : Int) (0 : Int) (0 : Int) (0 : Int) (0 : Int) (g_nw V)) i_) (6 : Int) H) (C0 : 0 ≤ j) (C1 : 0 ≤ k - j - 1) (C2 : 0 ≤ 20 - k) (C3 : 0 ≤ p) (C4 : 0 ≤ 6 - l) (C5 : 0 ≤ l - p - 1) (C6 : 0 ≤ w - st - 1) (C7 : 0 ≤ -bo) (C8 : 0 ≤ bo) (F0 : (0 : Int) ≤ j ∧ (j : Int) < j_len 89 ∧ V 89 (j) = p) (F1 : (0 : Int) ≤ j ∧ (j : Int) < j_len 90 ∧ V 90 (j) = w) (F2 : (0 : Int) ≤ j ∧ (j : Int) < j_len 91 ∧ V 91 (j) = bo) (F3 : (0 : Int) ≤ p ∧ (p : Int) < j_len 92 ∧ V 92 (p) = d) (F4 : (0 : Int) ≤ d ∧ (d : Int) < j_len 83 ∧ V 83 (d) = st) : (True) ∧ (q_ft2 (V 42) (V 43) (V 44) (g_sg (V 20) (g_b (V 77) 0)) H l n (j + 1) ∧ True) := by
  have f0 := F0.2.2
  have f1 := F1.2.2
  have f2 := F2.2.2
  have f3 := F3.2.2
  have f4 := F4.2.2
  obtain ⟨t7, t8, t9⟩ := T0 j (by omega)
  have e0 := t7.trans f0
  have e1 := t8.trans f1
  have e2 := t9.trans f2
  obtain ⟨d9, x9⟩ := r_dgst (st := (g_sg (V 20) (g_b (V 77) 0))) T2 T3 (by omega) (by omega) f3 f4
  rw [d9] at x9
  exact ⟨trivial, r_ftS T1 (by omega) e0 (by omega) (by omega) (by
    rw [e1, e2, ← x9]
    constructor <;> intro <;> omega), trivial⟩
theorem k_ftrY {V : zVw} {j H k l n : Int} (T0 : q_ft2 (V 42) (V 43) (V 44) (g_sg (V 20) (g_b (V 77) 0)) H l n j) (C0 : 0 ≤ j - k) (C1 : 0 ≤ k - j) : (True) ∧ (q_ftr (V 42) (V 43) (V 44) (g_sg (V 20) (g_b (V 77) 0)) H k l n (1 : Int) ∧ True) := by
  have e9 : j = k := by omega
  rw [e9] at T0
  exact ⟨trivial, r_ftrY T0, trivial⟩
theorem k_digr {V : zVw} {a v : Int} (T0 : (mOP 108 (Int32.ofInt a) (Int32.ofInt (6 : Int))).toInt = v) (C0 : 0 ≤ a) (C1 : 0 ≤ 100000 - a) : (0 ≤ v ∧ 0 ≤ 5 - v ∧ True) ∧ (True) := by
  have h1 : g_op 108 a 6 = v := T0
  have h9 := g_op_rem (a := a) (b := 6) (by omega) (by omega) (by omega) (by omega)
  exact ⟨⟨by omega, by omega, trivial⟩, trivial⟩
theorem k_idv {V : zVw} {a v : Int} (T0 : (mOP 107 (Int32.ofInt a) (Int32.ofInt (6 : Int))).toInt = v) (C0 : 0 ≤ a) (C1 : 0 ≤ 100000 - a) : (0 ≤ v ∧ 0 ≤ a - v ∧ True) ∧ (True) := by
  have h1 : g_op 107 a 6 = v := T0
  have h9 := g_op_div (a := a) (b := 6) (by omega) (by omega) (by omega) (by omega)
  exact ⟨⟨by omega, by omega, trivial⟩, trivial⟩
theorem k_houC {V : zVw} {i h l H s u : Int} (T0 : 0 ≤ l ∧ l ≠ s ∧ V 56 l = H) (C0 : 0 ≤ u - h - 1) (F0 : (0 : Int) ≤ i ∧ (i : Int) < j_len 92 ∧ V 92 (i) = h) (F1 : (0 : Int) ≤ l ∧ (l : Int) < j_len 56 ∧ V 56 (l) = u) : (0 ≤ H - h - 1 ∧ True) ∧ (True) := by
  have h9 := F1.2.2
  have h8 := T0.2.2
  exact ⟨⟨by omega, trivial⟩, trivial⟩
theorem k_houD {V : zVw} {i h l H s u : Int} (T0 : 0 ≤ l ∧ l ≠ s ∧ V 56 l = H) (C0 : 0 ≤ h - u) (F0 : (0 : Int) ≤ i ∧ (i : Int) < j_len 92 ∧ V 92 (i) = h) (F1 : (0 : Int) ≤ l ∧ (l : Int) < j_len 56 ∧ V 56 (l) = u) : (0 ≤ h - H ∧ True) ∧ (True) := by
  have h9 := F1.2.2
  have h8 := T0.2.2
  exact ⟨⟨by omega, trivial⟩, trivial⟩
theorem k_mct0 {V : zVw} {k l u H q : Int} (T0 : (0 ≤ l ∧ l ≤ 6) ∧ u = r_6 l.toNat) (T1 : q_stb (V 83) (fun i_ => g_sg (V 20) (g_F V q (0 : Int) (0 : Int) (0 : Int) (0 : Int) (0 : Int) (0 : Int) (g_nw V)) i_) (6 : Int) H) (C0 : 0 ≤ k) (C1 : 0 ≤ l) (C2 : 0 ≤ 6 - l) (C3 : 0 ≤ u - 1) (C4 : 0 ≤ 46656 - u) : (True) ∧ (q_mct (V 42) (V 43) (V 44) (g_sg (V 20) (g_b (V 77) 0)) H k l u (0 : Int) (-2 : Int) ∧ True) := by
  have h9 := T0.2
  rw [h9]
  exact ⟨trivial, r_mct0, trivial⟩
theorem k_mctY {V : zVw} {n k l H x m_ f u : Int} (T0 : q_ftr (V 42) (V 43) (V 44) (g_sg (V 20) (g_b (V 77) 0)) H k l n (1 : Int)) (T1 : q_mct (V 42) (V 43) (V 44) (g_sg (V 20) (g_b (V 77) 0)) H k l x m_ f) (T2 : (0 ≤ l ∧ l ≤ 6) ∧ u = r_6 l.toNat) (C0 : 0 ≤ x - n - 1) (C1 : 0 ≤ n - x + 1) (C2 : 0 ≤ n) (C3 : 0 ≤ l - 1) (C4 : 0 ≤ 6 - l) : (0 ≤ m_ ∧ 0 ≤ 46655 - m_ ∧ True) ∧ (q_mct (V 42) (V 43) (V 44) (g_sg (V 20) (g_b (V 77) 0)) H k l n (m_ + 1) n ∧ True) := by
  have e9 : x = n + 1 := by omega
  rw [e9] at T1
  have h9 := r_mctY (r_ftr1 T0) T1 (by omega) (by omega)
  exact ⟨⟨by omega, by omega, trivial⟩, h9.2, trivial⟩
theorem k_mctN {V : zVw} {n k l H x m_ f : Int} (T0 : q_ftr (V 42) (V 43) (V 44) (g_sg (V 20) (g_b (V 77) 0)) H k l n (0 : Int)) (T1 : q_mct (V 42) (V 43) (V 44) (g_sg (V 20) (g_b (V 77) 0)) H k l x m_ f) (C0 : 0 ≤ x - n - 1) (C1 : 0 ≤ n - x + 1) (C2 : 0 ≤ n) (C3 : 0 ≤ l - 1) (C4 : 0 ≤ 6 - l) : (True) ∧ (q_mct (V 42) (V 43) (V 44) (g_sg (V 20) (g_b (V 77) 0)) H k l n m_ f ∧ True) := by
  have e9 : x = n + 1 := by omega
  rw [e9] at T1
  exact ⟨trivial, r_mctN (r_ftr0 T0) T1 (by omega), trivial⟩
theorem k_mctE {V : zVw} {H k l x m_ f : Int} (T0 : q_mct (V 42) (V 43) (V 44) (g_sg (V 20) (g_b (V 77) 0)) H k l x m_ f) (C0 : 0 ≤ -x) (C1 : 0 ≤ x) : (True) ∧ (q_rwc (V 42) (V 43) (V 44) (g_sg (V 20) (g_b (V 77) 0)) H k l (0 : Int) m_ ∧ q_rwc (V 42) (V 43) (V 44) (g_sg (V 20) (g_b (V 77) 0)) H k l (1 : Int) f ∧ True) := by
  have e9 : x = 0 := by omega
  rw [e9] at T0
  have h9 := r_mctE T0
  exact ⟨trivial, h9.1, h9.2, trivial⟩
theorem k_qeRw {V : zVw} {H k l w u z : Int} (T0 : q_rwc (V 42) (V 43) (V 44) (g_sg (V 20) (g_b (V 77) 0)) H k l w u) (T1 : q_rwc (V 42) (V 43) (V 44) (g_sg (V 20) (g_b (V 77) 0)) H k l w z) : (0 ≤ u - z ∧ 0 ≤ z - u ∧ True) ∧ (True) := by
  have h9 : u = _ := T0
  have h8 : z = _ := T1
  rw [← h8] at h9
  exact ⟨⟨by omega, by omega, trivial⟩, trivial⟩
theorem k_bpc0 {V : zVw} {f fr H k l : Int} (T0 : q_rws (V 42) (V 43) (V 44) (g_sg (V 20) (g_b (V 77) 0)) H k l f fr) (C0 : 0 ≤ f) (C1 : 0 ≤ 46656 - f) : (True) ∧ (q_bpc (V 46) f (0 : Int) (-2 : Int) (f + 1) ∧ True) := by
  exact ⟨trivial, ⟨⟨by omega, rfl⟩, fun _ => rfl⟩, trivial⟩
theorem k_sorb {V : zVw} {i x f fr H k l v : Int} (T0 : q_sor (V 42) (V 43) (V 44) (g_sg (V 20) (g_b (V 77) 0)) (V 46) H k l v) (T1 : q_rws (V 42) (V 43) (V 44) (g_sg (V 20) (g_b (V 77) 0)) H k l f fr) (C0 : 0 ≤ i) (C1 : 0 ≤ l - i - 1) (C2 : 0 ≤ 6 - l) (F0 : (0 : Int) ≤ i ∧ (i : Int) < j_len 46 ∧ V 46 (i) = x) : (0 ≤ x ∧ 0 ≤ f - x ∧ 0 ≤ 46656 - f ∧ True) ∧ (True) := by
  have f0 := F0.2.2
  have h9 := T0 i (by omega) (by omega)
  rw [f0] at h9
  have l9 := r_6_pos l.toNat
  have l6 := r_6_b (l := l) (by omega)
  have b9 := r_ca_b (pl := V 42) (le := V 43) (so := V 44) (st := (g_sg (V 20) (g_b (V 77) 0))) (H := H) (k := k) (l := l) (w := v) (t := i) (x := r_6 l.toNat) (by omega)
  have c9 := r_ca_le (pl := V 42) (le := V 43) (so := V 44) (st := (g_sg (V 20) (g_b (V 77) 0))) (H := H) (k := k) (l := l) (w := v) (t := i) (x := r_6 l.toNat)
  have d9 := r_cs_1b (K := r_Kt (V 42) (V 43) (V 44) (g_sg (V 20) (g_b (V 77) 0)) H k l) (c := r_6 l.toNat) (by omega)
  rw [← T1.1] at c9 d9
  rw [← h9] at b9 c9
  exact ⟨⟨by omega, by omega, by omega, trivial⟩, trivial⟩
theorem k_mxs {V : zVw} {x y : Int} : ((0 ≤ x - y ∧ True) ∧ (True)) ∨ ((0 ≤ y - x - 1 ∧ True) ∧ (True)) := by
  by_cases c9 : 0 ≤ x - y
  · exact Or.inl ⟨⟨c9, trivial⟩, trivial⟩
  · exact Or.inr ⟨⟨by omega, trivial⟩, trivial⟩
theorem k_bpYa {V : zVw} {i z x f b w : Int} (T0 : q_bpc (V 46) f i b w) (C0 : 0 ≤ i) (C1 : 0 ≤ 5 - i) (C2 : 0 ≤ f - 1) (C3 : 0 ≤ w - z - 1) (C4 : 0 ≤ 2 * x - f) (C5 : 0 ≤ z - x) (C6 : 0 ≤ x - z) (F0 : (0 : Int) ≤ i ∧ (i : Int) < j_len 46 ∧ V 46 (i) = x) : (True) ∧ (q_bpc (V 46) f (i + 1) i z ∧ True) := by
  have f0 := F0.2.2
  exact ⟨trivial, r_bpY T0 f0 (Or.inl ⟨by omega, by omega⟩) (by omega) (by omega), trivial⟩
theorem k_bpNa {V : zVw} {i z x f b w : Int} (T0 : q_bpc (V 46) f i b w) (C0 : 0 ≤ i) (C1 : 0 ≤ 5 - i) (C2 : 0 ≤ f - 1) (C3 : 0 ≤ z - w) (C4 : 0 ≤ 2 * x - f) (C5 : 0 ≤ z - x) (C6 : 0 ≤ x - z) (F0 : (0 : Int) ≤ i ∧ (i : Int) < j_len 46 ∧ V 46 (i) = x) : (True) ∧ (q_bpc (V 46) f (i + 1) b w ∧ True) := by
  have f0 := F0.2.2
  exact ⟨trivial, r_bpN (z := z) T0 f0 (Or.inl ⟨by omega, by omega⟩) (by omega) (by omega), trivial⟩
theorem k_bpYb {V : zVw} {i z x f b w : Int} (T0 : q_bpc (V 46) f i b w) (C0 : 0 ≤ i) (C1 : 0 ≤ 5 - i) (C2 : 0 ≤ f - 1) (C3 : 0 ≤ w - z - 1) (C4 : 0 ≤ f - 2 * x) (C5 : 0 ≤ z + x - f) (C6 : 0 ≤ f - z - x) (F0 : (0 : Int) ≤ i ∧ (i : Int) < j_len 46 ∧ V 46 (i) = x) : (True) ∧ (q_bpc (V 46) f (i + 1) i z ∧ True) := by
  have f0 := F0.2.2
  exact ⟨trivial, r_bpY T0 f0 (Or.inr ⟨by omega, by omega⟩) (by omega) (by omega), trivial⟩
theorem k_bpNb {V : zVw} {i z x f b w : Int} (T0 : q_bpc (V 46) f i b w) (C0 : 0 ≤ i) (C1 : 0 ≤ 5 - i) (C2 : 0 ≤ f - 1) (C3 : 0 ≤ z - w) (C4 : 0 ≤ f - 2 * x) (C5 : 0 ≤ z + x - f) (C6 : 0 ≤ f - z - x) (F0 : (0 : Int) ≤ i ∧ (i : Int) < j_len 46 ∧ V 46 (i) = x) : (True) ∧ (q_bpc (V 46) f (i + 1) b w ∧ True) := by
  have f0 := F0.2.2
  exact ⟨trivial, r_bpN (z := z) T0 f0 (Or.inr ⟨by omega, by omega⟩) (by omega) (by omega), trivial⟩
theorem k_bpE {V : zVw} {i u w f fr H k l v : Int} (T0 : q_bpc (V 46) f i u w) (T1 : q_sor (V 42) (V 43) (V 44) (g_sg (V 20) (g_b (V 77) 0)) (V 46) H k l v) (T2 : q_rws (V 42) (V 43) (V 44) (g_sg (V 20) (g_b (V 77) 0)) H k l f fr) (C0 : 0 ≤ i - l) (C1 : 0 ≤ l - i) (C2 : 0 ≤ 6 - l) : (True) ∧ (q_fec (V 42) (V 43) (V 44) (g_sg (V 20) (g_b (V 77) 0)) H k l v u ∧ True) := by
  have e9 : i = l := by omega
  rw [e9] at T0
  obtain ⟨⟨i9, e8⟩, e7⟩ := T0
  exact ⟨trivial, r_fec i9 (Or.inl e8) e7 T2.1 T1, trivial⟩
theorem k_bp0 {V : zVw} {i u w f fr H k l v : Int} (T0 : q_bpc (V 46) f i u w) (T1 : q_sor (V 42) (V 43) (V 44) (g_sg (V 20) (g_b (V 77) 0)) (V 46) H k l v) (T2 : q_rws (V 42) (V 43) (V 44) (g_sg (V 20) (g_b (V 77) 0)) H k l f fr) (C0 : 0 ≤ -f) : (True) ∧ (q_fec (V 42) (V 43) (V 44) (g_sg (V 20) (g_b (V 77) 0)) H k l v u ∧ True) := by
  obtain ⟨⟨i9, e8⟩, e7⟩ := T0
  have l9 : 0 ≤ l ∨ l < 0 := by omega
  have f9 := e7 (by omega)
  have h9 : q_fec (V 42) (V 43) (V 44) (g_sg (V 20) (g_b (V 77) 0)) H k l v u := by
    unfold q_fec
    rw [← T2.1, if_neg (by omega)]
    exact f9
  exact ⟨trivial, h9, trivial⟩
theorem k_fla0 {V : zVw} : (True) ∧ ((∀ t : Int, 0 ≤ t → t < (0 : Int) → V 93 t = 0) ∧ True) := by
  exact ⟨trivial, (fun t t0 t1 => by omega), trivial⟩
theorem k_flaS {V : zVw} {i : Int} (T0 : ∀ t : Int, 0 ≤ t → t < i → V 93 t = 0) (C0 : 0 ≤ i) (C1 : 0 ≤ 5 - i) (F0 : (0 : Int) ≤ i ∧ (i : Int) < j_len 93 ∧ V 93 (i) = 0) : (True) ∧ ((∀ t : Int, 0 ≤ t → t < (i + 1) → V 93 t = 0) ∧ True) := by
  have h9 := F0.2.2
  exact ⟨trivial, (fun t t0 t1 => by
    by_cases c9 : t < i
    · exact T0 t t0 c9
    · rw [show t = i by omega]; exact h9), trivial⟩
theorem k_abv0 {V : zVw} {k l v H q : Int} (T0 : ∀ t : Int, 0 ≤ t → t < (6 : Int) → V 93 t = 0) (T1 : q_stb (V 83) (fun i_ => g_sg (V 20) (g_F V q (0 : Int) (0 : Int) (0 : Int) (0 : Int) (0 : Int) (0 : Int) (g_nw V)) i_) (6 : Int) H) (C0 : 0 ≤ k) (C1 : 0 ≤ l - 1) (C2 : 0 ≤ 6 - l) : (True) ∧ (q_abv (V 42) (V 43) (V 44) (g_sg (V 20) (g_b (V 77) 0)) (V 93) H k l v (0 : Int) ∧ q_pct (V 42) (V 43) (V 44) (g_sg (V 20) (g_b (V 77) 0)) H k l (0 : Int) (0 : Int) ∧ True) := by
  have h9 := r_abv0 (pl := V 42) (le := V 43) (so := V 44) (st := (g_sg (V 20) (g_b (V 77) 0))) (H := H) (k := k) (l := l) (w := v) (by omega) T0
  exact ⟨trivial, h9.1, h9.2, trivial⟩
theorem k_abN {V : zVw} {x k l H v f u : Int} (T0 : q_ftr (V 42) (V 43) (V 44) (g_sg (V 20) (g_b (V 77) 0)) H k l x (0 : Int)) (T1 : q_abv (V 42) (V 43) (V 44) (g_sg (V 20) (g_b (V 77) 0)) (V 93) H k l v x) (T2 : q_pct (V 42) (V 43) (V 44) (g_sg (V 20) (g_b (V 77) 0)) H k l x f) (T3 : (0 ≤ l ∧ l ≤ 6) ∧ u = r_6 l.toNat) (C0 : 0 ≤ x) (C1 : 0 ≤ l - 1) (C2 : 0 ≤ 6 - l) (C3 : 0 ≤ u - x - 1) : (0 ≤ 46655 - x ∧ True) ∧ (q_abv (V 42) (V 43) (V 44) (g_sg (V 20) (g_b (V 77) 0)) (V 93) H k l v (x + 1) ∧ q_pct (V 42) (V 43) (V 44) (g_sg (V 20) (g_b (V 77) 0)) H k l (x + 1) f ∧ True) := by
  have l6 := r_6_b (l := l) (by omega)
  have u9 := T3.2
  have h9 := r_abN (r_ftr0 T0) T1 T2 (by omega)
  exact ⟨⟨by omega, trivial⟩, h9.1, h9.2, trivial⟩
theorem k_abX {V : zVw} {x k l H v f g u : Int} (T0 : q_ftr (V 42) (V 43) (V 44) (g_sg (V 20) (g_b (V 77) 0)) H k l x (1 : Int)) (T1 : q_abv (V 42) (V 43) (V 44) (g_sg (V 20) (g_b (V 77) 0)) (V 93) H k l v x) (T2 : q_pct (V 42) (V 43) (V 44) (g_sg (V 20) (g_b (V 77) 0)) H k l x f) (T3 : (0 ≤ l ∧ l ≤ 6) ∧ u = r_6 l.toNat) (C0 : 0 ≤ x) (C1 : 0 ≤ l - 1) (C2 : 0 ≤ 6 - l) (C3 : 0 ≤ u - x - 1) (C4 : 0 ≤ g - f - 1) (C5 : 0 ≤ f - g + 1) : (0 ≤ f ∧ 0 ≤ 46655 - f ∧ True) ∧ (q_abx (V 42) (V 43) (V 44) (g_sg (V 20) (g_b (V 77) 0)) (V 93) H k l v x (0 : Int) ∧ q_pct (V 42) (V 43) (V 44) (g_sg (V 20) (g_b (V 77) 0)) H k l (x + 1) g ∧ True) := by
  have l6 := r_6_b (l := l) (by omega)
  have u9 := T3.2
  have h9 := r_abX (r_ftr1 T0) T1 T2 (by omega)
  have g9 : g = f + 1 := by omega
  rw [g9]
  exact ⟨⟨by omega, by omega, trivial⟩, h9.2.1, h9.2.2, trivial⟩
theorem k_pctb {V : zVw} {x k l H f u : Int} (T0 : q_pct (V 42) (V 43) (V 44) (g_sg (V 20) (g_b (V 77) 0)) H k l x f) (T1 : (0 ≤ l ∧ l ≤ 6) ∧ u = r_6 l.toNat) (C0 : 0 ≤ x) (C1 : 0 ≤ l - 1) (C2 : 0 ≤ 6 - l) (C3 : 0 ≤ u - x - 1) : (0 ≤ f ∧ 0 ≤ 46655 - f ∧ True) ∧ (True) := by
  have l6 := r_6_b (l := l) (by omega)
  have u9 := T1.2
  have b9 := r_cs_1b (K := r_Kt (V 42) (V 43) (V 44) (g_sg (V 20) (g_b (V 77) 0)) H k l) (c := x) (by omega)
  rw [← T0.2] at b9
  exact ⟨⟨by omega, by omega, trivial⟩, trivial⟩
theorem k_aby {V : zVw} {i w x k l H v u : Int} (T0 : q_abx (V 42) (V 43) (V 44) (g_sg (V 20) (g_b (V 77) 0)) (V 93) H k l v x i) (T1 : (0 ≤ l ∧ l ≤ 6) ∧ u = r_6 l.toNat) (C0 : 0 ≤ i) (C1 : 0 ≤ l - i - 1) (C2 : 0 ≤ 6 - l) (C3 : 0 ≤ x) (C4 : 0 ≤ u - x - 1) (F0 : (0 : Int) ≤ i ∧ (i : Int) < j_len 93 ∧ V 93 (i) = w) : (0 ≤ w ∧ 0 ≤ 46655 - w ∧ True) ∧ (q_aby (V 42) (V 43) (V 44) (g_sg (V 20) (g_b (V 77) 0)) (V 93) H k l v x i w ∧ True) := by
  have l6 := r_6_b (l := l) (by omega)
  have u9 := T1.2
  have f0 := F0.2.2
  have h9 := T0.2 i (by omega) (by omega)
  rw [f0, if_neg (by omega)] at h9
  have b9 := r_ca_b (pl := V 42) (le := V 43) (so := V 44) (st := (g_sg (V 20) (g_b (V 77) 0))) (H := H) (k := k) (l := l) (w := v) (t := i) (x := x) (by omega)
  rw [← h9] at b9
  exact ⟨⟨by omega, by omega, trivial⟩, ⟨T0.1, fun t t0 t1 _ => T0.2 t t0 t1, h9⟩, trivial⟩
theorem k_abA {V : zVw} {i w y d st x k l H v q : Int} (T0 : q_dgd (V 92) H l x (-1)) (T1 : q_stb (V 83) (fun i_ => g_sg (V 20) (g_F V q (0 : Int) (0 : Int) (0 : Int) (0 : Int) (0 : Int) (0 : Int) (g_nw V)) i_) (6 : Int) H) (T2 : q_aby (V 42) (V 43) (V 44) (g_sg (V 20) (g_b (V 77) 0)) (V 93) H k l v x i w) (C0 : 0 ≤ i) (C1 : 0 ≤ l - i - 1) (C2 : 0 ≤ 6 - l) (C3 : 0 ≤ x) (C4 : 0 ≤ st - v) (C5 : 0 ≤ y - w - 1) (C6 : 0 ≤ w - y + 1) (F0 : (0 : Int) ≤ i ∧ (i : Int) < j_len 93 ∧ V 93 (i) = y) (F1 : (0 : Int) ≤ i ∧ (i : Int) < j_len 92 ∧ V 92 (i) = d) (F2 : (0 : Int) ≤ d ∧ (d : Int) < j_len 83 ∧ V 83 (d) = st) : (True) ∧ (q_abx (V 42) (V 43) (V 44) (g_sg (V 20) (g_b (V 77) 0)) (V 93) H k l v x (i + 1) ∧ True) := by
  have f0 := F0.2.2
  have f1 := F1.2.2
  have f2 := F2.2.2
  obtain ⟨d9, x9⟩ := r_dgst (st := (g_sg (V 20) (g_b (V 77) 0))) T0 T1 (by omega) (by omega) f1 f2
  rw [d9] at x9
  exact ⟨trivial, r_abA T2 (by omega) (by omega) (by omega), trivial⟩
theorem k_abB {V : zVw} {i d st x k l H v q : Int} (T0 : q_dgd (V 92) H l x (-1)) (T1 : q_stb (V 83) (fun i_ => g_sg (V 20) (g_F V q (0 : Int) (0 : Int) (0 : Int) (0 : Int) (0 : Int) (0 : Int) (g_nw V)) i_) (6 : Int) H) (T2 : q_abx (V 42) (V 43) (V 44) (g_sg (V 20) (g_b (V 77) 0)) (V 93) H k l v x i) (C0 : 0 ≤ i) (C1 : 0 ≤ l - i - 1) (C2 : 0 ≤ 6 - l) (C3 : 0 ≤ x) (C4 : 0 ≤ v - st - 1) (F0 : (0 : Int) ≤ i ∧ (i : Int) < j_len 92 ∧ V 92 (i) = d) (F1 : (0 : Int) ≤ d ∧ (d : Int) < j_len 83 ∧ V 83 (d) = st) : (True) ∧ (q_abx (V 42) (V 43) (V 44) (g_sg (V 20) (g_b (V 77) 0)) (V 93) H k l v x (i + 1) ∧ True) := by
  have f1 := F0.2.2
  have f2 := F1.2.2
  obtain ⟨d9, x9⟩ := r_dgst (st := (g_sg (V 20) (g_b (V 77) 0))) T0 T1 (by omega) (by omega) f1 f2
  rw [d9] at x9
  exact ⟨trivial, r_abB T2 (by omega), trivial⟩
theorem k_abE {V : zVw} {i x k l H v u : Int} (T0 : q_abx (V 42) (V 43) (V 44) (g_sg (V 20) (g_b (V 77) 0)) (V 93) H k l v x i) (T1 : (0 ≤ l ∧ l ≤ 6) ∧ u = r_6 l.toNat) (C0 : 0 ≤ i - l) (C1 : 0 ≤ l - i) (C2 : 0 ≤ x) (C3 : 0 ≤ l - 1) (C4 : 0 ≤ 6 - l) (C5 : 0 ≤ u - x - 1) : (0 ≤ 46655 - x ∧ True) ∧ (q_abv (V 42) (V 43) (V 44) (g_sg (V 20) (g_b (V 77) 0)) (V 93) H k l v (x + 1) ∧ True) := by
  have l6 := r_6_b (l := l) (by omega)
  have u9 := T1.2
  have e9 : i = l := by omega
  rw [e9] at T0
  exact ⟨⟨by omega, trivial⟩, r_abE T0, trivial⟩
theorem k_avE {V : zVw} {x k l H v f u : Int} (T0 : q_abv (V 42) (V 43) (V 44) (g_sg (V 20) (g_b (V 77) 0)) (V 93) H k l v x) (T1 : q_pct (V 42) (V 43) (V 44) (g_sg (V 20) (g_b (V 77) 0)) H k l x f) (T2 : (0 ≤ l ∧ l ≤ 6) ∧ u = r_6 l.toNat) (C0 : 0 ≤ l - 1) (C1 : 0 ≤ 6 - l) (C2 : 0 ≤ x - u) : (0 ≤ f ∧ 0 ≤ 46656 - f ∧ True) ∧ (q_abv (V 42) (V 43) (V 44) (g_sg (V 20) (g_b (V 77) 0)) (V 93) H k l v u ∧ q_pct (V 42) (V 43) (V 44) (g_sg (V 20) (g_b (V 77) 0)) H k l u f ∧ q_bpm (V 93) f (0 : Int) (-2 : Int) (0 : Int) ∧ True) := by
  have l6 := r_6_b (l := l) (by omega)
  have u9 := T2.2
  have x9 := T0.1
  have e9 : x = u := by omega
  rw [e9] at T0 T1
  have b9 := r_cs_1b (K := r_Kt (V 42) (V 43) (V 44) (g_sg (V 20) (g_b (V 77) 0)) H k l) (c := u) (by omega)
  rw [← T1.2] at b9
  exact ⟨⟨by omega, by omega, trivial⟩, T0, T1, ⟨⟨by omega, Or.inl ⟨rfl, rfl⟩⟩, fun _ => rfl⟩, trivial⟩
theorem k_avb {V : zVw} {i x k l H v f u : Int} (T0 : q_abv (V 42) (V 43) (V 44) (g_sg (V 20) (g_b (V 77) 0)) (V 93) H k l v u) (T1 : q_pct (V 42) (V 43) (V 44) (g_sg (V 20) (g_b (V 77) 0)) H k l u f) (T2 : (0 ≤ l ∧ l ≤ 6) ∧ u = r_6 l.toNat) (C0 : 0 ≤ i) (C1 : 0 ≤ l - i - 1) (C2 : 0 ≤ 6 - l) (F0 : (0 : Int) ≤ i ∧ (i : Int) < j_len 93 ∧ V 93 (i) = x) : (0 ≤ x ∧ 0 ≤ f - x ∧ 0 ≤ 46656 - f ∧ True) ∧ (True) := by
  have l6 := r_6_b (l := l) (by omega)
  have p6 := r_6_pos l.toNat
  have u9 := T2.2
  have f0 := F0.2.2
  have h9 := T0.2 i (by omega) (by omega)
  rw [f0] at h9
  have b9 := r_ca_b (pl := V 42) (le := V 43) (so := V 44) (st := (g_sg (V 20) (g_b (V 77) 0))) (H := H) (k := k) (l := l) (w := v) (t := i) (x := u) (by omega)
  have c9 := r_ca_le (pl := V 42) (le := V 43) (so := V 44) (st := (g_sg (V 20) (g_b (V 77) 0))) (H := H) (k := k) (l := l) (w := v) (t := i) (x := u)
  have d9 := r_cs_1b (K := r_Kt (V 42) (V 43) (V 44) (g_sg (V 20) (g_b (V 77) 0)) H k l) (c := u) (by omega)
  rw [← T1.2] at c9 d9
  rw [← h9] at b9 c9
  exact ⟨⟨by omega, by omega, by omega, trivial⟩, trivial⟩
theorem k_bmY0a {V : zVw} {i z x f b w H k l v u : Int} (T0 : q_bpm (V 93) f i b w) (T1 : q_abv (V 42) (V 43) (V 44) (g_sg (V 20) (g_b (V 77) 0)) (V 93) H k l v u) (T2 : q_pct (V 42) (V 43) (V 44) (g_sg (V 20) (g_b (V 77) 0)) H k l u f) (T3 : (0 ≤ l ∧ l ≤ 6) ∧ u = r_6 l.toNat) (C0 : 0 ≤ i) (C1 : 0 ≤ l - i - 1) (C2 : 0 ≤ 6 - l) (C3 : 0 ≤ f - 1) (C4 : 0 ≤ -b - 1) (C5 : 0 ≤ 2 * x - f - 1) (C6 : 0 ≤ z - x) (C7 : 0 ≤ x - z) (F0 : (0 : Int) ≤ i ∧ (i : Int) < j_len 93 ∧ V 93 (i) = x) : (True) ∧ (q_bpm (V 93) f (i + 1) i z ∧ True) := by
  have l6 := r_6_b (l := l) (by omega)
  have p6 := r_6_pos l.toNat
  have u9 := T3.2
  have f0 := F0.2.2
  have h9 := T1.2 i (by omega) (by omega)
  rw [f0] at h9
  have b9 := r_ca_b (pl := V 42) (le := V 43) (so := V 44) (st := (g_sg (V 20) (g_b (V 77) 0))) (H := H) (k := k) (l := l) (w := v) (t := i) (x := u) (by omega)
  have c9 := r_ca_le (pl := V 42) (le := V 43) (so := V 44) (st := (g_sg (V 20) (g_b (V 77) 0))) (H := H) (k := k) (l := l) (w := v) (t := i) (x := u)
  have d9 := r_cs_1b (K := r_Kt (V 42) (V 43) (V 44) (g_sg (V 20) (g_b (V 77) 0)) H k l) (c := u) (by omega)
  rw [← T2.2] at c9 d9
  rw [← h9] at b9 c9
  exact ⟨trivial, r_bmY T0 f0 ⟨by omega, by omega⟩ (Or.inl ⟨by omega, by omega⟩) (by omega) (Or.inl (by omega)), trivial⟩
theorem k_bmY1a {V : zVw} {i z x f b w H k l v u : Int} (T0 : q_bpm (V 93) f i b w) (T1 : q_abv (V 42) (V 43) (V 44) (g_sg (V 20) (g_b (V 77) 0)) (V 93) H k l v u) (T2 : q_pct (V 42) (V 43) (V 44) (g_sg (V 20) (g_b (V 77) 0)) H k l u f) (T3 : (0 ≤ l ∧ l ≤ 6) ∧ u = r_6 l.toNat) (C0 : 0 ≤ i) (C1 : 0 ≤ l - i - 1) (C2 : 0 ≤ 6 - l) (C3 : 0 ≤ f - 1) (C4 : 0 ≤ w - z - 1) (C5 : 0 ≤ 2 * x - f - 1) (C6 : 0 ≤ z - x) (C7 : 0 ≤ x - z) (F0 : (0 : Int) ≤ i ∧ (i : Int) < j_len 93 ∧ V 93 (i) = x) : (True) ∧ (q_bpm (V 93) f (i + 1) i z ∧ True) := by
  have l6 := r_6_b (l := l) (by omega)
  have p6 := r_6_pos l.toNat
  have u9 := T3.2
  have f0 := F0.2.2
  have h9 := T1.2 i (by omega) (by omega)
  rw [f0] at h9
  have b9 := r_ca_b (pl := V 42) (le := V 43) (so := V 44) (st := (g_sg (V 20) (g_b (V 77) 0))) (H := H) (k := k) (l := l) (w := v) (t := i) (x := u) (by omega)
  have c9 := r_ca_le (pl := V 42) (le := V 43) (so := V 44) (st := (g_sg (V 20) (g_b (V 77) 0))) (H := H) (k := k) (l := l) (w := v) (t := i) (x := u)
  have d9 := r_cs_1b (K := r_Kt (V 42) (V 43) (V 44) (g_sg (V 20) (g_b (V 77) 0)) H k l) (c := u) (by omega)
  rw [← T2.2] at c9 d9
  rw [← h9] at b9 c9
  exact ⟨trivial, r_bmY T0 f0 ⟨by omega, by omega⟩ (Or.inl ⟨by omega, by omega⟩) (by omega) (Or.inr (by omega)), trivial⟩
theorem k_bmNa {V : zVw} {i z x f b w H k l v u : Int} (T0 : q_bpm (V 93) f i b w) (T1 : q_abv (V 42) (V 43) (V 44) (g_sg (V 20) (g_b (V 77) 0)) (V 93) H k l v u) (T2 : q_pct (V 42) (V 43) (V 44) (g_sg (V 20) (g_b (V 77) 0)) H k l u f) (T3 : (0 ≤ l ∧ l ≤ 6) ∧ u = r_6 l.toNat) (C0 : 0 ≤ i) (C1 : 0 ≤ l - i - 1) (C2 : 0 ≤ 6 - l) (C3 : 0 ≤ f - 1) (C4 : 0 ≤ b) (C5 : 0 ≤ z - w) (C6 : 0 ≤ 2 * x - f - 1) (C7 : 0 ≤ z - x) (C8 : 0 ≤ x - z) (F0 : (0 : Int) ≤ i ∧ (i : Int) < j_len 93 ∧ V 93 (i) = x) : (True) ∧ (q_bpm (V 93) f (i + 1) b w ∧ True) := by
  have l6 := r_6_b (l := l) (by omega)
  have p6 := r_6_pos l.toNat
  have u9 := T3.2
  have f0 := F0.2.2
  have h9 := T1.2 i (by omega) (by omega)
  rw [f0] at h9
  have b9 := r_ca_b (pl := V 42) (le := V 43) (so := V 44) (st := (g_sg (V 20) (g_b (V 77) 0))) (H := H) (k := k) (l := l) (w := v) (t := i) (x := u) (by omega)
  have c9 := r_ca_le (pl := V 42) (le := V 43) (so := V 44) (st := (g_sg (V 20) (g_b (V 77) 0))) (H := H) (k := k) (l := l) (w := v) (t := i) (x := u)
  have d9 := r_cs_1b (K := r_Kt (V 42) (V 43) (V 44) (g_sg (V 20) (g_b (V 77) 0)) H k l) (c := u) (by omega)
  rw [← T2.2] at c9 d9
  rw [← h9] at b9 c9
  exact ⟨trivial, r_bmN (z := z) T0 f0 (Or.inl ⟨by omega, by omega⟩) (by omega) (by omega) (by omega), trivial⟩
theorem k_bmY0b {V : zVw} {i z x f b w H k l v u : Int} (T0 : q_bpm (V 93) f i b w) (T1 : q_abv (V 42) (V 43) (V 44) (g_sg (V 20) (g_b (V 77) 0)) (V 93) H k l v u) (T2 : q_pct (V 42) (V 43) (V 44) (g_sg (V 20) (g_b (V 77) 0)) H k l u f) (T3 : (0 ≤ l ∧ l ≤ 6) ∧ u = r_6 l.toNat) (C0 : 0 ≤ i) (C1 : 0 ≤ l - i - 1) (C2 : 0 ≤ 6 - l) (C3 : 0 ≤ f - 1) (C4 : 0 ≤ -b - 1) (C5 : 0 ≤ f - 2 * x) (C6 : 0 ≤ z + x - f) (C7 : 0 ≤ f - z - x) (F0 : (0 : Int) ≤ i ∧ (i : Int) < j_len 93 ∧ V 93 (i) = x) : (True) ∧ (q_bpm (V 93) f (i + 1) i z ∧ True) := by
  have l6 := r_6_b (l := l) (by omega)
  have p6 := r_6_pos l.toNat
  have u9 := T3.2
  have f0 := F0.2.2
  have h9 := T1.2 i (by omega) (by omega)
  rw [f0] at h9
  have b9 := r_ca_b (pl := V 42) (le := V 43) (so := V 44) (st := (g_sg (V 20) (g_b (V 77) 0))) (H := H) (k := k) (l := l) (w := v) (t := i) (x := u) (by omega)
  have c9 := r_ca_le (pl := V 42) (le := V 43) (so := V 44) (st := (g_sg (V 20) (g_b (V 77) 0))) (H := H) (k := k) (l := l) (w := v) (t := i) (x := u)
  have d9 := r_cs_1b (K := r_Kt (V 42) (V 43) (V 44) (g_sg (V 20) (g_b (V 77) 0)) H k l) (c := u) (by omega)
  rw [← T2.2] at c9 d9
  rw [← h9] at b9 c9
  exact ⟨trivial, r_bmY T0 f0 ⟨by omega, by omega⟩ (Or.inr ⟨by omega, by omega⟩) (by omega) (Or.inl (by omega)), trivial⟩
theorem k_bmY1b {V : zVw} {i z x f b w H k l v u : Int} (T0 : q_bpm (V 93) f i b w) (T1 : q_abv (V 42) (V 43) (V 44) (g_sg (V 20) (g_b (V 77) 0)) (V 93) H k l v u) (T2 : q_pct (V 42) (V 43) (V 44) (g_sg (V 20) (g_b (V 77) 0)) H k l u f) (T3 : (0 ≤ l ∧ l ≤ 6) ∧ u = r_6 l.toNat) (C0 : 0 ≤ i) (C1 : 0 ≤ l - i - 1) (C2 : 0 ≤ 6 - l) (C3 : 0 ≤ f - 1) (C4 : 0 ≤ w - z - 1) (C5 : 0 ≤ f - 2 * x) (C6 : 0 ≤ z + x - f) (C7 : 0 ≤ f - z - x) (F0 : (0 : Int) ≤ i ∧ (i : Int) < j_len 93 ∧ V 93 (i) = x) : (True) ∧ (q_bpm (V 93) f (i + 1) i z ∧ True) := by
  have l6 := r_6_b (l := l) (by omega)
  have p6 := r_6_pos l.toNat
  have u9 := T3.2
  have f0 := F0.2.2
  have h9 := T1.2 i (by omega) (by omega)
  rw [f0] at h9
  have b9 := r_ca_b (pl := V 42) (le := V 43) (so := V 44) (st := (g_sg (V 20) (g_b (V 77) 0))) (H := H) (k := k) (l := l) (w := v) (t := i) (x := u) (by omega)
  have c9 := r_ca_le (pl := V 42) (le := V 43) (so := V 44) (st := (g_sg (V 20) (g_b (V 77) 0))) (H := H) (k := k) (l := l) (w := v) (t := i) (x := u)
  have d9 := r_cs_1b (K := r_Kt (V 42) (V 43) (V 44) (g_sg (V 20) (g_b (V 77) 0)) H k l) (c := u) (by omega)
  rw [← T2.2] at c9 d9
  rw [← h9] at b9 c9
  exact ⟨trivial, r_bmY T0 f0 ⟨by omega, by omega⟩ (Or.inr ⟨by omega, by omega⟩) (by omega) (Or.inr (by omega)), trivial⟩
theorem k_bmNb {V : zVw} {i z x f b w H k l v u : Int} (T0 : q_bpm (V 93) f i b w) (T1 : q_abv (V 42) (V 43) (V 44) (g_sg (V 20) (g_b (V 77) 0)) (V 93) H k l v u) (T2 : q_pct (V 42) (V 43) (V 44) (g_sg (V 20) (g_b (V 77) 0)) H k l u f) (T3 : (0 ≤ l ∧ l ≤ 6) ∧ u = r_6 l.toNat) (C0 : 0 ≤ i) (C1 : 0 ≤ l - i - 1) (C2 : 0 ≤ 6 - l) (C3 : 0 ≤ f - 1) (C4 : 0 ≤ b) (C5 : 0 ≤ z - w) (C6 : 0 ≤ f - 2 * x) (C7 : 0 ≤ z + x - f) (C8 : 0 ≤ f - z - x) (F0 : (0 : Int) ≤ i ∧ (i : Int) < j_len 93 ∧ V 93 (i) = x) : (True) ∧ (q_bpm (V 93) f (i + 1) b w ∧ True) := by
  have l6 := r_6_b (l := l) (by omega)
  have p6 := r_6_pos l.toNat
  have u9 := T3.2
  have f0 := F0.2.2
  have h9 := T1.2 i (by omega) (by omega)
  rw [f0] at h9
  have b9 := r_ca_b (pl := V 42) (le := V 43) (so := V 44) (st := (g_sg (V 20) (g_b (V 77) 0))) (H := H) (k := k) (l := l) (w := v) (t := i) (x := u) (by omega)
  have c9 := r_ca_le (pl := V 42) (le := V 43) (so := V 44) (st := (g_sg (V 20) (g_b (V 77) 0))) (H := H) (k := k) (l := l) (w := v) (t := i) (x := u)
  have d9 := r_cs_1b (K := r_Kt (V 42) (V 43) (V 44) (g_sg (V 20) (g_b (V 77) 0)) H k l) (c := u) (by omega)
  rw [← T2.2] at c9 d9
  rw [← h9] at b9 c9
  exact ⟨trivial, r_bmN (z := z) T0 f0 (Or.inr ⟨by omega, by omega⟩) (by omega) (by omega) (by omega), trivial⟩
theorem k_bmE {V : zVw} {i y w f H k l v u : Int} (T0 : q_bpm (V 93) f i y w) (T1 : q_abv (V 42) (V 43) (V 44) (g_sg (V 20) (g_b (V 77) 0)) (V 93) H k l v u) (T2 : q_pct (V 42) (V 43) (V 44) (g_sg (V 20) (g_b (V 77) 0)) H k l u f) (T3 : (0 ≤ l ∧ l ≤ 6) ∧ u = r_6 l.toNat) (C0 : 0 ≤ i - l) (C1 : 0 ≤ l - i) (C2 : 0 ≤ l - 1) (C3 : 0 ≤ 6 - l) : (True) ∧ (q_fec (V 42) (V 43) (V 44) (g_sg (V 20) (g_b (V 77) 0)) H k l v y ∧ True) := by
  have e9 : i = l := by omega
  rw [e9] at T0
  have u9 := T3.2
  obtain ⟨⟨i9, e8⟩, e7⟩ := T0
  have c9 : r_bp f (V 93) l.toNat = (y, w) := by
    rcases e8 with e8 | e8
    · omega
    · exact e8.2
  rw [u9] at T1 T2
  exact ⟨trivial, r_fec i9 (Or.inl c9) e7 T2.2 T1.2, trivial⟩
theorem k_bm0 {V : zVw} {i y w f H k l v u : Int} (T0 : q_bpm (V 93) f i y w) (T1 : q_abv (V 42) (V 43) (V 44) (g_sg (V 20) (g_b (V 77) 0)) (V 93) H k l v u) (T2 : q_pct (V 42) (V 43) (V 44) (g_sg (V 20) (g_b (V 77) 0)) H k l u f) (T3 : (0 ≤ l ∧ l ≤ 6) ∧ u = r_6 l.toNat) (C0 : 0 ≤ -f) (C1 : 0 ≤ l - 1) (C2 : 0 ≤ 6 - l) : (True) ∧ (q_fec (V 42) (V 43) (V 44) (g_sg (V 20) (g_b (V 77) 0)) H k l v y ∧ True) := by
  have u9 := T3.2
  obtain ⟨⟨i9, e8⟩, e7⟩ := T0
  have f9 := e7 (by omega)
  rw [u9] at T2
  have h9 : q_fec (V 42) (V 43) (V 44) (g_sg (V 20) (g_b (V 77) 0)) H k l v y := by
    unfold q_fec
    rw [← T2.2, if_neg (by omega)]
    exact f9
  exact ⟨trivial, h9, trivial⟩
theorem k_qeFe {V : zVw} {H k l v u z : Int} (T0 : q_fec (V 42) (V 43) (V 44) (g_sg (V 20) (g_b (V 77) 0)) H k l v u) (T1 : q_fec (V 42) (V 43) (V 44) (g_sg (V 20) (g_b (V 77) 0)) H k l v z) : (0 ≤ u - z ∧ 0 ≤ z - u ∧ True) ∧ (True) := by
  have h9 : u = _ := T0
  have h8 : z = _ := T1
  rw [← h8] at h9
  exact ⟨⟨by omega, by omega, trivial⟩, trivial⟩
