/-! ===== the lemmas in plain numbers, by program ===== -/
theorem k_nopm_d {V : zVw} {kd : Int} (T0 : kd ≠ 42 ∧ kd ≠ 47) (C0 : 0 ≤ kd - 46) : (True) ∧ ((a_p kd = false) ∧ True) := by
  exact ⟨trivial, a_p_no (by omega), trivial⟩
theorem k_kdsplit {V : zVw} {kd : Int} : ((0 ≤ 41 - kd ∧ True) ∧ (True)) ∨ ((0 ≤ kd - 42 ∧ 0 ≤ 42 - kd ∧ True) ∧ (True)) ∨ ((0 ≤ kd - 43 ∧ 0 ≤ 43 - kd ∧ True) ∧ (True)) ∨ ((0 ≤ kd - 44 ∧ 0 ≤ 44 - kd ∧ True) ∧ (True)) ∨ ((0 ≤ kd - 45 ∧ 0 ≤ 45 - kd ∧ True) ∧ (True)) ∨ ((0 ≤ kd - 46 ∧ 0 ≤ 46 - kd ∧ True) ∧ (True)) ∨ ((0 ≤ kd - 47 ∧ 0 ≤ 47 - kd ∧ True) ∧ (True)) ∨ ((0 ≤ kd - 48 ∧ True) ∧ (True)) := by
  simp only [and_true]
  omega
theorem k_cnt0 {V : zVw} {n c c0 st op H L W WP S : Int} (T0 : q_run2 (t_b V) n c0 st (0 : Int) op H L W WP S) (C0 : 0 ≤ c - c0 - 1) (C1 : 0 ≤ c - 1) : (True) ∧ ((c0 + 1 ≤ c ∧ (0 : Int) + 1 ≤ c) ∧ True) := by
  have U0 := T0.2
  have T0 := T0.1
  exact ⟨trivial, by omega, trivial⟩
theorem k_cntS {V : zVw} {d c c0 i : Int} (T0 : c0 + 1 ≤ c ∧ i + 1 ≤ c) (C0 : 0 ≤ d - c - 2) : (True) ∧ ((c0 + 1 ≤ d ∧ (i + 1) + 1 ≤ d) ∧ True) := by
  exact ⟨trivial, by omega, trivial⟩
theorem k_cntX {V : zVw} {c c0 i : Int} (T0 : c0 + 1 ≤ c ∧ i + 1 ≤ c) : (0 ≤ c - c0 - 1 ∧ 0 ≤ c - i - 1 ∧ True) ∧ (True) := by
  simp only [and_true]
  omega
theorem k_cntA {V : zVw} {n c c0 mo op H L W WP S : Int} (T0 : q_run2 (t_b V) n c0 (0 : Int) mo op H L W WP S) (C0 : 0 ≤ c - c0 - 1) (C1 : 0 ≤ c - 1) : (True) ∧ ((c0 + 1 ≤ c ∧ (0 : Int) + 1 ≤ c) ∧ True) := by
  have U0 := T0.2
  have T0 := T0.1
  exact ⟨trivial, by omega, trivial⟩
theorem k_cntB {V : zVw} {d c c0 : Int} (T0 : c0 + 1 ≤ c ∧ (0 : Int) + 1 ≤ c) (C0 : 0 ≤ d - c) : (True) ∧ ((c0 + 1 ≤ d ∧ (0 : Int) + 1 ≤ d) ∧ True) := by
  exact ⟨trivial, by omega, trivial⟩
theorem k_cntC {V : zVw} {c c0 : Int} (T0 : c0 + 1 ≤ c ∧ (0 : Int) + 1 ≤ c) : (0 ≤ c - c0 - 1 ∧ True) ∧ (True) := by
  simp only [and_true]
  omega
theorem k_cni0 {V : zVw} {c : Int} (C0 : 0 ≤ c) : (True) ∧ ((0 : Int) ≤ c ∧ True) := by
  exact ⟨trivial, by omega, trivial⟩
theorem k_cniS {V : zVw} {d c i : Int} (T0 : i ≤ c) (C0 : 0 ≤ d - c - 1) : (True) ∧ ((i + 1) ≤ d ∧ True) := by
  exact ⟨trivial, by omega, trivial⟩
theorem k_cniX {V : zVw} {c i : Int} (T0 : i ≤ c) : (0 ≤ c - i ∧ True) ∧ (True) := by
  simp only [and_true]
  omega
theorem k_fin {V : zVw} {n f p q : Int} (T0 : q_res (t_b V) n f p) (C0 : 0 ≤ f - 1) (C1 : 0 ≤ p - q) (C2 : 0 ≤ q - p) : (True) ∧ (q_fin (t_b V) n f q ∧ True) := by
  refine ⟨trivial, ⟨p, T0, ?_⟩, trivial⟩
  rw [if_neg (by omega)]
  omega
theorem k_fin0 {V : zVw} {n f p q : Int} (T0 : q_res (t_b V) n f p) (C0 : 0 ≤ f) (C1 : 0 ≤ -f) (C2 : 0 ≤ q + 1) (C3 : 0 ≤ -q - 1) : (True) ∧ (q_fin (t_b V) n f q ∧ True) := by
  refine ⟨trivial, ⟨p, T0, ?_⟩, trivial⟩
  rw [if_pos (by omega)]
  omega
theorem k_mbyt0 {V : zVw} {n p b : Int} (T0 : ∀ i_ : Int, 0 ≤ i_ → i_ < n → V 49 i_ = V 13 i_) (C0 : 0 ≤ b) (C1 : 0 ≤ 127 - b) (C2 : 0 ≤ p) (C3 : 0 ≤ n - p - 1) (F0 : (0 : Int) ≤ p ∧ (p : Int) < j_len 49 ∧ V 49 (p) = b) : (True) ∧ ((t_b V p = b) ∧ True) := by
  refine ⟨trivial, ?_, trivial⟩
  show V 13 p % 256 = b
  have h1 := F0.2.2
  have h2 := T0 p (by omega) (by omega)
  omega
theorem k_mbyt1 {V : zVw} {n p b v : Int} (T0 : ∀ i_ : Int, 0 ≤ i_ → i_ < n → V 49 i_ = V 13 i_) (C0 : 0 ≤ p) (C1 : 0 ≤ n - p - 1) (C2 : 0 ≤ v - b + 256) (C3 : 0 ≤ b - v - 256) (C4 : 0 ≤ 255 - b) (C5 : 0 ≤ b - 128) (F0 : (0 : Int) ≤ p ∧ (p : Int) < j_len 49 ∧ V 49 (p) = v) : (True) ∧ ((t_b V p = b) ∧ True) := by
  refine ⟨trivial, ?_, trivial⟩
  show V 13 p % 256 = b
  have h1 := F0.2.2
  have h2 := T0 p (by omega) (by omega)
  omega
theorem k_mEnd {V : zVw} {n kk i u v w : Int} (T0 : 0 ≤ n ∧ 0 ≤ (kk - 1) ∧ i ≤ n ∧ t_e1 (t_b V) 0 n i = t_s (t_b V) n (kk - 1).toNat ∧ ∀ j_ : Nat, (j_ : Int) < (kk - 1) → q_mr V n j_) (C0 : 0 ≤ i - n) (C1 : 0 ≤ u) (C2 : 0 ≤ -u) (F0 : (0 : Int) ≤ kk - 1 ∧ (kk - 1 : Int) < j_len 50 ∧ V 50 (kk - 1) = u) (F1 : (0 : Int) ≤ kk - 1 ∧ (kk - 1 : Int) < j_len 51 ∧ V 51 (kk - 1) = n) (F2 : (0 : Int) ≤ kk - 1 ∧ (kk - 1 : Int) < j_len 52 ∧ V 52 (kk - 1) = v) (F3 : (0 : Int) ≤ kk - 1 ∧ (kk - 1 : Int) < j_len 53 ∧ V 53 (kk - 1) = w) : (True) ∧ (q_all (t_b V) n (q_mr V n) ∧ True) := by
  have hi : i = n := by have := T0.2.2.1; omega
  subst hi
  have hu : u = 0 := by omega
  subst hu
  have hk : t_k (t_b V) i i = 0 := t_k_0.mpr (Int.le_refl _)
  have h9 := c_mcn (u := 0) T0 (t_e1_end (Int.le_refl _)) (by unfold t_e; rw [if_pos (Int.le_refl _)]) (Int.le_refl _) (by rw [hk]; rfl) (by omega) F0.2.2 F1.2.2 (fun h => by rw [hk] at h; exact absurd h (by decide)) (fun h => by rw [hk] at h; exact absurd h (by decide))
  have h8 := T0.2.2.2.1
  rw [t_e1_end (Int.le_refl _)] at h8
  exact ⟨trivial, c_ends (k := (kk - 1).toNat) T0.1 (fun j hj => h9.2.2.2.2 j (by have := T0.2.1; omega)) ((tk_0 _).mpr (by rw [← h8]; exact Int.le_refl _)), trivial⟩
theorem k_mSign {V : zVw} {n kk i u v w c x : Int} (T0 : 0 ≤ n ∧ 0 ≤ (kk - 1) ∧ i ≤ n ∧ t_e1 (t_b V) 0 n i = t_s (t_b V) n (kk - 1).toNat ∧ ∀ j_ : Nat, (j_ : Int) < (kk - 1) → q_mr V n j_) (T1 : t_b V i = c) (T2 : t_cl (0 : Int) c = (0 : Int)) (T3 : t_cl (1 : Int) c = (0 : Int)) (T4 : t_cl (2 : Int) c = (0 : Int)) (T5 : t_cl (5 : Int) u = x) (T6 : t_cl (6 : Int) c = x) (C0 : 0 ≤ n - i - 1) (C1 : 0 ≤ u) (C2 : 0 ≤ 41 - u) (F0 : (0 : Int) ≤ kk - 1 ∧ (kk - 1 : Int) < j_len 50 ∧ V 50 (kk - 1) = u) (F1 : (0 : Int) ≤ kk - 1 ∧ (kk - 1 : Int) < j_len 51 ∧ V 51 (kk - 1) = i) (F2 : (0 : Int) ≤ kk - 1 ∧ (kk - 1 : Int) < j_len 52 ∧ V 52 (kk - 1) = v) (F3 : (0 : Int) ≤ kk - 1 ∧ (kk - 1 : Int) < j_len 53 ∧ V 53 (kk - 1) = w) : (True) ∧ ((0 ≤ n ∧ 0 ≤ kk ∧ (i + 1) ≤ n ∧ t_e1 (t_b V) 0 n (i + 1) = t_s (t_b V) n kk.toNat ∧ ∀ j_ : Nat, (j_ : Int) < kk → q_mr V n j_) ∧ True) := by
  have h0 : t_e1 (t_b V) 0 n i = i := t_e1_no (by rw [T1, T2]; decide)
  have h1 : t_cl 1 (t_b V i) ≠ 1 := by rw [T1, T3]; decide
  have h2 : t_cl 2 (t_b V i) ≠ 1 := by rw [T1, T4]; decide
  have hs : i < n := by omega
  have hk := t_k_s hs h1 h2
  have hr := t_sg_r c
  have h5 : t_km u = x := T5
  have h6 : t_sg c = x := T6
  rw [T1, h6] at hk
  have hx : x ≠ 2 ∧ x ≠ 3 := by rw [← h6]; unfold t_sg; omega
  exact ⟨trivial, c_mcn (u := u) T0 h0 (by rw [t_e_s hs h1 h2]) (by omega) (by rw [hk]; exact h5) (by omega) F0.2.2 F1.2.2 (fun h => by omega) (fun h => by omega), trivial⟩
theorem k_mBadW {V : zVw} {n kk i u v w k c : Int} (T0 : 0 ≤ n ∧ 0 ≤ (kk - 1) ∧ i ≤ n ∧ t_e1 (t_b V) 0 n i = t_s (t_b V) n (kk - 1).toNat ∧ ∀ j_ : Nat, (j_ : Int) < (kk - 1) → q_mr V n j_) (T1 : t_b V i = c) (T2 : t_cl (0 : Int) c = (0 : Int)) (T3 : t_cl (1 : Int) c = (1 : Int)) (T4 : q_rune (t_b V) (1 : Int) n i (i + k)) (C0 : 0 ≤ k - 9) (C1 : 0 ≤ u - 3) (C2 : 0 ≤ 3 - u) (F0 : (0 : Int) ≤ kk - 1 ∧ (kk - 1 : Int) < j_len 50 ∧ V 50 (kk - 1) = u) (F1 : (0 : Int) ≤ kk - 1 ∧ (kk - 1 : Int) < j_len 51 ∧ V 51 (kk - 1) = i) (F2 : (0 : Int) ≤ kk - 1 ∧ (kk - 1 : Int) < j_len 52 ∧ V 52 (kk - 1) = v) (F3 : (0 : Int) ≤ kk - 1 ∧ (kk - 1 : Int) < j_len 53 ∧ V 53 (kk - 1) = w) : (True) ∧ ((0 ≤ n ∧ 0 ≤ kk ∧ (i + k) ≤ n ∧ t_e1 (t_b V) 0 n (i + k) = t_s (t_b V) n kk.toNat ∧ ∀ j_ : Nat, (j_ : Int) < kk → q_mr V n j_) ∧ True) := by
  have h0 : t_e1 (t_b V) 0 n i = i := t_e1_no (by rw [T1, T2]; decide)
  have hc : t_cl 1 (t_b V i) = 1 := by rw [T1]; exact T3
  have he : t_e1 (t_b V) 1 n i = i + k := t_e1_eq T4
  have hs : i < n := by have := T4.1.2 i (by omega) (by omega); omega
  have hle := t_e1_le (b := t_b V) (f := 1) (show i ≤ n by omega)
  have hk := t_k_w hs hc
  rw [he, if_pos (by omega)] at hk
  have hu : u = 3 := by omega
  subst hu
  exact ⟨trivial, c_mcn (u := 3) T0 h0 (by rw [t_e_w hs hc, he]) (by omega) (by rw [hk]; rfl) (by omega) F0.2.2 F1.2.2 (fun h => by omega) (fun h => by omega), trivial⟩
theorem k_mWord {V : zVw} {n kk i u v w k c : Int} (T0 : 0 ≤ n ∧ 0 ≤ (kk - 1) ∧ i ≤ n ∧ t_e1 (t_b V) 0 n i = t_s (t_b V) n (kk - 1).toNat ∧ ∀ j_ : Nat, (j_ : Int) < (kk - 1) → q_mr V n j_) (T1 : t_b V i = c) (T2 : t_cl (0 : Int) c = (0 : Int)) (T3 : t_cl (1 : Int) c = (1 : Int)) (T4 : q_rune (t_b V) (1 : Int) n i (i + k)) (T5 : i ≤ (i + k) ∧ w = t_num (t_b V) 27 96 i (min ((i + k) - i) 8).toNat) (T6 : 0 ≤ (22 : Int) ∧ u = t_kw w (22 : Int).toNat ∧ (22 : Int) ≤ 22) (C0 : 0 ≤ 8 - k) (C1 : 0 ≤ n - i - 1) (F0 : (0 : Int) ≤ kk - 1 ∧ (kk - 1 : Int) < j_len 50 ∧ V 50 (kk - 1) = u) (F1 : (0 : Int) ≤ kk - 1 ∧ (kk - 1 : Int) < j_len 51 ∧ V 51 (kk - 1) = i) (F2 : (0 : Int) ≤ kk - 1 ∧ (kk - 1 : Int) < j_len 52 ∧ V 52 (kk - 1) = v) (F3 : (0 : Int) ≤ kk - 1 ∧ (kk - 1 : Int) < j_len 53 ∧ V 53 (kk - 1) = w) : (True) ∧ ((0 ≤ n ∧ 0 ≤ kk ∧ (i + k) ≤ n ∧ t_e1 (t_b V) 0 n (i + k) = t_s (t_b V) n kk.toNat ∧ ∀ j_ : Nat, (j_ : Int) < kk → q_mr V n j_) ∧ True) := by
  have h0 : t_e1 (t_b V) 0 n i = i := t_e1_no (by rw [T1, T2]; decide)
  have hc : t_cl 1 (t_b V i) = 1 := by rw [T1]; exact T3
  have he : t_e1 (t_b V) 1 n i = i + k := t_e1_eq T4
  have hs : i < n := by omega
  have hle := t_e1_le (b := t_b V) (f := 1) (show i ≤ n by omega)
  have hk := t_k_w hs hc
  have hge := T4.1.1
  rw [he, if_neg (by omega), show i + k - i = k by omega] at hk
  have hl := q_runs_let T4.1 (k := k.toNat) (by omega)
  have hw := T5.2
  rw [show (min (i + k - i) 8).toNat = k.toNat by omega] at hw
  have hy : w = t_y (t_b V) n i := by unfold t_y; rw [t_e_w hs hc, he, show i + k - i = k by omega]; exact hw
  have hu := T6.2.1
  rw [hw] at hu
  have h22 : (22 : Int).toNat = 22 := rfl
  rw [h22] at hu
  have hkw := t_kw_wd (b := t_b V) (a := i) (w := k.toNat) (by omega) hl 22 (Nat.le_refl _)
  rw [show ((k.toNat : Nat) : Int) = k by omega] at hkw
  rcases hkw with ⟨g1, g2⟩ | ⟨j, g0, g1, g2, -⟩
  · rw [g1, if_neg (by decide)] at hk
    rw [g2] at hu
    subst hu
    exact ⟨trivial, c_mcn (u := 1) T0 h0 (by rw [t_e_w hs hc, he]) (by omega) (by rw [hk]; rfl) (by omega) F0.2.2 F1.2.2 (fun h => by omega) (fun h => by rw [← hy]; exact F3.2.2), trivial⟩
  · rw [g1, if_pos (by omega)] at hk
    rw [g2] at hu
    have hkm : t_km u = 256 + j := by have := t_km_alt (u := u) (by omega) (by omega); omega
    exact ⟨trivial, c_mcn (u := u) T0 h0 (by rw [t_e_w hs hc, he]) (by omega) (by rw [hk, hkm]) (by omega) F0.2.2 F1.2.2 (fun h => by omega) (fun h => by omega), trivial⟩
theorem k_mInt {V : zVw} {n kk i u v w k c : Int} (T0 : 0 ≤ n ∧ 0 ≤ (kk - 1) ∧ i ≤ n ∧ t_e1 (t_b V) 0 n i = t_s (t_b V) n (kk - 1).toNat ∧ ∀ j_ : Nat, (j_ : Int) < (kk - 1) → q_mr V n j_) (T1 : t_b V i = c) (T2 : t_cl (0 : Int) c = (0 : Int)) (T3 : t_cl (1 : Int) c = (0 : Int)) (T4 : t_cl (2 : Int) c = (1 : Int)) (T5 : q_rune (t_b V) (2 : Int) n i (i + k)) (T6 : i ≤ (i + k) ∧ ((i + k) - i ≤ 4 → v = t_num (t_b V) 10 48 i ((i + k) - i).toNat)) (C0 : 0 ≤ 4 - k) (C1 : 0 ≤ n - i - 1) (C2 : 0 ≤ u - 2) (C3 : 0 ≤ 2 - u) (F0 : (0 : Int) ≤ kk - 1 ∧ (kk - 1 : Int) < j_len 50 ∧ V 50 (kk - 1) = u) (F1 : (0 : Int) ≤ kk - 1 ∧ (kk - 1 : Int) < j_len 51 ∧ V 51 (kk - 1) = i) (F2 : (0 : Int) ≤ kk - 1 ∧ (kk - 1 : Int) < j_len 52 ∧ V 52 (kk - 1) = v) (F3 : (0 : Int) ≤ kk - 1 ∧ (kk - 1 : Int) < j_len 53 ∧ V 53 (kk - 1) = w) : (True) ∧ ((0 ≤ n ∧ 0 ≤ kk ∧ (i + k) ≤ n ∧ t_e1 (t_b V) 0 n (i + k) = t_s (t_b V) n kk.toNat ∧ ∀ j_ : Nat, (j_ : Int) < kk → q_mr V n j_) ∧ True) := by
  have h0 : t_e1 (t_b V) 0 n i = i := t_e1_no (by rw [T1, T2]; decide)
  have h1 : t_cl 1 (t_b V i) ≠ 1 := by rw [T1, T3]; decide
  have hc : t_cl 2 (t_b V i) = 1 := by rw [T1]; exact T4
  have he : t_e1 (t_b V) 2 n i = i + k := t_e1_eq T5
  have hs : i < n := by omega
  have hle := t_e1_le (b := t_b V) (f := 2) (show i ≤ n by omega)
  have hk := t_k_d hs h1 hc
  rw [he, if_neg (by omega)] at hk
  have hu : u = 2 := by omega
  subst hu
  exact ⟨trivial, c_mcn (u := 2) T0 h0 (by rw [t_e_d hs h1 hc, he]) (by omega) (by rw [hk]; rfl) (by omega) F0.2.2 F1.2.2 (fun h => by rw [F2.2.2]; unfold t_x; rw [if_neg h1, t_e_d hs h1 hc, he]; exact T6.2 (by omega)) (fun h => by omega), trivial⟩
theorem k_mBadI {V : zVw} {n kk i u v w k c : Int} (T0 : 0 ≤ n ∧ 0 ≤ (kk - 1) ∧ i ≤ n ∧ t_e1 (t_b V) 0 n i = t_s (t_b V) n (kk - 1).toNat ∧ ∀ j_ : Nat, (j_ : Int) < (kk - 1) → q_mr V n j_) (T1 : t_b V i = c) (T2 : t_cl (0 : Int) c = (0 : Int)) (T3 : t_cl (1 : Int) c = (0 : Int)) (T4 : t_cl (2 : Int) c = (1 : Int)) (T5 : q_rune (t_b V) (2 : Int) n i (i + k)) (C0 : 0 ≤ k - 5) (C1 : 0 ≤ u - 3) (C2 : 0 ≤ 3 - u) (F0 : (0 : Int) ≤ kk - 1 ∧ (kk - 1 : Int) < j_len 50 ∧ V 50 (kk - 1) = u) (F1 : (0 : Int) ≤ kk - 1 ∧ (kk - 1 : Int) < j_len 51 ∧ V 51 (kk - 1) = i) (F2 : (0 : Int) ≤ kk - 1 ∧ (kk - 1 : Int) < j_len 52 ∧ V 52 (kk - 1) = v) (F3 : (0 : Int) ≤ kk - 1 ∧ (kk - 1 : Int) < j_len 53 ∧ V 53 (kk - 1) = w) : (True) ∧ ((0 ≤ n ∧ 0 ≤ kk ∧ (i + k) ≤ n ∧ t_e1 (t_b V) 0 n (i + k) = t_s (t_b V) n kk.toNat ∧ ∀ j_ : Nat, (j_ : Int) < kk → q_mr V n j_) ∧ True) := by
  have h0 : t_e1 (t_b V) 0 n i = i := t_e1_no (by rw [T1, T2]; decide)
  have h1 : t_cl 1 (t_b V i) ≠ 1 := by rw [T1, T3]; decide
  have hc : t_cl 2 (t_b V i) = 1 := by rw [T1]; exact T4
  have he : t_e1 (t_b V) 2 n i = i + k := t_e1_eq T5
  have hs : i < n := by have := T5.1.2 i (by omega) (by omega); omega
  have hle := t_e1_le (b := t_b V) (f := 2) (show i ≤ n by omega)
  have hk := t_k_d hs h1 hc
  rw [he, if_pos (by omega)] at hk
  have hu : u = 3 := by omega
  subst hu
  exact ⟨trivial, c_mcn (u := 3) T0 h0 (by rw [t_e_d hs h1 hc, he]) (by omega) (by rw [hk]; rfl) (by omega) F0.2.2 F1.2.2 (fun h => by omega) (fun h => by omega), trivial⟩
theorem k_mblank {V : zVw} {n kk i c : Int} (T0 : 0 ≤ n ∧ 0 ≤ kk ∧ i ≤ n ∧ t_e1 (t_b V) 0 n i = t_s (t_b V) n kk.toNat ∧ ∀ j_ : Nat, (j_ : Int) < kk → q_mr V n j_) (T1 : t_b V i = c) (T2 : t_cl (0 : Int) c = (1 : Int)) (C0 : 0 ≤ n - i - 1) : (True) ∧ ((0 ≤ n ∧ 0 ≤ kk ∧ (i + 1) ≤ n ∧ t_e1 (t_b V) 0 n (i + 1) = t_s (t_b V) n kk.toNat ∧ ∀ j_ : Nat, (j_ : Int) < kk → q_mr V n j_) ∧ True) := by
  exact ⟨trivial, ⟨T0.1, T0.2.1, by omega, by rw [t_e1_step (by omega) (by rw [T1]; exact T2)]; exact T0.2.2.2.1, T0.2.2.2.2⟩, trivial⟩
theorem k_mrunS_l {V : zVw} {n i k b : Int} (T0 : q_runs (t_b V) (1 : Int) n i (i + k)) (T1 : t_b V (i + k) = b) (T2 : t_cl (1 : Int) b = (1 : Int)) (C0 : 0 ≤ n - i - k - 1) : (True) ∧ (q_runs (t_b V) (1 : Int) n i (i + k + 1) ∧ True) := by
  exact ⟨trivial, q_runs_ext T0 (by omega) (by rw [T1]; exact T2), trivial⟩
theorem k_mrunEa_l {V : zVw} {n i k : Int} (T0 : q_runs (t_b V) (1 : Int) n i (i + k)) (C0 : 0 ≤ i + k - n) : (True) ∧ (q_rune (t_b V) (1 : Int) n i (i + k) ∧ True) := by
  exact ⟨trivial, ⟨T0, Or.inl (by omega)⟩, trivial⟩
theorem k_mrunEb_l {V : zVw} {n i k b : Int} (T0 : q_runs (t_b V) (1 : Int) n i (i + k)) (T1 : t_b V (i + k) = b) (T2 : t_cl (1 : Int) b = (0 : Int)) : (True) ∧ (q_rune (t_b V) (1 : Int) n i (i + k) ∧ True) := by
  exact ⟨trivial, ⟨T0, Or.inr (by rw [T1, T2]; decide)⟩, trivial⟩
theorem k_mrunS_d {V : zVw} {n i k b : Int} (T0 : q_runs (t_b V) (2 : Int) n i (i + k)) (T1 : t_b V (i + k) = b) (T2 : t_cl (2 : Int) b = (1 : Int)) (C0 : 0 ≤ n - i - k - 1) : (True) ∧ (q_runs (t_b V) (2 : Int) n i (i + k + 1) ∧ True) := by
  exact ⟨trivial, q_runs_ext T0 (by omega) (by rw [T1]; exact T2), trivial⟩
theorem k_mrunEa_d {V : zVw} {n i k : Int} (T0 : q_runs (t_b V) (2 : Int) n i (i + k)) (C0 : 0 ≤ i + k - n) : (True) ∧ (q_rune (t_b V) (2 : Int) n i (i + k) ∧ True) := by
  exact ⟨trivial, ⟨T0, Or.inl (by omega)⟩, trivial⟩
theorem k_mrunEb_d {V : zVw} {n i k b : Int} (T0 : q_runs (t_b V) (2 : Int) n i (i + k)) (T1 : t_b V (i + k) = b) (T2 : t_cl (2 : Int) b = (0 : Int)) : (True) ∧ (q_rune (t_b V) (2 : Int) n i (i + k) ∧ True) := by
  exact ⟨trivial, ⟨T0, Or.inr (by rw [T1, T2]; decide)⟩, trivial⟩
theorem k_p27_0 {V : zVw} {a : Int} : (True) ∧ ((a ≤ a ∧ (0 : Int) = t_num (t_b V) 27 96 a (min (a - a) 8).toNat) ∧ True) := by
  exact ⟨trivial, ⟨Int.le_refl _, by rw [Int.sub_self]; rfl⟩, trivial⟩
theorem k_p27_b {V : zVw} {n i k v : Int} (T0 : i ≤ (i + k) ∧ v = t_num (t_b V) 27 96 i (min ((i + k) - i) 8).toNat) (T1 : q_runs (t_b V) (1 : Int) n i (i + k)) (C0 : 0 ≤ 7 - k) : (0 ≤ v ∧ 0 ≤ 10460353202 - v ∧ True) ∧ (True) := by
  have h1 := T0.2
  rw [show min (i + k - i) 8 = k by have := T0.1; omega] at h1
  have h2 := t_num_in (b := t_b V) (m := 27) (o := 96) (a := i) (k := k.toNat) (j := 7) (by omega) (by omega) (fun j hj => by have := q_runs_let T1 (k := k.toNat) (by have := T1.1; omega) j hj; omega)
  rw [show (27 : Int) ^ 7 = 10460353203 by decide] at h2
  exact ⟨⟨by omega, by omega, trivial⟩, trivial⟩
theorem k_p27_s {V : zVw} {i k v w b : Int} (T0 : i ≤ (i + k) ∧ v = t_num (t_b V) 27 96 i (min ((i + k) - i) 8).toNat) (T1 : t_b V (i + k) = b) (C0 : 0 ≤ 7 - k) (C1 : 0 ≤ w - 27 * v - b + 96) (C2 : 0 ≤ 27 * v + b - w - 96) : (True) ∧ ((i ≤ (i + k + 1) ∧ w = t_num (t_b V) 27 96 i (min ((i + k + 1) - i) 8).toNat) ∧ True) := by
  have h0 := T0.1
  refine ⟨trivial, ⟨by omega, ?_⟩, trivial⟩
  have h1 := T0.2
  rw [show (min (i + k - i) 8).toNat = k.toNat by omega] at h1
  rw [show (min (i + k + 1 - i) 8).toNat = k.toNat + 1 by omega, t_num, ← h1, show i + ((k.toNat : Nat) : Int) = i + k by omega, T1]
  omega
theorem k_p27_x {V : zVw} {i k v : Int} (T0 : i ≤ (i + k) ∧ v = t_num (t_b V) 27 96 i (min ((i + k) - i) 8).toNat) (C0 : 0 ≤ k - 8) : (True) ∧ ((i ≤ (i + k + 1) ∧ v = t_num (t_b V) 27 96 i (min ((i + k + 1) - i) 8).toNat) ∧ True) := by
  have h0 := T0.1
  refine ⟨trivial, ⟨by omega, ?_⟩, trivial⟩
  have h1 := T0.2
  rw [show (min (i + k - i) 8).toNat = 8 by omega] at h1
  rw [show (min (i + k + 1 - i) 8).toNat = 8 by omega]
  exact h1
theorem k_mdec_b {V : zVw} {n i k v : Int} (T0 : i ≤ (i + k) ∧ ((i + k) - i ≤ 4 → v = t_num (t_b V) 10 48 i ((i + k) - i).toNat)) (T1 : q_runs (t_b V) (2 : Int) n i (i + k)) (C0 : 0 ≤ 3 - k) : (0 ≤ v ∧ 0 ≤ 999 - v ∧ True) ∧ (True) := by
  have h1 := T0.2 (by have := T0.1; omega)
  have h2 := t_num_in (b := t_b V) (m := 10) (o := 48) (a := i) (k := (i + k - i).toNat) (j := 3) (by omega) (by omega) (fun j hj => by have := q_runs_dig T1 (k := (i + k - i).toNat) (by have := T1.1; omega) j hj; omega)
  rw [show (10 : Int) ^ 3 = 1000 by decide] at h2
  exact ⟨⟨by omega, by omega, trivial⟩, trivial⟩
theorem k_mdec_s {V : zVw} {i k v w b : Int} (T0 : i ≤ (i + k) ∧ ((i + k) - i ≤ 4 → v = t_num (t_b V) 10 48 i ((i + k) - i).toNat)) (T1 : t_b V (i + k) = b) (C0 : 0 ≤ 3 - k) (C1 : 0 ≤ w - 10 * v - b + 48) (C2 : 0 ≤ 10 * v + b - w - 48) : (True) ∧ ((i ≤ (i + k + 1) ∧ ((i + k + 1) - i ≤ 4 → w = t_num (t_b V) 10 48 i ((i + k + 1) - i).toNat)) ∧ True) := by
  have h0 := T0.1
  refine ⟨trivial, ⟨by omega, fun h => ?_⟩, trivial⟩
  have h1 := T0.2 (by omega)
  rw [show (i + k + 1 - i).toNat = (i + k - i).toNat + 1 by omega, t_num, ← h1, show i + (((i + k - i).toNat : Nat) : Int) = i + k by omega, T1]
  omega
theorem k_mdec_x {V : zVw} {i k v : Int} (T0 : i ≤ (i + k) ∧ ((i + k) - i ≤ 4 → v = t_num (t_b V) 10 48 i ((i + k) - i).toNat)) (C0 : 0 ≤ k - 4) : (True) ∧ ((i ≤ (i + k + 1) ∧ ((i + k + 1) - i ≤ 4 → v = t_num (t_b V) 10 48 i ((i + k + 1) - i).toNat)) ∧ True) := by
  have h0 := T0.1
  exact ⟨trivial, ⟨by omega, fun h => by omega⟩, trivial⟩
theorem k_split_k8 {V : zVw} {k : Int} : ((0 ≤ 7 - k ∧ True) ∧ (True)) ∨ ((0 ≤ k - 8 ∧ True) ∧ (True)) := by
  simp only [and_true]
  omega
theorem k_split_k4 {V : zVw} {k : Int} : ((0 ≤ 3 - k ∧ True) ∧ (True)) ∨ ((0 ≤ k - 4 ∧ True) ∧ (True)) := by
  simp only [and_true]
  omega
theorem k_kws0 {V : zVw} {v : Int} : (True) ∧ ((0 ≤ (0 : Int) ∧ (1 : Int) = t_kw v (0 : Int).toNat ∧ (0 : Int) ≤ 22) ∧ True) := by
  exact ⟨trivial, ⟨by omega, rfl, by omega⟩, trivial⟩
theorem k_kwsE {V : zVw} {v k u w x : Int} (T0 : ∀ k_ : Nat, k_ < 22 → V 54 k_ = t_key k_) (T1 : 0 ≤ k ∧ x = t_kw v k.toNat ∧ k ≤ 22) (C0 : 0 ≤ u - v) (C1 : 0 ≤ v - u) (C2 : 0 ≤ w - k - 20) (C3 : 0 ≤ k - w + 20) (F0 : (0 : Int) ≤ k ∧ (k : Int) < j_len 54 ∧ V 54 (k) = u) : (True) ∧ ((0 ≤ (k + 1) ∧ w = t_kw v (k + 1).toNat ∧ (k + 1) ≤ 22) ∧ True) := by
  have hj : j_len 54 = 22 := by decide
  have h1 := T0 k.toNat (by omega)
  rw [show ((k.toNat : Nat) : Int) = k by omega, F0.2.2] at h1
  refine ⟨trivial, ⟨by omega, ?_, by omega⟩, trivial⟩
  rw [show (k + 1).toNat = k.toNat + 1 by omega, t_kw]
  rw [if_pos (by omega)]
  omega
theorem k_kwsN1 {V : zVw} {v k u w : Int} (T0 : ∀ k_ : Nat, k_ < 22 → V 54 k_ = t_key k_) (T1 : 0 ≤ k ∧ w = t_kw v k.toNat ∧ k ≤ 22) (C0 : 0 ≤ u - v - 1) (F0 : (0 : Int) ≤ k ∧ (k : Int) < j_len 54 ∧ V 54 (k) = u) : (True) ∧ ((0 ≤ (k + 1) ∧ w = t_kw v (k + 1).toNat ∧ (k + 1) ≤ 22) ∧ True) := by
  have hj : j_len 54 = 22 := by decide
  have h1 := T0 k.toNat (by omega)
  rw [show ((k.toNat : Nat) : Int) = k by omega, F0.2.2] at h1
  refine ⟨trivial, ⟨by omega, ?_, by omega⟩, trivial⟩
  rw [show (k + 1).toNat = k.toNat + 1 by omega, t_kw]
  rw [if_neg (by omega)]
  exact T1.2.1
theorem k_kwsN2 {V : zVw} {v k u w : Int} (T0 : ∀ k_ : Nat, k_ < 22 → V 54 k_ = t_key k_) (T1 : 0 ≤ k ∧ w = t_kw v k.toNat ∧ k ≤ 22) (C0 : 0 ≤ v - u - 1) (F0 : (0 : Int) ≤ k ∧ (k : Int) < j_len 54 ∧ V 54 (k) = u) : (True) ∧ ((0 ≤ (k + 1) ∧ w = t_kw v (k + 1).toNat ∧ (k + 1) ≤ 22) ∧ True) := by
  have hj : j_len 54 = 22 := by decide
  have h1 := T0 k.toNat (by omega)
  rw [show ((k.toNat : Nat) : Int) = k by omega, F0.2.2] at h1
  refine ⟨trivial, ⟨by omega, ?_, by omega⟩, trivial⟩
  rw [show (k + 1).toNat = k.toNat + 1 by omega, t_kw]
  rw [if_neg (by omega)]
  exact T1.2.1
theorem k_mX1 {V : zVw} {i c b : Int} (T0 : t_cl (1 : Int) c = (1 : Int)) (T1 : t_b V i = c) (T2 : t_cl (1 : Int) b = (0 : Int)) (T3 : t_b V i = b) : False := by
  rw [T1] at T3
  rw [← T3, T0] at T2
  omega
theorem k_mX2 {V : zVw} {i c b : Int} (T0 : t_cl (2 : Int) c = (1 : Int)) (T1 : t_b V i = c) (T2 : t_cl (2 : Int) b = (0 : Int)) (T3 : t_b V i = b) : False := by
  rw [T1] at T3
  rw [← T3, T0] at T2
  omega
theorem k_mdig {V : zVw} {i k b w : Int} (T0 : t_cl (2 : Int) b = (1 : Int)) (T1 : t_b V (i + k) = b) (T2 : t_b V (i + k) = w) : (0 ≤ w - 48 ∧ 0 ≤ 57 - w ∧ True) ∧ (True) := by
  rw [T1] at T2
  have := t_cl2.mp T0
  exact ⟨⟨by omega, by omega, trivial⟩, trivial⟩
theorem k_mlet {V : zVw} {i k b w : Int} (T0 : t_cl (1 : Int) b = (1 : Int)) (T1 : t_b V (i + k) = b) (T2 : t_b V (i + k) = w) : (0 ≤ w - 97 ∧ 0 ≤ 122 - w ∧ True) ∧ (True) := by
  rw [T1] at T2
  have := t_cl1.mp T0
  exact ⟨⟨by omega, by omega, trivial⟩, trivial⟩
theorem k_mZ1 {V : zVw} (T0 : t_cl (1 : Int) (0 : Int) = (1 : Int)) : False := by
  exact absurd T0 (by decide)
theorem k_mZ2 {V : zVw} (T0 : t_cl (2 : Int) (0 : Int) = (1 : Int)) : False := by
  exact absurd T0 (by decide)
theorem k_mcn0 {V : zVw} {n : Int} (C0 : 0 ≤ n) : (True) ∧ ((0 ≤ n ∧ 0 ≤ (0 : Int) ∧ (0 : Int) ≤ n ∧ t_e1 (t_b V) 0 n (0 : Int) = t_s (t_b V) n (0 : Int).toNat ∧ ∀ j_ : Nat, (j_ : Int) < (0 : Int) → q_mr V n j_) ∧ True) := by
  exact ⟨trivial, ⟨by omega, by omega, by omega, rfl, fun j hj => by omega⟩, trivial⟩
theorem k_mcb2 {V : zVw} {n kk i : Int} (T0 : 0 ≤ n ∧ 0 ≤ kk ∧ i ≤ n ∧ t_e1 (t_b V) 0 n i = t_s (t_b V) n kk.toNat ∧ ∀ j_ : Nat, (j_ : Int) < kk → q_mr V n j_) (C0 : 0 ≤ kk - 401) : (True) ∧ (q_all (t_b V) n (q_mr V n) ∧ True) := by
  exact ⟨trivial, c_room T0.1 T0.2.2.2.2 (by omega), trivial⟩
theorem k_msc0 {V : zVw} {n c : Int} (T0 : q_all (t_b V) n (q_mr V n)) (C0 : 0 ≤ c) (C1 : 0 ≤ -c) : (True) ∧ (q_upto (t_b V) n c (q_mr V n) ∧ True) := by
  have hc : c = 0 := by omega
  subst hc
  exact ⟨trivial, c_upto0 T0, trivial⟩
theorem k_mto {V : zVw} {n c u s : Int} (T0 : q_upto (t_b V) n c (q_mr V n)) (F0 : (0 : Int) ≤ c ∧ (c : Int) < j_len 50 ∧ V 50 (c) = u) (F1 : (0 : Int) ≤ c ∧ (c : Int) < j_len 51 ∧ V 51 (c) = s) : (0 ≤ u ∧ 0 ≤ 41 - u ∧ 0 ≤ s ∧ 0 ≤ n - s ∧ True) ∧ ((0 ≤ c ∧ 0 ≤ u ∧ u ≤ 41 ∧ t_km u = tk (t_b V) n c.toNat ∧ s = t_s (t_b V) n c.toNat) ∧ True) := by
  have h9 := c_mto (u := u) (s := s) T0.1 T0.2.2.1.1 (c_at T0 T0.1 (Int.le_refl _)) F0.2.2 F1.2.2
  exact ⟨⟨by omega, by omega, by omega, by omega, trivial⟩, h9.1, trivial⟩
theorem k_mscS {V : zVw} {n d u s : Int} (T0 : q_upto (t_b V) n (d - 1) (q_mr V n)) (T1 : 0 ≤ (d - 1) ∧ 0 ≤ u ∧ u ≤ 41 ∧ t_km u = tk (t_b V) n (d - 1).toNat ∧ s = t_s (t_b V) n (d - 1).toNat) (C0 : 0 ≤ u - 1) (C1 : 0 ≤ 400 - d) : (True) ∧ (q_upto (t_b V) n d (q_mr V n) ∧ True) := by
  have hu := t_km_alt T1.2.1 T1.2.2.1
  exact ⟨trivial, c_uptoS T0 (by rw [← T1.2.2.2.1]; omega) (by omega), trivial⟩
theorem k_m2t_1 {V : zVw} {n d s : Int} (T0 : 0 ≤ (d - 1) ∧ 0 ≤ (1 : Int) ∧ (1 : Int) ≤ 41 ∧ t_km (1 : Int) = tk (t_b V) n (d - 1).toNat ∧ s = t_s (t_b V) n (d - 1).toNat) (C0 : 0 ≤ d - 1) : ∃ z : Int, ((-9223372036854775808) ≤ z ∧ z ≤ 9223372036854775807) ∧ ((True) ∧ (q_tok (t_b V) n (d - 1) (2 : Int) s z ∧ True)) := by
  have hk : tk (t_b V) n (d - 1).toNat = 2 := by rw [← T0.2.2.2.1]; rfl
  have hr := tx_2 hk
  exact ⟨tx (t_b V) n (d - 1).toNat, by omega, trivial, ⟨T0.1, hk.symm, T0.2.2.2.2, fun _ => rfl⟩, trivial⟩
theorem k_m2t_2 {V : zVw} {n d s : Int} (T0 : 0 ≤ (d - 1) ∧ 0 ≤ (2 : Int) ∧ (2 : Int) ≤ 41 ∧ t_km (2 : Int) = tk (t_b V) n (d - 1).toNat ∧ s = t_s (t_b V) n (d - 1).toNat) (C0 : 0 ≤ d - 1) : ∃ z : Int, ((-9223372036854775808) ≤ z ∧ z ≤ 9223372036854775807) ∧ ((True) ∧ (q_tok (t_b V) n (d - 1) (3 : Int) s z ∧ True)) := by
  have hk : tk (t_b V) n (d - 1).toNat = 3 := by rw [← T0.2.2.2.1]; rfl
  have hr := tx_3 hk
  exact ⟨tx (t_b V) n (d - 1).toNat, by omega, trivial, ⟨T0.1, hk.symm, T0.2.2.2.2, fun _ => rfl⟩, trivial⟩
theorem k_m2t_4 {V : zVw} {n d s : Int} (T0 : 0 ≤ (d - 1) ∧ 0 ≤ (4 : Int) ∧ (4 : Int) ≤ 41 ∧ t_km (4 : Int) = tk (t_b V) n (d - 1).toNat ∧ s = t_s (t_b V) n (d - 1).toNat) (C0 : 0 ≤ d - 1) : ∃ z : Int, ((-9223372036854775808) ≤ z ∧ z ≤ 9223372036854775807) ∧ ((True) ∧ (q_tok (t_b V) n (d - 1) (59 : Int) s z ∧ True)) := by
  exact ⟨0, by omega, trivial, ⟨T0.1, by rw [← T0.2.2.2.1]; decide, T0.2.2.2.2, fun h => by omega⟩, trivial⟩
theorem k_m2t_5 {V : zVw} {n d s : Int} (T0 : 0 ≤ (d - 1) ∧ 0 ≤ (5 : Int) ∧ (5 : Int) ≤ 41 ∧ t_km (5 : Int) = tk (t_b V) n (d - 1).toNat ∧ s = t_s (t_b V) n (d - 1).toNat) (C0 : 0 ≤ d - 1) : ∃ z : Int, ((-9223372036854775808) ≤ z ∧ z ≤ 9223372036854775807) ∧ ((True) ∧ (q_tok (t_b V) n (d - 1) (61 : Int) s z ∧ True)) := by
  exact ⟨0, by omega, trivial, ⟨T0.1, by rw [← T0.2.2.2.1]; decide, T0.2.2.2.2, fun h => by omega⟩, trivial⟩
theorem k_m2t_6 {V : zVw} {n d s : Int} (T0 : 0 ≤ (d - 1) ∧ 0 ≤ (6 : Int) ∧ (6 : Int) ≤ 41 ∧ t_km (6 : Int) = tk (t_b V) n (d - 1).toNat ∧ s = t_s (t_b V) n (d - 1).toNat) (C0 : 0 ≤ d - 1) : ∃ z : Int, ((-9223372036854775808) ≤ z ∧ z ≤ 9223372036854775807) ∧ ((True) ∧ (q_tok (t_b V) n (d - 1) (40 : Int) s z ∧ True)) := by
  exact ⟨0, by omega, trivial, ⟨T0.1, by rw [← T0.2.2.2.1]; decide, T0.2.2.2.2, fun h => by omega⟩, trivial⟩
theorem k_m2t_7 {V : zVw} {n d s : Int} (T0 : 0 ≤ (d - 1) ∧ 0 ≤ (7 : Int) ∧ (7 : Int) ≤ 41 ∧ t_km (7 : Int) = tk (t_b V) n (d - 1).toNat ∧ s = t_s (t_b V) n (d - 1).toNat) (C0 : 0 ≤ d - 1) : ∃ z : Int, ((-9223372036854775808) ≤ z ∧ z ≤ 9223372036854775807) ∧ ((True) ∧ (q_tok (t_b V) n (d - 1) (41 : Int) s z ∧ True)) := by
  exact ⟨0, by omega, trivial, ⟨T0.1, by rw [← T0.2.2.2.1]; decide, T0.2.2.2.2, fun h => by omega⟩, trivial⟩
theorem k_m2t_8 {V : zVw} {n d s : Int} (T0 : 0 ≤ (d - 1) ∧ 0 ≤ (8 : Int) ∧ (8 : Int) ≤ 41 ∧ t_km (8 : Int) = tk (t_b V) n (d - 1).toNat ∧ s = t_s (t_b V) n (d - 1).toNat) (C0 : 0 ≤ d - 1) : ∃ z : Int, ((-9223372036854775808) ≤ z ∧ z ≤ 9223372036854775807) ∧ ((True) ∧ (q_tok (t_b V) n (d - 1) (43 : Int) s z ∧ True)) := by
  exact ⟨0, by omega, trivial, ⟨T0.1, by rw [← T0.2.2.2.1]; decide, T0.2.2.2.2, fun h => by omega⟩, trivial⟩
theorem k_m2t_9 {V : zVw} {n d s : Int} (T0 : 0 ≤ (d - 1) ∧ 0 ≤ (9 : Int) ∧ (9 : Int) ≤ 41 ∧ t_km (9 : Int) = tk (t_b V) n (d - 1).toNat ∧ s = t_s (t_b V) n (d - 1).toNat) (C0 : 0 ≤ d - 1) : ∃ z : Int, ((-9223372036854775808) ≤ z ∧ z ≤ 9223372036854775807) ∧ ((True) ∧ (q_tok (t_b V) n (d - 1) (45 : Int) s z ∧ True)) := by
  exact ⟨0, by omega, trivial, ⟨T0.1, by rw [← T0.2.2.2.1]; decide, T0.2.2.2.2, fun h => by omega⟩, trivial⟩
theorem k_m2t_10 {V : zVw} {n d s : Int} (T0 : 0 ≤ (d - 1) ∧ 0 ≤ (10 : Int) ∧ (10 : Int) ≤ 41 ∧ t_km (10 : Int) = tk (t_b V) n (d - 1).toNat ∧ s = t_s (t_b V) n (d - 1).toNat) (C0 : 0 ≤ d - 1) : ∃ z : Int, ((-9223372036854775808) ≤ z ∧ z ≤ 9223372036854775807) ∧ ((True) ∧ (q_tok (t_b V) n (d - 1) (42 : Int) s z ∧ True)) := by
  exact ⟨0, by omega, trivial, ⟨T0.1, by rw [← T0.2.2.2.1]; decide, T0.2.2.2.2, fun h => by omega⟩, trivial⟩
theorem k_m2t_13 {V : zVw} {n d s : Int} (T0 : 0 ≤ (d - 1) ∧ 0 ≤ (13 : Int) ∧ (13 : Int) ≤ 41 ∧ t_km (13 : Int) = tk (t_b V) n (d - 1).toNat ∧ s = t_s (t_b V) n (d - 1).toNat) (C0 : 0 ≤ d - 1) : ∃ z : Int, ((-9223372036854775808) ≤ z ∧ z ≤ 9223372036854775807) ∧ ((True) ∧ (q_tok (t_b V) n (d - 1) (60 : Int) s z ∧ True)) := by
  exact ⟨0, by omega, trivial, ⟨T0.1, by rw [← T0.2.2.2.1]; decide, T0.2.2.2.2, fun h => by omega⟩, trivial⟩
theorem k_m2t_15 {V : zVw} {n d s : Int} (T0 : 0 ≤ (d - 1) ∧ 0 ≤ (15 : Int) ∧ (15 : Int) ≤ 41 ∧ t_km (15 : Int) = tk (t_b V) n (d - 1).toNat ∧ s = t_s (t_b V) n (d - 1).toNat) (C0 : 0 ≤ d - 1) : ∃ z : Int, ((-9223372036854775808) ≤ z ∧ z ≤ 9223372036854775807) ∧ ((True) ∧ (q_tok (t_b V) n (d - 1) (47 : Int) s z ∧ True)) := by
  exact ⟨0, by omega, trivial, ⟨T0.1, by rw [← T0.2.2.2.1]; decide, T0.2.2.2.2, fun h => by omega⟩, trivial⟩
theorem k_m2t_20 {V : zVw} {n d s : Int} (T0 : 0 ≤ (d - 1) ∧ 0 ≤ (20 : Int) ∧ (20 : Int) ≤ 41 ∧ t_km (20 : Int) = tk (t_b V) n (d - 1).toNat ∧ s = t_s (t_b V) n (d - 1).toNat) (C0 : 0 ≤ d - 1) : ∃ z : Int, ((-9223372036854775808) ≤ z ∧ z ≤ 9223372036854775807) ∧ ((True) ∧ (q_tok (t_b V) n (d - 1) (256 : Int) s z ∧ True)) := by
  exact ⟨0, by omega, trivial, ⟨T0.1, by rw [← T0.2.2.2.1]; decide, T0.2.2.2.2, fun h => by omega⟩, trivial⟩
theorem k_m2t_21 {V : zVw} {n d s : Int} (T0 : 0 ≤ (d - 1) ∧ 0 ≤ (21 : Int) ∧ (21 : Int) ≤ 41 ∧ t_km (21 : Int) = tk (t_b V) n (d - 1).toNat ∧ s = t_s (t_b V) n (d - 1).toNat) (C0 : 0 ≤ d - 1) : ∃ z : Int, ((-9223372036854775808) ≤ z ∧ z ≤ 9223372036854775807) ∧ ((True) ∧ (q_tok (t_b V) n (d - 1) (257 : Int) s z ∧ True)) := by
  exact ⟨0, by omega, trivial, ⟨T0.1, by rw [← T0.2.2.2.1]; decide, T0.2.2.2.2, fun h => by omega⟩, trivial⟩
theorem k_m2t_22 {V : zVw} {n d s : Int} (T0 : 0 ≤ (d - 1) ∧ 0 ≤ (22 : Int) ∧ (22 : Int) ≤ 41 ∧ t_km (22 : Int) = tk (t_b V) n (d - 1).toNat ∧ s = t_s (t_b V) n (d - 1).toNat) (C0 : 0 ≤ d - 1) : ∃ z : Int, ((-9223372036854775808) ≤ z ∧ z ≤ 9223372036854775807) ∧ ((True) ∧ (q_tok (t_b V) n (d - 1) (258 : Int) s z ∧ True)) := by
  exact ⟨0, by omega, trivial, ⟨T0.1, by rw [← T0.2.2.2.1]; decide, T0.2.2.2.2, fun h => by omega⟩, trivial⟩
theorem k_m2t_23 {V : zVw} {n d s : Int} (T0 : 0 ≤ (d - 1) ∧ 0 ≤ (23 : Int) ∧ (23 : Int) ≤ 41 ∧ t_km (23 : Int) = tk (t_b V) n (d - 1).toNat ∧ s = t_s (t_b V) n (d - 1).toNat) (C0 : 0 ≤ d - 1) : ∃ z : Int, ((-9223372036854775808) ≤ z ∧ z ≤ 9223372036854775807) ∧ ((True) ∧ (q_tok (t_b V) n (d - 1) (259 : Int) s z ∧ True)) := by
  exact ⟨0, by omega, trivial, ⟨T0.1, by rw [← T0.2.2.2.1]; decide, T0.2.2.2.2, fun h => by omega⟩, trivial⟩
theorem k_m2t_24 {V : zVw} {n d s : Int} (T0 : 0 ≤ (d - 1) ∧ 0 ≤ (24 : Int) ∧ (24 : Int) ≤ 41 ∧ t_km (24 : Int) = tk (t_b V) n (d - 1).toNat ∧ s = t_s (t_b V) n (d - 1).toNat) (C0 : 0 ≤ d - 1) : ∃ z : Int, ((-9223372036854775808) ≤ z ∧ z ≤ 9223372036854775807) ∧ ((True) ∧ (q_tok (t_b V) n (d - 1) (260 : Int) s z ∧ True)) := by
  exact ⟨0, by omega, trivial, ⟨T0.1, by rw [← T0.2.2.2.1]; decide, T0.2.2.2.2, fun h => by omega⟩, trivial⟩
theorem k_m2t_25 {V : zVw} {n d s : Int} (T0 : 0 ≤ (d - 1) ∧ 0 ≤ (25 : Int) ∧ (25 : Int) ≤ 41 ∧ t_km (25 : Int) = tk (t_b V) n (d - 1).toNat ∧ s = t_s (t_b V) n (d - 1).toNat) (C0 : 0 ≤ d - 1) : ∃ z : Int, ((-9223372036854775808) ≤ z ∧ z ≤ 9223372036854775807) ∧ ((True) ∧ (q_tok (t_b V) n (d - 1) (261 : Int) s z ∧ True)) := by
  exact ⟨0, by omega, trivial, ⟨T0.1, by rw [← T0.2.2.2.1]; decide, T0.2.2.2.2, fun h => by omega⟩, trivial⟩
theorem k_m2t_26 {V : zVw} {n d s : Int} (T0 : 0 ≤ (d - 1) ∧ 0 ≤ (26 : Int) ∧ (26 : Int) ≤ 41 ∧ t_km (26 : Int) = tk (t_b V) n (d - 1).toNat ∧ s = t_s (t_b V) n (d - 1).toNat) (C0 : 0 ≤ d - 1) : ∃ z : Int, ((-9223372036854775808) ≤ z ∧ z ≤ 9223372036854775807) ∧ ((True) ∧ (q_tok (t_b V) n (d - 1) (262 : Int) s z ∧ True)) := by
  exact ⟨0, by omega, trivial, ⟨T0.1, by rw [← T0.2.2.2.1]; decide, T0.2.2.2.2, fun h => by omega⟩, trivial⟩
theorem k_m2t_27 {V : zVw} {n d s : Int} (T0 : 0 ≤ (d - 1) ∧ 0 ≤ (27 : Int) ∧ (27 : Int) ≤ 41 ∧ t_km (27 : Int) = tk (t_b V) n (d - 1).toNat ∧ s = t_s (t_b V) n (d - 1).toNat) (C0 : 0 ≤ d - 1) : ∃ z : Int, ((-9223372036854775808) ≤ z ∧ z ≤ 9223372036854775807) ∧ ((True) ∧ (q_tok (t_b V) n (d - 1) (263 : Int) s z ∧ True)) := by
  exact ⟨0, by omega, trivial, ⟨T0.1, by rw [← T0.2.2.2.1]; decide, T0.2.2.2.2, fun h => by omega⟩, trivial⟩
theorem k_m2t_28 {V : zVw} {n d s : Int} (T0 : 0 ≤ (d - 1) ∧ 0 ≤ (28 : Int) ∧ (28 : Int) ≤ 41 ∧ t_km (28 : Int) = tk (t_b V) n (d - 1).toNat ∧ s = t_s (t_b V) n (d - 1).toNat) (C0 : 0 ≤ d - 1) : ∃ z : Int, ((-9223372036854775808) ≤ z ∧ z ≤ 9223372036854775807) ∧ ((True) ∧ (q_tok (t_b V) n (d - 1) (264 : Int) s z ∧ True)) := by
  exact ⟨0, by omega, trivial, ⟨T0.1, by rw [← T0.2.2.2.1]; decide, T0.2.2.2.2, fun h => by omega⟩, trivial⟩
theorem k_m2t_29 {V : zVw} {n d s : Int} (T0 : 0 ≤ (d - 1) ∧ 0 ≤ (29 : Int) ∧ (29 : Int) ≤ 41 ∧ t_km (29 : Int) = tk (t_b V) n (d - 1).toNat ∧ s = t_s (t_b V) n (d - 1).toNat) (C0 : 0 ≤ d - 1) : ∃ z : Int, ((-9223372036854775808) ≤ z ∧ z ≤ 9223372036854775807) ∧ ((True) ∧ (q_tok (t_b V) n (d - 1) (265 : Int) s z ∧ True)) := by
  exact ⟨0, by omega, trivial, ⟨T0.1, by rw [← T0.2.2.2.1]; decide, T0.2.2.2.2, fun h => by omega⟩, trivial⟩
theorem k_m2t_30 {V : zVw} {n d s : Int} (T0 : 0 ≤ (d - 1) ∧ 0 ≤ (30 : Int) ∧ (30 : Int) ≤ 41 ∧ t_km (30 : Int) = tk (t_b V) n (d - 1).toNat ∧ s = t_s (t_b V) n (d - 1).toNat) (C0 : 0 ≤ d - 1) : ∃ z : Int, ((-9223372036854775808) ≤ z ∧ z ≤ 9223372036854775807) ∧ ((True) ∧ (q_tok (t_b V) n (d - 1) (266 : Int) s z ∧ True)) := by
  exact ⟨0, by omega, trivial, ⟨T0.1, by rw [← T0.2.2.2.1]; decide, T0.2.2.2.2, fun h => by omega⟩, trivial⟩
theorem k_m2t_31 {V : zVw} {n d s : Int} (T0 : 0 ≤ (d - 1) ∧ 0 ≤ (31 : Int) ∧ (31 : Int) ≤ 41 ∧ t_km (31 : Int) = tk (t_b V) n (d - 1).toNat ∧ s = t_s (t_b V) n (d - 1).toNat) (C0 : 0 ≤ d - 1) : ∃ z : Int, ((-9223372036854775808) ≤ z ∧ z ≤ 9223372036854775807) ∧ ((True) ∧ (q_tok (t_b V) n (d - 1) (267 : Int) s z ∧ True)) := by
  exact ⟨0, by omega, trivial, ⟨T0.1, by rw [← T0.2.2.2.1]; decide, T0.2.2.2.2, fun h => by omega⟩, trivial⟩
theorem k_m2t_32 {V : zVw} {n d s : Int} (T0 : 0 ≤ (d - 1) ∧ 0 ≤ (32 : Int) ∧ (32 : Int) ≤ 41 ∧ t_km (32 : Int) = tk (t_b V) n (d - 1).toNat ∧ s = t_s (t_b V) n (d - 1).toNat) (C0 : 0 ≤ d - 1) : ∃ z : Int, ((-9223372036854775808) ≤ z ∧ z ≤ 9223372036854775807) ∧ ((True) ∧ (q_tok (t_b V) n (d - 1) (268 : Int) s z ∧ True)) := by
  exact ⟨0, by omega, trivial, ⟨T0.1, by rw [← T0.2.2.2.1]; decide, T0.2.2.2.2, fun h => by omega⟩, trivial⟩
theorem k_m2t_v {V : zVw} {n d u s : Int} (T0 : 0 ≤ (d - 1) ∧ 0 ≤ u ∧ u ≤ 41 ∧ t_km u = tk (t_b V) n (d - 1).toNat ∧ s = t_s (t_b V) n (d - 1).toNat) (C0 : 0 ≤ d - 1) (C1 : 0 ≤ u - 33) (C2 : 0 ≤ 41 - u) : ∃ z : Int, ((-9223372036854775808) ≤ z ∧ z ≤ 9223372036854775807) ∧ ((True) ∧ (q_tok (t_b V) n (d - 1) (u + 236) s z ∧ True)) := by
  have hu := t_km_alt T0.2.1 T0.2.2.1
  exact ⟨0, by omega, trivial, ⟨T0.1, by rw [← T0.2.2.2.1]; omega, T0.2.2.2.2, fun h => by omega⟩, trivial⟩
theorem k_m2t_i {V : zVw} {n d s i : Int} (T0 : 0 ≤ (d - 1) ∧ 0 ≤ (2 : Int) ∧ (2 : Int) ≤ 41 ∧ t_km (2 : Int) = tk (t_b V) n (d - 1).toNat ∧ s = t_s (t_b V) n (d - 1).toNat) (T1 : tk (t_b V) n (d - 1).toNat = 3 ∧ i = tx (t_b V) n (d - 1).toNat) (C0 : 0 ≤ d - 1) : (True) ∧ (q_tok (t_b V) n (d - 1) (3 : Int) s i ∧ True) := by
  exact ⟨trivial, ⟨T0.1, T1.1.symm, T0.2.2.2.2, fun _ => T1.2⟩, trivial⟩
theorem k_mti {V : zVw} {n c i s : Int} (T0 : q_upto (t_b V) n c (q_mr V n)) (T1 : 0 ≤ c ∧ 0 ≤ (2 : Int) ∧ (2 : Int) ≤ 41 ∧ t_km (2 : Int) = tk (t_b V) n c.toNat ∧ s = t_s (t_b V) n c.toNat) (F0 : (0 : Int) ≤ c ∧ (c : Int) < j_len 52 ∧ V 52 (c) = i) : (0 ≤ i ∧ 0 ≤ 9999 - i ∧ True) ∧ ((tk (t_b V) n c.toNat = 3 ∧ i = tx (t_b V) n c.toNat) ∧ True) := by
  have hk : tk (t_b V) n c.toNat = 3 := by rw [← T1.2.2.2.1]; rfl
  have h9 := c_at T0 T0.1 (Int.le_refl _)
  have h8 := h9.2.2.2.2.1 hk
  rw [show ((c.toNat : Nat) : Int) = c by have := T0.1; omega, F0.2.2] at h8
  have hr := tx_3 hk
  exact ⟨⟨by omega, by omega, trivial⟩, ⟨hk, h8⟩, trivial⟩
theorem k_mw_1 {V : zVw} {n c H L W WP u s S : Int} (T0 : q_run2 (t_b V) n c (1 : Int) (0 : Int) (0 : Int) H L W WP S) (T1 : 0 ≤ c ∧ 0 ≤ u ∧ u ≤ 41 ∧ t_km u = tk (t_b V) n c.toNat ∧ s = t_s (t_b V) n c.toNat) : (True) ∧ (((u ≠ (1 : Int) → q_res (t_b V) n 1 s) ∧ (u = (1 : Int) → q_go (t_b V) n c s)) ∧ True) := by
  have U0 := T0.2
  have T0 := T0.1
  have hu := t_km_alt T1.2.1 T1.2.2.1
  exact ⟨trivial, ⟨fun h => by first | (exfalso; omega) | exact c_res T0 T1.2.2.2.1.symm T1.2.2.2.2.symm (f := 1) (by first | (rw [a_cl_0]; omega) | (rw [a_cl_1 (by omega) (by omega)]; unfold a_one; omega) | (rw [a_cl_e0 (by omega)]; omega) | (rw [a_cl_e1 (by omega), if_neg (by rw [a_p_no (by omega)]; decide), if_pos (by omega)]; omega) | (rw [a_cl_e1 (by omega), if_neg (by rw [a_p_no (by omega)]; decide), if_neg (by omega)]; unfold a_x; omega) | (rw [a_cl_if (by omega) (by omega) (by omega)]; omega)) (Or.inl rfl), fun h => c_go T0 T1.2.2.2.1.symm T1.2.2.2.2.symm (by first | (rw [a_cl_0]; omega) | (rw [a_cl_1 (by omega) (by omega)]; unfold a_one; omega) | (rw [a_cl_e0 (by omega)]; omega) | (rw [a_cl_e1 (by omega), if_pos (a_p_iff.mpr (by omega))]) | (rw [a_cl_e1 (by omega), if_neg (by rw [a_p_no (by omega)]; decide), if_pos (by omega)]; omega) | (rw [a_cl_e1 (by omega), if_neg (by rw [a_p_no (by omega)]; decide), if_neg (by omega)]; unfold a_x; omega) | (rw [a_cl_if (by omega) (by omega) (by omega)]; omega))⟩, trivial⟩
theorem k_mw_2 {V : zVw} {n c H L W WP u s S : Int} (T0 : q_run2 (t_b V) n c (2 : Int) (0 : Int) (0 : Int) H L W WP S) (T1 : 0 ≤ c ∧ 0 ≤ u ∧ u ≤ 41 ∧ t_km u = tk (t_b V) n c.toNat ∧ s = t_s (t_b V) n c.toNat) : (True) ∧ (((u ≠ (2 : Int) → q_res (t_b V) n 1 s) ∧ (u = (2 : Int) → q_go (t_b V) n c s)) ∧ True) := by
  have U0 := T0.2
  have T0 := T0.1
  have hu := t_km_alt T1.2.1 T1.2.2.1
  exact ⟨trivial, ⟨fun h => by first | (exfalso; omega) | exact c_res T0 T1.2.2.2.1.symm T1.2.2.2.2.symm (f := 1) (by first | (rw [a_cl_0]; omega) | (rw [a_cl_1 (by omega) (by omega)]; unfold a_one; omega) | (rw [a_cl_e0 (by omega)]; omega) | (rw [a_cl_e1 (by omega), if_neg (by rw [a_p_no (by omega)]; decide), if_pos (by omega)]; omega) | (rw [a_cl_e1 (by omega), if_neg (by rw [a_p_no (by omega)]; decide), if_neg (by omega)]; unfold a_x; omega) | (rw [a_cl_if (by omega) (by omega) (by omega)]; omega)) (Or.inl rfl), fun h => c_go T0 T1.2.2.2.1.symm T1.2.2.2.2.symm (by first | (rw [a_cl_0]; omega) | (rw [a_cl_1 (by omega) (by omega)]; unfold a_one; omega) | (rw [a_cl_e0 (by omega)]; omega) | (rw [a_cl_e1 (by omega), if_pos (a_p_iff.mpr (by omega))]) | (rw [a_cl_e1 (by omega), if_neg (by rw [a_p_no (by omega)]; decide), if_pos (by omega)]; omega) | (rw [a_cl_e1 (by omega), if_neg (by rw [a_p_no (by omega)]; decide), if_neg (by omega)]; unfold a_x; omega) | (rw [a_cl_if (by omega) (by omega) (by omega)]; omega))⟩, trivial⟩
theorem k_mw_3 {V : zVw} {n c H L W WP u s S : Int} (T0 : q_run2 (t_b V) n c (3 : Int) (0 : Int) (0 : Int) H L W WP S) (T1 : 0 ≤ c ∧ 0 ≤ u ∧ u ≤ 41 ∧ t_km u = tk (t_b V) n c.toNat ∧ s = t_s (t_b V) n c.toNat) : (True) ∧ (((u ≠ (2 : Int) → q_res (t_b V) n 1 s) ∧ (u = (2 : Int) → q_go (t_b V) n c s)) ∧ True) := by
  have U0 := T0.2
  have T0 := T0.1
  have hu := t_km_alt T1.2.1 T1.2.2.1
  exact ⟨trivial, ⟨fun h => by first | (exfalso; omega) | exact c_res T0 T1.2.2.2.1.symm T1.2.2.2.2.symm (f := 1) (by first | (rw [a_cl_0]; omega) | (rw [a_cl_1 (by omega) (by omega)]; unfold a_one; omega) | (rw [a_cl_e0 (by omega)]; omega) | (rw [a_cl_e1 (by omega), if_neg (by rw [a_p_no (by omega)]; decide), if_pos (by omega)]; omega) | (rw [a_cl_e1 (by omega), if_neg (by rw [a_p_no (by omega)]; decide), if_neg (by omega)]; unfold a_x; omega) | (rw [a_cl_if (by omega) (by omega) (by omega)]; omega)) (Or.inl rfl), fun h => c_go T0 T1.2.2.2.1.symm T1.2.2.2.2.symm (by first | (rw [a_cl_0]; omega) | (rw [a_cl_1 (by omega) (by omega)]; unfold a_one; omega) | (rw [a_cl_e0 (by omega)]; omega) | (rw [a_cl_e1 (by omega), if_pos (a_p_iff.mpr (by omega))]) | (rw [a_cl_e1 (by omega), if_neg (by rw [a_p_no (by omega)]; decide), if_pos (by omega)]; omega) | (rw [a_cl_e1 (by omega), if_neg (by rw [a_p_no (by omega)]; decide), if_neg (by omega)]; unfold a_x; omega) | (rw [a_cl_if (by omega) (by omega) (by omega)]; omega))⟩, trivial⟩
theorem k_mw_4 {V : zVw} {n c H L W WP u s S : Int} (T0 : q_run2 (t_b V) n c (4 : Int) (0 : Int) (0 : Int) H L W WP S) (T1 : 0 ≤ c ∧ 0 ≤ u ∧ u ≤ 41 ∧ t_km u = tk (t_b V) n c.toNat ∧ s = t_s (t_b V) n c.toNat) : (True) ∧ (((u ≠ (4 : Int) → q_res (t_b V) n 1 s) ∧ (u = (4 : Int) → q_go (t_b V) n c s)) ∧ True) := by
  have U0 := T0.2
  have T0 := T0.1
  have hu := t_km_alt T1.2.1 T1.2.2.1
  exact ⟨trivial, ⟨fun h => by first | (exfalso; omega) | exact c_res T0 T1.2.2.2.1.symm T1.2.2.2.2.symm (f := 1) (by first | (rw [a_cl_0]; omega) | (rw [a_cl_1 (by omega) (by omega)]; unfold a_one; omega) | (rw [a_cl_e0 (by omega)]; omega) | (rw [a_cl_e1 (by omega), if_neg (by rw [a_p_no (by omega)]; decide), if_pos (by omega)]; omega) | (rw [a_cl_e1 (by omega), if_neg (by rw [a_p_no (by omega)]; decide), if_neg (by omega)]; unfold a_x; omega) | (rw [a_cl_if (by omega) (by omega) (by omega)]; omega)) (Or.inl rfl), fun h => c_go T0 T1.2.2.2.1.symm T1.2.2.2.2.symm (by first | (rw [a_cl_0]; omega) | (rw [a_cl_1 (by omega) (by omega)]; unfold a_one; omega) | (rw [a_cl_e0 (by omega)]; omega) | (rw [a_cl_e1 (by omega), if_pos (a_p_iff.mpr (by omega))]) | (rw [a_cl_e1 (by omega), if_neg (by rw [a_p_no (by omega)]; decide), if_pos (by omega)]; omega) | (rw [a_cl_e1 (by omega), if_neg (by rw [a_p_no (by omega)]; decide), if_neg (by omega)]; unfold a_x; omega) | (rw [a_cl_if (by omega) (by omega) (by omega)]; omega))⟩, trivial⟩
theorem k_mw_5 {V : zVw} {n c H L W WP u s S : Int} (T0 : q_run2 (t_b V) n c (5 : Int) (0 : Int) (0 : Int) H L W WP S) (T1 : 0 ≤ c ∧ 0 ≤ u ∧ u ≤ 41 ∧ t_km u = tk (t_b V) n c.toNat ∧ s = t_s (t_b V) n c.toNat) : (True) ∧ (((u ≠ (1 : Int) → q_res (t_b V) n 1 s) ∧ (u = (1 : Int) → q_go (t_b V) n c s)) ∧ True) := by
  have U0 := T0.2
  have T0 := T0.1
  have hu := t_km_alt T1.2.1 T1.2.2.1
  exact ⟨trivial, ⟨fun h => by first | (exfalso; omega) | exact c_res T0 T1.2.2.2.1.symm T1.2.2.2.2.symm (f := 1) (by first | (rw [a_cl_0]; omega) | (rw [a_cl_1 (by omega) (by omega)]; unfold a_one; omega) | (rw [a_cl_e0 (by omega)]; omega) | (rw [a_cl_e1 (by omega), if_neg (by rw [a_p_no (by omega)]; decide), if_pos (by omega)]; omega) | (rw [a_cl_e1 (by omega), if_neg (by rw [a_p_no (by omega)]; decide), if_neg (by omega)]; unfold a_x; omega) | (rw [a_cl_if (by omega) (by omega) (by omega)]; omega)) (Or.inl rfl), fun h => c_go T0 T1.2.2.2.1.symm T1.2.2.2.2.symm (by first | (rw [a_cl_0]; omega) | (rw [a_cl_1 (by omega) (by omega)]; unfold a_one; omega) | (rw [a_cl_e0 (by omega)]; omega) | (rw [a_cl_e1 (by omega), if_pos (a_p_iff.mpr (by omega))]) | (rw [a_cl_e1 (by omega), if_neg (by rw [a_p_no (by omega)]; decide), if_pos (by omega)]; omega) | (rw [a_cl_e1 (by omega), if_neg (by rw [a_p_no (by omega)]; decide), if_neg (by omega)]; unfold a_x; omega) | (rw [a_cl_if (by omega) (by omega) (by omega)]; omega))⟩, trivial⟩
theorem k_mw_6 {V : zVw} {n c H L W WP u s S : Int} (T0 : q_run2 (t_b V) n c (6 : Int) (0 : Int) (0 : Int) H L W WP S) (T1 : 0 ≤ c ∧ 0 ≤ u ∧ u ≤ 41 ∧ t_km u = tk (t_b V) n c.toNat ∧ s = t_s (t_b V) n c.toNat) : (True) ∧ (((u ≠ (1 : Int) → q_res (t_b V) n 1 s) ∧ (u = (1 : Int) → q_go (t_b V) n c s)) ∧ True) := by
  have U0 := T0.2
  have T0 := T0.1
  have hu := t_km_alt T1.2.1 T1.2.2.1
  exact ⟨trivial, ⟨fun h => by first | (exfalso; omega) | exact c_res T0 T1.2.2.2.1.symm T1.2.2.2.2.symm (f := 1) (by first | (rw [a_cl_0]; omega) | (rw [a_cl_1 (by omega) (by omega)]; unfold a_one; omega) | (rw [a_cl_e0 (by omega)]; omega) | (rw [a_cl_e1 (by omega), if_neg (by rw [a_p_no (by omega)]; decide), if_pos (by omega)]; omega) | (rw [a_cl_e1 (by omega), if_neg (by rw [a_p_no (by omega)]; decide), if_neg (by omega)]; unfold a_x; omega) | (rw [a_cl_if (by omega) (by omega) (by omega)]; omega)) (Or.inl rfl), fun h => c_go T0 T1.2.2.2.1.symm T1.2.2.2.2.symm (by first | (rw [a_cl_0]; omega) | (rw [a_cl_1 (by omega) (by omega)]; unfold a_one; omega) | (rw [a_cl_e0 (by omega)]; omega) | (rw [a_cl_e1 (by omega), if_pos (a_p_iff.mpr (by omega))]) | (rw [a_cl_e1 (by omega), if_neg (by rw [a_p_no (by omega)]; decide), if_pos (by omega)]; omega) | (rw [a_cl_e1 (by omega), if_neg (by rw [a_p_no (by omega)]; decide), if_neg (by omega)]; unfold a_x; omega) | (rw [a_cl_if (by omega) (by omega) (by omega)]; omega))⟩, trivial⟩
theorem k_mw_7 {V : zVw} {n c H L W WP u s S : Int} (T0 : q_run2 (t_b V) n c (7 : Int) (0 : Int) (0 : Int) H L W WP S) (T1 : 0 ≤ c ∧ 0 ≤ u ∧ u ≤ 41 ∧ t_km u = tk (t_b V) n c.toNat ∧ s = t_s (t_b V) n c.toNat) : (True) ∧ (((u ≠ (2 : Int) → q_res (t_b V) n 1 s) ∧ (u = (2 : Int) → q_go (t_b V) n c s)) ∧ True) := by
  have U0 := T0.2
  have T0 := T0.1
  have hu := t_km_alt T1.2.1 T1.2.2.1
  exact ⟨trivial, ⟨fun h => by first | (exfalso; omega) | exact c_res T0 T1.2.2.2.1.symm T1.2.2.2.2.symm (f := 1) (by first | (rw [a_cl_0]; omega) | (rw [a_cl_1 (by omega) (by omega)]; unfold a_one; omega) | (rw [a_cl_e0 (by omega)]; omega) | (rw [a_cl_e1 (by omega), if_neg (by rw [a_p_no (by omega)]; decide), if_pos (by omega)]; omega) | (rw [a_cl_e1 (by omega), if_neg (by rw [a_p_no (by omega)]; decide), if_neg (by omega)]; unfold a_x; omega) | (rw [a_cl_if (by omega) (by omega) (by omega)]; omega)) (Or.inl rfl), fun h => c_go T0 T1.2.2.2.1.symm T1.2.2.2.2.symm (by first | (rw [a_cl_0]; omega) | (rw [a_cl_1 (by omega) (by omega)]; unfold a_one; omega) | (rw [a_cl_e0 (by omega)]; omega) | (rw [a_cl_e1 (by omega), if_pos (a_p_iff.mpr (by omega))]) | (rw [a_cl_e1 (by omega), if_neg (by rw [a_p_no (by omega)]; decide), if_pos (by omega)]; omega) | (rw [a_cl_e1 (by omega), if_neg (by rw [a_p_no (by omega)]; decide), if_neg (by omega)]; unfold a_x; omega) | (rw [a_cl_if (by omega) (by omega) (by omega)]; omega))⟩, trivial⟩
theorem k_mw_8 {V : zVw} {n c H L W WP u s S : Int} (T0 : q_run2 (t_b V) n c (8 : Int) (0 : Int) (0 : Int) H L W WP S) (T1 : 0 ≤ c ∧ 0 ≤ u ∧ u ≤ 41 ∧ t_km u = tk (t_b V) n c.toNat ∧ s = t_s (t_b V) n c.toNat) : (True) ∧ (((u ≠ (4 : Int) → q_res (t_b V) n 1 s) ∧ (u = (4 : Int) → q_go (t_b V) n c s)) ∧ True) := by
  have U0 := T0.2
  have T0 := T0.1
  have hu := t_km_alt T1.2.1 T1.2.2.1
  exact ⟨trivial, ⟨fun h => by first | (exfalso; omega) | exact c_res T0 T1.2.2.2.1.symm T1.2.2.2.2.symm (f := 1) (by first | (rw [a_cl_0]; omega) | (rw [a_cl_1 (by omega) (by omega)]; unfold a_one; omega) | (rw [a_cl_e0 (by omega)]; omega) | (rw [a_cl_e1 (by omega), if_neg (by rw [a_p_no (by omega)]; decide), if_pos (by omega)]; omega) | (rw [a_cl_e1 (by omega), if_neg (by rw [a_p_no (by omega)]; decide), if_neg (by omega)]; unfold a_x; omega) | (rw [a_cl_if (by omega) (by omega) (by omega)]; omega)) (Or.inl rfl), fun h => c_go T0 T1.2.2.2.1.symm T1.2.2.2.2.symm (by first | (rw [a_cl_0]; omega) | (rw [a_cl_1 (by omega) (by omega)]; unfold a_one; omega) | (rw [a_cl_e0 (by omega)]; omega) | (rw [a_cl_e1 (by omega), if_pos (a_p_iff.mpr (by omega))]) | (rw [a_cl_e1 (by omega), if_neg (by rw [a_p_no (by omega)]; decide), if_pos (by omega)]; omega) | (rw [a_cl_e1 (by omega), if_neg (by rw [a_p_no (by omega)]; decide), if_neg (by omega)]; unfold a_x; omega) | (rw [a_cl_if (by omega) (by omega) (by omega)]; omega))⟩, trivial⟩
theorem k_mw_9 {V : zVw} {n c H L W WP u s S : Int} (T0 : q_run2 (t_b V) n c (9 : Int) (0 : Int) (0 : Int) H L W WP S) (T1 : 0 ≤ c ∧ 0 ≤ u ∧ u ≤ 41 ∧ t_km u = tk (t_b V) n c.toNat ∧ s = t_s (t_b V) n c.toNat) : (True) ∧ (((u ≠ (2 : Int) → q_res (t_b V) n 1 s) ∧ (u = (2 : Int) → q_go (t_b V) n c s)) ∧ True) := by
  have U0 := T0.2
  have T0 := T0.1
  have hu := t_km_alt T1.2.1 T1.2.2.1
  exact ⟨trivial, ⟨fun h => by first | (exfalso; omega) | exact c_res T0 T1.2.2.2.1.symm T1.2.2.2.2.symm (f := 1) (by first | (rw [a_cl_0]; omega) | (rw [a_cl_1 (by omega) (by omega)]; unfold a_one; omega) | (rw [a_cl_e0 (by omega)]; omega) | (rw [a_cl_e1 (by omega), if_neg (by rw [a_p_no (by omega)]; decide), if_pos (by omega)]; omega) | (rw [a_cl_e1 (by omega), if_neg (by rw [a_p_no (by omega)]; decide), if_neg (by omega)]; unfold a_x; omega) | (rw [a_cl_if (by omega) (by omega) (by omega)]; omega)) (Or.inl rfl), fun h => c_go T0 T1.2.2.2.1.symm T1.2.2.2.2.symm (by first | (rw [a_cl_0]; omega) | (rw [a_cl_1 (by omega) (by omega)]; unfold a_one; omega) | (rw [a_cl_e0 (by omega)]; omega) | (rw [a_cl_e1 (by omega), if_pos (a_p_iff.mpr (by omega))]) | (rw [a_cl_e1 (by omega), if_neg (by rw [a_p_no (by omega)]; decide), if_pos (by omega)]; omega) | (rw [a_cl_e1 (by omega), if_neg (by rw [a_p_no (by omega)]; decide), if_neg (by omega)]; unfold a_x; omega) | (rw [a_cl_if (by omega) (by omega) (by omega)]; omega))⟩, trivial⟩
theorem k_mw_10 {V : zVw} {n c H L W WP u s S : Int} (T0 : q_run2 (t_b V) n c (10 : Int) (0 : Int) (0 : Int) H L W WP S) (T1 : 0 ≤ c ∧ 0 ≤ u ∧ u ≤ 41 ∧ t_km u = tk (t_b V) n c.toNat ∧ s = t_s (t_b V) n c.toNat) : (True) ∧ (((u ≠ (2 : Int) → q_res (t_b V) n 1 s) ∧ (u = (2 : Int) → q_go (t_b V) n c s)) ∧ True) := by
  have U0 := T0.2
  have T0 := T0.1
  have hu := t_km_alt T1.2.1 T1.2.2.1
  exact ⟨trivial, ⟨fun h => by first | (exfalso; omega) | exact c_res T0 T1.2.2.2.1.symm T1.2.2.2.2.symm (f := 1) (by first | (rw [a_cl_0]; omega) | (rw [a_cl_1 (by omega) (by omega)]; unfold a_one; omega) | (rw [a_cl_e0 (by omega)]; omega) | (rw [a_cl_e1 (by omega), if_neg (by rw [a_p_no (by omega)]; decide), if_pos (by omega)]; omega) | (rw [a_cl_e1 (by omega), if_neg (by rw [a_p_no (by omega)]; decide), if_neg (by omega)]; unfold a_x; omega) | (rw [a_cl_if (by omega) (by omega) (by omega)]; omega)) (Or.inl rfl), fun h => c_go T0 T1.2.2.2.1.symm T1.2.2.2.2.symm (by first | (rw [a_cl_0]; omega) | (rw [a_cl_1 (by omega) (by omega)]; unfold a_one; omega) | (rw [a_cl_e0 (by omega)]; omega) | (rw [a_cl_e1 (by omega), if_pos (a_p_iff.mpr (by omega))]) | (rw [a_cl_e1 (by omega), if_neg (by rw [a_p_no (by omega)]; decide), if_pos (by omega)]; omega) | (rw [a_cl_e1 (by omega), if_neg (by rw [a_p_no (by omega)]; decide), if_neg (by omega)]; unfold a_x; omega) | (rw [a_cl_if (by omega) (by omega) (by omega)]; omega))⟩, trivial⟩
theorem k_mw_11 {V : zVw} {n c H L W WP u s S : Int} (T0 : q_run2 (t_b V) n c (11 : Int) (0 : Int) (0 : Int) H L W WP S) (T1 : 0 ≤ c ∧ 0 ≤ u ∧ u ≤ 41 ∧ t_km u = tk (t_b V) n c.toNat ∧ s = t_s (t_b V) n c.toNat) : (True) ∧ (((u ≠ (2 : Int) → q_res (t_b V) n 1 s) ∧ (u = (2 : Int) → q_go (t_b V) n c s)) ∧ True) := by
  have U0 := T0.2
  have T0 := T0.1
  have hu := t_km_alt T1.2.1 T1.2.2.1
  exact ⟨trivial, ⟨fun h => by first | (exfalso; omega) | exact c_res T0 T1.2.2.2.1.symm T1.2.2.2.2.symm (f := 1) (by first | (rw [a_cl_0]; omega) | (rw [a_cl_1 (by omega) (by omega)]; unfold a_one; omega) | (rw [a_cl_e0 (by omega)]; omega) | (rw [a_cl_e1 (by omega), if_neg (by rw [a_p_no (by omega)]; decide), if_pos (by omega)]; omega) | (rw [a_cl_e1 (by omega), if_neg (by rw [a_p_no (by omega)]; decide), if_neg (by omega)]; unfold a_x; omega) | (rw [a_cl_if (by omega) (by omega) (by omega)]; omega)) (Or.inl rfl), fun h => c_go T0 T1.2.2.2.1.symm T1.2.2.2.2.symm (by first | (rw [a_cl_0]; omega) | (rw [a_cl_1 (by omega) (by omega)]; unfold a_one; omega) | (rw [a_cl_e0 (by omega)]; omega) | (rw [a_cl_e1 (by omega), if_pos (a_p_iff.mpr (by omega))]) | (rw [a_cl_e1 (by omega), if_neg (by rw [a_p_no (by omega)]; decide), if_pos (by omega)]; omega) | (rw [a_cl_e1 (by omega), if_neg (by rw [a_p_no (by omega)]; decide), if_neg (by omega)]; unfold a_x; omega) | (rw [a_cl_if (by omega) (by omega) (by omega)]; omega))⟩, trivial⟩
