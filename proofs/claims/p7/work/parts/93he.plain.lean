/-! ===== the lemmas in plain numbers, by program ===== -/
theorem k_mld {V : zVw} {n c s j : Int} (T0 : 0 ≤ c ∧ 0 ≤ s ∧ q_66 fun a b => V 60 (36 * s + (6 * a + b)) = a_lk (t_b V) n c.toNat a b) : (True) ∧ ((0 ≤ c ∧ 0 ≤ s ∧ q_66 fun a b => 36 * s + (6 * a + b) ≠ j → V 60 (36 * s + (6 * a + b)) = a_lk (t_b V) n c.toNat a b) ∧ True) := by
  exact ⟨trivial, ⟨T0.1, T0.2.1, fun a b a0 a1 b0 b1 _ => T0.2.2 a b a0 a1 b0 b1⟩, trivial⟩
theorem k_ml2 {V : zVw} {n c s r q x k : Int} (T0 : 0 ≤ c ∧ 0 ≤ s ∧ q_66 fun a b => 36 * s + (6 * a + b) ≠ (36 * s + 6 * r + q) → V 60 (36 * s + (6 * a + b)) = a_lk (t_b V) n c.toNat a b) (F0 : 0 ≤ 36 * s + 6 * r + q ∧ 36 * s + 6 * r + q < j_len 60 ∧ V 60 (36 * s + 6 * r + q) = x) : (True) ∧ ((0 ≤ c ∧ 0 ≤ s ∧ (q_66 fun a b => 36 * s + (6 * a + b) ≠ (36 * s + 6 * r + q) → 36 * s + (6 * a + b) ≠ k → V 60 (36 * s + (6 * a + b)) = a_lk (t_b V) n c.toNat a b) ∧ (0 ≤ (36 * s + 6 * r + q) → (36 * s + 6 * r + q) ≠ k → V 60 (36 * s + 6 * r + q) = x)) ∧ True) := by
  exact ⟨trivial, ⟨T0.1, T0.2.1, fun a b a0 a1 b0 b1 h _ => T0.2.2 a b a0 a1 b0 b1 h, fun _ _ => F0.2.2⟩, trivial⟩
theorem k_mlkA {V : zVw} {n c d H L W WP e v r q x s H2 st2 mo2 op2 W2 P2 W5 P5 W6 P6 : Int} (T0 : 0 ≤ c ∧ 0 ≤ s ∧ (q_66 fun a b => 36 * s + (6 * a + b) ≠ (6 * r + q + 36 * s) → 36 * s + (6 * a + b) ≠ (r + 6 * q + 36 * s) → V 60 (36 * s + (6 * a + b)) = a_lk (t_b V) n c.toNat a b) ∧ (0 ≤ (6 * r + q + 36 * s) → (6 * r + q + 36 * s) ≠ (r + 6 * q + 36 * s) → V 60 (6 * r + q + 36 * s) = x)) (T1 : q_run (t_b V) n c st2 mo2 op2 H2 L W2 P2) (T2 : q_run (t_b V) n (d - 1) (8 : Int) (0 : Int) (0 : Int) H L W WP) (T3 : q_run (t_b V) n (d - 4) (5 : Int) (0 : Int) (0 : Int) H L W5 P5) (T4 : q_run (t_b V) n (d - 3) (6 : Int) (0 : Int) (0 : Int) H L W6 P6) (T5 : q_tok (t_b V) n (d - 1) (59 : Int) e v) (T6 : q_fnd (t_b V) n (d - 4) r) (T7 : q_fnd (t_b V) n (d - 3) q) (T8 : tk (t_b V) n (d - 2).toNat = 3 ∧ x = tx (t_b V) n (d - 2).toNat) (C0 : 0 ≤ 400 - d) (C1 : 0 ≤ d - c - 1) (C2 : 0 ≤ r) (C3 : 0 ≤ q) (C4 : 0 ≤ 5 - r) (C5 : 0 ≤ 5 - q) (C6 : 0 ≤ 19 - L) (C7 : 0 ≤ s) (C8 : 0 ≤ 1 - s) (F0 : 0 ≤ r + 6 * q + 36 * s ∧ r + 6 * q + 36 * s < j_len 60 ∧ V 60 (r + 6 * q + 36 * s) = x) : (True) ∧ ((0 ≤ d ∧ 0 ≤ s ∧ q_66 fun a b => V 60 (36 * s + (6 * a + b)) = a_lk (t_b V) n d.toNat a b) ∧ True) := by
  have hc := T1.1
  obtain ⟨t1, t2, t3, t4⟩ := T0
  refine ⟨trivial, ⟨by omega, t2, fun a b a0 a1 b0 b1 => ?_⟩, trivial⟩
  dsimp only
  rw [c_lkS T2 T3 T4 T5.2.1.symm T6 T7 T8.2, c_lkM T1 T2 (by omega)]
  by_cases g1 : (a = q ∧ b = r)
  · rw [a_up_at (by omega) (by omega) (Or.inr g1)]
    obtain ⟨rfl, rfl⟩ := g1
    first | exact F0.2.2 | (rw [show 36 * s + (6 * a + b) = b + 6 * a + 36 * s by omega]; exact F0.2.2) | (rw [show 36 * s + (6 * q + r) = r + 6 * q + 36 * s by omega]; exact F0.2.2)
  · by_cases g2 : (a = r ∧ b = q)
    · rw [a_up_at (by omega) (by omega) (Or.inl g2)]
      have h8 := t4 (by omega) (by omega)
      rw [show 36 * s + (6 * a + b) = 6 * r + q + 36 * s by omega]
      exact h8
    · rw [a_up_off (by omega)]
      exact t3 a b a0 a1 b0 b1 (by omega) (by omega)
theorem k_mlkB {V : zVw} {n c d H L W WP e v r q x s H2 st2 mo2 op2 W2 P2 W5 P5 W6 P6 : Int} (T0 : 0 ≤ c ∧ 0 ≤ s ∧ q_66 fun a b => V 60 (36 * s + (6 * a + b)) = a_lk (t_b V) n c.toNat a b) (T1 : q_run (t_b V) n c st2 mo2 op2 H2 L W2 P2) (T2 : q_run (t_b V) n (d - 1) (8 : Int) (0 : Int) (0 : Int) H L W WP) (T3 : q_run (t_b V) n (d - 4) (5 : Int) (0 : Int) (0 : Int) H L W5 P5) (T4 : q_run (t_b V) n (d - 3) (6 : Int) (0 : Int) (0 : Int) H L W6 P6) (T5 : q_tok (t_b V) n (d - 1) (59 : Int) e v) (T6 : q_fnd (t_b V) n (d - 4) r) (T7 : q_fnd (t_b V) n (d - 3) q) (T8 : tk (t_b V) n (d - 2).toNat = 3 ∧ x = tx (t_b V) n (d - 2).toNat) (C0 : 0 ≤ 400 - d) (C1 : 0 ≤ d - c - 1) (C2 : 0 ≤ 19 - L) (C3 : 0 ≤ -r - 1) : (True) ∧ ((0 ≤ d ∧ 0 ≤ s ∧ q_66 fun a b => V 60 (36 * s + (6 * a + b)) = a_lk (t_b V) n d.toNat a b) ∧ True) := by
  have hc := T1.1
  refine ⟨trivial, ⟨by omega, T0.2.1, fun a b a0 a1 b0 b1 => ?_⟩, trivial⟩
  dsimp only
  rw [c_lkS T2 T3 T4 T5.2.1.symm T6 T7 T8.2, a_up_no (by omega), c_lkM T1 T2 (by omega)]
  exact T0.2.2 a b a0 a1 b0 b1
theorem k_mlkC {V : zVw} {n c d H L W WP e v r q x s H2 st2 mo2 op2 W2 P2 W5 P5 W6 P6 : Int} (T0 : 0 ≤ c ∧ 0 ≤ s ∧ q_66 fun a b => V 60 (36 * s + (6 * a + b)) = a_lk (t_b V) n c.toNat a b) (T1 : q_run (t_b V) n c st2 mo2 op2 H2 L W2 P2) (T2 : q_run (t_b V) n (d - 1) (8 : Int) (0 : Int) (0 : Int) H L W WP) (T3 : q_run (t_b V) n (d - 4) (5 : Int) (0 : Int) (0 : Int) H L W5 P5) (T4 : q_run (t_b V) n (d - 3) (6 : Int) (0 : Int) (0 : Int) H L W6 P6) (T5 : q_tok (t_b V) n (d - 1) (59 : Int) e v) (T6 : q_fnd (t_b V) n (d - 4) r) (T7 : q_fnd (t_b V) n (d - 3) q) (T8 : tk (t_b V) n (d - 2).toNat = 3 ∧ x = tx (t_b V) n (d - 2).toNat) (C0 : 0 ≤ 400 - d) (C1 : 0 ≤ d - c - 1) (C2 : 0 ≤ 19 - L) (C3 : 0 ≤ -q - 1) : (True) ∧ ((0 ≤ d ∧ 0 ≤ s ∧ q_66 fun a b => V 60 (36 * s + (6 * a + b)) = a_lk (t_b V) n d.toNat a b) ∧ True) := by
  have hc := T1.1
  refine ⟨trivial, ⟨by omega, T0.2.1, fun a b a0 a1 b0 b1 => ?_⟩, trivial⟩
  dsimp only
  rw [c_lkS T2 T3 T4 T5.2.1.symm T6 T7 T8.2, a_up_no (by omega), c_lkM T1 T2 (by omega)]
  exact T0.2.2 a b a0 a1 b0 b1
theorem k_mlkM {V : zVw} {n c d st mo op H L W WP H2 st2 mo2 op2 W2 P2 s : Int} (T0 : 0 ≤ c ∧ 0 ≤ s ∧ q_66 fun a b => V 60 (36 * s + (6 * a + b)) = a_lk (t_b V) n c.toNat a b) (T1 : q_run (t_b V) n c st2 mo2 op2 H2 L W2 P2) (T2 : q_run (t_b V) n d st mo op H L W WP) (C0 : 0 ≤ d - c) : (True) ∧ ((0 ≤ d ∧ 0 ≤ s ∧ q_66 fun a b => V 60 (36 * s + (6 * a + b)) = a_lk (t_b V) n d.toNat a b) ∧ True) := by
  have hc := T1.1
  refine ⟨trivial, ⟨by omega, T0.2.1, fun a b a0 a1 b0 b1 => ?_⟩, trivial⟩
  dsimp only
  rw [c_lkM T1 T2 (by omega)]
  exact T0.2.2 a b a0 a1 b0 b1
theorem k_mfk {V : zVw} {n c s z H L W WP : Int} (T0 : 0 ≤ c ∧ 0 ≤ s ∧ q_66 fun a b => V 60 (36 * s + (6 * a + b)) = a_lk (t_b V) n c.toNat a b) (T1 : q_run (t_b V) n c (0 : Int) (0 : Int) (0 : Int) H L W WP) (T2 : 0 ≤ c ∧ 0 ≤ (0 : Int) ∧ (0 : Int) ≤ 41 ∧ t_km (0 : Int) = tk (t_b V) n c.toNat ∧ z = t_s (t_b V) n c.toNat) : (True) ∧ ((0 ≤ s ∧ ∃ c : Nat, q_end (t_b V) n c ∧ q_66 fun a b => V 60 (36 * s + (6 * a + b)) = a_lk (t_b V) n c a b) ∧ True) := by
  have hs := T0.2.1
  exact ⟨trivial, ⟨hs, c.toNat, ⟨by obtain ⟨-, Q, e, -⟩ := T1; exact ⟨Q, e⟩, T2.2.2.2.1.symm.trans (by decide)⟩, T0.2.2⟩, trivial⟩
theorem k_mfih {V : zVw} {n c H L W WP z : Int} (T0 : q_run (t_b V) n c (0 : Int) (0 : Int) (0 : Int) H L W WP) (T1 : 0 ≤ c ∧ 0 ≤ (0 : Int) ∧ (0 : Int) ≤ 41 ∧ t_km (0 : Int) = tk (t_b V) n c.toNat ∧ z = t_s (t_b V) n c.toNat) : (True) ∧ (q_fih (t_b V) n H ∧ True) := by
  obtain ⟨-, Q, e9, -, -, -, g9, -⟩ := T0
  exact ⟨trivial, ⟨c.toNat, Q, e9, T1.2.2.2.1.symm.trans (by decide), g9⟩, trivial⟩
theorem k_houS {V : zVw} {s H : Int} (C0 : 0 ≤ s) (C1 : 0 ≤ 1 - s) (F0 : 0 ≤ s ∧ s < j_len 56 ∧ V 56 (s) = H) : (True) ∧ ((0 ≤ s ∧ s ≠ (1 - s) ∧ V 56 s = H) ∧ True) := by
  exact ⟨trivial, ⟨by omega, by omega, F0.2.2⟩, trivial⟩
theorem k_fihE2 {V : zVw} {n H J l s : Int} (T0 : 0 ≤ l ∧ l ≠ s ∧ V 56 l = J) (T1 : q_fih (t_b V) n J) (T2 : q_fih (t_b V) n H) : (0 ≤ H - J ∧ 0 ≤ J - H ∧ True) ∧ (True) := by
  have h9 := c_fihU T1 T2
  exact ⟨⟨by omega, by omega, trivial⟩, trivial⟩
theorem k_tlk0 {V : zVw} {n s : Int} (T0 : ∃ c : Nat, q_end (t_b V) n c ∧ q_66 fun a b => V 18 (6 * a + b) = a_lk (t_b V) n c a b) (T1 : 0 ≤ s ∧ ∃ c : Nat, q_end (t_b V) n c ∧ q_66 fun a b => V 60 (36 * s + (6 * a + b)) = a_lk (t_b V) n c a b) (C0 : 0 ≤ s) (C1 : 0 ≤ 1 - s) : (True) ∧ (((1 : Int) = 1 → 0 ≤ s ∧ 0 ≤ (1 - s) ∧ s + (1 - s) = 1 ∧ q_66 fun a b => V 18 (6 * a + b) = V 60 (36 * s + (6 * a + b))) ∧ True) := by
  obtain ⟨c1, e1, g1⟩ := T0
  obtain ⟨s0, c2, e2, g2⟩ := T1
  have hc := q_end_u e1 e2
  subst hc
  refine ⟨trivial, fun _ => ⟨by omega, by omega, by omega, fun a b a0 a1 b0 b1 => ?_⟩, trivial⟩
  dsimp only
  have k1 : V 18 (6 * a + b) = _ := g1 a b a0 a1 b0 b1
  have k2 : V 60 (36 * s + (6 * a + b)) = _ := g2 a b a0 a1 b0 b1
  rw [k1, k2]
theorem k_tlkz {V : zVw} {l n : Int} (T0 : ∃ c : Nat, q_end (t_b V) n c ∧ q_66 fun a b => V 18 (6 * a + b) = a_lk (t_b V) n c a b) (C0 : 0 ≤ l) (C1 : 0 ≤ 1 - l) : (True) ∧ (((0 : Int) = 1 → 0 ≤ l ∧ 0 ≤ (1 - l) ∧ l + (1 - l) = 1 ∧ q_66 fun a b => V 18 (6 * a + b) = V 60 (36 * l + (6 * a + b))) ∧ True) := by
  exact ⟨trivial, fun h => absurd h (by decide), trivial⟩
theorem k_houA {V : zVw} {h l H s u : Int} (T0 : 0 ≤ l ∧ l ≠ s ∧ V 56 l = H) (C0 : 0 ≤ h - u) (F0 : 0 ≤ l ∧ l < j_len 56 ∧ V 56 (l) = u) : (0 ≤ h - H ∧ True) ∧ (True) := by
  have h9 := T0.2.2
  have h8 := F0.2.2
  exact ⟨⟨by omega, trivial⟩, trivial⟩
theorem k_houB {V : zVw} {h l H s u : Int} (T0 : 0 ≤ l ∧ l ≠ s ∧ V 56 l = H) (C0 : 0 ≤ u - h - 1) (F0 : 0 ≤ l ∧ l < j_len 56 ∧ V 56 (l) = u) : (0 ≤ H - h - 1 ∧ True) ∧ (True) := by
  have h9 := T0.2.2
  have h8 := F0.2.2
  exact ⟨⟨by omega, trivial⟩, trivial⟩
theorem k_clv {V : zVw} {h o u : Int} (F0 : 0 ≤ 6 * h + o ∧ 6 * h + o < j_len 18 ∧ V 18 (6 * h + o) = u) : (True) ∧ ((V 18 (6 * h + o) = u) ∧ True) := by
  exact ⟨trivial, F0.2.2, trivial⟩
theorem k_mlv {V : zVw} {l h o u : Int} (F0 : 0 ≤ 36 * l + 6 * h + o ∧ 36 * l + 6 * h + o < j_len 60 ∧ V 60 (36 * l + 6 * h + o) = u) : (True) ∧ ((V 60 (36 * l + 6 * h + o) = u) ∧ True) := by
  exact ⟨trivial, F0.2.2, trivial⟩
theorem k_lkE {V : zVw} {l s j k u w : Int} (T0 : (1 : Int) = 1 → 0 ≤ l ∧ 0 ≤ s ∧ l + s = 1 ∧ q_66 fun a b => V 18 (6 * a + b) = V 60 (36 * l + (6 * a + b))) (T1 : V 18 j = u) (T2 : V 60 k = w) (C0 : 0 ≤ j) (C1 : 0 ≤ 35 - j) (C2 : 0 ≤ k - 36 * l - j) (C3 : 0 ≤ 36 * l + j - k) : (0 ≤ u - w ∧ 0 ≤ w - u ∧ True) ∧ (True) := by
  obtain ⟨l0, s0, ls, g9⟩ := T0 rfl
  have h9 : V 18 (6 * (j / 6) + j % 6) = V 60 (36 * l + (6 * (j / 6) + j % 6)) := g9 (j / 6) (j % 6) (by omega) (by omega) (by omega) (by omega)
  rw [show 6 * (j / 6) + j % 6 = j by omega, show 36 * l + j = k by omega, T1, T2] at h9
  exact ⟨⟨by omega, by omega, trivial⟩, trivial⟩
