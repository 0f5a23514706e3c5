/-! ===== the lemmas in plain numbers, by program ===== -/
theorem k_mlk0 {V : zVw} {n c s : Int} (T0 : ∀ k_ : Int, 0 ≤ k_ → 36 * s ≤ k_ → k_ < (36 * s + 36) → V 60 k_ = 5) (T1 : q_upto (t_b V) n c (q_mr V n)) (C0 : 0 ≤ s) (C1 : 0 ≤ c) (C2 : 0 ≤ -c) : (True) ∧ ((0 ≤ c ∧ 0 ≤ s ∧ q_66 fun a b => V 60 (36 * s + (6 * a + b)) = a_lk (t_b V) n c.toNat a b) ∧ True) := by
  have hs : 0 ≤ s := by omega
  refine ⟨trivial, ⟨by omega, by omega, fun a b a0 a1 b0 b1 => ?_⟩, trivial⟩
  dsimp only
  rw [T0 (36 * s + (6 * a + b)) (by omega) (by omega) (by omega), show c = 0 by omega]
  rfl
theorem k_mld {V : zVw} {n c s j : Int} (T0 : 0 ≤ c ∧ 0 ≤ s ∧ q_66 fun a b => V 60 (36 * s + (6 * a + b)) = a_lk (t_b V) n c.toNat a b) : (True) ∧ ((0 ≤ c ∧ 0 ≤ s ∧ q_66 fun a b => 36 * s + (6 * a + b) ≠ j → V 60 (36 * s + (6 * a + b)) = a_lk (t_b V) n c.toNat a b) ∧ True) := by
  exact ⟨trivial, ⟨T0.1, T0.2.1, fun a b a0 a1 b0 b1 _ => T0.2.2 a b a0 a1 b0 b1⟩, trivial⟩
theorem k_ml2 {V : zVw} {n c s r q x k : Int} (T0 : 0 ≤ c ∧ 0 ≤ s ∧ q_66 fun a b => 36 * s + (6 * a + b) ≠ (36 * s + 6 * r + q) → V 60 (36 * s + (6 * a + b)) = a_lk (t_b V) n c.toNat a b) (F0 : (0 : Int) ≤ 36 * s + 6 * r + q ∧ (36 * s + 6 * r + q : Int) < j_len 60 ∧ V 60 (36 * s + 6 * r + q) = x) : (True) ∧ ((0 ≤ c ∧ 0 ≤ s ∧ (q_66 fun a b => 36 * s + (6 * a + b) ≠ (36 * s + 6 * r + q) → 36 * s + (6 * a + b) ≠ k → V 60 (36 * s + (6 * a + b)) = a_lk (t_b V) n c.toNat a b) ∧ (0 ≤ (36 * s + 6 * r + q) → (36 * s + 6 * r + q) ≠ k → V 60 (36 * s + 6 * r + q) = x)) ∧ True) := by
  exact ⟨trivial, ⟨T0.1, T0.2.1, fun a b a0 a1 b0 b1 h _ => T0.2.2 a b a0 a1 b0 b1 h, fun _ _ => F0.2.2⟩, trivial⟩
theorem k_mlkA {V : zVw} {n c d H L W WP e v r q x s H2 st2 mo2 op2 W2 P2 W5 P5 W6 P6 S S2 S3 S4 : Int} (T0 : 0 ≤ c ∧ 0 ≤ s ∧ (q_66 fun a b => 36 * s + (6 * a + b) ≠ (6 * r + q + 36 * s) → 36 * s + (6 * a + b) ≠ (r + 6 * q + 36 * s) → V 60 (36 * s + (6 * a + b)) = a_lk (t_b V) n c.toNat a b) ∧ (0 ≤ (6 * r + q + 36 * s) → (6 * r + q + 36 * s) ≠ (r + 6 * q + 36 * s) → V 60 (6 * r + q + 36 * s) = x)) (T1 : q_run2 (t_b V) n c st2 mo2 op2 H2 L W2 P2 S) (T2 : q_run2 (t_b V) n (d - 1) (8 : Int) (0 : Int) (0 : Int) H L W WP S2) (T3 : q_run2 (t_b V) n (d - 4) (5 : Int) (0 : Int) (0 : Int) H L W5 P5 S3) (T4 : q_run2 (t_b V) n (d - 3) (6 : Int) (0 : Int) (0 : Int) H L W6 P6 S4) (T5 : q_tok (t_b V) n (d - 1) (59 : Int) e v) (T6 : q_fnd (t_b V) n (d - 4) r) (T7 : q_fnd (t_b V) n (d - 3) q) (T8 : tk (t_b V) n (d - 2).toNat = 3 ∧ x = tx (t_b V) n (d - 2).toNat) (C0 : 0 ≤ 400 - d) (C1 : 0 ≤ d - c - 1) (C2 : 0 ≤ r) (C3 : 0 ≤ q) (C4 : 0 ≤ 5 - r) (C5 : 0 ≤ 5 - q) (C6 : 0 ≤ 19 - L) (C7 : 0 ≤ s) (C8 : 0 ≤ 1 - s) (F0 : (0 : Int) ≤ r + 6 * q + 36 * s ∧ (r + 6 * q + 36 * s : Int) < j_len 60 ∧ V 60 (r + 6 * q + 36 * s) = x) : (True) ∧ ((0 ≤ d ∧ 0 ≤ s ∧ q_66 fun a b => V 60 (36 * s + (6 * a + b)) = a_lk (t_b V) n d.toNat a b) ∧ True) := by
  have U1 := T1.2
  have T1 := T1.1
  have U2 := T2.2
  have T2 := T2.1
  have U3 := T3.2
  have T3 := T3.1
  have U4 := T4.2
  have T4 := T4.1
  have hc := T1.1
  obtain ⟨t1, t2, t3, t4⟩ := T0
  refine ⟨trivial, ⟨by omega, t2, fun a b a0 a1 b0 b1 => ?_⟩, trivial⟩
  dsimp only
  rw [c_lkS T2 T3 T4 T5.2.1.symm T6 T7 T8.2, c_lkM T1 T2 (by omega)]
  by_cases g1 : (a = q ∧ b = r)
  · rw [a_up_at (by omega) (by omega) (Or.inr g1)]
    obtain ⟨rfl, rfl⟩ := g1
    first | exact F0.2.2 | (rw [show 36 * s + (6 * a + b) = b + 6 * a + 36 * s by omega]; exact F0.2.2) | (rw [show 36 * s + (6 * q + r) = r + 6 * q + 36 * s by omega]; exact F0.2.2)
  · by_cases g2 : (a = r ∧ b = q)
    · rw [a_up_at (by omega) (by omega) (Or.inl g2)]
      have h8 := t4 (by omega) (by omega)
      rw [show 36 * s + (6 * a + b) = 6 * r + q + 36 * s by omega]
      exact h8
    · rw [a_up_off (by omega)]
      exact t3 a b a0 a1 b0 b1 (by omega) (by omega)
theorem k_mlkB {V : zVw} {n c d H L W WP e v r q x s H2 st2 mo2 op2 W2 P2 W5 P5 W6 P6 S S2 S3 S4 : Int} (T0 : 0 ≤ c ∧ 0 ≤ s ∧ q_66 fun a b => V 60 (36 * s + (6 * a + b)) = a_lk (t_b V) n c.toNat a b) (T1 : q_run2 (t_b V) n c st2 mo2 op2 H2 L W2 P2 S) (T2 : q_run2 (t_b V) n (d - 1) (8 : Int) (0 : Int) (0 : Int) H L W WP S2) (T3 : q_run2 (t_b V) n (d - 4) (5 : Int) (0 : Int) (0 : Int) H L W5 P5 S3) (T4 : q_run2 (t_b V) n (d - 3) (6 : Int) (0 : Int) (0 : Int) H L W6 P6 S4) (T5 : q_tok (t_b V) n (d - 1) (59 : Int) e v) (T6 : q_fnd (t_b V) n (d - 4) r) (T7 : q_fnd (t_b V) n (d - 3) q) (T8 : tk (t_b V) n (d - 2).toNat = 3 ∧ x = tx (t_b V) n (d - 2).toNat) (C0 : 0 ≤ 400 - d) (C1 : 0 ≤ d - c - 1) (C2 : 0 ≤ 19 - L) (C3 : 0 ≤ -r - 1) : (True) ∧ ((0 ≤ d ∧ 0 ≤ s ∧ q_66 fun a b => V 60 (36 * s + (6 * a + b)) = a_lk (t_b V) n d.toNat a b) ∧ True) := by
  have U1 := T1.2
  have T1 := T1.1
  have U2 := T2.2
  have T2 := T2.1
  have U3 := T3.2
  have T3 := T3.1
  have U4 := T4.2
  have T4 := T4.1
  have hc := T1.1
  refine ⟨trivial, ⟨by omega, T0.2.1, fun a b a0 a1 b0 b1 => ?_⟩, trivial⟩
  dsimp only
  rw [c_lkS T2 T3 T4 T5.2.1.symm T6 T7 T8.2, a_up_no (by omega), c_lkM T1 T2 (by omega)]
  exact T0.2.2 a b a0 a1 b0 b1
theorem k_mlkC {V : zVw} {n c d H L W WP e v r q x s H2 st2 mo2 op2 W2 P2 W5 P5 W6 P6 S S2 S3 S4 : Int} (T0 : 0 ≤ c ∧ 0 ≤ s ∧ q_66 fun a b => V 60 (36 * s + (6 * a + b)) = a_lk (t_b V) n c.toNat a b) (T1 : q_run2 (t_b V) n c st2 mo2 op2 H2 L W2 P2 S) (T2 : q_run2 (t_b V) n (d - 1) (8 : Int) (0 : Int) (0 : Int) H L W WP S2) (T3 : q_run2 (t_b V) n (d - 4) (5 : Int) (0 : Int) (0 : Int) H L W5 P5 S3) (T4 : q_run2 (t_b V) n (d - 3) (6 : Int) (0 : Int) (0 : Int) H L W6 P6 S4) (T5 : q_tok (t_b V) n (d - 1) (59 : Int) e v) (T6 : q_fnd (t_b V) n (d - 4) r) (T7 : q_fnd (t_b V) n (d - 3) q) (T8 : tk (t_b V) n (d - 2).toNat = 3 ∧ x = tx (t_b V) n (d - 2).toNat) (C0 : 0 ≤ 400 - d) (C1 : 0 ≤ d - c - 1) (C2 : 0 ≤ 19 - L) (C3 : 0 ≤ -q - 1) : (True) ∧ ((0 ≤ d ∧ 0 ≤ s ∧ q_66 fun a b => V 60 (36 * s + (6 * a + b)) = a_lk (t_b V) n d.toNat a b) ∧ True) := by
  have U1 := T1.2
  have T1 := T1.1
  have U2 := T2.2
  have T2 := T2.1
  have U3 := T3.2
  have T3 := T3.1
  have U4 := T4.2
  have T4 := T4.1
  have hc := T1.1
  refine ⟨trivial, ⟨by omega, T0.2.1, fun a b a0 a1 b0 b1 => ?_⟩, trivial⟩
  dsimp only
  rw [c_lkS T2 T3 T4 T5.2.1.symm T6 T7 T8.2, a_up_no (by omega), c_lkM T1 T2 (by omega)]
  exact T0.2.2 a b a0 a1 b0 b1
theorem k_mlkM {V : zVw} {n c d st mo op H L W WP H2 st2 mo2 op2 W2 P2 s S S2 : Int} (T0 : 0 ≤ c ∧ 0 ≤ s ∧ q_66 fun a b => V 60 (36 * s + (6 * a + b)) = a_lk (t_b V) n c.toNat a b) (T1 : q_run2 (t_b V) n c st2 mo2 op2 H2 L W2 P2 S) (T2 : q_run2 (t_b V) n d st mo op H L W WP S2) (C0 : 0 ≤ d - c) : (True) ∧ ((0 ≤ d ∧ 0 ≤ s ∧ q_66 fun a b => V 60 (36 * s + (6 * a + b)) = a_lk (t_b V) n d.toNat a b) ∧ True) := by
  have U1 := T1.2
  have T1 := T1.1
  have U2 := T2.2
  have T2 := T2.1
  have hc := T1.1
  refine ⟨trivial, ⟨by omega, T0.2.1, fun a b a0 a1 b0 b1 => ?_⟩, trivial⟩
  dsimp only
  rw [c_lkM T1 T2 (by omega)]
  exact T0.2.2 a b a0 a1 b0 b1
theorem k_mfk {V : zVw} {n c s z H L W WP S : Int} (T0 : 0 ≤ c ∧ 0 ≤ s ∧ q_66 fun a b => V 60 (36 * s + (6 * a + b)) = a_lk (t_b V) n c.toNat a b) (T1 : q_run2 (t_b V) n c (0 : Int) (0 : Int) (0 : Int) H L W WP S) (T2 : 0 ≤ c ∧ 0 ≤ (0 : Int) ∧ (0 : Int) ≤ 41 ∧ t_km (0 : Int) = tk (t_b V) n c.toNat ∧ z = t_s (t_b V) n c.toNat) : (True) ∧ ((0 ≤ s ∧ ∃ c : Nat, q_end (t_b V) n c ∧ q_66 fun a b => V 60 (36 * s + (6 * a + b)) = a_lk (t_b V) n c a b) ∧ True) := by
  have U1 := T1.2
  have T1 := T1.1
  have hs := T0.2.1
  exact ⟨trivial, ⟨hs, c.toNat, ⟨by obtain ⟨-, Q, e, -⟩ := T1; exact ⟨Q, e⟩, T2.2.2.2.1.symm.trans (by decide)⟩, T0.2.2⟩, trivial⟩
theorem k_mfih {V : zVw} {n c H L W WP z S : Int} (T0 : q_run2 (t_b V) n c (0 : Int) (0 : Int) (0 : Int) H L W WP S) (T1 : 0 ≤ c ∧ 0 ≤ (0 : Int) ∧ (0 : Int) ≤ 41 ∧ t_km (0 : Int) = tk (t_b V) n c.toNat ∧ z = t_s (t_b V) n c.toNat) : (True) ∧ (q_fih (t_b V) n H ∧ True) := by
  have U0 := T0.2
  have T0 := T0.1
  obtain ⟨-, Q, e9, -, -, -, g9, -⟩ := T0
  exact ⟨trivial, ⟨c.toNat, Q, e9, T1.2.2.2.1.symm.trans (by decide), g9⟩, trivial⟩
theorem k_houS {V : zVw} {s H : Int} (C0 : 0 ≤ s) (C1 : 0 ≤ 1 - s) (F0 : (0 : Int) ≤ s ∧ (s : Int) < j_len 56 ∧ V 56 (s) = H) : (True) ∧ ((0 ≤ s ∧ s ≠ (1 - s) ∧ V 56 s = H) ∧ True) := by
  exact ⟨trivial, ⟨by omega, by omega, F0.2.2⟩, trivial⟩
theorem k_fihE2 {V : zVw} {n H J l s : Int} (T0 : 0 ≤ l ∧ l ≠ s ∧ V 56 l = J) (T1 : q_fih (t_b V) n J) (T2 : q_fih (t_b V) n H) : (0 ≤ H - J ∧ 0 ≤ J - H ∧ True) ∧ (True) := by
  have h9 := c_fihU T1 T2
  exact ⟨⟨by omega, by omega, trivial⟩, trivial⟩
theorem k_tlk0 {V : zVw} {n s : Int} (T0 : ∃ c : Nat, q_end (t_b V) n c ∧ q_66 fun a b => V 18 (6 * a + b) = a_lk (t_b V) n c a b) (T1 : 0 ≤ s ∧ ∃ c : Nat, q_end (t_b V) n c ∧ q_66 fun a b => V 60 (36 * s + (6 * a + b)) = a_lk (t_b V) n c a b) (C0 : 0 ≤ s) (C1 : 0 ≤ 1 - s) : (True) ∧ (((1 : Int) = 1 → 0 ≤ s ∧ 0 ≤ (1 - s) ∧ s + (1 - s) = 1 ∧ q_66 fun a b => V 18 (6 * a + b) = V 60 (36 * s + (6 * a + b))) ∧ True) := by
  obtain ⟨c1, e1, g1⟩ := T0
  obtain ⟨s0, c2, e2, g2⟩ := T1
  have hc := q_end_u e1 e2
  subst hc
  refine ⟨trivial, fun _ => ⟨by omega, by omega, by omega, fun a b a0 a1 b0 b1 => ?_⟩, trivial⟩
  dsimp only
  have k1 : V 18 (6 * a + b) = _ := g1 a b a0 a1 b0 b1
  have k2 : V 60 (36 * s + (6 * a + b)) = _ := g2 a b a0 a1 b0 b1
  rw [k1, k2]
theorem k_tlkz {V : zVw} {l n : Int} (T0 : ∃ c : Nat, q_end (t_b V) n c ∧ q_66 fun a b => V 18 (6 * a + b) = a_lk (t_b V) n c a b) (C0 : 0 ≤ l) (C1 : 0 ≤ 1 - l) : (True) ∧ (((0 : Int) = 1 → 0 ≤ l ∧ 0 ≤ (1 - l) ∧ l + (1 - l) = 1 ∧ q_66 fun a b => V 18 (6 * a + b) = V 60 (36 * l + (6 * a + b))) ∧ True) := by
  exact ⟨trivial, fun h => absurd h (by decide), trivial⟩
theorem k_houA {V : zVw} {h l H s u : Int} (T0 : 0 ≤ l ∧ l ≠ s ∧ V 56 l = H) (C0 : 0 ≤ h - u) (F0 : (0 : Int) ≤ l ∧ (l : Int) < j_len 56 ∧ V 56 (l) = u) : (0 ≤ h - H ∧ True) ∧ (True) := by
  have h9 := T0.2.2
  have h8 := F0.2.2
  exact ⟨⟨by omega, trivial⟩, trivial⟩
theorem k_houB {V : zVw} {h l H s u : Int} (T0 : 0 ≤ l ∧ l ≠ s ∧ V 56 l = H) (C0 : 0 ≤ u - h - 1) (F0 : (0 : Int) ≤ l ∧ (l : Int) < j_len 56 ∧ V 56 (l) = u) : (0 ≤ H - h - 1 ∧ True) ∧ (True) := by
  have h9 := T0.2.2
  have h8 := F0.2.2
  exact ⟨⟨by omega, trivial⟩, trivial⟩
theorem k_clv {V : zVw} {h o u : Int} (F0 : (0 : Int) ≤ 6 * h + o ∧ (6 * h + o : Int) < j_len 18 ∧ V 18 (6 * h + o) = u) : (True) ∧ ((V 18 (6 * h + o) = u) ∧ True) := by
  exact ⟨trivial, F0.2.2, trivial⟩
theorem k_mlv {V : zVw} {l h o u : Int} (F0 : (0 : Int) ≤ 36 * l + 6 * h + o ∧ (36 * l + 6 * h + o : Int) < j_len 60 ∧ V 60 (36 * l + 6 * h + o) = u) : (True) ∧ ((V 60 (36 * l + 6 * h + o) = u) ∧ True) := by
  exact ⟨trivial, F0.2.2, trivial⟩
theorem k_lkE {V : zVw} {l s j k u w : Int} (T0 : (1 : Int) = 1 → 0 ≤ l ∧ 0 ≤ s ∧ l + s = 1 ∧ q_66 fun a b => V 18 (6 * a + b) = V 60 (36 * l + (6 * a + b))) (T1 : V 18 j = u) (T2 : V 60 k = w) (C0 : 0 ≤ j) (C1 : 0 ≤ 35 - j) (C2 : 0 ≤ k - 36 * l - j) (C3 : 0 ≤ 36 * l + j - k) : (0 ≤ u - w ∧ 0 ≤ w - u ∧ True) ∧ (True) := by
  obtain ⟨l0, s0, ls, g9⟩ := T0 rfl
  have h9 : V 18 (6 * (j / 6) + j % 6) = V 60 (36 * l + (6 * (j / 6) + j % 6)) := g9 (j / 6) (j % 6) (by omega) (by omega) (by omega) (by omega)
  rw [show 6 * (j / 6) + j % 6 = j by omega, show 36 * l + j = k by omega, T1, T2] at h9
  exact ⟨⟨by omega, by omega, trivial⟩, trivial⟩
theorem k_num0_9 {V : zVw} {n H L W P S : Int} (T0 : q_run2 (t_b V) n (0 : Int) (0 : Int) (0 : Int) (0 : Int) H L W P S) : (True) ∧ ((0 ≤ (0 : Int) ∧ (20 : Int) = a_nu (t_b V) n (0 : Int).toNat (9 : Int)) ∧ True) := by
  have U0 := T0.2
  have T0 := T0.1
  exact ⟨trivial, ⟨by omega, by rfl⟩, trivial⟩
theorem k_numS_9 {V : zVw} {n d H L W P H2 L2 W2 P2 s v u S S2 : Int} (T0 : q_run2 (t_b V) n (d - 1) (13 : Int) (0 : Int) (0 : Int) H L W P S) (T1 : q_run2 (t_b V) n (d - 3) (0 : Int) (0 : Int) (0 : Int) H2 L2 W2 P2 S2) (T2 : q_tok (t_b V) n (d - 3) (258 : Int) s v) (T3 : tk (t_b V) n (d - 2).toNat = 3 ∧ u = tx (t_b V) n (d - 2).toNat) (C0 : 0 ≤ 400 - d) (C1 : 0 ≤ d - 3) : (True) ∧ ((0 ≤ d ∧ u = a_nu (t_b V) n d.toNat (9 : Int)) ∧ True) := by
  have U0 := T0.2
  have T0 := T0.1
  have U1 := T1.2
  have T1 := T1.1
  exact ⟨trivial, ⟨by omega, c_nuS T0 T2.2.1.symm (by decide) T3.2 (by omega)⟩, trivial⟩
theorem k_numMa_9 {V : zVw} {n c d H L W P H2 L2 W2 P2 kd s v w S S2 : Int} (T0 : 0 ≤ c ∧ w = a_nu (t_b V) n c.toNat (9 : Int)) (T1 : q_run2 (t_b V) n c (0 : Int) (0 : Int) (0 : Int) H L W P S) (T2 : q_run2 (t_b V) n d (0 : Int) (0 : Int) (0 : Int) H2 L2 W2 P2 S2) (T3 : q_tok (t_b V) n c kd s v) (C0 : 0 ≤ d - c) (C1 : 0 ≤ S - S2 + 1) (C2 : 0 ≤ S2 - S - 1) (C3 : 0 ≤ 257 - kd) : (True) ∧ ((0 ≤ d ∧ w = a_nu (t_b V) n d.toNat (9 : Int)) ∧ True) := by
  have U1 := T1.2
  have T1 := T1.1
  have U2 := T2.2
  have T2 := T2.1
  exact ⟨trivial, ⟨by omega, c_nuM T0.2 T1 U1 T2 U2 T3.2.1.symm (by omega) (by omega) (by unfold a_sn; repeat (first | omega | split))⟩, trivial⟩
theorem k_numMb_9 {V : zVw} {n c d H L W P H2 L2 W2 P2 kd s v w S S2 : Int} (T0 : 0 ≤ c ∧ w = a_nu (t_b V) n c.toNat (9 : Int)) (T1 : q_run2 (t_b V) n c (0 : Int) (0 : Int) (0 : Int) H L W P S) (T2 : q_run2 (t_b V) n d (0 : Int) (0 : Int) (0 : Int) H2 L2 W2 P2 S2) (T3 : q_tok (t_b V) n c kd s v) (C0 : 0 ≤ d - c) (C1 : 0 ≤ S - S2 + 1) (C2 : 0 ≤ S2 - S - 1) (C3 : 0 ≤ kd - 259) : (True) ∧ ((0 ≤ d ∧ w = a_nu (t_b V) n d.toNat (9 : Int)) ∧ True) := by
  have U1 := T1.2
  have T1 := T1.1
  have U2 := T2.2
  have T2 := T2.1
  exact ⟨trivial, ⟨by omega, c_nuM T0.2 T1 U1 T2 U2 T3.2.1.symm (by omega) (by omega) (by unfold a_sn; repeat (first | omega | split))⟩, trivial⟩
theorem k_fnm_9 {V : zVw} {n c H L W P s v w S : Int} (T0 : 0 ≤ c ∧ w = a_nu (t_b V) n c.toNat (9 : Int)) (T1 : q_run2 (t_b V) n c (0 : Int) (0 : Int) (0 : Int) H L W P S) (T2 : q_tok (t_b V) n c (0 : Int) s v) : (True) ∧ ((∃ c : Nat, q_end (t_b V) n c ∧ w = a_nu (t_b V) n c (9 : Int)) ∧ True) := by
  have U1 := T1.2
  have T1 := T1.1
  exact ⟨trivial, ⟨c.toNat, ⟨by obtain ⟨-, Q, e, -⟩ := T1; exact ⟨Q, e⟩, T2.2.1.symm⟩, T0.2⟩, trivial⟩
theorem k_num0_10 {V : zVw} {n H L W P S : Int} (T0 : q_run2 (t_b V) n (0 : Int) (0 : Int) (0 : Int) (0 : Int) H L W P S) : (True) ∧ ((0 ≤ (0 : Int) ∧ (10 : Int) = a_nu (t_b V) n (0 : Int).toNat (10 : Int)) ∧ True) := by
  have U0 := T0.2
  have T0 := T0.1
  exact ⟨trivial, ⟨by omega, by rfl⟩, trivial⟩
theorem k_numS_10 {V : zVw} {n d H L W P H2 L2 W2 P2 s v u S S2 : Int} (T0 : q_run2 (t_b V) n (d - 1) (13 : Int) (0 : Int) (0 : Int) H L W P S) (T1 : q_run2 (t_b V) n (d - 3) (0 : Int) (0 : Int) (0 : Int) H2 L2 W2 P2 S2) (T2 : q_tok (t_b V) n (d - 3) (259 : Int) s v) (T3 : tk (t_b V) n (d - 2).toNat = 3 ∧ u = tx (t_b V) n (d - 2).toNat) (C0 : 0 ≤ 400 - d) (C1 : 0 ≤ d - 3) : (True) ∧ ((0 ≤ d ∧ u = a_nu (t_b V) n d.toNat (10 : Int)) ∧ True) := by
  have U0 := T0.2
  have T0 := T0.1
  have U1 := T1.2
  have T1 := T1.1
  exact ⟨trivial, ⟨by omega, c_nuS T0 T2.2.1.symm (by decide) T3.2 (by omega)⟩, trivial⟩
theorem k_numMa_10 {V : zVw} {n c d H L W P H2 L2 W2 P2 kd s v w S S2 : Int} (T0 : 0 ≤ c ∧ w = a_nu (t_b V) n c.toNat (10 : Int)) (T1 : q_run2 (t_b V) n c (0 : Int) (0 : Int) (0 : Int) H L W P S) (T2 : q_run2 (t_b V) n d (0 : Int) (0 : Int) (0 : Int) H2 L2 W2 P2 S2) (T3 : q_tok (t_b V) n c kd s v) (C0 : 0 ≤ d - c) (C1 : 0 ≤ S - S2 + 1) (C2 : 0 ≤ S2 - S - 1) (C3 : 0 ≤ 258 - kd) : (True) ∧ ((0 ≤ d ∧ w = a_nu (t_b V) n d.toNat (10 : Int)) ∧ True) := by
  have U1 := T1.2
  have T1 := T1.1
  have U2 := T2.2
  have T2 := T2.1
  exact ⟨trivial, ⟨by omega, c_nuM T0.2 T1 U1 T2 U2 T3.2.1.symm (by omega) (by omega) (by unfold a_sn; repeat (first | omega | split))⟩, trivial⟩
theorem k_numMb_10 {V : zVw} {n c d H L W P H2 L2 W2 P2 kd s v w S S2 : Int} (T0 : 0 ≤ c ∧ w = a_nu (t_b V) n c.toNat (10 : Int)) (T1 : q_run2 (t_b V) n c (0 : Int) (0 : Int) (0 : Int) H L W P S) (T2 : q_run2 (t_b V) n d (0 : Int) (0 : Int) (0 : Int) H2 L2 W2 P2 S2) (T3 : q_tok (t_b V) n c kd s v) (C0 : 0 ≤ d - c) (C1 : 0 ≤ S - S2 + 1) (C2 : 0 ≤ S2 - S - 1) (C3 : 0 ≤ kd - 260) : (True) ∧ ((0 ≤ d ∧ w = a_nu (t_b V) n d.toNat (10 : Int)) ∧ True) := by
  have U1 := T1.2
  have T1 := T1.1
  have U2 := T2.2
  have T2 := T2.1
  exact ⟨trivial, ⟨by omega, c_nuM T0.2 T1 U1 T2 U2 T3.2.1.symm (by omega) (by omega) (by unfold a_sn; repeat (first | omega | split))⟩, trivial⟩
theorem k_fnm_10 {V : zVw} {n c H L W P s v w S : Int} (T0 : 0 ≤ c ∧ w = a_nu (t_b V) n c.toNat (10 : Int)) (T1 : q_run2 (t_b V) n c (0 : Int) (0 : Int) (0 : Int) H L W P S) (T2 : q_tok (t_b V) n c (0 : Int) s v) : (True) ∧ ((∃ c : Nat, q_end (t_b V) n c ∧ w = a_nu (t_b V) n c (10 : Int)) ∧ True) := by
  have U1 := T1.2
  have T1 := T1.1
  exact ⟨trivial, ⟨c.toNat, ⟨by obtain ⟨-, Q, e, -⟩ := T1; exact ⟨Q, e⟩, T2.2.1.symm⟩, T0.2⟩, trivial⟩
theorem k_num0_11 {V : zVw} {n H L W P S : Int} (T0 : q_run2 (t_b V) n (0 : Int) (0 : Int) (0 : Int) (0 : Int) H L W P S) : (True) ∧ ((0 ≤ (0 : Int) ∧ (0 : Int) = a_nu (t_b V) n (0 : Int).toNat (11 : Int)) ∧ True) := by
  have U0 := T0.2
  have T0 := T0.1
  exact ⟨trivial, ⟨by omega, by rfl⟩, trivial⟩
theorem k_numS_11 {V : zVw} {n d H L W P H2 L2 W2 P2 s v u S S2 : Int} (T0 : q_run2 (t_b V) n (d - 1) (13 : Int) (0 : Int) (0 : Int) H L W P S) (T1 : q_run2 (t_b V) n (d - 3) (0 : Int) (0 : Int) (0 : Int) H2 L2 W2 P2 S2) (T2 : q_tok (t_b V) n (d - 3) (264 : Int) s v) (T3 : tk (t_b V) n (d - 2).toNat = 3 ∧ u = tx (t_b V) n (d - 2).toNat) (C0 : 0 ≤ 400 - d) (C1 : 0 ≤ d - 3) : (True) ∧ ((0 ≤ d ∧ u = a_nu (t_b V) n d.toNat (11 : Int)) ∧ True) := by
  have U0 := T0.2
  have T0 := T0.1
  have U1 := T1.2
  have T1 := T1.1
  exact ⟨trivial, ⟨by omega, c_nuS T0 T2.2.1.symm (by decide) T3.2 (by omega)⟩, trivial⟩
theorem k_numMa_11 {V : zVw} {n c d H L W P H2 L2 W2 P2 kd s v w S S2 : Int} (T0 : 0 ≤ c ∧ w = a_nu (t_b V) n c.toNat (11 : Int)) (T1 : q_run2 (t_b V) n c (0 : Int) (0 : Int) (0 : Int) H L W P S) (T2 : q_run2 (t_b V) n d (0 : Int) (0 : Int) (0 : Int) H2 L2 W2 P2 S2) (T3 : q_tok (t_b V) n c kd s v) (C0 : 0 ≤ d - c) (C1 : 0 ≤ S - S2 + 1) (C2 : 0 ≤ S2 - S - 1) (C3 : 0 ≤ 263 - kd) : (True) ∧ ((0 ≤ d ∧ w = a_nu (t_b V) n d.toNat (11 : Int)) ∧ True) := by
  have U1 := T1.2
  have T1 := T1.1
  have U2 := T2.2
  have T2 := T2.1
  exact ⟨trivial, ⟨by omega, c_nuM T0.2 T1 U1 T2 U2 T3.2.1.symm (by omega) (by omega) (by unfold a_sn; repeat (first | omega | split))⟩, trivial⟩
theorem k_numMb_11 {V : zVw} {n c d H L W P H2 L2 W2 P2 kd s v w S S2 : Int} (T0 : 0 ≤ c ∧ w = a_nu (t_b V) n c.toNat (11 : Int)) (T1 : q_run2 (t_b V) n c (0 : Int) (0 : Int) (0 : Int) H L W P S) (T2 : q_run2 (t_b V) n d (0 : Int) (0 : Int) (0 : Int) H2 L2 W2 P2 S2) (T3 : q_tok (t_b V) n c kd s v) (C0 : 0 ≤ d - c) (C1 : 0 ≤ S - S2 + 1) (C2 : 0 ≤ S2 - S - 1) (C3 : 0 ≤ kd - 265) : (True) ∧ ((0 ≤ d ∧ w = a_nu (t_b V) n d.toNat (11 : Int)) ∧ True) := by
  have U1 := T1.2
  have T1 := T1.1
  have U2 := T2.2
  have T2 := T2.1
  exact ⟨trivial, ⟨by omega, c_nuM T0.2 T1 U1 T2 U2 T3.2.1.symm (by omega) (by omega) (by unfold a_sn; repeat (first | omega | split))⟩, trivial⟩
theorem k_fnm_11 {V : zVw} {n c H L W P s v w S : Int} (T0 : 0 ≤ c ∧ w = a_nu (t_b V) n c.toNat (11 : Int)) (T1 : q_run2 (t_b V) n c (0 : Int) (0 : Int) (0 : Int) H L W P S) (T2 : q_tok (t_b V) n c (0 : Int) s v) : (True) ∧ ((∃ c : Nat, q_end (t_b V) n c ∧ w = a_nu (t_b V) n c (11 : Int)) ∧ True) := by
  have U1 := T1.2
  have T1 := T1.1
  exact ⟨trivial, ⟨c.toNat, ⟨by obtain ⟨-, Q, e, -⟩ := T1; exact ⟨Q, e⟩, T2.2.1.symm⟩, T0.2⟩, trivial⟩
theorem k_num0_12 {V : zVw} {n H L W P S : Int} (T0 : q_run2 (t_b V) n (0 : Int) (0 : Int) (0 : Int) (0 : Int) H L W P S) : (True) ∧ ((0 ≤ (0 : Int) ∧ (0 : Int) = a_nu (t_b V) n (0 : Int).toNat (12 : Int)) ∧ True) := by
  have U0 := T0.2
  have T0 := T0.1
  exact ⟨trivial, ⟨by omega, by rfl⟩, trivial⟩
theorem k_numS_12 {V : zVw} {n d H L W P H2 L2 W2 P2 s v u S S2 : Int} (T0 : q_run2 (t_b V) n (d - 1) (13 : Int) (0 : Int) (0 : Int) H L W P S) (T1 : q_run2 (t_b V) n (d - 3) (0 : Int) (0 : Int) (0 : Int) H2 L2 W2 P2 S2) (T2 : q_tok (t_b V) n (d - 3) (265 : Int) s v) (T3 : tk (t_b V) n (d - 2).toNat = 3 ∧ u = tx (t_b V) n (d - 2).toNat) (C0 : 0 ≤ 400 - d) (C1 : 0 ≤ d - 3) : (True) ∧ ((0 ≤ d ∧ u = a_nu (t_b V) n d.toNat (12 : Int)) ∧ True) := by
  have U0 := T0.2
  have T0 := T0.1
  have U1 := T1.2
  have T1 := T1.1
  exact ⟨trivial, ⟨by omega, c_nuS T0 T2.2.1.symm (by decide) T3.2 (by omega)⟩, trivial⟩
theorem k_numMa_12 {V : zVw} {n c d H L W P H2 L2 W2 P2 kd s v w S S2 : Int} (T0 : 0 ≤ c ∧ w = a_nu (t_b V) n c.toNat (12 : Int)) (T1 : q_run2 (t_b V) n c (0 : Int) (0 : Int) (0 : Int) H L W P S) (T2 : q_run2 (t_b V) n d (0 : Int) (0 : Int) (0 : Int) H2 L2 W2 P2 S2) (T3 : q_tok (t_b V) n c kd s v) (C0 : 0 ≤ d - c) (C1 : 0 ≤ S - S2 + 1) (C2 : 0 ≤ S2 - S - 1) (C3 : 0 ≤ 264 - kd) : (True) ∧ ((0 ≤ d ∧ w = a_nu (t_b V) n d.toNat (12 : Int)) ∧ True) := by
  have U1 := T1.2
  have T1 := T1.1
  have U2 := T2.2
  have T2 := T2.1
  exact ⟨trivial, ⟨by omega, c_nuM T0.2 T1 U1 T2 U2 T3.2.1.symm (by omega) (by omega) (by unfold a_sn; repeat (first | omega | split))⟩, trivial⟩
theorem k_numMb_12 {V : zVw} {n c d H L W P H2 L2 W2 P2 kd s v w S S2 : Int} (T0 : 0 ≤ c ∧ w = a_nu (t_b V) n c.toNat (12 : Int)) (T1 : q_run2 (t_b V) n c (0 : Int) (0 : Int) (0 : Int) H L W P S) (T2 : q_run2 (t_b V) n d (0 : Int) (0 : Int) (0 : Int) H2 L2 W2 P2 S2) (T3 : q_tok (t_b V) n c kd s v) (C0 : 0 ≤ d - c) (C1 : 0 ≤ S - S2 + 1) (C2 : 0 ≤ S2 - S - 1) (C3 : 0 ≤ kd - 266) : (True) ∧ ((0 ≤ d ∧ w = a_nu (t_b V) n d.toNat (12 : Int)) ∧ True) := by
  have U1 := T1.2
  have T1 := T1.1
  have U2 := T2.2
  have T2 := T2.1
  exact ⟨trivial, ⟨by omega, c_nuM T0.2 T1 U1 T2 U2 T3.2.1.symm (by omega) (by omega) (by unfold a_sn; repeat (first | omega | split))⟩, trivial⟩
theorem k_fnm_12 {V : zVw} {n c H L W P s v w S : Int} (T0 : 0 ≤ c ∧ w = a_nu (t_b V) n c.toNat (12 : Int)) (T1 : q_run2 (t_b V) n c (0 : Int) (0 : Int) (0 : Int) H L W P S) (T2 : q_tok (t_b V) n c (0 : Int) s v) : (True) ∧ ((∃ c : Nat, q_end (t_b V) n c ∧ w = a_nu (t_b V) n c (12 : Int)) ∧ True) := by
  have U1 := T1.2
  have T1 := T1.1
  exact ⟨trivial, ⟨c.toNat, ⟨by obtain ⟨-, Q, e, -⟩ := T1; exact ⟨Q, e⟩, T2.2.1.symm⟩, T0.2⟩, trivial⟩
theorem k_mnum0_9 {V : zVw} {n H L W P c S : Int} (T0 : q_run2 (t_b V) n c (0 : Int) (0 : Int) (0 : Int) H L W P S) (C0 : 0 ≤ c) (C1 : 0 ≤ -c) : (True) ∧ ((0 ≤ c ∧ (20 : Int) = a_nu (t_b V) n c.toNat (9 : Int)) ∧ True) := by
  have U0 := T0.2
  have T0 := T0.1
  have hc : c = 0 := by omega
  subst hc
  exact ⟨trivial, ⟨by omega, by rfl⟩, trivial⟩
theorem k_mnumMa_9 {V : zVw} {n c d H L W P H2 L2 W2 P2 u s w S S2 : Int} (T0 : 0 ≤ c ∧ w = a_nu (t_b V) n c.toNat (9 : Int)) (T1 : q_run2 (t_b V) n c (0 : Int) (0 : Int) (0 : Int) H L W P S) (T2 : q_run2 (t_b V) n d (0 : Int) (0 : Int) (0 : Int) H2 L2 W2 P2 S2) (T3 : 0 ≤ c ∧ 0 ≤ u ∧ u ≤ 41 ∧ t_km u = tk (t_b V) n c.toNat ∧ s = t_s (t_b V) n c.toNat) (C0 : 0 ≤ d - c) (C1 : 0 ≤ S - S2 + 1) (C2 : 0 ≤ S2 - S - 1) (C3 : 0 ≤ 21 - u) : (True) ∧ ((0 ≤ d ∧ w = a_nu (t_b V) n d.toNat (9 : Int)) ∧ True) := by
  have U1 := T1.2
  have T1 := T1.1
  have U2 := T2.2
  have T2 := T2.1
  have hu := t_km_alt T3.2.1 T3.2.2.1
  exact ⟨trivial, ⟨by omega, c_nuM T0.2 T1 U1 T2 U2 T3.2.2.2.1.symm (by omega) (by omega) (by unfold a_sn; repeat (first | omega | split))⟩, trivial⟩
theorem k_mnumMb_9 {V : zVw} {n c d H L W P H2 L2 W2 P2 u s w S S2 : Int} (T0 : 0 ≤ c ∧ w = a_nu (t_b V) n c.toNat (9 : Int)) (T1 : q_run2 (t_b V) n c (0 : Int) (0 : Int) (0 : Int) H L W P S) (T2 : q_run2 (t_b V) n d (0 : Int) (0 : Int) (0 : Int) H2 L2 W2 P2 S2) (T3 : 0 ≤ c ∧ 0 ≤ u ∧ u ≤ 41 ∧ t_km u = tk (t_b V) n c.toNat ∧ s = t_s (t_b V) n c.toNat) (C0 : 0 ≤ d - c) (C1 : 0 ≤ S - S2 + 1) (C2 : 0 ≤ S2 - S - 1) (C3 : 0 ≤ u - 23) : (True) ∧ ((0 ≤ d ∧ w = a_nu (t_b V) n d.toNat (9 : Int)) ∧ True) := by
  have U1 := T1.2
  have T1 := T1.1
  have U2 := T2.2
  have T2 := T2.1
  have hu := t_km_alt T3.2.1 T3.2.2.1
  exact ⟨trivial, ⟨by omega, c_nuM T0.2 T1 U1 T2 U2 T3.2.2.2.1.symm (by omega) (by omega) (by unfold a_sn; repeat (first | omega | split))⟩, trivial⟩
theorem k_mfnm_9 {V : zVw} {n c H L W P z w S : Int} (T0 : 0 ≤ c ∧ w = a_nu (t_b V) n c.toNat (9 : Int)) (T1 : q_run2 (t_b V) n c (0 : Int) (0 : Int) (0 : Int) H L W P S) (T2 : 0 ≤ c ∧ 0 ≤ (0 : Int) ∧ (0 : Int) ≤ 41 ∧ t_km (0 : Int) = tk (t_b V) n c.toNat ∧ z = t_s (t_b V) n c.toNat) : (True) ∧ ((∃ c : Nat, q_end (t_b V) n c ∧ w = a_nu (t_b V) n c (9 : Int)) ∧ True) := by
  have U1 := T1.2
  have T1 := T1.1
  exact ⟨trivial, ⟨c.toNat, ⟨by obtain ⟨-, Q, e, -⟩ := T1; exact ⟨Q, e⟩, T2.2.2.2.1.symm.trans (by decide)⟩, T0.2⟩, trivial⟩
theorem k_mnum0_10 {V : zVw} {n H L W P c S : Int} (T0 : q_run2 (t_b V) n c (0 : Int) (0 : Int) (0 : Int) H L W P S) (C0 : 0 ≤ c) (C1 : 0 ≤ -c) : (True) ∧ ((0 ≤ c ∧ (10 : Int) = a_nu (t_b V) n c.toNat (10 : Int)) ∧ True) := by
  have U0 := T0.2
  have T0 := T0.1
  have hc : c = 0 := by omega
  subst hc
  exact ⟨trivial, ⟨by omega, by rfl⟩, trivial⟩
theorem k_mnumMa_10 {V : zVw} {n c d H L W P H2 L2 W2 P2 u s w S S2 : Int} (T0 : 0 ≤ c ∧ w = a_nu (t_b V) n c.toNat (10 : Int)) (T1 : q_run2 (t_b V) n c (0 : Int) (0 : Int) (0 : Int) H L W P S) (T2 : q_run2 (t_b V) n d (0 : Int) (0 : Int) (0 : Int) H2 L2 W2 P2 S2) (T3 : 0 ≤ c ∧ 0 ≤ u ∧ u ≤ 41 ∧ t_km u = tk (t_b V) n c.toNat ∧ s = t_s (t_b V) n c.toNat) (C0 : 0 ≤ d - c) (C1 : 0 ≤ S - S2 + 1) (C2 : 0 ≤ S2 - S - 1) (C3 : 0 ≤ 22 - u) : (True) ∧ ((0 ≤ d ∧ w = a_nu (t_b V) n d.toNat (10 : Int)) ∧ True) := by
  have U1 := T1.2
  have T1 := T1.1
  have U2 := T2.2
  have T2 := T2.1
  have hu := t_km_alt T3.2.1 T3.2.2.1
  exact ⟨trivial, ⟨by omega, c_nuM T0.2 T1 U1 T2 U2 T3.2.2.2.1.symm (by omega) (by omega) (by unfold a_sn; repeat (first | omega | split))⟩, trivial⟩
theorem k_mnumMb_10 {V : zVw} {n c d H L W P H2 L2 W2 P2 u s w S S2 : Int} (T0 : 0 ≤ c ∧ w = a_nu (t_b V) n c.toNat (10 : Int)) (T1 : q_run2 (t_b V) n c (0 : Int) (0 : Int) (0 : Int) H L W P S) (T2 : q_run2 (t_b V) n d (0 : Int) (0 : Int) (0 : Int) H2 L2 W2 P2 S2) (T3 : 0 ≤ c ∧ 0 ≤ u ∧ u ≤ 41 ∧ t_km u = tk (t_b V) n c.toNat ∧ s = t_s (t_b V) n c.toNat) (C0 : 0 ≤ d - c) (C1 : 0 ≤ S - S2 + 1) (C2 : 0 ≤ S2 - S - 1) (C3 : 0 ≤ u - 24) : (True) ∧ ((0 ≤ d ∧ w = a_nu (t_b V) n d.toNat (10 : Int)) ∧ True) := by
  have U1 := T1.2
  have T1 := T1.1
  have U2 := T2.2
  have T2 := T2.1
  have hu := t_km_alt T3.2.1 T3.2.2.1
  exact ⟨trivial, ⟨by omega, c_nuM T0.2 T1 U1 T2 U2 T3.2.2.2.1.symm (by omega) (by omega) (by unfold a_sn; repeat (first | omega | split))⟩, trivial⟩
theorem k_mfnm_10 {V : zVw} {n c H L W P z w S : Int} (T0 : 0 ≤ c ∧ w = a_nu (t_b V) n c.toNat (10 : Int)) (T1 : q_run2 (t_b V) n c (0 : Int) (0 : Int) (0 : Int) H L W P S) (T2 : 0 ≤ c ∧ 0 ≤ (0 : Int) ∧ (0 : Int) ≤ 41 ∧ t_km (0 : Int) = tk (t_b V) n c.toNat ∧ z = t_s (t_b V) n c.toNat) : (True) ∧ ((∃ c : Nat, q_end (t_b V) n c ∧ w = a_nu (t_b V) n c (10 : Int)) ∧ True) := by
  have U1 := T1.2
  have T1 := T1.1
  exact ⟨trivial, ⟨c.toNat, ⟨by obtain ⟨-, Q, e, -⟩ := T1; exact ⟨Q, e⟩, T2.2.2.2.1.symm.trans (by decide)⟩, T0.2⟩, trivial⟩
theorem k_mnum0_11 {V : zVw} {n H L W P c S : Int} (T0 : q_run2 (t_b V) n c (0 : Int) (0 : Int) (0 : Int) H L W P S) (C0 : 0 ≤ c) (C1 : 0 ≤ -c) : (True) ∧ ((0 ≤ c ∧ (0 : Int) = a_nu (t_b V) n c.toNat (11 : Int)) ∧ True) := by
  have U0 := T0.2
  have T0 := T0.1
  have hc : c = 0 := by omega
  subst hc
  exact ⟨trivial, ⟨by omega, by rfl⟩, trivial⟩
theorem k_mnumMa_11 {V : zVw} {n c d H L W P H2 L2 W2 P2 u s w S S2 : Int} (T0 : 0 ≤ c ∧ w = a_nu (t_b V) n c.toNat (11 : Int)) (T1 : q_run2 (t_b V) n c (0 : Int) (0 : Int) (0 : Int) H L W P S) (T2 : q_run2 (t_b V) n d (0 : Int) (0 : Int) (0 : Int) H2 L2 W2 P2 S2) (T3 : 0 ≤ c ∧ 0 ≤ u ∧ u ≤ 41 ∧ t_km u = tk (t_b V) n c.toNat ∧ s = t_s (t_b V) n c.toNat) (C0 : 0 ≤ d - c) (C1 : 0 ≤ S - S2 + 1) (C2 : 0 ≤ S2 - S - 1) (C3 : 0 ≤ 27 - u) : (True) ∧ ((0 ≤ d ∧ w = a_nu (t_b V) n d.toNat (11 : Int)) ∧ True) := by
  have U1 := T1.2
  have T1 := T1.1
  have U2 := T2.2
  have T2 := T2.1
  have hu := t_km_alt T3.2.1 T3.2.2.1
  exact ⟨trivial, ⟨by omega, c_nuM T0.2 T1 U1 T2 U2 T3.2.2.2.1.symm (by omega) (by omega) (by unfold a_sn; repeat (first | omega | split))⟩, trivial⟩
theorem k_mnumMb_11 {V : zVw} {n c d H L W P H2 L2 W2 P2 u s w S S2 : Int} (T0 : 0 ≤ c ∧ w = a_nu (t_b V) n c.toNat (11 : Int)) (T1 : q_run2 (t_b V) n c (0 : Int) (0 : Int) (0 : Int) H L W P S) (T2 : q_run2 (t_b V) n d (0 : Int) (0 : Int) (0 : Int) H2 L2 W2 P2 S2) (T3 : 0 ≤ c ∧ 0 ≤ u ∧ u ≤ 41 ∧ t_km u = tk (t_b V) n c.toNat ∧ s = t_s (t_b V) n c.toNat) (C0 : 0 ≤ d - c) (C1 : 0 ≤ S - S2 + 1) (C2 : 0 ≤ S2 - S - 1) (C3 : 0 ≤ u - 29) : (True) ∧ ((0 ≤ d ∧ w = a_nu (t_b V) n d.toNat (11 : Int)) ∧ True) := by
  have U1 := T1.2
  have T1 := T1.1
  have U2 := T2.2
  have T2 := T2.1
  have hu := t_km_alt T3.2.1 T3.2.2.1
  exact ⟨trivial, ⟨by omega, c_nuM T0.2 T1 U1 T2 U2 T3.2.2.2.1.symm (by omega) (by omega) (by unfold a_sn; repeat (first | omega | split))⟩, trivial⟩
theorem k_mfnm_11 {V : zVw} {n c H L W P z w S : Int} (T0 : 0 ≤ c ∧ w = a_nu (t_b V) n c.toNat (11 : Int)) (T1 : q_run2 (t_b V) n c (0 : Int) (0 : Int) (0 : Int) H L W P S) (T2 : 0 ≤ c ∧ 0 ≤ (0 : Int) ∧ (0 : Int) ≤ 41 ∧ t_km (0 : Int) = tk (t_b V) n c.toNat ∧ z = t_s (t_b V) n c.toNat) : (True) ∧ ((∃ c : Nat, q_end (t_b V) n c ∧ w = a_nu (t_b V) n c (11 : Int)) ∧ True) := by
  have U1 := T1.2
  have T1 := T1.1
  exact ⟨trivial, ⟨c.toNat, ⟨by obtain ⟨-, Q, e, -⟩ := T1; exact ⟨Q, e⟩, T2.2.2.2.1.symm.trans (by decide)⟩, T0.2⟩, trivial⟩
theorem k_mnum0_12 {V : zVw} {n H L W P c S : Int} (T0 : q_run2 (t_b V) n c (0 : Int) (0 : Int) (0 : Int) H L W P S) (C0 : 0 ≤ c) (C1 : 0 ≤ -c) : (True) ∧ ((0 ≤ c ∧ (0 : Int) = a_nu (t_b V) n c.toNat (12 : Int)) ∧ True) := by
  have U0 := T0.2
  have T0 := T0.1
  have hc : c = 0 := by omega
  subst hc
  exact ⟨trivial, ⟨by omega, by rfl⟩, trivial⟩
theorem k_mnumMa_12 {V : zVw} {n c d H L W P H2 L2 W2 P2 u s w S S2 : Int} (T0 : 0 ≤ c ∧ w = a_nu (t_b V) n c.toNat (12 : Int)) (T1 : q_run2 (t_b V) n c (0 : Int) (0 : Int) (0 : Int) H L W P S) (T2 : q_run2 (t_b V) n d (0 : Int) (0 : Int) (0 : Int) H2 L2 W2 P2 S2) (T3 : 0 ≤ c ∧ 0 ≤ u ∧ u ≤ 41 ∧ t_km u = tk (t_b V) n c.toNat ∧ s = t_s (t_b V) n c.toNat) (C0 : 0 ≤ d - c) (C1 : 0 ≤ S - S2 + 1) (C2 : 0 ≤ S2 - S - 1) (C3 : 0 ≤ 28 - u) : (True) ∧ ((0 ≤ d ∧ w = a_nu (t_b V) n d.toNat (12 : Int)) ∧ True) := by
  have U1 := T1.2
  have T1 := T1.1
  have U2 := T2.2
  have T2 := T2.1
  have hu := t_km_alt T3.2.1 T3.2.2.1
  exact ⟨trivial, ⟨by omega, c_nuM T0.2 T1 U1 T2 U2 T3.2.2.2.1.symm (by omega) (by omega) (by unfold a_sn; repeat (first | omega | split))⟩, trivial⟩
theorem k_mnumMb_12 {V : zVw} {n c d H L W P H2 L2 W2 P2 u s w S S2 : Int} (T0 : 0 ≤ c ∧ w = a_nu (t_b V) n c.toNat (12 : Int)) (T1 : q_run2 (t_b V) n c (0 : Int) (0 : Int) (0 : Int) H L W P S) (T2 : q_run2 (t_b V) n d (0 : Int) (0 : Int) (0 : Int) H2 L2 W2 P2 S2) (T3 : 0 ≤ c ∧ 0 ≤ u ∧ u ≤ 41 ∧ t_km u = tk (t_b V) n c.toNat ∧ s = t_s (t_b V) n c.toNat) (C0 : 0 ≤ d - c) (C1 : 0 ≤ S - S2 + 1) (C2 : 0 ≤ S2 - S - 1) (C3 : 0 ≤ u - 30) : (True) ∧ ((0 ≤ d ∧ w = a_nu (t_b V) n d.toNat (12 : Int)) ∧ True) := by
  have U1 := T1.2
  have T1 := T1.1
  have U2 := T2.2
  have T2 := T2.1
  have hu := t_km_alt T3.2.1 T3.2.2.1
  exact ⟨trivial, ⟨by omega, c_nuM T0.2 T1 U1 T2 U2 T3.2.2.2.1.symm (by omega) (by omega) (by unfold a_sn; repeat (first | omega | split))⟩, trivial⟩
theorem k_mfnm_12 {V : zVw} {n c H L W P z w S : Int} (T0 : 0 ≤ c ∧ w = a_nu (t_b V) n c.toNat (12 : Int)) (T1 : q_run2 (t_b V) n c (0 : Int) (0 : Int) (0 : Int) H L W P S) (T2 : 0 ≤ c ∧ 0 ≤ (0 : Int) ∧ (0 : Int) ≤ 41 ∧ t_km (0 : Int) = tk (t_b V) n c.toNat ∧ z = t_s (t_b V) n c.toNat) : (True) ∧ ((∃ c : Nat, q_end (t_b V) n c ∧ w = a_nu (t_b V) n c (12 : Int)) ∧ True) := by
  have U1 := T1.2
  have T1 := T1.1
  exact ⟨trivial, ⟨c.toNat, ⟨by obtain ⟨-, Q, e, -⟩ := T1; exact ⟨Q, e⟩, T2.2.2.2.1.symm.trans (by decide)⟩, T0.2⟩, trivial⟩
theorem k_nwS_9 {V : zVw} {s w : Int} (C0 : 0 ≤ s) (C1 : 0 ≤ 1 - s) (F0 : (0 : Int) ≤ s ∧ (s : Int) < j_len 61 ∧ V 61 (s) = w) : (True) ∧ ((0 ≤ s ∧ s ≠ (1 - s) ∧ V 61 s = w) ∧ True) := by
  exact ⟨trivial, ⟨by omega, by omega, F0.2.2⟩, trivial⟩
theorem k_nwS_10 {V : zVw} {s w : Int} (C0 : 0 ≤ s) (C1 : 0 ≤ 1 - s) (F0 : (0 : Int) ≤ s ∧ (s : Int) < j_len 62 ∧ V 62 (s) = w) : (True) ∧ ((0 ≤ s ∧ s ≠ (1 - s) ∧ V 62 s = w) ∧ True) := by
  exact ⟨trivial, ⟨by omega, by omega, F0.2.2⟩, trivial⟩
theorem k_nwS_11 {V : zVw} {s w : Int} (C0 : 0 ≤ s) (C1 : 0 ≤ 1 - s) (F0 : (0 : Int) ≤ s ∧ (s : Int) < j_len 63 ∧ V 63 (s) = w) : (True) ∧ ((0 ≤ s ∧ s ≠ (1 - s) ∧ V 63 s = w) ∧ True) := by
  exact ⟨trivial, ⟨by omega, by omega, F0.2.2⟩, trivial⟩
theorem k_nwS_12 {V : zVw} {s w : Int} (C0 : 0 ≤ s) (C1 : 0 ≤ 1 - s) (F0 : (0 : Int) ≤ s ∧ (s : Int) < j_len 64 ∧ V 64 (s) = w) : (True) ∧ ((0 ≤ s ∧ s ≠ (1 - s) ∧ V 64 s = w) ∧ True) := by
  exact ⟨trivial, ⟨by omega, by omega, F0.2.2⟩, trivial⟩
theorem k_nmE_9 {V : zVw} {n w u l s : Int} (T0 : 0 ≤ l ∧ l ≠ s ∧ V 61 l = u) (T1 : ∃ c : Nat, q_end (t_b V) n c ∧ u = a_nu (t_b V) n c (9 : Int)) (T2 : ∃ c : Nat, q_end (t_b V) n c ∧ w = a_nu (t_b V) n c (9 : Int)) : (0 ≤ w - u ∧ 0 ≤ u - w ∧ True) ∧ (True) := by
  have h9 := c_nuE T1 T2
  exact ⟨⟨by omega, by omega, trivial⟩, trivial⟩
theorem k_nmE_10 {V : zVw} {n w u l s : Int} (T0 : 0 ≤ l ∧ l ≠ s ∧ V 62 l = u) (T1 : ∃ c : Nat, q_end (t_b V) n c ∧ u = a_nu (t_b V) n c (10 : Int)) (T2 : ∃ c : Nat, q_end (t_b V) n c ∧ w = a_nu (t_b V) n c (10 : Int)) : (0 ≤ w - u ∧ 0 ≤ u - w ∧ True) ∧ (True) := by
  have h9 := c_nuE T1 T2
  exact ⟨⟨by omega, by omega, trivial⟩, trivial⟩
theorem k_nmE_11 {V : zVw} {n w u l s : Int} (T0 : 0 ≤ l ∧ l ≠ s ∧ V 63 l = u) (T1 : ∃ c : Nat, q_end (t_b V) n c ∧ u = a_nu (t_b V) n c (11 : Int)) (T2 : ∃ c : Nat, q_end (t_b V) n c ∧ w = a_nu (t_b V) n c (11 : Int)) : (0 ≤ w - u ∧ 0 ≤ u - w ∧ True) ∧ (True) := by
  have h9 := c_nuE T1 T2
  exact ⟨⟨by omega, by omega, trivial⟩, trivial⟩
theorem k_nmE_12 {V : zVw} {n w u l s : Int} (T0 : 0 ≤ l ∧ l ≠ s ∧ V 64 l = u) (T1 : ∃ c : Nat, q_end (t_b V) n c ∧ u = a_nu (t_b V) n c (12 : Int)) (T2 : ∃ c : Nat, q_end (t_b V) n c ∧ w = a_nu (t_b V) n c (12 : Int)) : (0 ≤ w - u ∧ 0 ≤ u - w ∧ True) ∧ (True) := by
  have h9 := c_nuE T1 T2
  exact ⟨⟨by omega, by omega, trivial⟩, trivial⟩
theorem k_chs0 {V : zVw} {n H L W P S : Int} (T0 : q_run2 (t_b V) n (0 : Int) (0 : Int) (0 : Int) (0 : Int) H L W P S) : (True) ∧ (q_hs (t_b V) n (0 : Int) (0 : Int) (V 99) (V 100) ∧ True) := by
  have U0 := T0.2
  have T0 := T0.1
  have hH := c_run0H T0
  subst hH
  exact ⟨trivial, c_hs0 T0, trivial⟩
theorem k_chsM {V : zVw} {n c d st mo op H L W P st2 mo2 op2 L2 W2 P2 S S2 : Int} (T0 : q_hs (t_b V) n c H (V 99) (V 100)) (T1 : q_run2 (t_b V) n d st mo op H L W P S) (T2 : q_run2 (t_b V) n c st2 mo2 op2 H L2 W2 P2 S2) (C0 : 0 ≤ d - c) : (True) ∧ (q_hs (t_b V) n d H (V 99) (V 100) ∧ True) := by
  have U1 := T1.2
  have T1 := T1.1
  have U2 := T2.2
  have T2 := T2.1
  exact ⟨trivial, c_hsM T0 T1 T2 (by omega), trivial⟩
theorem k_chsH {V : zVw} {n c d H L W P s v h g st2 mo2 op2 L2 W2 P2 S S2 : Int} (T0 : q_run2 (t_b V) n (d - 1) (4 : Int) (0 : Int) (0 : Int) H L W P S) (T1 : q_tok (t_b V) n (d - 1) (59 : Int) s v) (T2 : q_hs (t_b V) n c H (V 99) (V 100)) (T3 : q_run2 (t_b V) n c st2 mo2 op2 H L2 W2 P2 S2) (T4 : tk (t_b V) n (d - 3).toNat = 3 ∧ h = tx (t_b V) n (d - 3).toNat) (T5 : tk (t_b V) n (d - 2).toNat = 3 ∧ g = tx (t_b V) n (d - 2).toNat) (C0 : 0 ≤ 400 - d) (C1 : 0 ≤ 5 - H) (C2 : 0 ≤ d - c - 1) (F0 : (0 : Int) ≤ H ∧ (H : Int) < j_len 99 ∧ V 99 (H) = h) (F1 : (0 : Int) ≤ H ∧ (H : Int) < j_len 100 ∧ V 100 (H) = g) : (True) ∧ (q_hs (t_b V) n d (H + 1) (V 99) (V 100) ∧ True) := by
  have U0 := T0.2
  have T0 := T0.1
  have U3 := T3.2
  have T3 := T3.1
  exact ⟨trivial, c_hsH T2 T0 T1.2.1.symm T3 (by omega) (by omega) T4.2 T5.2 F0.2.2 F1.2.2, trivial⟩
theorem k_fhk {V : zVw} {n c H L W P s v S : Int} (T0 : q_hs (t_b V) n c H (V 99) (V 100)) (T1 : q_run2 (t_b V) n c (0 : Int) (0 : Int) (0 : Int) H L W P S) (T2 : q_tok (t_b V) n c (0 : Int) s v) : (True) ∧ (q_fhs (t_b V) n H (V 99) (V 100) ∧ True) := by
  have U1 := T1.2
  have T1 := T1.1
  exact ⟨trivial, c_fhs T0 T1 T2.2.1.symm, trivial⟩
theorem k_mhs0 {V : zVw} {n H L W P s c S : Int} (T0 : q_run2 (t_b V) n c (0 : Int) (0 : Int) (0 : Int) H L W P S) (C0 : 0 ≤ c) (C1 : 0 ≤ -c) (C2 : 0 ≤ s) (C3 : 0 ≤ 1 - s) : (True) ∧ ((0 ≤ s ∧ (6 * s) = 6 * s + (0 : Int) ∧ q_hs (t_b V) n c (0 : Int) (fun i_ => V 57 (6 * s + i_)) (fun i_ => V 58 (6 * s + i_))) ∧ True) := by
  have U0 := T0.2
  have T0 := T0.1
  have hc : c = 0 := by omega
  subst hc
  have hH := c_run0H T0
  subst hH
  exact ⟨trivial, ⟨by omega, by omega, c_hs0 T0⟩, trivial⟩
theorem k_mhsM {V : zVw} {n c d st mo op H L W P st2 mo2 op2 L2 W2 P2 s j S S2 : Int} (T0 : 0 ≤ s ∧ j = 6 * s + H ∧ q_hs (t_b V) n c H (fun i_ => V 57 (6 * s + i_)) (fun i_ => V 58 (6 * s + i_))) (T1 : q_run2 (t_b V) n d st mo op H L W P S) (T2 : q_run2 (t_b V) n c st2 mo2 op2 H L2 W2 P2 S2) (C0 : 0 ≤ d - c) : (True) ∧ ((0 ≤ s ∧ j = 6 * s + H ∧ q_hs (t_b V) n d H (fun i_ => V 57 (6 * s + i_)) (fun i_ => V 58 (6 * s + i_))) ∧ True) := by
  have U1 := T1.2
  have T1 := T1.1
  have U2 := T2.2
  have T2 := T2.1
  exact ⟨trivial, ⟨T0.1, T0.2.1, c_hsM T0.2.2 T1 T2 (by omega)⟩, trivial⟩
theorem k_mhsH {V : zVw} {n c d H L W P z v h g st2 mo2 op2 L2 W2 P2 s S S2 : Int} (T0 : q_run2 (t_b V) n (d - 1) (4 : Int) (0 : Int) (0 : Int) H L W P S) (T1 : q_tok (t_b V) n (d - 1) (59 : Int) z v) (T2 : 0 ≤ s ∧ (H + 6 * s) = 6 * s + H ∧ q_hs (t_b V) n c H (fun i_ => V 57 (6 * s + i_)) (fun i_ => V 58 (6 * s + i_))) (T3 : q_run2 (t_b V) n c st2 mo2 op2 H L2 W2 P2 S2) (T4 : tk (t_b V) n (d - 3).toNat = 3 ∧ h = tx (t_b V) n (d - 3).toNat) (T5 : tk (t_b V) n (d - 2).toNat = 3 ∧ g = tx (t_b V) n (d - 2).toNat) (C0 : 0 ≤ 400 - d) (C1 : 0 ≤ 5 - H) (C2 : 0 ≤ d - c - 1) (F0 : (0 : Int) ≤ H + 6 * s ∧ (H + 6 * s : Int) < j_len 57 ∧ V 57 (H + 6 * s) = h) (F1 : (0 : Int) ≤ H + 6 * s ∧ (H + 6 * s : Int) < j_len 58 ∧ V 58 (H + 6 * s) = g) : (True) ∧ ((0 ≤ s ∧ (H + 6 * s + 1) = 6 * s + (H + 1) ∧ q_hs (t_b V) n d (H + 1) (fun i_ => V 57 (6 * s + i_)) (fun i_ => V 58 (6 * s + i_))) ∧ True) := by
  have U0 := T0.2
  have T0 := T0.1
  have U3 := T3.2
  have T3 := T3.1
  exact ⟨trivial, ⟨T2.1, by omega, c_hsH T2.2.2 T0 T1.2.1.symm T3 (by omega) (by omega) T4.2 T5.2 (by show V 57 (6 * s + H) = _; rw [show 6 * s + H = H + 6 * s by omega]; exact F0.2.2) (by show V 58 (6 * s + H) = _; rw [show 6 * s + H = H + 6 * s by omega]; exact F1.2.2)⟩, trivial⟩
theorem k_mfh {V : zVw} {n c H L W P s j z S : Int} (T0 : 0 ≤ s ∧ j = 6 * s + H ∧ q_hs (t_b V) n c H (fun i_ => V 57 (6 * s + i_)) (fun i_ => V 58 (6 * s + i_))) (T1 : q_run2 (t_b V) n c (0 : Int) (0 : Int) (0 : Int) H L W P S) (T2 : 0 ≤ c ∧ 0 ≤ (0 : Int) ∧ (0 : Int) ≤ 41 ∧ t_km (0 : Int) = tk (t_b V) n c.toNat ∧ z = t_s (t_b V) n c.toNat) : (True) ∧ ((0 ≤ s ∧ q_fhs (t_b V) n H (fun i_ => V 57 (6 * s + i_)) (fun i_ => V 58 (6 * s + i_))) ∧ True) := by
  have U1 := T1.2
  have T1 := T1.1
  exact ⟨trivial, ⟨T0.1, c_fhs T0.2.2 T1 (T2.2.2.2.1.symm.trans (by decide))⟩, trivial⟩
theorem k_rlh1 {V : zVw} {n s H : Int} (T0 : q_fhs (t_b V) n H (V 19) (V 20)) (T1 : 0 ≤ s ∧ q_fhs (t_b V) n H (fun i_ => V 57 (6 * s + i_)) (fun i_ => V 58 (6 * s + i_))) (C0 : 0 ≤ s) (C1 : 0 ≤ 1 - s) : (True) ∧ (((1 : Int) = 1 → 0 ≤ s ∧ 0 ≤ (1 - s) ∧ s + (1 - s) = 1 ∧ H ≤ 6 ∧ ∀ i_ : Int, 0 ≤ i_ → i_ < H → V 19 i_ = V 57 (6 * s + i_) ∧ V 20 i_ = V 58 (6 * s + i_)) ∧ True) := by
  exact ⟨trivial, fun _ => ⟨by omega, by omega, by omega, c_fhs6 T0, fun i9 g0 g1 => c_fhsU T0 T1.2 i9 g0 g1⟩, trivial⟩
theorem k_rlhz {V : zVw} {l n H : Int} (T0 : q_fhs (t_b V) n H (V 19) (V 20)) (C0 : 0 ≤ l) (C1 : 0 ≤ 1 - l) : (True) ∧ (((0 : Int) = 1 → 0 ≤ l ∧ 0 ≤ (1 - l) ∧ l + (1 - l) = 1 ∧ H ≤ 6 ∧ ∀ i_ : Int, 0 ≤ i_ → i_ < H → V 19 i_ = V 57 (6 * l + i_) ∧ V 20 i_ = V 58 (6 * l + i_)) ∧ True) := by
  exact ⟨trivial, fun h => absurd h (by decide), trivial⟩
theorem k_cyo {V : zVw} {n d l st op s v H L W P S : Int} (T0 : q_cy (t_b V) (V 102) (V 103) (V 104) n (d - 1) l (0 : Int)) (T1 : q_run2 (t_b V) n (d - 1) st (0 : Int) op H L W P S) (T2 : q_tok (t_b V) n (d - 1) (40 : Int) s v) (C0 : 0 ≤ 400 - d) (C1 : 0 ≤ st - 200) (C2 : 0 ≤ op) (C3 : 0 ≤ 5 - op) : (True) ∧ (q_cy (t_b V) (V 102) (V 103) (V 104) n d l (0 : Int) ∧ (p_A (p_w (t_b V) n d) = []) ∧ True) := by
  have U1 := T1.2
  have T1 := T1.1
  have h9 := c_cyo T0 T1 T2.2.1.symm (by omega) (by omega) (by omega)
  exact ⟨trivial, h9.1, h9.2, trivial⟩
theorem k_cyc {V : zVw} {n d e l st op s v s2 v2 st2 op2 H2 L2 W2 P2 H L W P S S2 : Int} (T0 : q_cy (t_b V) (V 102) (V 103) (V 104) n (d - 1) l (2 : Int)) (T1 : q_eex (t_b V) n e (d - 1)) (T2 : q_tok (t_b V) n (e - 1) (40 : Int) s v) (T3 : q_run2 (t_b V) n (e - 1) st2 (0 : Int) op2 H2 L2 W2 P2 S) (T4 : q_run2 (t_b V) n (d - 1) st (1 : Int) op H L W P S2) (T5 : q_tok (t_b V) n (d - 1) (41 : Int) s2 v2) (C0 : 0 ≤ 400 - d) (C1 : 0 ≤ st - 200) (C2 : 0 ≤ op - 1) (C3 : 0 ≤ st2 - 200) (C4 : 0 ≤ op2) : (True) ∧ (q_cy (t_b V) (V 102) (V 103) (V 104) n d l (0 : Int) ∧ q_uex (t_b V) n (e - 1) d ∧ True) := by
  have U3 := T3.2
  have T3 := T3.1
  have U4 := T4.2
  have T4 := T4.1
  exact ⟨trivial, c_cyc T0 T4 T5.2.1.symm (by omega) (by omega) (by omega), c_uexc T1 T2.2.1.symm T3 (by omega) T4 T5.2.1.symm (by omega) (by omega), trivial⟩
theorem k_cyi {V : zVw} {n c l st op s v H L W P S y : Int} (T0 : q_cy (t_b V) (V 102) (V 103) (V 104) n c (l - 1) (0 : Int)) (T1 : q_run2 (t_b V) n c st (0 : Int) op H L W P S) (T2 : q_tok (t_b V) n c (3 : Int) s v) (C0 : 0 ≤ st - 200) (C1 : 0 ≤ op) (C2 : 0 ≤ y - v) (C3 : 0 ≤ v - y) (F0 : (0 : Int) ≤ l - 1 ∧ (l - 1 : Int) < j_len 102 ∧ V 102 (l - 1) = 0) (F1 : (0 : Int) ≤ l - 1 ∧ (l - 1 : Int) < j_len 103 ∧ V 103 (l - 1) = y) : (True) ∧ (q_cy (t_b V) (V 102) (V 103) (V 104) n c l (5 : Int) ∧ True) := by
  have U1 := T1.2
  have T1 := T1.1
  exact ⟨trivial, c_cyi (a := 0) (z := y) T0 T1 T2.2.1.symm (by omega) (by omega) (Or.inl rfl) (by have h9 := T2.2.2.2 (Or.inr rfl); show ((0 : Int), tx (t_b V) n c.toNat) = (0, y); rw [← h9, show v = y by omega]) F0.2.2 F1.2.2, trivial⟩
theorem k_cyv {V : zVw} {n c l st op s v kd H L W P S : Int} (T0 : q_cy (t_b V) (V 102) (V 103) (V 104) n c (l - 1) (0 : Int)) (T1 : q_run2 (t_b V) n c st (0 : Int) op H L W P S) (T2 : q_tok (t_b V) n c kd s v) (C0 : 0 ≤ st - 200) (C1 : 0 ≤ op) (C2 : 0 ≤ kd - 269) (C3 : 0 ≤ 277 - kd) (F0 : (0 : Int) ≤ l - 1 ∧ (l - 1 : Int) < j_len 102 ∧ V 102 (l - 1) = 1) (F1 : (0 : Int) ≤ l - 1 ∧ (l - 1 : Int) < j_len 103 ∧ V 103 (l - 1) = kd - 269) : (True) ∧ (q_cy (t_b V) (V 102) (V 103) (V 104) n c l (5 : Int) ∧ True) := by
  have U1 := T1.2
  have T1 := T1.1
  exact ⟨trivial, c_cyi (a := 1) (z := kd - 269) T0 T1 T2.2.1.symm (by omega) (by omega) (by omega) (by unfold p_it; rw [if_neg (by omega)]) F0.2.2 F1.2.2, trivial⟩
theorem k_cyt {V : zVw} {n d l : Int} (T0 : q_cy (t_b V) (V 102) (V 103) (V 104) n (d - 1) l (5 : Int)) (C0 : 0 ≤ 400 - d) (C1 : 0 ≤ d - 1) : (True) ∧ (q_cy (t_b V) (V 102) (V 103) (V 104) n d l (0 : Int) ∧ q_uex (t_b V) n (d - 1) d ∧ True) := by
  have h9 := c_cyt T0 (by omega)
  exact ⟨trivial, h9.1, h9.2, trivial⟩
theorem k_pex0 {V : zVw} {n c d l : Int} (T0 : p_S (p_w (t_b V) n c) = []) (T1 : q_uex (t_b V) n c d) (T2 : q_cy (t_b V) (V 102) (V 103) (V 104) n d l (0 : Int)) : (True) ∧ (q_cy (t_b V) (V 102) (V 103) (V 104) n d l (1 : Int) ∧ q_pex (t_b V) n c d ∧ True) := by
  have h9 := c_pex0 T0 T1 T2
  exact ⟨trivial, h9.1, h9.2, trivial⟩
theorem k_cym_t {V : zVw} {n d l st op s v H L W P S : Int} (T0 : q_cy (t_b V) (V 102) (V 103) (V 104) n (d - 1) l (1 : Int)) (T1 : q_run2 (t_b V) n (d - 1) st (1 : Int) op H L W P S) (T2 : q_tok (t_b V) n (d - 1) (42 : Int) s v) (C0 : 0 ≤ 400 - d) (C1 : 0 ≤ st - 200) (C2 : 0 ≤ op) : (True) ∧ (q_cy (t_b V) (V 102) (V 103) (V 104) n d l (0 : Int) ∧ True) := by
  have U1 := T1.2
  have T1 := T1.1
  exact ⟨trivial, c_cym T0 T1 T2.2.1.symm (by omega) (by omega) (by omega), trivial⟩
theorem k_pexS_t {V : zVw} {n c e d l s v st op H L W P S : Int} (T0 : q_pex (t_b V) n c e) (T1 : q_tok (t_b V) n e (42 : Int) s v) (T2 : q_run2 (t_b V) n e st (1 : Int) op H L W P S) (T3 : q_uex (t_b V) n (e + 1) d) (T4 : q_cy (t_b V) (V 102) (V 103) (V 104) n d (l - 1) (0 : Int)) (C0 : 0 ≤ st - 200) (C1 : 0 ≤ op) (F0 : (0 : Int) ≤ l - 1 ∧ (l - 1 : Int) < j_len 102 ∧ V 102 (l - 1) = 4) (F1 : (0 : Int) ≤ l - 1 ∧ (l - 1 : Int) < j_len 103 ∧ V 103 (l - 1) = 0) : (True) ∧ (q_cy (t_b V) (V 102) (V 103) (V 104) n d l (1 : Int) ∧ q_pex (t_b V) n c d ∧ True) := by
  have U2 := T2.2
  have T2 := T2.1
  have h9 := c_pexS T0 T2 T1.2.1.symm (by omega) (by omega) T3
  exact ⟨trivial, c_cye (a := 4) (z := 0) T4 (by decide) (by show p_S (p_w (t_b V) n d) = [] ++ [(4, 0)]; rw [h9.1]; rfl) F0.2.2 F1.2.2, h9.2, trivial⟩
theorem k_cym_o {V : zVw} {n d l st op s v H L W P S : Int} (T0 : q_cy (t_b V) (V 102) (V 103) (V 104) n (d - 1) l (1 : Int)) (T1 : q_run2 (t_b V) n (d - 1) st (1 : Int) op H L W P S) (T2 : q_tok (t_b V) n (d - 1) (47 : Int) s v) (C0 : 0 ≤ 400 - d) (C1 : 0 ≤ st - 200) (C2 : 0 ≤ op) : (True) ∧ (q_cy (t_b V) (V 102) (V 103) (V 104) n d l (0 : Int) ∧ True) := by
  have U1 := T1.2
  have T1 := T1.1
  exact ⟨trivial, c_cym T0 T1 T2.2.1.symm (by omega) (by omega) (by omega), trivial⟩
theorem k_pexS_o {V : zVw} {n c e d l s v st op H L W P S : Int} (T0 : q_pex (t_b V) n c e) (T1 : q_tok (t_b V) n e (47 : Int) s v) (T2 : q_run2 (t_b V) n e st (1 : Int) op H L W P S) (T3 : q_uex (t_b V) n (e + 1) d) (T4 : q_cy (t_b V) (V 102) (V 103) (V 104) n d (l - 1) (0 : Int)) (C0 : 0 ≤ st - 200) (C1 : 0 ≤ op) (F0 : (0 : Int) ≤ l - 1 ∧ (l - 1 : Int) < j_len 102 ∧ V 102 (l - 1) = 5) (F1 : (0 : Int) ≤ l - 1 ∧ (l - 1 : Int) < j_len 103 ∧ V 103 (l - 1) = 0) : (True) ∧ (q_cy (t_b V) (V 102) (V 103) (V 104) n d l (1 : Int) ∧ q_pex (t_b V) n c d ∧ True) := by
  have U2 := T2.2
  have T2 := T2.1
  have h9 := c_pexS T0 T2 T1.2.1.symm (by omega) (by omega) T3
  exact ⟨trivial, c_cye (a := 5) (z := 0) T4 (by decide) (by show p_S (p_w (t_b V) n d) = [] ++ [(5, 0)]; rw [h9.1]; rfl) F0.2.2 F1.2.2, h9.2, trivial⟩
theorem k_otw {V : zVw} {n c : Int} (T0 : p_A (p_w (t_b V) n c) = []) : (True) ∧ ((p_S (p_w (t_b V) n c) = []) ∧ True) := by
  exact ⟨trivial, c_otw T0, trivial⟩
theorem k_eex0 {V : zVw} {n c d l : Int} (T0 : p_A (p_w (t_b V) n c) = []) (T1 : q_pex (t_b V) n c d) (T2 : q_cy (t_b V) (V 102) (V 103) (V 104) n d l (1 : Int)) : (True) ∧ (q_cy (t_b V) (V 102) (V 103) (V 104) n d l (2 : Int) ∧ q_eex (t_b V) n c d ∧ True) := by
  have h9 := c_eex0 T0 T1
  exact ⟨trivial, c_cyx T2 (by decide) (by show p_A (p_w (t_b V) n d) = p_S (p_w (t_b V) n d); exact h9.1), h9.2, trivial⟩
theorem k_cyp_p {V : zVw} {n d l st op s v H L W P S : Int} (T0 : q_cy (t_b V) (V 102) (V 103) (V 104) n (d - 1) l (2 : Int)) (T1 : q_run2 (t_b V) n (d - 1) st (1 : Int) op H L W P S) (T2 : q_tok (t_b V) n (d - 1) (43 : Int) s v) (C0 : 0 ≤ 400 - d) (C1 : 0 ≤ st - 200) (C2 : 0 ≤ op) : (True) ∧ (q_cy (t_b V) (V 102) (V 103) (V 104) n d l (0 : Int) ∧ (p_S (p_w (t_b V) n d) = []) ∧ True) := by
  have U1 := T1.2
  have T1 := T1.1
  have h9 := c_cyp T0 T1 T2.2.1.symm (by omega) (by omega) (by omega)
  exact ⟨trivial, h9.1, h9.2, trivial⟩
theorem k_eexS_p {V : zVw} {n c e d l s v st op H L W P S : Int} (T0 : q_eex (t_b V) n c e) (T1 : q_tok (t_b V) n e (43 : Int) s v) (T2 : q_run2 (t_b V) n e st (1 : Int) op H L W P S) (T3 : q_pex (t_b V) n (e + 1) d) (T4 : q_cy (t_b V) (V 102) (V 103) (V 104) n d (l - 1) (1 : Int)) (C0 : 0 ≤ st - 200) (C1 : 0 ≤ op) (F0 : (0 : Int) ≤ l - 1 ∧ (l - 1 : Int) < j_len 102 ∧ V 102 (l - 1) = 2) (F1 : (0 : Int) ≤ l - 1 ∧ (l - 1 : Int) < j_len 103 ∧ V 103 (l - 1) = 0) : (True) ∧ (q_cy (t_b V) (V 102) (V 103) (V 104) n d l (2 : Int) ∧ q_eex (t_b V) n c d ∧ True) := by
  have U2 := T2.2
  have T2 := T2.1
  have h9 := c_eexS T0 T2 T1.2.1.symm (by omega) (by omega) T3
  exact ⟨trivial, c_cye (a := 2) (z := 0) T4 (by decide) (by show p_A (p_w (t_b V) n d) = p_S (p_w (t_b V) n d) ++ [(2, 0)]; rw [h9.1]; rfl) F0.2.2 F1.2.2, h9.2, trivial⟩
theorem k_cyp_m {V : zVw} {n d l st op s v H L W P S : Int} (T0 : q_cy (t_b V) (V 102) (V 103) (V 104) n (d - 1) l (2 : Int)) (T1 : q_run2 (t_b V) n (d - 1) st (1 : Int) op H L W P S) (T2 : q_tok (t_b V) n (d - 1) (45 : Int) s v) (C0 : 0 ≤ 400 - d) (C1 : 0 ≤ st - 200) (C2 : 0 ≤ op) : (True) ∧ (q_cy (t_b V) (V 102) (V 103) (V 104) n d l (0 : Int) ∧ (p_S (p_w (t_b V) n d) = []) ∧ True) := by
  have U1 := T1.2
  have T1 := T1.1
  have h9 := c_cyp T0 T1 T2.2.1.symm (by omega) (by omega) (by omega)
  exact ⟨trivial, h9.1, h9.2, trivial⟩
theorem k_eexS_m {V : zVw} {n c e d l s v st op H L W P S : Int} (T0 : q_eex (t_b V) n c e) (T1 : q_tok (t_b V) n e (45 : Int) s v) (T2 : q_run2 (t_b V) n e st (1 : Int) op H L W P S) (T3 : q_pex (t_b V) n (e + 1) d) (T4 : q_cy (t_b V) (V 102) (V 103) (V 104) n d (l - 1) (1 : Int)) (C0 : 0 ≤ st - 200) (C1 : 0 ≤ op) (F0 : (0 : Int) ≤ l - 1 ∧ (l - 1 : Int) < j_len 102 ∧ V 102 (l - 1) = 3) (F1 : (0 : Int) ≤ l - 1 ∧ (l - 1 : Int) < j_len 103 ∧ V 103 (l - 1) = 0) : (True) ∧ (q_cy (t_b V) (V 102) (V 103) (V 104) n d l (2 : Int) ∧ q_eex (t_b V) n c d ∧ True) := by
  have U2 := T2.2
  have T2 := T2.1
  have h9 := c_eexS T0 T2 T1.2.1.symm (by omega) (by omega) T3
  exact ⟨trivial, c_cye (a := 3) (z := 0) T4 (by decide) (by show p_A (p_w (t_b V) n d) = p_S (p_w (t_b V) n d) ++ [(3, 0)]; rw [h9.1]; rfl) F0.2.2 F1.2.2, h9.2, trivial⟩
theorem k_cli0 {V : zVw} : (True) ∧ ((∀ (i_ : Nat) (x_ : Int × Int), ([(0, 1), (7, 0), (1, 2), (0, 10), (4, 0), (7, 0), (1, 0), (7, 0)] : List (Int × Int))[i_]? = some x_ → (i_ : Int) < (0 : Int) → V 102 i_ = x_.1 ∧ V 103 i_ = x_.2) ∧ True) := by
  refine ⟨trivial, fun i9 x9 h9 g9 => ?_, trivial⟩
  omega
theorem k_cls0 {V : zVw} : (True) ∧ ((∀ j_ : Int, 0 ≤ j_ → j_ < (0 : Int) → V 104 j_ = if j_ = 2 then 2 else if j_ = 3 then 6 else 0) ∧ True) := by
  refine ⟨trivial, fun j9 h9 g9 => ?_, trivial⟩
  omega
