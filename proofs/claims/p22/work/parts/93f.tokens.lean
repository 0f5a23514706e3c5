noncomputable section
/-! ===== the mathematics of TOKENS: runs, places, numbers, words ===== -/
section ZM1
variable {b b' : Int → Int} {f n a p p' s : Int}
theorem q_runs_ext (h : q_runs b f n a p) (hn : p < n) (hc : t_cl f (b p) = 1) : q_runs b f n a (p + 1) := by
  refine ⟨by have := h.1; omega, fun i h1 h2 => ?_⟩
  by_cases e : i = p
  · rw [e]
    exact ⟨hn, hc⟩
  · exact h.2 i h1 (by omega)
theorem q_runs_pre (hn : a < n) (hc : t_cl f (b a) = 1) (h : q_runs b f n (a + 1) p) : q_runs b f n a p := by
  refine ⟨by have := h.1; omega, fun i h1 h2 => ?_⟩
  by_cases e : i = a
  · rw [e]
    exact ⟨hn, hc⟩
  · exact h.2 i (by omega) h2
theorem q_runs_nil : q_runs b f n a a := ⟨Int.le_refl _, fun i h1 h2 => by omega⟩
theorem t_end_rune : ∀ (k : Nat) (a : Int), n - a ≤ k → q_rune b f n a (t_end b f n k a)
  | 0, a, h => ⟨q_runs_nil, Or.inl (by unfold t_end; omega)⟩
  | k + 1, a, h => by
    unfold t_end
    split
    · next hc =>
      have := t_end_rune k (a + 1) (by omega)
      exact ⟨q_runs_pre hc.1 hc.2 this.1, this.2⟩
    · next hc =>
      refine ⟨q_runs_nil, ?_⟩
      by_cases hn : n ≤ a
      · exact Or.inl hn
      · exact Or.inr fun e => hc ⟨by omega, e⟩
theorem t_e1_rune : q_rune b f n a (t_e1 b f n a) := t_end_rune _ _ (by omega)
theorem q_rune_le (h : q_rune b f n a p) (h' : q_rune b f n a p') : p ≤ p' := by
  rcases Int.lt_or_le p' p with c | c
  · have := h.1.2 p' h'.1.1 c
    rcases h'.2 with d | d
    · omega
    · exact absurd this.2 d
  · exact c
theorem q_rune_eq (h : q_rune b f n a p) (h' : q_rune b f n a p') : p = p' := Int.le_antisymm (q_rune_le h h') (q_rune_le h' h)
theorem t_e1_eq (h : q_rune b f n a p) : t_e1 b f n a = p := q_rune_eq t_e1_rune h
theorem t_e1_ge : a ≤ t_e1 b f n a := t_e1_rune.1.1
theorem t_e1_le (h : a ≤ n) : t_e1 b f n a ≤ n := by
  have r : q_rune b f n a (t_e1 b f n a) := t_e1_rune
  rcases Int.lt_or_le n (t_e1 b f n a) with c | c
  · have := r.1.2 n h c
    omega
  · exact c
theorem t_e1_gt (hn : a < n) (hc : t_cl f (b a) = 1) : a < t_e1 b f n a := by
  have r : q_rune b f n a (t_e1 b f n a) := t_e1_rune
  rcases Int.lt_or_le a (t_e1 b f n a) with c | c
  · exact c
  · have e : t_e1 b f n a = a := Int.le_antisymm c r.1.1
    rw [e] at r
    rcases r.2 with d | d
    · omega
    · exact absurd hc d
theorem t_e1_end (h : n ≤ a) : t_e1 b f n a = a := t_e1_eq ⟨q_runs_nil, Or.inl h⟩
theorem t_e1_no (h : t_cl f (b a) ≠ 1) : t_e1 b f n a = a := t_e1_eq ⟨q_runs_nil, Or.inr h⟩
theorem t_e1_step (hn : a < n) (hc : t_cl f (b a) = 1) : t_e1 b f n (a + 1) = t_e1 b f n a := by
  refine (t_e1_eq ⟨?_, (t_e1_rune (b := b) (f := f) (n := n) (a := a + 1)).2⟩).symm
  exact q_runs_pre hn hc t_e1_rune.1
theorem t_e_ge (h : s ≤ n) : s ≤ t_e b n s := by
  unfold t_e
  split
  · exact Int.le_refl _
  · split
    · exact t_e1_ge
    · split
      · exact t_e1_ge
      · omega
theorem t_e_le (h : s ≤ n) : t_e b n s ≤ n := by
  unfold t_e
  split
  · exact h
  · split
    · exact t_e1_le h
    · split
      · exact t_e1_le h
      · omega
theorem t_e_gt (h : s < n) : s < t_e b n s := by
  unfold t_e
  split
  · omega
  · split
    · next c => exact t_e1_gt h c
    · split
      · next c => exact t_e1_gt h c
      · omega
theorem t_p_in (h : 0 ≤ n) : ∀ k : Nat, 0 ≤ t_p b n k ∧ t_p b n k ≤ n
  | 0 => ⟨Int.le_refl _, h⟩
  | k + 1 => by
    have := t_p_in h k
    have h1 := t_e1_le (b := b) (f := 0) this.2
    have h2 := t_e1_ge (b := b) (f := 0) (n := n) (a := t_p b n k)
    have h3 := t_e_ge (b := b) h1
    have h4 := t_e_le (b := b) h1
    unfold t_p
    omega
theorem t_s_in (h : 0 ≤ n) (k : Nat) : t_p b n k ≤ t_s b n k ∧ t_s b n k ≤ n ∧ 0 ≤ t_s b n k := by
  have := t_p_in (b := b) h k
  have h1 := t_e1_le (b := b) (f := 0) this.2
  have h2 := t_e1_ge (b := b) (f := 0) (n := n) (a := t_p b n k)
  unfold t_s
  omega
theorem t_p_s (k : Nat) : t_p b n (k + 1) = t_e b n (t_s b n k) := rfl
theorem t_sg_r (c : Int) : 1 ≤ t_sg c ∧ t_sg c ≤ 61 := by unfold t_sg; omega
theorem t_wd_r (a w : Int) : ∀ m : Nat, -1 ≤ t_wd b a w m ∧ t_wd b a w m < m
  | 0 => by unfold t_wd; omega
  | m + 1 => by
    have := t_wd_r a w m
    unfold t_wd
    split
    · omega
    · split <;> omega
theorem t_k_r : 0 ≤ t_k b n s ∧ t_k b n s ≤ 277 := by
  have h1 := t_wd_r (b := b) s (t_e1 b 1 n s - s) 22
  have h2 := t_sg_r (b s)
  unfold t_k
  split
  · omega
  · split
    · split
      · omega
      · split <;> omega
    · split
      · split <;> omega
      · omega
theorem t_k_0 : t_k b n s = 0 ↔ n ≤ s := by
  have h1 := t_wd_r (b := b) s (t_e1 b 1 n s - s) 22
  have h2 := t_sg_r (b s)
  unfold t_k
  split
  · omega
  · split
    · split
      · omega
      · split <;> omega
    · split
      · split <;> omega
      · omega
theorem tk_r (k : Nat) : 0 ≤ tk b n k ∧ tk b n k ≤ 277 := t_k_r
theorem tk_0 (k : Nat) : tk b n k = 0 ↔ n ≤ t_s b n k := t_k_0
theorem t_s_lt (h : 0 ≤ n) {k : Nat} (hk : tk b n k ≠ 0) : t_s b n k < t_s b n (k + 1) := by
  have h1 := t_s_in (b := b) h k
  have h2 : t_s b n k < n := by
    rcases Int.lt_or_le (t_s b n k) n with c | c
    · exact c
    · exact absurd ((tk_0 k).mpr c) hk
  have h3 := t_e_gt (b := b) h2
  have h4 := (t_s_in (b := b) h (k + 1)).1
  rw [t_p_s] at h4
  omega
/-! what a TOKEN of letters, of digits is -/
theorem t_k_w (hs : s < n) (hc : t_cl 1 (b s) = 1) : t_k b n s = (if 8 < t_e1 b 1 n s - s then 1 else if 0 ≤ t_wd b s (t_e1 b 1 n s - s) 22 then 256 + t_wd b s (t_e1 b 1 n s - s) 22 else 2) := by
  unfold t_k
  rw [if_neg (by omega), if_pos hc]
theorem t_k_d (hs : s < n) (h1 : t_cl 1 (b s) ≠ 1) (hc : t_cl 2 (b s) = 1) : t_k b n s = (if 4 < t_e1 b 2 n s - s then 1 else 3) := by
  unfold t_k
  rw [if_neg (by omega), if_neg h1, if_pos hc]
theorem t_k_s (hs : s < n) (h1 : t_cl 1 (b s) ≠ 1) (h2 : t_cl 2 (b s) ≠ 1) : t_k b n s = t_sg (b s) := by
  unfold t_k
  rw [if_neg (by omega), if_neg h1, if_neg h2]
theorem t_e_w (hs : s < n) (hc : t_cl 1 (b s) = 1) : t_e b n s = t_e1 b 1 n s := by
  unfold t_e
  rw [if_neg (by omega), if_pos hc]
theorem t_e_d (hs : s < n) (h1 : t_cl 1 (b s) ≠ 1) (hc : t_cl 2 (b s) = 1) : t_e b n s = t_e1 b 2 n s := by
  unfold t_e
  rw [if_neg (by omega), if_neg h1, if_pos hc]
theorem t_e_s (hs : s < n) (h1 : t_cl 1 (b s) ≠ 1) (h2 : t_cl 2 (b s) ≠ 1) : t_e b n s = s + 1 := by
  unfold t_e
  rw [if_neg (by omega), if_neg h1, if_neg h2]
theorem t_cl1 {c : Int} : t_cl 1 c = 1 ↔ 97 ≤ c ∧ c ≤ 122 := by
  unfold t_cl
  rw [if_neg (by decide), if_pos rfl]
  split <;> omega
theorem t_cl2 {c : Int} : t_cl 2 c = 1 ↔ 48 ≤ c ∧ c ≤ 57 := by
  unfold t_cl
  rw [if_neg (by decide), if_neg (by decide), if_pos rfl]
  split <;> omega
theorem t_cl0 {c : Int} : t_cl 0 c = 1 ↔ (c = 9 ∨ c = 10 ∨ c = 13 ∨ c = 32) := by
  unfold t_cl
  rw [if_pos rfl]
  split <;> omega
theorem t_cl01 {f c : Int} (h : f = 0 ∨ f = 1 ∨ f = 2) : t_cl f c = 0 ∨ t_cl f c = 1 := by
  unfold t_cl
  rcases h with rfl | rfl | rfl
  · rw [if_pos rfl]
    split <;> omega
  · rw [if_neg (by decide), if_pos rfl]
    split <;> omega
  · rw [if_neg (by decide), if_neg (by decide), if_pos rfl]
    split <;> omega
/-- a name: letters, eight at most -/
theorem t_k_2 (h : t_k b n s = 2) : s < n ∧ t_cl 1 (b s) = 1 ∧ t_e b n s = t_e1 b 1 n s ∧ t_e1 b 1 n s - s ≤ 8 ∧ t_wd b s (t_e1 b 1 n s - s) 22 = -1 := by
  have h1 := t_wd_r (b := b) s (t_e1 b 1 n s - s) 22
  have h2 := t_sg_r (b s)
  have hs : s < n := by
    rcases Int.lt_or_le s n with c | c
    · exact c
    · rw [t_k_0.mpr c] at h
      omega
  by_cases hc : t_cl 1 (b s) = 1
  · rw [t_k_w hs hc] at h
    refine ⟨hs, hc, t_e_w hs hc, ?_⟩
    split at h
    · omega
    · split at h <;> omega
  · by_cases hd : t_cl 2 (b s) = 1
    · rw [t_k_d hs hc hd] at h
      split at h <;> omega
    · rw [t_k_s hs hc hd] at h
      unfold t_sg at h
      omega
theorem t_k_3 (h : t_k b n s = 3) : s < n ∧ t_cl 1 (b s) ≠ 1 ∧ t_cl 2 (b s) = 1 ∧ t_e b n s = t_e1 b 2 n s ∧ t_e1 b 2 n s - s ≤ 4 := by
  have h1 := t_wd_r (b := b) s (t_e1 b 1 n s - s) 22
  have h2 := t_sg_r (b s)
  have hs : s < n := by
    rcases Int.lt_or_le s n with c | c
    · exact c
    · rw [t_k_0.mpr c] at h
      omega
  by_cases hc : t_cl 1 (b s) = 1
  · rw [t_k_w hs hc] at h
    split at h
    · omega
    · split at h <;> omega
  · by_cases hd : t_cl 2 (b s) = 1
    · rw [t_k_d hs hc hd] at h
      refine ⟨hs, hc, hd, t_e_d hs hc hd, ?_⟩
      split at h <;> omega
    · rw [t_k_s hs hc hd] at h
      unfold t_sg at h
      omega
/-! numbers -/
theorem t_num_r {m o a : Int} (hm : 1 ≤ m) : ∀ {k : Nat}, (∀ i : Nat, i < k → 0 ≤ b (a + i) - o ∧ b (a + i) - o ≤ m - 1) → 0 ≤ t_num b m o a k ∧ t_num b m o a k ≤ m ^ k - 1
  | 0, _ => by unfold t_num; simp
  | k + 1, h => by
    have h1 := t_num_r hm (k := k) fun i hi => h i (by omega)
    have h2 := h k (by omega)
    have h3 := Int.mul_nonneg (show (0 : Int) ≤ m by omega) h1.1
    have h4 := Int.mul_le_mul_of_nonneg_left h1.2 (show (0 : Int) ≤ m by omega)
    rw [Int.mul_sub, Int.mul_one] at h4
    have h5 : m ^ (k + 1) = m * m ^ k := by rw [Int.pow_succ, Int.mul_comm]
    unfold t_num
    rw [h5]
    omega
theorem t_num_pow {m : Int} (hm : m = 10 ∨ m = 27 ∨ m = 32) {k j : Nat} (h : k ≤ j) : m ^ k ≤ m ^ j := by
  induction h with
  | refl => exact Int.le_refl _
  | step h ih =>
    rename_i j
    have h5 : m ^ (j + 1) = m * m ^ j := by rw [Int.pow_succ, Int.mul_comm]
    have h6 : 0 ≤ m ^ k := by
      clear ih h h5
      induction k with
      | zero => simp
      | succ k ih => rw [Int.pow_succ]; exact Int.mul_nonneg ih (by omega)
    show m ^ k ≤ m ^ (j + 1)
    rw [h5]
    rcases hm with rfl | rfl | rfl <;> omega
theorem t_num_in {m o a : Int} {k j : Nat} (hm : m = 10 ∨ m = 27 ∨ m = 32) (hk : k ≤ j) (h : ∀ i : Nat, i < k → 0 ≤ b (a + i) - o ∧ b (a + i) - o ≤ m - 1) : 0 ≤ t_num b m o a k ∧ t_num b m o a k ≤ m ^ j - 1 := by
  have h1 := t_num_r (b := b) (m := m) (o := o) (a := a) (by omega) h
  have h2 := t_num_pow hm hk
  omega
/-- numbers of digits 1 .. 26 tell their digits -/
theorem t_num_inj {m a a' : Int} (hm : m = 27 ∨ m = 32) : ∀ {k k' : Nat}, (∀ i : Nat, i < k → 97 ≤ b (a + i) ∧ b (a + i) ≤ 122) → (∀ i : Nat, i < k' → 97 ≤ b' (a' + i) ∧ b' (a' + i) ≤ 122) → t_num b m 96 a k = t_num b' m 96 a' k' → k = k' ∧ ∀ i : Nat, i < k → b (a + i) = b' (a' + i)
  | 0, 0, _, _, _ => ⟨rfl, fun i h => by omega⟩
  | 0, k' + 1, _, h', e => by
    have h1 := (t_num_r (b := b') (m := m) (o := 96) (a := a') (by omega) (k := k') fun i hi => by have := h' i (by omega); omega).1
    have h2 := h' k' (by omega)
    unfold t_num at e
    rcases hm with rfl | rfl <;> omega
  | k + 1, 0, h, _, e => by
    have h1 := (t_num_r (b := b) (m := m) (o := 96) (a := a) (by omega) (k := k) fun i hi => by have := h i (by omega); omega).1
    have h2 := h k (by omega)
    unfold t_num at e
    rcases hm with rfl | rfl <;> omega
  | k + 1, k' + 1, h, h', e => by
    have h2 := h k (by omega)
    have h3 := h' k' (by omega)
    unfold t_num at e
    have e2 : b (a + k) = b' (a' + k') ∧ t_num b m 96 a k = t_num b' m 96 a' k' := by
      rcases hm with rfl | rfl <;> omega
    obtain ⟨g1, g2⟩ := t_num_inj hm (fun i hi => h i (by omega)) (fun i hi => h' i (by omega)) e2.2
    subst g1
    refine ⟨rfl, fun i hi => ?_⟩
    by_cases c : i = k
    · rw [c]
      exact e2.1
    · exact g2 i (by omega)
theorem t_num_ext {m o a a' : Int} : ∀ {k : Nat}, (∀ i : Nat, i < k → b (a + i) = b' (a' + i)) → t_num b m o a k = t_num b' m o a' k
  | 0, _ => rfl
  | k + 1, h => by
    have := t_num_ext (m := m) (o := o) (k := k) fun i hi => h i (by omega)
    unfold t_num
    rw [this, h k (by omega)]
theorem q_runs_let {k : Nat} (h : q_runs b 1 n a p) (hk : (k : Int) ≤ p - a) : ∀ i : Nat, i < k → 97 ≤ b (a + i) ∧ b (a + i) ≤ 122 := fun i hi => t_cl1.mp (h.2 (a + i) (by omega) (by omega)).2
theorem q_runs_dig {k : Nat} (h : q_runs b 2 n a p) (hk : (k : Int) ≤ p - a) : ∀ i : Nat, i < k → 48 ≤ b (a + i) ∧ b (a + i) ≤ 57 := fun i hi => t_cl2.mp (h.2 (a + i) (by omega) (by omega)).2
theorem tx_2 {k : Nat} (h : tk b n k = 2) : 0 ≤ tx b n k ∧ tx b n k ≤ 1099511627775 := by
  obtain ⟨h1, h2, h3, h4, h5⟩ := t_k_2 h
  have h6 := (t_e1_rune (b := b) (f := 1) (n := n) (a := t_s b n k)).1
  unfold tx t_x
  rw [if_pos h2, h3]
  have := t_num_in (b := b) (m := 32) (o := 96) (a := t_s b n k) (k := (t_e1 b 1 n (t_s b n k) - t_s b n k).toNat) (j := 8) (by omega) (by omega) fun i hi => by have := q_runs_let h6 (k := (t_e1 b 1 n (t_s b n k) - t_s b n k).toNat) (by have := h6.1; omega) i hi; omega
  have e : (32 : Int) ^ 8 = 1099511627776 := by decide
  rw [e] at this
  omega
theorem tx_3 {k : Nat} (h : tk b n k = 3) : 0 ≤ tx b n k ∧ tx b n k ≤ 9999 := by
  obtain ⟨h1, h2, h2', h3, h4⟩ := t_k_3 h
  have h6 := (t_e1_rune (b := b) (f := 2) (n := n) (a := t_s b n k)).1
  unfold tx t_x
  rw [if_neg h2, h3]
  have := t_num_in (b := b) (m := 10) (o := 48) (a := t_s b n k) (k := (t_e1 b 2 n (t_s b n k) - t_s b n k).toNat) (j := 4) (by omega) (by omega) fun i hi => by have := q_runs_dig h6 (k := (t_e1 b 2 n (t_s b n k) - t_s b n k).toNat) (by have := h6.1; omega) i hi; omega
  have e : (10 : Int) ^ 4 = 10000 := by decide
  rw [e] at this
  omega
/-- names alike by 32 are alike by 27 -/
theorem tx_ty {j k : Nat} (hj : tk b n j = 2) (hk : tk b n k = 2) : tx b n j = tx b n k ↔ ty b n j = ty b n k := by
  obtain ⟨h1, h2, h3, h4, h5⟩ := t_k_2 hj
  obtain ⟨g1, g2, g3, g4, g5⟩ := t_k_2 hk
  have h6 := (t_e1_rune (b := b) (f := 1) (n := n) (a := t_s b n j)).1
  have g6 := (t_e1_rune (b := b) (f := 1) (n := n) (a := t_s b n k)).1
  have h7 := q_runs_let h6 (k := (t_e1 b 1 n (t_s b n j) - t_s b n j).toNat) (by have := h6.1; omega)
  have g7 := q_runs_let g6 (k := (t_e1 b 1 n (t_s b n k) - t_s b n k).toNat) (by have := g6.1; omega)
  unfold tx ty t_x t_y
  rw [if_pos h2, if_pos g2, h3, g3]
  refine ⟨fun e => ?_, fun e => ?_⟩
  · obtain ⟨e1, e2⟩ := t_num_inj (Or.inr rfl) h7 g7 e
    rw [← e1]
    exact t_num_ext e2
  · obtain ⟨e1, e2⟩ := t_num_inj (Or.inl rfl) h7 g7 e
    rw [← e1]
    exact t_num_ext e2
/-! words -/
def t_len (k : Nat) : Nat := (((List.range 8).map fun (j : Nat) => t_W (8 * k + j)).takeWhile fun c => decide (c ≠ 32)).length
set_option maxRecDepth 100000 in
theorem t_words : (List.range 22).all (fun (k : Nat) => decide (t_key k = t_num t_W 27 96 (8 * k) (t_len k)) && decide (1 ≤ t_len k) && decide (t_len k ≤ 8) && ((List.range 8).all fun (j : Nat) => if j < t_len k then decide (97 ≤ t_W (8 * k + j) ∧ t_W (8 * k + j) ≤ 122) else decide (t_W (8 * k + j) = 32)) && ((List.range 22).all fun (j : Nat) => decide (j = k) || decide (t_key j ≠ t_key k))) = true := by decide +kernel
theorem t_word {k : Nat} (hk : k < 22) : t_key k = t_num t_W 27 96 (8 * k) (t_len k) ∧ 1 ≤ t_len k ∧ t_len k ≤ 8 ∧ (∀ j : Nat, j < t_len k → 97 ≤ t_W (8 * k + j) ∧ t_W (8 * k + j) ≤ 122) ∧ (∀ j : Nat, t_len k ≤ j → j < 8 → t_W (8 * k + j) = 32) ∧ ∀ j : Nat, j < 22 → j ≠ k → t_key j ≠ t_key k := by
  have h := List.all_eq_true.mp t_words k (List.mem_range.mpr hk)
  simp only [Bool.and_eq_true, decide_eq_true_eq] at h
  obtain ⟨⟨⟨⟨h1, h2⟩, h3⟩, h4⟩, h5⟩ := h
  refine ⟨h1, h2, h3, fun j hj => ?_, fun j hj hj8 => ?_, fun j hj hne => ?_⟩
  · have := List.all_eq_true.mp h4 j (List.mem_range.mpr (by omega))
    rw [if_pos hj] at this
    exact of_decide_eq_true this
  · have := List.all_eq_true.mp h4 j (List.mem_range.mpr hj8)
    rw [if_neg (by omega)] at this
    exact of_decide_eq_true this
  · have := List.all_eq_true.mp h5 j (List.mem_range.mpr hj)
    rw [Bool.or_eq_true, decide_eq_true_eq, decide_eq_true_eq] at this
    rcases this with c | c
    · exact absurd c hne
    · exact c
theorem t_wb_iff {x w : Int} : t_wb b x a w = true ↔ q_wm b x a w 8 := by
  unfold t_wb q_wm
  rw [List.all_eq_true]
  refine ⟨fun h j hj => of_decide_eq_true (h j (List.mem_range.mpr (by omega))), fun h j hj => decide_eq_true (h j (by have := List.mem_range.mp hj; omega))⟩
/-- the word k stands there just if its letters' number does -/
theorem t_wb_key {k : Nat} {w : Nat} (hk : k < 22) (hw : w ≤ 8) (hl : ∀ i : Nat, i < w → 97 ≤ b (a + i) ∧ b (a + i) ≤ 122) : t_wb b (8 * (k : Int)) a w = true ↔ t_num b 27 96 a w = t_key k := by
  obtain ⟨h1, h2, h3, h4, h5, -⟩ := t_word hk
  rw [t_wb_iff, h1]
  refine ⟨fun q => ?_, fun e => ?_⟩
  · have e : w = t_len k := by
      rcases Nat.lt_trichotomy w (t_len k) with c | c | c
      · have g1 := q w (by omega)
        rw [if_neg (by omega)] at g1
        have g2 := h4 w c
        omega
      · exact c
      · have g1 := q (t_len k) (by omega)
        rw [if_pos (by omega)] at g1
        have g2 := h5 (t_len k) (Nat.le_refl _) (by omega)
        have g3 := hl (t_len k) c
        omega
    rw [← e]
    exact t_num_ext fun i hi => by
      have g1 := q i (by omega)
      rw [if_pos (by omega)] at g1
      exact g1
  · obtain ⟨e1, e2⟩ := t_num_inj (Or.inl rfl) hl h4 e
    intro j hj
    split
    · next c => exact e2 j (by omega)
    · next c => exact (h5 j (by omega) (by omega)).symm
theorem t_kw_wd {w : Nat} (hw : w ≤ 8) (hl : ∀ i : Nat, i < w → 97 ≤ b (a + i) ∧ b (a + i) ≤ 122) : ∀ m : Nat, m ≤ 22 → (t_wd b a w m = -1 ∧ t_kw (t_num b 27 96 a w) m = 1) ∨ ∃ k : Nat, k < m ∧ t_wd b a w m = k ∧ t_kw (t_num b 27 96 a w) m = 20 + k ∧ t_num b 27 96 a w = t_key k
  | 0, _ => Or.inl ⟨rfl, rfl⟩
  | m + 1, h => by
    have ih := t_kw_wd hw hl m (by omega)
    have hb := t_wb_key (b := b) (a := a) (k := m) (w := w) (by omega) hw hl
    rcases ih with ⟨h1, h2⟩ | ⟨k, h0, h1, h2, h3⟩
    · unfold t_wd t_kw
      rw [h1, if_neg (by decide)]
      by_cases c : t_wb b (8 * (m : Int)) a w = true
      · refine Or.inr ⟨m, by omega, ?_, ?_, hb.mp c⟩
        · rw [if_pos c]
        · rw [if_pos (hb.mp c)]
      · refine Or.inl ⟨?_, ?_⟩
        · rw [if_neg c]
        · rw [if_neg (fun e => c (hb.mpr e)), h2]
    · refine Or.inr ⟨k, by omega, ?_, ?_, h3⟩
      · unfold t_wd
        rw [if_pos (by omega), h1]
      · unfold t_kw
        have := (t_word (k := m) (by omega)).2.2.2.2.2 k (by omega) (by omega)
        rw [if_neg (by rw [h3]; exact this), h2]
theorem t_wd_keep (a w : Int) {m : Nat} (h : 0 ≤ t_wd b a w m) : ∀ j : Nat, t_wd b a w (m + j) = t_wd b a w m
  | 0 => rfl
  | j + 1 => by
    have := t_wd_keep a w h j
    show t_wd b a w (m + j + 1) = _
    rw [t_wd, this, if_pos h]
end ZM1
end
