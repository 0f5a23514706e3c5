/-! ===== the cores: LIKES, how many HOUSES ===== -/
section ZM3
variable {b : Int → Int} {v : zVw} {n c d st mo op H L W WP r q x s : Int}
theorem a_at_0 {Q : zQ} {k : Nat} (ha : a_at b n Q k = 0) : tk b n k ≠ 0 := by
  intro z
  obtain ⟨st0, mo0, op0, H0, L0, W0, WP0, ns⟩ := Q
  unfold a_at at ha
  rw [z] at ha
  dsimp only at ha
  generalize a_ef st0 0 = E at ha
  unfold a_cl at ha
  split at ha
  · rw [if_pos rfl] at ha
    cases ha
  · split at ha
    · next h1 h2 =>
      split at ha
      · next h3 =>
        unfold a_one at h3
        omega
      · cases ha
    · split at ha
      · rw [if_neg (by decide)] at ha
        cases ha
      · split at ha
        · rw [if_neg (by decide), if_neg (by decide)] at ha
          cases ha
        · rw [if_neg (by decide)] at ha
          split at ha
          · rw [if_neg (by decide)] at ha
            cases ha
          · split at ha
            · next h3 =>
              unfold a_x at h3
              omega
            · cases ha
theorem a_run_down {k : Nat} : ∀ {j : Nat} {Q : zQ}, a_run b n (k + j) = some Q → ∃ Q', a_run b n k = some Q'
  | 0, Q, h => ⟨Q, h⟩
  | j + 1, Q, h => by
    obtain ⟨Q', h', -⟩ := a_run_pre (k := k + j) h
    exact a_run_down h'
theorem q_end_le {c c' : Nat} (h : q_end b n c) (h' : q_end b n c') : c' ≤ c := by
  rcases Nat.lt_or_ge c c' with l | l
  · obtain ⟨⟨Q', e'⟩, -⟩ := h'
    rw [show c' = c + 1 + (c' - (c + 1)) by omega] at e'
    obtain ⟨Q1, e1⟩ := a_run_down e'
    obtain ⟨Q0, e0, -, e2, -⟩ := a_run_pre e1
    exact absurd h.2 (a_at_0 e2)
  · exact l
theorem q_end_u {c c' : Nat} (h : q_end b n c) (h' : q_end b n c') : c = c' := Nat.le_antisymm (q_end_le h' h) (q_end_le h h')
theorem c_fihU {J : Int} (h : q_fih b n H) (h' : q_fih b n J) : H = J := by
  obtain ⟨c, Q, e, z, g⟩ := h
  obtain ⟨c', Q', e', z', g'⟩ := h'
  have := q_end_u (b := b) (n := n) ⟨⟨Q, e⟩, z⟩ ⟨⟨Q', e'⟩, z'⟩
  subst this
  rw [e] at e'
  cases e'
  rw [← g, ← g']
theorem a_nx_L {Q : zQ} {k : Nat} : (a_nx b n Q k).2.2.2.2.1 = if a_ef Q.1 (tk b n k) = 8 then Q.2.2.2.2.1 + 1 else Q.2.2.2.2.1 := by
  obtain ⟨st0, mo0, op0, H0, L0, W0, WP0, ns⟩ := Q
  rfl
/-- as many LIKES: the same ones -/
theorem a_lk_same {k : Nat} : ∀ {j : Nat} {Q Q' : zQ}, a_run b n (k + j) = some Q → a_run b n k = some Q' → Q'.2.2.2.2.1 ≤ Q.2.2.2.2.1 ∧ (Q.2.2.2.2.1 = Q'.2.2.2.2.1 → a_lk b n (k + j) = a_lk b n k)
  | 0, Q, Q', h, h' => by
    rw [Nat.add_zero, h'] at h
    cases h
    exact ⟨Int.le_refl _, fun _ => rfl⟩
  | j + 1, Q, Q', h, h' => by
    obtain ⟨Q0, h0, -, -, e⟩ := a_run_pre (k := k + j) h
    obtain ⟨i1, i2⟩ := a_lk_same h0 h'
    have e2 := a_nx_L (b := b) (n := n) (Q := Q0) (k := k + j)
    rw [← e] at e2
    refine ⟨by rw [e2]; split <;> omega, fun g => ?_⟩
    have hne : ¬ a_ef Q0.1 (tk b n (k + j)) = 8 := by
      intro h8
      rw [if_pos h8] at e2
      omega
    rw [if_neg hne] at e2
    rw [← i2 (by omega)]
    show a_lk b n (k + j + 1) = _
    rw [a_lk, h0]
    dsimp only
    rw [if_neg hne]
theorem c_lkM {st2 mo2 op2 H2 W2 P2 : Int} (h2 : q_run b n c st2 mo2 op2 H2 L W2 P2) (h1 : q_run b n d st mo op H L W WP) (hc : c ≤ d) : a_lk b n d.toNat = a_lk b n c.toNat := by
  obtain ⟨c0, Q', e', -, -, -, -, g', -⟩ := h2
  obtain ⟨d0, Q, e, -, -, -, -, g, -⟩ := h1
  have ed : d.toNat = c.toNat + (d.toNat - c.toNat) := by omega
  rw [ed] at e ⊢
  exact (a_lk_same e e').2 (by rw [g, g'])
theorem c_nsE {st1 mo1 op1 L1 W1 P1 : Int} (h1 : q_run b n c st1 mo1 op1 H L1 W1 P1) (h : q_run b n d st mo op H L W WP) (hc : c ≤ d) : ∃ Q Q', a_run b n c.toNat = some Q ∧ a_run b n d.toNat = some Q' ∧ Q.2.2.2.2.2.2.2 = Q'.2.2.2.2.2.2.2 := by
  obtain ⟨c0, Q, e, -, -, -, g, -⟩ := h1
  obtain ⟨d0, Q', e', -, -, -, g', -⟩ := h
  have ed : d.toNat = c.toNat + (d.toNat - c.toNat) := by omega
  have e2 := e'
  rw [ed] at e2
  obtain ⟨Q1, f0, l, f1⟩ := a_run_le e2
  rw [e] at f0
  cases f0
  have hl := a_run_H e
  have hl2 := a_run_H e'
  have hz : l = [] := by
    have : Q.2.2.2.2.2.2.2.length = Q'.2.2.2.2.2.2.2.length := by
      rw [← Int.ofNat_inj, ← hl, ← hl2, g, g']
    rw [f1, List.length_append] at this
    exact List.length_eq_zero_iff.mp (by omega)
  rw [hz, List.append_nil] at f1
  exact ⟨Q, Q', e, e', f1.symm⟩
theorem c_lkS {W5 P5 W6 P6 : Int} (h : q_run b n (d - 1) 8 0 0 H L W WP) (h5 : q_run b n (d - 4) 5 0 0 H L W5 P5) (h6 : q_run b n (d - 3) 6 0 0 H L W6 P6) (hk : tk b n (d - 1).toNat = 59) (hr : q_fnd b n (d - 4) r) (hq : q_fnd b n (d - 3) q) (hx : x = tx b n (d - 2).toNat) : a_lk b n d.toNat = a_up (a_lk b n (d - 1).toNat) r q x := by
  have d5 := h5.1
  obtain ⟨Q5, Q, e5, e, n5⟩ := c_nsE h5 h (by omega)
  obtain ⟨Q6, Q', e6, e', n6⟩ := c_nsE h6 h (by omega)
  rw [e] at e'
  cases e'
  obtain ⟨R5, f5, rfl⟩ := hr
  rw [e5] at f5
  cases f5
  obtain ⟨R6, f6, rfl⟩ := hq
  rw [e6] at f6
  cases f6
  obtain ⟨-, Q', e', st8, -⟩ := h
  rw [e] at e'
  cases e'
  rw [hk, a_ef_s (st := 8) (by omega)] at st8
  rw [show d.toNat = (d - 1).toNat + 1 by omega, a_lk, e]
  dsimp only
  rw [hk, if_pos st8, n5, n6, show (d - 1).toNat - 3 = (d - 4).toNat by omega, show (d - 1).toNat - 2 = (d - 3).toNat by omega, show (d - 1).toNat - 1 = (d - 2).toNat by omega, ← hx]
theorem a_up_no {f : Int → Int → Int} (h : r < 0 ∨ 6 ≤ r ∨ q < 0 ∨ 6 ≤ q) : a_up f r q x = f := by
  funext a b
  unfold a_up
  rw [if_neg (by omega)]
theorem a_up_at {f : Int → Int → Int} {a b' : Int} (hr : 0 ≤ r ∧ r < 6) (hq : 0 ≤ q ∧ q < 6) (h : (a = r ∧ b' = q) ∨ (a = q ∧ b' = r)) : a_up f r q x a b' = x := by
  unfold a_up
  rw [if_pos ⟨⟨hr.1, hr.2, hq.1, hq.2⟩, h⟩]
theorem a_up_off {f : Int → Int → Int} {a b' : Int} (h : ¬ ((a = r ∧ b' = q) ∨ (a = q ∧ b' = r))) : a_up f r q x a b' = f a b' := by
  unfold a_up
  rw [if_neg (fun g => h g.2)]
end ZM3
