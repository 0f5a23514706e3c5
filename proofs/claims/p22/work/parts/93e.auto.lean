/-! ===== the automaton: one TOKEN on, what is wanted, what is refused ===== -/
section ZT5
variable {b : Int → Int} {n c st mo op H L W WP kd s x r rq f : Int}
theorem a_run_nm {k : Nat} {q : zQ} (h : a_run b n (k + 1) = some q) (hs : q.1 ≠ 0) : ∃ q', a_run b n k = some q' ∧ q'.2.2.2.2.2.2.2 = q.2.2.2.2.2.2.2 := by
  unfold a_run at h
  split at h
  · cases h
  · next q0 h0 =>
    split at h
    · cases h
      refine ⟨q0, h0, ?_⟩
      obtain ⟨st0, mo0, op0, H0, L0, W0, WP0, ns⟩ := q0
      unfold a_nx at hs ⊢
      dsimp only at hs ⊢
      split
      · next e =>
        rw [e] at hs
        exact absurd rfl hs
      · rfl
    · cases h
theorem a_ef_lt {kd : Int} (h : a_ef st kd < 30) : st = a_ef st kd := by
  unfold a_ef at h ⊢
  split
  · next c => rw [if_pos c] at h; omega
  · rfl
theorem c_step (h : q_run b n c st mo op H L W WP) (hk : tk b n c.toNat = kd) (hs : t_s b n c.toNat = s) (hx : kd = 3 → tx b n c.toNat = x) (h4 : c < 400) (ha : a_cl (a_ef st kd) mo op H L kd = 0) (hr : a_ef st kd = 1 ∨ a_ef st kd = 5 ∨ a_ef st kd = 6 → q_fnd b n c r) (hq : a_ef st kd = 6 → q_fnd b n (c - 1) rq) {st' mo' op' H' L' W' WP' : Int} (g1 : a_st (a_ef st kd) mo op kd = st') (g2 : a_mo (a_ef st kd) mo op kd = mo') (g3 : a_op (a_ef st kd) mo op kd = op') (g4 : (if a_ef st kd = 4 then H + 1 else H) = H') (g5 : (if a_ef st kd = 8 then L + 1 else L) = L') (g6 : (if W = 0 then a_ck (a_ef st kd) x r rq else W) = W') (g7 : W' ≠ 0 → (if W = 0 then s else WP) = WP') : q_run b n (c + 1) st' mo' op' H' L' W' WP' := by
  obtain ⟨c0, q, e0, e1, e2, e3, e4, e5, e6, e7⟩ := h
  have ec : (c + 1).toNat = c.toNat + 1 := by omega
  have hrun : a_run b n (c.toNat + 1) = some (a_nx b n q c.toNat) := by
    rw [a_run, e0]
    dsimp only
    rw [if_pos]
    refine ⟨by omega, ?_⟩
    unfold a_at
    rw [e1, e2, e3, e4, e5, hk]
    exact ha
  have hrf : ∀ r, q_fnd b n c r → a_fd b n (tx b n c.toNat) q.2.2.2.2.2.2.2 0 = r := by
    intro r hr
    obtain ⟨q', k1, k2⟩ := hr
    rw [e0] at k1
    cases k1
    exact k2.symm
  have hqf : a_ef st kd = 6 → a_fd b n (tx b n (c.toNat - 1)) q.2.2.2.2.2.2.2 0 = rq := by
    intro e
    obtain ⟨q', k1, k2⟩ := hq e
    rw [hk, e] at e1
    have e8 : q.1 = 6 := by
      have := a_ef_lt (st := q.1) (kd := kd) (by omega)
      omega
    have hc : c.toNat ≠ 0 := by
      intro z
      rw [z] at e0
      cases e0
      exact absurd e8 (by decide)
    have ez : c.toNat = (c - 1).toNat + 1 := by omega
    rw [ez] at e0
    obtain ⟨q2, k3, k4⟩ := a_run_nm e0 (by omega)
    rw [k1] at k3
    cases k3
    rw [show c.toNat - 1 = (c - 1).toNat by omega, ← k4]
    exact k2.symm
  obtain ⟨st0, mo0, op0, H0, L0, W0, WP0, ns⟩ := q
  dsimp only at e1 e2 e3 e4 e5 e6 e7 hrf hqf
  subst e2 e3 e4 e5 e6
  have ek : a_ck (a_ef st kd) (tx b n c.toNat) (a_fd b n (tx b n c.toNat) ns 0) (a_fd b n (tx b n (c.toNat - 1)) ns 0) = a_ck (a_ef st kd) x r rq := by
    unfold a_ck
    by_cases i1 : a_ef st kd = 1
    · rw [if_pos i1, if_pos i1, hrf r (hr (Or.inl i1))]
    · rw [if_neg i1, if_neg i1]
      by_cases i5 : a_ef st kd = 5
      · rw [if_pos i5, if_pos i5, hrf r (hr (Or.inr (Or.inl i5)))]
      · rw [if_neg i5, if_neg i5]
        by_cases i6 : a_ef st kd = 6
        · rw [if_pos i6, if_pos i6, hrf r (hr (Or.inr (Or.inr i6))), hqf i6]
        · rw [if_neg i6, if_neg i6]
          by_cases i7 : a_ef st kd = 2 ∨ a_ef st kd = 3 ∨ a_ef st kd = 7 ∨ (9 ≤ a_ef st kd ∧ a_ef st kd ≤ 12)
          · have e3 : kd = 3 := by
              generalize a_ef st kd = E at i7 ha
              unfold a_cl at ha
              rw [if_neg (by omega), if_pos (by omega)] at ha
              split at ha
              · next e =>
                rw [e]
                unfold a_one
                rcases i7 with rfl | rfl | rfl | i7
                · rfl
                · rfl
                · rfl
                · rw [if_neg (by omega), if_neg (by omega), if_neg (by omega), if_neg (by omega), if_neg (by omega), if_neg (by omega), if_neg (by omega), if_neg (by omega), if_pos i7]
              · cases ha
            rw [if_pos i7, if_pos i7, hx e3]
          · rw [if_neg i7, if_neg i7]
  refine ⟨by omega, _, by rw [ec]; exact hrun, ?_⟩
  unfold a_nx
  dsimp only
  rw [e1, hk]
  rw [ek]
  refine ⟨by rw [g1], g2, g3, g4, g5, g6, fun hw => ?_⟩
  have := g7 hw
  rw [← this, hs]
  by_cases w0 : W0 = 0
  · rw [if_pos w0]
    rw [if_pos w0] at g6
    rw [if_pos ⟨w0, by rw [g6]; exact hw⟩]
  · rw [if_neg w0, if_neg (fun h => w0 h.1)]
    exact e7 w0
theorem c_res (h : q_run b n c st mo op H L W WP) (hk : tk b n c.toNat = kd) (hs : t_s b n c.toNat = s) (ha : a_cl (a_ef st kd) mo op H L kd = f) (hf : f = 1 ∨ f = 2) : q_res b n f s := by
  obtain ⟨c0, q, e0, e1, e2, e3, e4, e5, e6, e7⟩ := h
  have hat : a_at b n q c.toNat = f := by
    unfold a_at
    rw [e1, e2, e3, e4, e5, hk]
    exact ha
  refine ⟨_, q, e0, Or.inl (by omega), ?_, fun _ => ?_⟩
  · rw [hat, if_neg (by omega), if_neg (by omega)]
  · rw [hat, if_neg (by omega), hs]
theorem c_go (h : q_run b n c st mo op H L W WP) (hk : tk b n c.toNat = kd) (hs : t_s b n c.toNat = s) (ha : a_cl (a_ef st kd) mo op H L kd = 0) : q_go b n c s := by
  intro h4
  obtain ⟨c0, q, e0, e1, e2, e3, e4, e5, e6, e7⟩ := h
  have hat : a_at b n q c.toNat = 0 := by
    unfold a_at
    rw [e1, e2, e3, e4, e5, hk]
    exact ha
  refine ⟨_, q, e0, Or.inr (by omega), ?_, fun _ => ?_⟩
  · rw [hat, if_neg (by omega), if_pos rfl]
  · rw [hat, if_neg (by omega), hs]
theorem c_end (h : q_run b n c st mo op H L W WP) (hk : tk b n c.toNat = kd) (ha : a_cl (a_ef st kd) mo op H L kd = 3) : q_res b n W WP := by
  obtain ⟨c0, q, e0, e1, e2, e3, e4, e5, e6, e7⟩ := h
  have hat : a_at b n q c.toNat = 3 := by
    unfold a_at
    rw [e1, e2, e3, e4, e5, hk]
    exact ha
  refine ⟨_, q, e0, Or.inl (by omega), ?_, fun hw => ?_⟩
  · rw [hat, if_pos rfl, e6]
  · rw [hat, if_pos rfl, e7 hw]
theorem c_last {st' : Int} (h : q_run b n c st mo op H L W WP) (hk : tk b n c.toNat = kd) (he : a_ef st kd = a_ef st' kd) : q_run b n c st' mo op H L W WP := by
  obtain ⟨c0, q, e0, e1, e2⟩ := h
  refine ⟨c0, q, e0, ?_, e2⟩
  rw [e1, hk]
  exact he
set_option maxRecDepth 100000 in
theorem t_km_all : (List.range 42).all (fun (k : Nat) => decide (((k : Int) = 0 ∧ t_km (k : Int) = 0) ∨ ((k : Int) = 1 ∧ t_km (k : Int) = 2) ∨ ((k : Int) = 2 ∧ t_km (k : Int) = 3) ∨ ((k : Int) = 3 ∧ t_km (k : Int) = 1) ∨ ((k : Int) = 4 ∧ t_km (k : Int) = 59) ∨ ((k : Int) = 5 ∧ t_km (k : Int) = 61) ∨ ((k : Int) = 6 ∧ t_km (k : Int) = 40) ∨ ((k : Int) = 7 ∧ t_km (k : Int) = 41) ∨ ((k : Int) = 8 ∧ t_km (k : Int) = 43) ∨ ((k : Int) = 9 ∧ t_km (k : Int) = 45) ∨ ((k : Int) = 10 ∧ t_km (k : Int) = 42) ∨ ((k : Int) = 13 ∧ t_km (k : Int) = 60) ∨ ((k : Int) = 15 ∧ t_km (k : Int) = 47) ∨ (20 ≤ (k : Int) ∧ t_km (k : Int) = (k : Int) + 236) ∨ (11 ≤ (k : Int) ∧ (k : Int) ≤ 19 ∧ (k : Int) ≠ 13 ∧ (k : Int) ≠ 15 ∧ t_km (k : Int) = 1000 + (k : Int)))) = true := by decide +kernel
theorem t_km_alt {u : Int} (h0 : 0 ≤ u) (h1 : u ≤ 41) : (u = 0 ∧ t_km u = 0) ∨ (u = 1 ∧ t_km u = 2) ∨ (u = 2 ∧ t_km u = 3) ∨ (u = 3 ∧ t_km u = 1) ∨ (u = 4 ∧ t_km u = 59) ∨ (u = 5 ∧ t_km u = 61) ∨ (u = 6 ∧ t_km u = 40) ∨ (u = 7 ∧ t_km u = 41) ∨ (u = 8 ∧ t_km u = 43) ∨ (u = 9 ∧ t_km u = 45) ∨ (u = 10 ∧ t_km u = 42) ∨ (u = 13 ∧ t_km u = 60) ∨ (u = 15 ∧ t_km u = 47) ∨ (20 ≤ u ∧ t_km u = u + 236) ∨ (11 ≤ u ∧ u ≤ 19 ∧ u ≠ 13 ∧ u ≠ 15 ∧ t_km u = 1000 + u) := by
  have := of_decide_eq_true (List.all_eq_true.mp t_km_all u.toNat (List.mem_range.mpr (by omega)))
  rw [show ((u.toNat : Nat) : Int) = u by omega] at this
  exact this
-- a try
theorem a_try1 (h : st ≥ 200) (h2 : 0 ≤ op) (h3 : kd = 3 ∨ 269 ≤ kd) (h5 : kd ≤ 277) : a_cl (a_ef st kd) 0 op H L kd = 0 := by
  unfold a_cl a_ef
  omega
theorem a_try2 {u : Int} (h : st ≥ 200) (h2 : 1 ≤ op) (h0 : 0 ≤ u) (h1 : u ≤ 41) (h3 : 16 ≤ u) : a_cl (a_ef st (t_km u)) 1 op H L (t_km u) = 1 := by
  have := t_km_alt h0 h1
  generalize t_km u = kd at this ⊢
  unfold a_cl a_ef a_p
  simp only [decide_eq_true_eq]
  omega
end ZT5
