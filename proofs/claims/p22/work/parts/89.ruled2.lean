/-! ===== the rules are right: waiting operators, codes ===== -/
section ZJ5
variable {W : Bool} {σ : Nat → Int} {ρ : Nat → Option Nat} {S S1 : zS} {h : mH} {ls : mL} {st : List mV} {X : List Int32} {g : Nat → Int → Int}
theorem j_wr_b : ∀ {k : Nat} {n s : Int}, j_wr g k = some (n, s) → 0 ≤ n ∧ n ≤ k ∧ s ≤ 2 * (k - n) ∧ ((s = 0 ∧ k ≤ 3 * n) ∨ (s = 1 ∧ k ≤ 3 * n + 1) ∨ (s = 2 ∧ k ≤ 3 * n + 1) ∨ (s = 3 ∧ k ≤ 3 * n + 2))
  | 0, n, s, hx => by
    unfold j_wr at hx
    cases hx
    omega
  | k + 1, n, s, hx => by
    unfold j_wr at hx
    split at hx
    · next q hq =>
      obtain ⟨q1, q2⟩ := q
      have ih := j_wr_b hq
      unfold j_ws at hx
      dsimp only at hx
      split at hx
      · cases hx; omega
      · split at hx
        · next hc => cases hx; omega
        · split at hx
          · next hc => cases hx; omega
          · cases hx
    · cases hx
theorem j_w_b {w n s : Int} (q : j_w g w n s) : 0 ≤ w ∧ w ≤ 64 ∧ 0 ≤ n ∧ n ≤ w ∧ s ≤ 2 * (w - n) ∧ w ≤ 3 * n + 2 ∧ 0 ≤ s ∧ s ≤ 3 := by
  obtain ⟨a, b, c⟩ := q
  have := j_wr_b c
  omega
theorem j_w_up {w n s n2 s2 : Int} (q : j_w g w n s) (hw : w ≤ 63) (hx : j_ws (n, s) (g 74 w) = some (n2, s2)) : j_w g (w + 1) n2 s2 := by
  obtain ⟨a, b, c⟩ := q
  refine ⟨by omega, by omega, ?_⟩
  rw [show (w + 1).toNat = w.toNat + 1 by omega]
  unfold j_wr
  rw [c]
  dsimp only
  rw [show ((w.toNat : Nat) : Int) = w by omega]
  exact hx
theorem j_w_dn {w n s : Int} (q : j_w g w n s) (hw : 1 ≤ w) : ∃ n0 s0, j_w g (w - 1) n0 s0 ∧ j_ws (n0, s0) (g 74 (w - 1)) = some (n, s) := by
  obtain ⟨a, b, c⟩ := q
  rw [show w.toNat = (w - 1).toNat + 1 by omega] at c
  unfold j_wr at c
  split at c
  · next z hz =>
    rw [show (((w - 1).toNat : Nat) : Int) = w - 1 by omega] at c
    exact ⟨z.1, z.2, ⟨by omega, by omega, hz⟩, c⟩
  · cases c
theorem j_3 : j_ok W X r_3 := by
  intro S σ ρ ls st h q hH
  unfold r_3
  split
  · next w m t hx =>
    obtain ⟨a, b, -⟩ := j_tag q hx
    have iw := a w (by simp)
    have im := a m (by simp)
    have it := a t (by simp)
    have hb := j_w_b (g := j_g h) (w := y_ev σ w) (n := y_ev σ m) (s := y_ev σ t) b
    obtain ⟨S1, c, d, e, -⟩ := j_asl q (es := [x_inc 2 (x_sub (x_scl 3 m) w), m, x_sub w m, t, x_inc 3 (x_scl (-1) t), x_sub (x_scl 2 (x_sub w m)) t]) (fun e he => by
      simp only [List.mem_cons, List.not_mem_nil, or_false] at he
      rcases he with rfl | rfl | rfl | rfl | rfl | rfl
      · exact ⟨y_in_inc (y_in_sub (y_in_scl im) iw), by rw [y_ev_inc, y_ev_sub, y_ev_scl]; omega⟩
      · exact ⟨im, by omega⟩
      · exact ⟨y_in_sub iw im, by rw [y_ev_sub]; omega⟩
      · exact ⟨it, by omega⟩
      · exact ⟨y_in_inc (y_in_scl it), by rw [y_ev_inc, y_ev_scl]; omega⟩
      · exact ⟨y_in_sub (y_in_scl (y_in_sub iw im)) it, by rw [y_ev_sub, y_ev_scl, y_ev_sub]; omega⟩)
    exact ⟨S1, j_opt (f := id) c, .of d e⟩
  · exact j_no q
theorem j_4 : j_ok W X r_4 := by
  intro S σ ρ ls st h q hH
  unfold r_4
  split
  · next w m t hx =>
    obtain ⟨a, b, -⟩ := j_tag q hx
    have iw := a w (by simp)
    have im := a m (by simp)
    have it := a t (by simp)
    have hb : j_w (j_g h) (y_ev σ w) (y_ev σ m) (y_ev σ t) := b
    have hb2 := j_w_b hb
    split
    · next x hfx =>
      obtain ⟨f1, f2, f3⟩ := j_fi q hH (by decide) iw hfx
      have w63 : x_has S (x_inc 63 (x_scl (-1) w)) = true → y_ev σ w ≤ 63 := fun hh => by
        have := q.has ((y_E.of iw).neg.inc 63) hh
        omega
      split
      · next hc =>
        rw [Bool.and_eq_true] at hc
        have e1 := r_is_ok q f1 hc.1
        refine j_one (j_addt q (by
          intro e he
          simp only [List.mem_cons, List.not_mem_nil, or_false] at he
          rcases he with rfl | rfl | rfl
          · exact y_in_inc iw
          · exact y_in_inc im
          · exact y_in_k 0) ?_) rfl rfl
        show j_w (j_g h) (y_ev σ (x_inc 1 w)) (y_ev σ (x_inc 1 m)) (y_ev σ (x_k 0))
        rw [y_ev_inc, y_ev_inc, y_ev_k]
        exact j_w_up hb (w63 hc.2) (by unfold j_ws; rw [← f2, e1]; rfl)
      · split
        · next hc =>
          rw [Bool.and_eq_true, Bool.and_eq_true] at hc
          have e1 := r_bt_ok q f1 (y_in_k 8) (y_in_k 9) hc.1.1
          rw [y_ev_k, y_ev_k] at e1
          have e2 := q.has (y_E.of it).neg hc.1.2
          refine j_one (j_addt q (by
            intro e he
            simp only [List.mem_cons, List.not_mem_nil, or_false] at he
            rcases he with rfl | rfl | rfl
            · exact y_in_inc iw
            · exact im
            · exact y_in_k 1) ?_) rfl rfl
          show j_w (j_g h) (y_ev σ (x_inc 1 w)) (y_ev σ m) (y_ev σ (x_k 1))
          rw [y_ev_inc, y_ev_k]
          exact j_w_up hb (w63 hc.2) (by unfold j_ws; dsimp only; rw [← f2, if_neg (by omega), if_pos (by omega)])
        · split
          · next hc =>
            rw [Bool.and_eq_true, Bool.and_eq_true, Bool.or_eq_true] at hc
            have e1 : y_ev σ x = 10 ∨ y_ev σ x = 15 := hc.1.1.imp (r_is_ok q f1) (r_is_ok q f1)
            have e2 := q.has ((y_E.of it).neg.inc 1) hc.1.2
            refine j_one (j_addt q (by
              intro e he
              simp only [List.mem_cons, List.not_mem_nil, or_false] at he
              rcases he with rfl | rfl | rfl
              · exact y_in_inc iw
              · exact im
              · exact y_in_inc it) ?_) rfl rfl
            show j_w (j_g h) (y_ev σ (x_inc 1 w)) (y_ev σ m) (y_ev σ (x_inc 2 t))
            rw [y_ev_inc, y_ev_inc]
            exact j_w_up hb (w63 hc.2) (by unfold j_ws; dsimp only; rw [← f2, if_neg (by omega), if_neg (by omega), if_pos (by omega)])
          · exact j_no q
    · exact j_no q
  · exact j_no q
theorem j_2 : j_ok W X r_2 := by
  intro S σ ρ ls st h q hH
  unfold r_2
  split
  · next w m t r hx hr =>
    obtain ⟨a, b, c⟩ := j_tag q hx
    have iw := a w (by simp)
    have im := a m (by simp)
    have it := a t (by simp)
    have hb : j_w (j_g h) (y_ev σ w) (y_ev σ m) (y_ev σ t) := b
    have hw := q.has ((y_E.of iw).inc (-1)) c
    obtain ⟨n0, s0, h1, h2⟩ := j_w_dn hb (by omega)
    have hb0 := j_w_b h1
    have hbb := j_w_b hb
    have hrf := j_rf hr
    have hlen : (j_len 74 : Int) = 64 := by rw [j_len2.2.2 rfl]; rfl
    unfold j_ws at h2
    dsimp only at h2
    split at h2
    · next e6 =>
      have e1 : n0 + 1 = y_ev σ m := congrArg Prod.fst (Option.some.inj h2)
      have e2 : 0 = y_ev σ t := congrArg Prod.snd (Option.some.inj h2)
      obtain ⟨σ', g1, g2, g3, g4⟩ := y_new q (p := (0, 3)) (z := s0) ⟨by dsimp only; omega, by dsimp only; omega⟩
      have iw' := y_in_le iw g2.2.2.1
      have im' := y_in_le im g2.2.2.1
      have it' := y_in_le it g2.2.2.1
      have ew := y_ev_ext iw g2.1
      have em := y_ev_ext im g2.1
      have et := y_ev_ext it g2.1
      obtain ⟨S1, k1, k2, k3, k4⟩ := j_asl g1 (es := x_inc (-1) m :: x_sub w m :: r_eqs t) (fun e he => by
        unfold r_eqs at he
        simp only [List.mem_cons, List.not_mem_nil, or_false] at he
        rcases he with rfl | rfl | rfl | rfl
        · exact ⟨y_in_inc im', by rw [y_ev_inc, em]; omega⟩
        · exact ⟨y_in_sub iw' im', by rw [y_ev_sub, em, ew]; omega⟩
        · exact ⟨it', by omega⟩
        · exact ⟨y_in_scl it', by rw [y_ev_scl]; omega⟩)
      have hrS : S1.2.1[r]? = some (74, false) := by rw [k4, show (x_new S (0, 3)).2.2.1 = S.2.1 from congrArg (fun z => z.1) g4]; exact hrf
      have f1 := j_addf k2 hH (r := r) (l := 74) (e := x_inc (-1) w) (v := x_k 6) (by decide) hrS (y_in_inc (y_in_le iw' k3.2.2.1)) (y_in_k 6) (by rw [y_ev_inc, ew]; omega) (by rw [y_ev_inc, ew, hlen]; omega) (by rw [y_ev_k, y_ev_inc, ew]; exact e6.symm)
      have f2 := j_addt f1 (k := 1) (p := [x_inc (-1) w, x_inc (-1) m, (x_new S (0, 3)).1]) (by
        intro e he
        simp only [List.mem_cons, List.not_mem_nil, or_false] at he
        rcases he with rfl | rfl | rfl
        · exact y_in_inc (y_in_le iw' k3.2.2.1)
        · exact y_in_inc (y_in_le im' k3.2.2.1)
        · exact y_in_le g3.1 k3.2.2.1) (by
        show j_w (j_g h) (y_ev σ' (x_inc (-1) w)) (y_ev σ' (x_inc (-1) m)) (y_ev σ' (x_new S (0, 3)).1)
        rw [y_ev_inc, y_ev_inc, g3.2, ew, em, show y_ev σ m + -1 = n0 by omega]
        exact h1)
      exact ⟨_, List.mem_append_left _ (j_opt k1), σ', ρ, f2, g2.trans k3⟩
    · next n6 =>
      have fin : ∀ (p : Int × Int) (k : Int) (es : List zL) (tt : zL), p.1 ≤ j_g h 74 (y_ev σ w - 1) ∧ j_g h 74 (y_ev σ w - 1) ≤ p.2 → (∀ σ' : Nat → Int, y_X S.1.length σ σ' → ∀ e ∈ es, y_in S.1.length e ∧ 0 ≤ y_ev σ' e) → y_in S.1.length tt → (∀ σ' : Nat → Int, y_X S.1.length σ σ' → y_ev σ' tt = s0) → n0 = y_ev σ m →
          ∃ T ∈ r_opt (x_asl (x_new S p).2 es) (fun z => r_addt (r_addf z r (x_inc (-1) w) (x_new S p).1) 1 [x_inc (-1) w, m, tt]), y_N (mGw W) (mJS X) S σ ρ T ls st h := by
        intro p k es tt hp hes itt htt hm
        obtain ⟨σ', g1, g2, g3, g4⟩ := y_new q (p := p) (z := j_g h 74 (y_ev σ w - 1)) hp
        have iw' := y_in_le iw g2.2.2.1
        have im' := y_in_le im g2.2.2.1
        have ew := y_ev_ext iw g2.1
        have em := y_ev_ext im g2.1
        obtain ⟨S1, k1, k2, k3, k4⟩ := j_asl g1 (es := es) (fun e he => ⟨y_in_le (hes σ' g2.1 e he).1 g2.2.2.1, (hes σ' g2.1 e he).2⟩)
        have hrS : S1.2.1[r]? = some (74, false) := by rw [k4, show (x_new S p).2.2.1 = S.2.1 from congrArg (fun z => z.1) g4]; exact hrf
        have f1 := j_addf k2 hH (r := r) (l := 74) (e := x_inc (-1) w) (v := (x_new S p).1) (by decide) hrS (y_in_inc (y_in_le iw' k3.2.2.1)) (y_in_le g3.1 k3.2.2.1) (by rw [y_ev_inc, ew]; omega) (by rw [y_ev_inc, ew, hlen]; omega) (by rw [g3.2, y_ev_inc, ew]; rfl)
        have f2 := j_addt f1 (k := 1) (p := [x_inc (-1) w, m, tt]) (by
          intro e he
          simp only [List.mem_cons, List.not_mem_nil, or_false] at he
          rcases he with rfl | rfl | rfl
          · exact y_in_inc (y_in_le iw' k3.2.2.1)
          · exact y_in_le im' k3.2.2.1
          · exact y_in_le itt (Nat.le_trans g2.2.2.1 k3.2.2.1)) (by
          show j_w (j_g h) (y_ev σ' (x_inc (-1) w)) (y_ev σ' m) (y_ev σ' tt)
          rw [y_ev_inc, ew, em, htt σ' g2.1, ← hm]
          exact h1)
        exact ⟨_, j_opt k1, σ', ρ, f2, g2.trans k3⟩
      split at h2
      · next hc =>
        have e1 : n0 = y_ev σ m := congrArg Prod.fst (Option.some.inj h2)
        have e2 : 1 = y_ev σ t := congrArg Prod.snd (Option.some.inj h2)
        obtain ⟨T, t1, t2⟩ := fin (8, 9) 0 (x_inc (-1) (x_sub w m) :: r_eqs (x_inc (-1) t)) (x_k 0) ⟨by dsimp only; omega, by dsimp only; omega⟩ (fun σ' hX e he => by
          unfold r_eqs at he
          simp only [List.mem_cons, List.not_mem_nil, or_false] at he
          have ew := y_ev_ext iw hX
          have em := y_ev_ext im hX
          have et := y_ev_ext it hX
          rcases he with rfl | rfl | rfl
          · exact ⟨y_in_inc (y_in_sub iw im), by rw [y_ev_inc, y_ev_sub]; omega⟩
          · exact ⟨y_in_inc it, by rw [y_ev_inc]; omega⟩
          · exact ⟨y_in_scl (y_in_inc it), by rw [y_ev_scl, y_ev_inc]; omega⟩) (y_in_k 0) (fun σ' _ => by rw [y_ev_k]; exact hc.2.symm) e1
        exact ⟨T, List.mem_append_right _ (List.mem_append_left _ t1), t2⟩
      · split at h2
        · next hc =>
          have e1 : n0 = y_ev σ m := congrArg Prod.fst (Option.some.inj h2)
          have e2 : s0 + 2 = y_ev σ t := congrArg Prod.snd (Option.some.inj h2)
          obtain ⟨T, t1, t2⟩ := fin (10, 15) 0 [x_inc (-1) (x_sub w m), x_inc (-2) t] (x_inc (-2) t) ⟨by dsimp only; omega, by dsimp only; omega⟩ (fun σ' hX e he => by
            simp only [List.mem_cons, List.not_mem_nil, or_false] at he
            have ew := y_ev_ext iw hX
            have em := y_ev_ext im hX
            have et := y_ev_ext it hX
            rcases he with rfl | rfl
            · exact ⟨y_in_inc (y_in_sub iw im), by rw [y_ev_inc, y_ev_sub]; omega⟩
            · exact ⟨y_in_inc it, by rw [y_ev_inc]; omega⟩) (y_in_inc it) (fun σ' hX => by rw [y_ev_inc, y_ev_ext it hX]; omega) e1
          exact ⟨T, List.mem_append_right _ (List.mem_append_right _ t1), t2⟩
        · cases h2
  · exact j_no q
theorem j_5 {a : Nat} : j_ok W X (fun S => r_5 S a) := by
  intro S σ ρ ls st h q hH
  dsimp only
  unfold r_5
  split
  · next c hc =>
    have ic : y_in S.1.length c := by
      split at hc
      · exact j_fd q hc
      · exact j_lo q hc
    split
    · next h1 =>
      rw [Bool.and_eq_true] at h1
      have a1 := y_has0 q ic h1.1
      have a2 := q.has ((y_E.of ic).neg.inc 840) h1.2
      refine j_one (j_addt q (by
        intro e he
        simp only [List.mem_cons, List.not_mem_nil, or_false] at he
        rcases he with rfl | rfl | rfl
        · exact ic
        · exact y_in_k 0
        · exact ic) ?_) rfl rfl
      show j_rp (j_g h) (y_ev σ c) (y_ev σ (x_k 0)) (y_ev σ c)
      rw [y_ev_k]
      refine ⟨a1, Int.le_refl _, by omega, ?_⟩
      rw [Int.sub_self]
      rfl
    · exact j_no q
  · exact j_no q
theorem j_6 : j_ok W X (fun S => [r_addt S 1 [x_k 0, x_k 0, x_k 0]]) := by
  intro S σ ρ ls st h q hH
  refine j_one (j_addt q (by
    intro e he
    simp only [List.mem_cons, List.not_mem_nil, or_false, or_self] at he
    subst he
    exact y_in_k 0) ?_) rfl rfl
  show j_w (j_g h) (y_ev σ (x_k 0)) (y_ev σ (x_k 0)) (y_ev σ (x_k 0))
  rw [y_ev_k]
  exact ⟨by omega, by omega, rfl⟩
theorem j_rp_up {f d d2 c : Int} (q : j_rp g f d c) (hc : c ≤ 839) (hx : j_st d (g 72 c) (g 73 c) = some d2) : j_rp g f d2 (c + 1) := by
  obtain ⟨a, b, e, r⟩ := q
  refine ⟨a, by omega, by omega, ?_⟩
  rw [show (c + 1 - f).toNat = (c - f).toNat + 1 by omega]
  unfold j_run
  rw [r]
  dsimp only
  rw [show f + (((c - f).toNat : Nat) : Int) = c by omega]
  exact hx
theorem j_run_b {f : Int} : ∀ {n : Nat} {d : Int}, j_run g f n = some d → 0 ≤ d ∧ d ≤ n
  | 0, d, hx => by
    unfold j_run at hx
    cases hx
    omega
  | n + 1, d, hx => by
    unfold j_run at hx
    split at hx
    · next d0 h0 =>
      have ih := j_run_b h0
      unfold j_st at hx
      split at hx
      · cases hx; omega
      · split at hx
        · split at hx
          · cases hx; omega
          · cases hx
        · split at hx
          · cases hx; omega
          · cases hx
    · cases hx
theorem j_run_s {f : Int} {n : Nat} {d : Int} (hd : j_run g f n = some d) : ∀ {N : Nat} {D : Int}, n < N → j_run g f N = some D → ∃ d2, j_st d (g 72 (f + n)) (g 73 (f + n)) = some d2
  | 0, D, hn, _ => absurd hn (by omega)
  | N + 1, D, hn, hx => by
    unfold j_run at hx
    split at hx
    · next d0 h0 =>
      by_cases e : n = N
      · subst e
        rw [hd] at h0
        cases h0
        exact ⟨D, hx⟩
      · exact j_run_s hd (by omega) h0
    · cases hx
theorem j_7 : j_ok W X r_7 := by
  intro S σ ρ ls st h q hH
  unfold r_7
  split
  · next f d c hx =>
    obtain ⟨a, b, -⟩ := j_tag q hx
    have jf := a f (by simp)
    have jd := a d (by simp)
    have jc := a c (by simp)
    have hb : j_rp (j_g h) (y_ev σ f) (y_ev σ d) (y_ev σ c) := b
    split
    · next x hfx h839 =>
      obtain ⟨f1, f2, f3⟩ := j_fi q hH (by decide) jc hfx
      have hc := q.has ((y_E.of jc).neg.inc 839) h839
      have up : ∀ k : Int, j_st (y_ev σ d) (j_g h 72 (y_ev σ c)) (j_g h 73 (y_ev σ c)) = some (y_ev σ d + k) → ∃ T ∈ [r_addt S 0 [f, x_inc k d, x_inc 1 c]], y_N (mGw W) (mJS X) S σ ρ T ls st h := by
        intro k hk
        refine j_one (j_addt q (by
          intro e he
          simp only [List.mem_cons, List.not_mem_nil, or_false] at he
          rcases he with rfl | rfl | rfl
          · exact jf
          · exact y_in_inc jd
          · exact y_in_inc jc) ?_) rfl rfl
        show j_rp (j_g h) (y_ev σ f) (y_ev σ (x_inc k d)) (y_ev σ (x_inc 1 c))
        rw [y_ev_inc, y_ev_inc]
        exact j_rp_up hb (by omega) hk
      split
      · next h0 =>
        have e0 := r_is_ok q f1 h0
        exact up 1 (by unfold j_st; rw [← f2, if_pos e0])
      · split
        · next h1 =>
          have e1 := r_is_ok q f1 h1
          split
          · next v hfv =>
            obtain ⟨v1, v2, v3⟩ := j_fi q hH (by decide) jc hfv
            split
            · next h2 =>
              have e2 := r_bt_ok q v1 (y_in_k 0) (y_in_k 8) h2
              rw [y_ev_k, y_ev_k] at e2
              exact up 1 (by unfold j_st; rw [← f2, if_neg (by omega), if_pos e1, ← v2, if_pos e2])
            · exact j_no q
          · exact j_no q
        · split
          · next h2 =>
            rw [Bool.and_eq_true, Bool.and_eq_true] at h2
            have e1 := q.has ((y_E.of f1).inc (-2)) h2.1.1
            have e2 := q.has ((y_E.of f1).neg.inc 5) h2.1.2
            have e3 := q.has ((y_E.of jd).inc (-2)) h2.2
            exact up (-1) (by unfold j_st; rw [← f2, if_neg (by omega), if_neg (by omega), if_pos (by omega)]; rfl)
          · exact j_no q
    · exact j_no q
  · exact j_no q
theorem j_8 {a : Nat} : j_ok W X (fun S => r_8 S a) := by
  intro S σ ρ ls st h q hH
  dsimp only
  unfold r_8
  split
  · next c r qq hc hr hqq =>
    have jc := j_lo q hc
    have hr72 := j_rf hr
    have hr73 := j_rf hqq
    split
    · next f d c' hx =>
      obtain ⟨a1, b1, p1⟩ := j_tag q hx
      have jf := a1 f (by simp)
      have jd := a1 d (by simp)
      have jc' := a1 c' (by simp)
      have ec := y_sm q jc' jc p1
      have hb : j_rp (j_g h) (y_ev σ f) (y_ev σ d) (y_ev σ c') := b1
      rw [ec] at hb
      split
      · next f2 D to hy =>
        obtain ⟨a2, b2, p2⟩ := j_tag q hy
        have jf2 := a2 f2 (by simp)
        have jto := a2 to (by simp)
        dsimp only at p2
        rw [Bool.and_eq_true, Bool.and_eq_true] at p2
        have ef := y_sm q jf2 jf p2.1.1
        have hlt := q.has (((y_E.of jto).sub (y_E.of jc)).inc (-1)) p2.1.2
        have h398 := q.has (((y_E.of jf).sub (y_E.of jto)).inc 398) p2.2
        have hB : j_rp (j_g h) (y_ev σ f2) (y_ev σ D) (y_ev σ to) := b2
        rw [ef] at hB
        have hd := j_run_b hb.2.2.2
        obtain ⟨d2, hst⟩ := j_run_s hb.2.2.2 (N := (y_ev σ to - y_ev σ f).toNat) (by have := hb.2.1; omega) hB.2.2.2
        rw [show y_ev σ f + (((y_ev σ c - y_ev σ f).toNat : Nat) : Int) = y_ev σ c by have := hb.2.1; omega] at hst
        have c0 : 0 ≤ y_ev σ c := by have := hb.1; have := hb.2.1; omega
        have c839 : y_ev σ c ≤ 839 := by have := hB.2.2.1; omega
        have hup := j_rp_up hb c839 hst
        have hl72 : (j_len 72 : Int) = 840 := by rw [j_len2.2.1 (Or.inl rfl)]; rfl
        have hl73 : (j_len 73 : Int) = 840 := by rw [j_len2.2.1 (Or.inr rfl)]; rfl
        obtain ⟨z, k1, k2, k3, k4⟩ := j_asl q (es := [d, x_inc 397 (x_scl (-1) d)]) (fun e he => by
          simp only [List.mem_cons, List.not_mem_nil, or_false] at he
          rcases he with rfl | rfl
          · exact ⟨jd, hd.1⟩
          · exact ⟨y_in_inc (y_in_scl jd), by rw [y_ev_inc, y_ev_scl]; have := hb.2.1; omega⟩)
        rw [k1]
        dsimp only
        have zf := y_in_le jf k3.2.2.1
        have zd := y_in_le jd k3.2.2.1
        have zc := y_in_le jc k3.2.2.1
        rw [← k4] at hr72 hr73
        unfold j_st at hst
        split at hst
        · next e0 =>
          cases hst
          have f1 := j_addf k2 hH (l := 72) (e := c) (v := x_k 0) (by decide) hr72 zc (y_in_k 0) c0 (by rw [hl72]; omega) (by rw [y_ev_k]; exact e0.symm)
          have f2' := j_addt f1 (k := 0) (p := [f, x_inc 1 d, x_inc 1 c]) (by
            intro e he
            simp only [List.mem_cons, List.not_mem_nil, or_false] at he
            rcases he with rfl | rfl | rfl
            · exact zf
            · exact y_in_inc zd
            · exact y_in_inc zc) (by
            show j_rp (j_g h) (y_ev σ f) (y_ev σ (x_inc 1 d)) (y_ev σ (x_inc 1 c))
            rw [y_ev_inc, y_ev_inc]
            exact hup)
          exact ⟨_, List.mem_cons_self, σ, ρ, f2', k3⟩
        · split at hst
          · next e1 =>
            split at hst
            · next e2 =>
              cases hst
              obtain ⟨σ', g1, g2, g3, g4⟩ := y_new k2 (p := (0, 8)) (z := j_g h 73 (y_ev σ c)) e2
              have ec2 := y_ev_ext zc g2.1
              have ed2 := y_ev_ext zd g2.1
              have ef2 := y_ev_ext zf g2.1
              have hrz : (x_new z (0, 8)).2.2.1 = z.2.1 := congrArg (fun z => z.1) g4
              have f1 := j_addf g1 hH (l := 72) (e := c) (v := x_k 1) (by decide) (by rw [hrz]; exact hr72) (y_in_le zc g2.2.2.1) (y_in_k 1) (by omega) (by rw [hl72]; omega) (by rw [y_ev_k, ec2]; exact e1.symm)
              have f2' := j_addf f1 hH (l := 73) (e := c) (v := (x_new z (0, 8)).1) (by decide) (by show (x_new z (0, 8)).2.2.1[qq]? = _; rw [hrz]; exact hr73) (y_in_le zc g2.2.2.1) g3.1 (by omega) (by rw [hl73]; omega) (by rw [g3.2, ec2])
              have f3 := j_addt f2' (k := 0) (p := [f, x_inc 1 d, x_inc 1 c]) (by
                intro e he
                simp only [List.mem_cons, List.not_mem_nil, or_false] at he
                rcases he with rfl | rfl | rfl
                · exact y_in_le zf g2.2.2.1
                · exact y_in_inc (y_in_le zd g2.2.2.1)
                · exact y_in_inc (y_in_le zc g2.2.2.1)) (by
                show j_rp (j_g h) (y_ev σ' f) (y_ev σ' (x_inc 1 d)) (y_ev σ' (x_inc 1 c))
                rw [y_ev_inc, y_ev_inc, ef2, ed2, ec2]
                exact hup)
              exact ⟨_, List.mem_cons_of_mem _ List.mem_cons_self, σ', ρ, f3, k3.trans g2⟩
            · cases hst
          · split at hst
            · next e3 =>
              cases hst
              obtain ⟨σ', g1, g2, g3, g4⟩ := y_new k2 (p := (2, 5)) (z := j_g h 72 (y_ev σ c)) ⟨e3.1, e3.2.1⟩
              have ec2 := y_ev_ext zc g2.1
              have ed2 := y_ev_ext zd g2.1
              have ef2 := y_ev_ext zf g2.1
              obtain ⟨y, m1, m2, m3, m4⟩ := j_asl g1 (es := [x_inc (-2) d]) (fun e he => by
                simp only [List.mem_cons, List.not_mem_nil, or_false] at he
                subst he
                exact ⟨y_in_inc (y_in_le zd g2.2.2.1), by rw [y_ev_inc, ed2]; omega⟩)
              have l2 := Nat.le_trans g2.2.2.1 m3.2.2.1
              have hry : y.2.1 = z.2.1 := by rw [m4]; exact congrArg (fun z => z.1) g4
              have f1 := j_addf m2 hH (l := 72) (e := c) (v := (x_new z (2, 5)).1) (by decide) (by rw [hry]; exact hr72) (y_in_le zc l2) (y_in_le g3.1 m3.2.2.1) (by omega) (by rw [hl72]; omega) (by rw [g3.2, ec2])
              have f3 := j_addt f1 (k := 0) (p := [f, x_inc (-1) d, x_inc 1 c]) (by
                intro e he
                simp only [List.mem_cons, List.not_mem_nil, or_false] at he
                rcases he with rfl | rfl | rfl
                · exact y_in_le zf l2
                · exact y_in_inc (y_in_le zd l2)
                · exact y_in_inc (y_in_le zc l2)) (by
                show j_rp (j_g h) (y_ev σ' f) (y_ev σ' (x_inc (-1) d)) (y_ev σ' (x_inc 1 c))
                rw [y_ev_inc, y_ev_inc, ef2, ed2, ec2]
                exact hup)
              exact ⟨_, List.mem_cons_of_mem _ (List.mem_cons_of_mem _ (j_opt m1)), σ', ρ, f3, k3.trans (g2.trans m3)⟩
            · cases hst
      · exact j_no q
    · exact j_no q
  · exact j_no q
end ZJ5
