/-! ===== the rules are right: rows ===== -/
section ZJ7
variable {W : Bool} {σ : Nat → Int} {ρ : Nat → Option Nat} {S S1 : zS} {h : mH} {ls : mL} {st : List mV} {X : List Int32} {g : Nat → Int → Int}
theorem j_P_px {b : Nat} (hb : b < 4) (u : Int) : j_P X (10 + b) [u] g = j_px g (j_pl b) (j_pn b) u := by
  have : b = 0 ∨ b = 1 ∨ b = 2 ∨ b = 3 := by omega
  rcases this with rfl | rfl | rfl | rfl <;> rfl
theorem j_pl_U {b : Nat} : j_pl b ∈ j_U := by
  unfold j_pl
  split <;> decide
theorem r_px_ok {z : List zL} (hx : r_px z = true) : ∃ u, z = [u] ∧ ∀ σ : Nat → Int, y_ev σ u = -1 := by
  unfold r_px at hx
  split at hx
  · next u => exact ⟨u, rfl, fun σ => r_kc_ok hx⟩
  · cases hx
theorem j_px_all {l : Nat} {n : Int} (q : j_px g l n (-1)) {r : Int} (h0 : 0 ≤ r) (h1 : r < n) : j_ps g l r := q r h0 h1 (by omega)
theorem j_one1 (q : y_S (mGw W) (mJS X) S σ ρ ls st h) {k : Nat} {e : zL} (he : y_in S.1.length e) (hJ : j_P X k [y_ev σ e] (j_g h)) : ∃ T ∈ [r_addt S k [e]], y_N (mGw W) (mJS X) S σ ρ T ls st h :=
  j_one (j_addt q (by
    intro e' he'
    simp only [List.mem_cons, List.not_mem_nil, or_false] at he'
    subst he'
    exact he) hJ) rfl rfl
theorem j_17 {a : Nat} : j_ok W X (fun S => r_17 S a) := by
  intro S σ ρ ls st h q hH
  dsimp only
  unfold r_17
  split
  · next u hu =>
    have ju := j_src q hu
    split
    · refine j_one1 q (y_in_k 0) ?_
      show j_px (j_g h) 77 1 (y_ev σ (x_k 0))
      rw [y_ev_k]
      intro r r0 r1 hr
      omega
    · refine j_one1 q (y_in_k 0) ?_
      show j_px (j_g h) 78 1 (y_ev σ (x_k 0))
      rw [y_ev_k]
      intro r r0 r1 hr
      omega
    · next b n0 n1 =>
      split
      · next z hz =>
        obtain ⟨a1, a2, a3⟩ := j_tag q hz
        obtain ⟨w, rfl, hw⟩ := r_px_ok a3
        have hb : a % 4 < 4 := Nat.mod_lt _ (by omega)
        refine j_one1 q ju ?_
        rw [j_P_px hb]
        have a2' : j_P X (10 + a % 4) [y_ev σ w] (j_g h) := a2
        rw [j_P_px hb, hw σ] at a2'
        exact fun r r0 r1 _ => j_px_all a2' r0 r1
      · exact j_no q
  · exact j_no q
theorem r_18c_ok (q : y_S (mGw W) (mJS X) S σ ρ ls st h) (hH : y_H (mGw W) mLT h) {b d : Nat} {u w : zL} {x : Int} (ju : y_in S.1.length u) (jw : y_in S.1.length w) (hx : r_18c S b d u w x = true) : j_g h (j_pl b) (33 * y_ev σ u + x) = j_g h (j_pl d) (33 * y_ev σ w + x) := by
  unfold r_18c at hx
  split at hx
  · next v z hv hz =>
    obtain ⟨v1, v2, -⟩ := j_fi q hH j_pl_U (y_in_inc (y_in_scl ju)) hv
    obtain ⟨z1, z2, -⟩ := j_fi q hH j_pl_U (y_in_inc (y_in_scl jw)) hz
    rw [y_ev_inc, y_ev_scl] at v2 z2
    rw [← v2, ← z2]
    exact y_sm q v1 z1 hx
  · cases hx
theorem j_ps_of {l l' : Nat} {r r' : Int} (q : j_ps g l' r') (h6 : g l (33 * r + 6) = g l' (33 * r' + 6)) (h7 : g l (33 * r + 7) = g l' (33 * r' + 7)) (h8 : g l (33 * r + 8) = g l' (33 * r' + 8)) (h9 : g l (33 * r + 9) = g l' (33 * r' + 9)) (h10 : g l (33 * r + 10) = g l' (33 * r' + 10)) (h11 : g l (33 * r + 11) = g l' (33 * r' + 11)) (h24 : g l (33 * r + 24) = g l' (33 * r' + 24)) : j_ps g l r := by
  have e : ∀ (l : Nat) (r : Int), j_ct g l (33 * r + 6) = j_b (g l (33 * r + 6)) + j_b (g l (33 * r + 7)) + j_b (g l (33 * r + 8)) + j_b (g l (33 * r + 9)) + j_b (g l (33 * r + 10)) + j_b (g l (33 * r + 11)) := by
    intro l r
    unfold j_ct
    rw [show 33 * r + 6 + 1 = 33 * r + 7 by omega, show 33 * r + 6 + 2 = 33 * r + 8 by omega, show 33 * r + 6 + 3 = 33 * r + 9 by omega, show 33 * r + 6 + 4 = 33 * r + 10 by omega, show 33 * r + 6 + 5 = 33 * r + 11 by omega]
  unfold j_ps at q ⊢
  rw [e] at q ⊢
  rw [h6, h7, h8, h9, h10, h11, h24]
  exact q
theorem j_18 {a : Nat} : j_ok W X (fun S => r_18 S a) := by
  intro S σ ρ ls st h q hH
  dsimp only
  unfold r_18
  split
  · next w hw =>
    have jw : y_in S.1.length w := by
      split at hw
      · cases hw; exact y_in_k 0
      · cases hw; exact y_in_k 0
      · exact j_src q hw
    split
    · next u z hu hz =>
      obtain ⟨a1, a2, -⟩ := j_tag q hu
      obtain ⟨b1, b2, b3⟩ := j_tag q hz
      obtain ⟨y, rfl, hy⟩ := r_px_ok b3
      have ju := a1 u (by simp)
      have hb : a % 4 < 4 := Nat.mod_lt _ (by omega)
      have hd : a / 4 % 4 < 4 := Nat.mod_lt _ (by omega)
      have a2' : j_P X (10 + a % 4) [y_ev σ u] (j_g h) := a2
      have b2' : j_P X (10 + a / 4 % 4) [y_ev σ y] (j_g h) := b2
      rw [j_P_px hb] at a2'
      rw [j_P_px hd, hy σ] at b2'
      split
      · next hc =>
        simp only [Bool.and_eq_true] at hc
        obtain ⟨⟨⟨⟨⟨⟨⟨c0, c6⟩, c7⟩, c8⟩, c9⟩, c10⟩, c11⟩, c24⟩ := hc
        have e0 := r_bt_ok q jw (y_in_k 0) (y_in_k _) c0
        rw [y_ev_k, y_ev_k] at e0
        have good := j_ps_of (j_px_all b2' e0.1 (by omega)) (r_18c_ok q hH ju jw c6) (r_18c_ok q hH ju jw c7) (r_18c_ok q hH ju jw c8) (r_18c_ok q hH ju jw c9) (r_18c_ok q hH ju jw c10) (r_18c_ok q hH ju jw c11) (r_18c_ok q hH ju jw c24)
        refine j_one1 q (y_in_k (-1)) ?_
        rw [j_P_px hb]
        intro r r0 r1 _
        by_cases e : r = y_ev σ u
        · rw [e]; exact good
        · exact a2' r r0 r1 e
      · exact j_no q
    · exact j_no q
  · exact j_no q
theorem j_b_0 {a : Int} : 0 ≤ j_b a ∧ j_b a ≤ 1 ∧ (a ≤ 0 → j_b a = 0) ∧ (0 < a → j_b a = 1) := by
  unfold j_b
  split <;> omega
theorem j_ct_0 {l : Nat} {b : Int} : 0 ≤ j_ct g l b := by
  unfold j_ct
  have h1 := j_b_0 (a := g l b)
  have h2 := j_b_0 (a := g l (b + 1))
  have h3 := j_b_0 (a := g l (b + 2))
  have h4 := j_b_0 (a := g l (b + 3))
  have h5 := j_b_0 (a := g l (b + 4))
  have h6 := j_b_0 (a := g l (b + 5))
  omega
theorem j_19 {a : Nat} : j_ok W X (fun S => r_19 S a) := by
  intro S σ ρ ls st h q hH
  dsimp only
  unfold r_19
  split
  · next u hu =>
    obtain ⟨a1, a2, -⟩ := j_tag q hu
    have ju := a1 u (by simp)
    have hb : a % 4 < 4 := Nat.mod_lt _ (by omega)
    have a2' : j_P X (10 + a % 4) [y_ev σ u] (j_g h) := a2
    rw [j_P_px hb] at a2'
    split
    · next v hv =>
      obtain ⟨v1, v2, -⟩ := j_fi q hH j_pl_U (y_in_inc (y_in_scl ju)) hv
      rw [y_ev_inc, y_ev_scl] at v2
      split
      · next hc =>
        have e0 := q.has (y_E.of v1).neg hc
        refine j_one1 q (y_in_k (-1)) ?_
        rw [j_P_px hb]
        intro r r0 r1 _
        by_cases e : r = y_ev σ u
        · rw [e]
          unfold j_ps
          have := j_ct_0 (g := j_g h) (l := j_pl (a % 4)) (b := 33 * y_ev σ u + 6)
          omega
        · exact a2' r r0 r1 e
      · exact j_no q
    · exact j_no q
  · exact j_no q
theorem j_20 : j_ok W X r_20 := by
  intro S σ ρ ls st h q hH
  unfold r_20
  split
  · next z v hz hv =>
    obtain ⟨a1, a2, a3⟩ := j_tag q hz
    obtain ⟨y, rfl, hy⟩ := r_px_ok a3
    have a2' : j_px (j_g h) 78 1 (y_ev σ y) := a2
    rw [hy σ] at a2'
    obtain ⟨v1, v2, -⟩ := j_fi q hH (by decide) (y_in_k 24) hv
    rw [y_ev_k] at v2
    refine j_one1 q v1 ?_
    show y_ev σ v ≤ j_ct (j_g h) 78 6
    rw [v2]
    exact j_px_all a2' (r := 0) (by omega) (by omega)
  · exact j_no q
theorem j_cn_ct {y : Int} (h0 : 0 ≤ y) (h5 : y ≤ 5) : j_ct g 78 6 = j_cn g y + j_b (g 78 (6 + y)) ∧ j_cn g y ≤ 5 := by
  have b0 := j_b_0 (a := g 78 6)
  have b1 := j_b_0 (a := g 78 7)
  have b2 := j_b_0 (a := g 78 8)
  have b3 := j_b_0 (a := g 78 9)
  have b4 := j_b_0 (a := g 78 10)
  have b5 := j_b_0 (a := g 78 11)
  have e : j_ct g 78 6 = j_b (g 78 6) + j_b (g 78 7) + j_b (g 78 8) + j_b (g 78 9) + j_b (g 78 10) + j_b (g 78 11) := rfl
  have : y = 0 ∨ y = 1 ∨ y = 2 ∨ y = 3 ∨ y = 4 ∨ y = 5 := by omega
  rw [e]
  rcases this with rfl | rfl | rfl | rfl | rfl | rfl
  · have f : j_cn g 0 = 0 + j_b (g 78 7) + j_b (g 78 8) + j_b (g 78 9) + j_b (g 78 10) + j_b (g 78 11) := rfl
    rw [f, show (6 : Int) + 0 = 6 by rfl]
    omega
  · have f : j_cn g 1 = j_b (g 78 6) + 0 + j_b (g 78 8) + j_b (g 78 9) + j_b (g 78 10) + j_b (g 78 11) := rfl
    rw [f, show (6 : Int) + 1 = 7 by rfl]
    omega
  · have f : j_cn g 2 = j_b (g 78 6) + j_b (g 78 7) + 0 + j_b (g 78 9) + j_b (g 78 10) + j_b (g 78 11) := rfl
    rw [f, show (6 : Int) + 2 = 8 by rfl]
    omega
  · have f : j_cn g 3 = j_b (g 78 6) + j_b (g 78 7) + j_b (g 78 8) + 0 + j_b (g 78 10) + j_b (g 78 11) := rfl
    rw [f, show (6 : Int) + 3 = 9 by rfl]
    omega
  · have f : j_cn g 4 = j_b (g 78 6) + j_b (g 78 7) + j_b (g 78 8) + j_b (g 78 9) + 0 + j_b (g 78 11) := rfl
    rw [f, show (6 : Int) + 4 = 10 by rfl]
    omega
  · have f : j_cn g 5 = j_b (g 78 6) + j_b (g 78 7) + j_b (g 78 8) + j_b (g 78 9) + j_b (g 78 10) + 0 := rfl
    rw [f, show (6 : Int) + 5 = 11 by rfl]
    omega
theorem j_cn_le {y : Int} : j_cn g y ≤ j_ct g 78 6 := by
  have one : ∀ x a : Int, j_bn y x a ≤ j_b a := by
    intro x a
    unfold j_bn
    have := j_b_0 (a := a)
    split <;> omega
  have e : j_ct g 78 6 = j_b (g 78 6) + j_b (g 78 7) + j_b (g 78 8) + j_b (g 78 9) + j_b (g 78 10) + j_b (g 78 11) := rfl
  rw [e]
  unfold j_cn
  have h0 := one 0 (g 78 6)
  have h1 := one 1 (g 78 7)
  have h2 := one 2 (g 78 8)
  have h3 := one 3 (g 78 9)
  have h4 := one 4 (g 78 10)
  have h5 := one 5 (g 78 11)
  omega
theorem j_two (q : y_S (mGw W) (mJS X) S σ ρ ls st h) {k : Nat} {e f : zL} (he : y_in S.1.length e) (hf : y_in S.1.length f) (hJ : j_P X k [y_ev σ e, y_ev σ f] (j_g h)) : y_S (mGw W) (mJS X) (r_addt S k [e, f]) σ ρ ls st h :=
  j_addt q (by
    intro e' he'
    simp only [List.mem_cons, List.not_mem_nil, or_false] at he'
    rcases he' with rfl | rfl
    · exact he
    · exact hf) hJ
theorem j_21 {a : Nat} : j_ok W X (fun S => r_21 S a) := by
  intro S σ ρ ls st h q hH
  dsimp only
  unfold r_21
  split
  · next m y hm hy =>
    obtain ⟨a1, a2, -⟩ := j_tag q hm
    have jm := a1 m (by simp)
    have jy := j_lo q hy
    have hb : y_ev σ m ≤ j_ct (j_g h) 78 6 := a2
    split
    · next v hv =>
      obtain ⟨v1, v2, -⟩ := j_fi q hH (by decide) (y_in_inc jy) hv
      rw [y_ev_inc] at v2
      split
      · next hc =>
        rw [Bool.and_eq_true] at hc
        have e1 := r_bt_ok q jy (y_in_k 0) (y_in_k 5) hc.1
        rw [y_ev_k, y_ev_k] at e1
        have e2 := q.has (y_E.of v1).neg hc.2
        obtain ⟨c1, c2⟩ := j_cn_ct (g := j_g h) e1.1 e1.2
        have c3 := (j_b_0 (a := j_g h 78 (6 + y_ev σ y))).2.2.1 (by rw [show 6 + y_ev σ y = y_ev σ y + 6 by omega]; omega)
        obtain ⟨S1, k1, k2, k3, -⟩ := j_asl q (es := [x_inc 5 (x_scl (-1) m)]) (fun e he => by
          simp only [List.mem_cons, List.not_mem_nil, or_false] at he
          subst he
          exact ⟨y_in_inc (y_in_scl jm), by rw [y_ev_inc, y_ev_scl]; omega⟩)
        exact ⟨_, j_opt k1, .of (j_two k2 (k := 6) (y_in_le jm k3.2.2.1) (y_in_le jy k3.2.2.1) (show y_ev σ m ≤ j_cn (j_g h) (y_ev σ y) by omega)) k3⟩
      · exact j_no q
    · exact j_no q
  · exact j_no q
theorem j_22 {a : Nat} : j_ok W X (fun S => r_22 S a) := by
  intro S σ ρ ls st h q hH
  dsimp only
  unfold r_22
  split
  · next m y hm hy =>
    obtain ⟨a1, a2, -⟩ := j_tag q hm
    have jm := a1 m (by simp)
    have jy := j_lo q hy
    have hb : y_ev σ m ≤ j_ct (j_g h) 78 6 := a2
    split
    · next hc =>
      have e1 := r_bt_ok q jy (y_in_k 0) (y_in_k 5) hc
      rw [y_ev_k, y_ev_k] at e1
      obtain ⟨c1, c2⟩ := j_cn_ct (g := j_g h) e1.1 e1.2
      have c3 := j_b_0 (a := j_g h 78 (6 + y_ev σ y))
      exact j_one (j_two q (k := 6) (y_in_inc jm) jy (show y_ev σ (x_inc (-1) m) ≤ j_cn (j_g h) (y_ev σ y) by rw [y_ev_inc]; omega)) rfl rfl
    · exact j_no q
  · exact j_no q
theorem j_23 : j_ok W X r_23 := by
  intro S σ ρ ls st h q hH
  unfold r_23
  split
  · next m y hm =>
    obtain ⟨a1, a2, -⟩ := j_tag q hm
    have jm := a1 m (by simp)
    have jy := a1 y (by simp)
    have hb : y_ev σ m ≤ j_cn (j_g h) (y_ev σ y) := a2
    split
    · next v hv =>
      obtain ⟨v1, v2, -⟩ := j_fi q hH (by decide) (y_in_inc jy) hv
      rw [y_ev_inc] at v2
      split
      · next hc =>
        rw [Bool.and_eq_true] at hc
        have e1 := r_bt_ok q jy (y_in_k 0) (y_in_k 5) hc.1
        rw [y_ev_k, y_ev_k] at e1
        have e2 := q.has ((y_E.of v1).inc (-1)) hc.2
        obtain ⟨c1, c2⟩ := j_cn_ct (g := j_g h) e1.1 e1.2
        have c3 := (j_b_0 (a := j_g h 78 (6 + y_ev σ y))).2.2.2 (by rw [show 6 + y_ev σ y = y_ev σ y + 6 by omega]; omega)
        exact j_one1 q (y_in_inc jm) (show y_ev σ (x_inc 1 m) ≤ j_ct (j_g h) 78 6 by rw [y_ev_inc]; omega)
      · exact j_no q
    · exact j_no q
  · exact j_no q
theorem j_24 : j_ok W X r_24 := by
  intro S σ ρ ls st h q hH
  unfold r_24
  split
  · next m y hm =>
    obtain ⟨a1, a2, -⟩ := j_tag q hm
    have jm := a1 m (by simp)
    have hb : y_ev σ m ≤ j_cn (j_g h) (y_ev σ y) := a2
    have := j_cn_le (g := j_g h) (y := y_ev σ y)
    exact j_one1 q jm (show y_ev σ m ≤ j_ct (j_g h) 78 6 by omega)
  · exact j_no q
theorem j_25 : j_ok W X r_25 := by
  intro S σ ρ ls st h q hH
  unfold r_25
  split
  · next m v hm hv =>
    obtain ⟨a1, a2, -⟩ := j_tag q hm
    have jm := a1 m (by simp)
    have hb : y_ev σ m ≤ j_ct (j_g h) 78 6 := a2
    obtain ⟨v1, v2, -⟩ := j_fi q hH (by decide) (y_in_k 24) hv
    rw [y_ev_k] at v2
    split
    · next hc =>
      have e1 := y_sub0 q jm v1 hc
      refine j_one1 q (y_in_k (-1)) ?_
      show j_px (j_g h) 78 1 (y_ev σ (x_k (-1)))
      intro r r0 r1 _
      have : r = 0 := by omega
      subst this
      show j_g h 78 24 ≤ j_ct (j_g h) 78 6
      omega
    · exact j_no q
  · exact j_no q
theorem j_26 : j_ok W X r_26 := by
  intro S σ ρ ls st h q hH
  unfold r_26
  split
  · next z hz =>
    obtain ⟨a1, a2, a3⟩ := j_tag q hz
    obtain ⟨y, rfl, hy⟩ := r_px_ok a3
    have a2' : j_px (j_g h) 81 40 (y_ev σ y) := a2
    rw [hy σ] at a2'
    refine j_one1 q (y_in_k 0) ?_
    show j_sh (j_g h) (y_ev σ (x_k 0))
    rw [y_ev_k]
    exact ⟨by omega, fun r r0 r1 _ => j_px_all a2' r0 r1, fun x x0 x1 => by omega⟩
  · exact j_no q
theorem j_27 : j_ok W X r_27 := by
  intro S σ ρ ls st h q hH
  unfold r_27
  split
  · next p hp =>
    obtain ⟨a1, a2, -⟩ := j_tag q hp
    have jp := a1 p (by simp)
    have hb : j_sh (j_g h) (y_ev σ p) := a2
    split
    · next v z hv hz =>
      obtain ⟨v1, v2, -⟩ := j_fi q hH (by decide) jp hv
      obtain ⟨z1, z2, -⟩ := j_fi q hH (by decide) (y_in_inc jp) hz
      rw [y_ev_inc] at z2
      split
      · next hc =>
        rw [Bool.and_eq_true] at hc
        have e1 := y_sm q v1 z1 hc.1
        have e2 := r_bt_ok q jp (y_in_k 0) (y_in_k 1286) hc.2
        rw [y_ev_k, y_ev_k] at e2
        refine j_one1 q (y_in_inc jp) ?_
        show j_sh (j_g h) (y_ev σ (x_inc 1 p))
        rw [y_ev_inc]
        generalize y_ev σ p = k at *
        obtain ⟨b1, b2, b3⟩ := hb
        have hk : j_g h 81 k = j_g h 81 (k + 33) := by omega
        by_cases hm : k % 33 = 32
        · have d1 : (k + 1) / 33 = k / 33 + 1 := by omega
          have d2 : (k + 1) % 33 = 0 := by omega
          refine ⟨by omega, fun r r0 r1 hr => ?_, fun x x0 x1 => by omega⟩
          by_cases e : r = k / 33
          · subst e
            have hn := b2 (k / 33 + 1) (by omega) (by omega) (by omega)
            have sl : ∀ x : Int, 0 ≤ x → x < 33 → j_g h 81 (33 * (k / 33) + x) = j_g h 81 (33 * (k / 33 + 1) + x) := by
              intro x x0 x1
              by_cases ex : x = 32
              · subst ex
                rw [show 33 * (k / 33) + 32 = k by omega, show 33 * (k / 33 + 1) + 32 = k + 33 by omega]
                exact hk
              · rw [b3 x x0 (by omega)]
                congr 1
                omega
            exact j_ps_of hn (sl 6 (by omega) (by omega)) (sl 7 (by omega) (by omega)) (sl 8 (by omega) (by omega)) (sl 9 (by omega) (by omega)) (sl 10 (by omega) (by omega)) (sl 11 (by omega) (by omega)) (sl 24 (by omega) (by omega))
          · exact b2 r r0 r1 e
        · have d1 : (k + 1) / 33 = k / 33 := by omega
          have d2 : (k + 1) % 33 = k % 33 + 1 := by omega
          refine ⟨by omega, fun r r0 r1 hr => b2 r r0 r1 (by omega), fun x x0 x1 => ?_⟩
          rw [d1]
          by_cases ex : x = k % 33
          · subst ex
            rw [show 33 * (k / 33) + k % 33 = k by omega, show 33 * (k / 33) + 33 + k % 33 = k + 33 by omega]
            exact hk
          · exact b3 x x0 (by omega)
      · exact j_no q
    · exact j_no q
  · exact j_no q
theorem j_28 : j_ok W X r_28 := by
  intro S σ ρ ls st h q hH
  unfold r_28
  split
  · next p hp =>
    obtain ⟨a1, a2, -⟩ := j_tag q hp
    have jp := a1 p (by simp)
    have hb : j_sh (j_g h) (y_ev σ p) := a2
    split
    · next hc =>
      have e1 := r_is_ok q jp hc
      rw [e1] at hb
      refine j_one1 q (y_in_k 39) ?_
      show j_px (j_g h) 81 40 (y_ev σ (x_k 39))
      rw [y_ev_k]
      exact fun r r0 r1 hr => hb.2.1 r r0 r1 (by omega)
    · exact j_no q
  · exact j_no q
end ZJ7
