noncomputable section
/-! ===== the rules are right: orders; all rules ===== -/
section ZJ8
variable {W : Bool} {σ : Nat → Int} {ρ : Nat → Option Nat} {S S1 : zS} {h : mH} {ls : mL} {st : List mV} {X : List Int32} {g : Nat → Int → Int}
theorem j_three (q : y_S (mGw W) (mJS X) S σ ρ ls st h) {k : Nat} {a b c : zL} (ha : y_in S.1.length a) (hb : y_in S.1.length b) (hc : y_in S.1.length c) (hJ : j_P X k [y_ev σ a, y_ev σ b, y_ev σ c] (j_g h)) : y_S (mGw W) (mJS X) (r_addt S k [a, b, c]) σ ρ ls st h :=
  j_addt q (by
    intro e' he'
    simp only [List.mem_cons, List.not_mem_nil, or_false] at he'
    rcases he' with rfl | rfl | rfl
    · exact ha
    · exact hb
    · exact hc) hJ
theorem j_29 : j_ok W X (fun S => [r_addt S 8 [x_k 0, x_k 0, x_k 0]]) := by
  intro S σ ρ ls st h q hH
  refine j_one (j_three q (y_in_k 0) (y_in_k 0) (y_in_k 0) ?_) rfl rfl
  show j_or (j_g h) (y_ev σ (x_k 0)) (y_ev σ (x_k 0)) (y_ev σ (x_k 0))
  rw [y_ev_k]
  exact ⟨by omega, by omega, by omega, by show (0 : Int) < 0 + (0 + 1) * 7 ^ (6 - 0); decide, fun i hi => by omega, fun i j hij hj => by omega⟩
theorem j_rk_s (n : Nat) : j_rk g (n + 1) = j_rk g n + (g 87 n + 1) * 7 ^ (6 - n) := rfl
theorem j_30 : j_ok W X r_30 := by
  intro S σ ρ ls st h q hH
  unfold r_30
  split
  · next m x v hm =>
    obtain ⟨a1, a2, -⟩ := j_tag q hm
    have jm := a1 m (by simp)
    have jx := a1 x (by simp)
    have jv := a1 v (by simp)
    have hb : j_or (j_g h) (y_ev σ m) (y_ev σ x) (y_ev σ v) := a2
    split
    · next y hy =>
      obtain ⟨y1, y2, y3⟩ := j_fi q hH (by decide) (y_in_inc jm) hy
      rw [y_ev_inc] at y2
      split
      · next hc =>
        have e1 := q.has ((y_E.of jm).inc (-1)) hc
        refine j_one (j_three q (y_in_inc jm) (y_in_inc y1) jv ?_) rfl rfl
        show j_or (j_g h) (y_ev σ (x_inc (-1) m)) (y_ev σ (x_inc 1 y)) (y_ev σ v)
        rw [y_ev_inc, y_ev_inc, y2]
        generalize y_ev σ m = M at *
        generalize y_ev σ x = xx at *
        generalize y_ev σ v = vv at *
        obtain ⟨b1, b2, b3, b4, b5, b6⟩ := hb
        have r5 := b5 (M + -1).toNat (by omega)
        rw [show (((M + -1).toNat : Nat) : Int) = M + -1 by omega] at r5
        refine ⟨by omega, by omega, by omega, ?_, fun i hi => b5 i (by omega), fun i j hij hj => b6 i j hij (by omega)⟩
        rw [show M.toNat = (M + -1).toNat + 1 by omega, j_rk_s, show (((M + -1).toNat : Nat) : Int) = M + -1 by omega] at b4
        have hk : (M + -1).toNat ≤ 5 := by omega
        generalize (M + -1).toNat = k at *
        have hp : (7 : Int) ^ (6 - k) = 7 * 7 ^ (6 - (k + 1)) := by
          rw [show 6 - k = (6 - (k + 1)) + 1 by omega, Int.pow_succ]
          omega
        have hp0 : (0 : Int) < 7 ^ (6 - (k + 1)) := Int.pow_pos (by omega)
        have h7 : (xx + 1) * 7 ^ (6 - (k + 1)) ≤ 7 * (7 : Int) ^ (6 - (k + 1)) := Int.mul_le_mul_of_nonneg_right (by omega) (by omega)
        rw [hp] at b4 ⊢
        generalize (7 : Int) ^ (6 - (k + 1)) = P at *
        generalize j_g h 87 (M + -1) = y0 at *
        have e3 : (y0 + 1 + 1) * (7 * P) = (y0 + 1) * (7 * P) + 7 * P := by rw [Int.add_mul (y0 + 1) 1, Int.one_mul]
        rw [e3]
        omega
      · exact j_no q
    · exact j_no q
  · exact j_no q
/-- how often a number stands at the first n places -/
def j_c1 (g : Nat → Int → Int) (y : Int) : Nat → Int
  | 0 => 0
  | n + 1 => j_c1 g y n + if g 87 n = y then 1 else 0
theorem j_c1_0 {y : Int} : ∀ {n : Nat}, (∀ i : Nat, i < n → g 87 i ≠ y) → j_c1 g y n = 0
  | 0, _ => rfl
  | n + 1, h => by
    unfold j_c1
    rw [j_c1_0 (n := n) (fun i hi => h i (by omega)), if_neg (h n (by omega))]
    rfl
theorem j_c1_1 {y : Int} : ∀ {n : Nat}, (∀ i j : Nat, i < j → j < n → g 87 i ≠ g 87 j) → j_c1 g y n ≤ 1
  | 0, _ => by unfold j_c1; omega
  | n + 1, h => by
    have ih := j_c1_1 (y := y) (n := n) (fun i j hij hj => h i j hij (by omega))
    unfold j_c1
    by_cases e : g 87 n = y
    · rw [if_pos e, j_c1_0 (fun i hi => by rw [← e]; exact h i n hi (by omega))]
      omega
    · rw [if_neg e]
      omega
theorem j_c1_s : ∀ {n : Nat}, (∀ i : Nat, i < n → 0 ≤ g 87 i ∧ g 87 i ≤ 5) → (n : Int) = j_c1 g 0 n + j_c1 g 1 n + j_c1 g 2 n + j_c1 g 3 n + j_c1 g 4 n + j_c1 g 5 n
  | 0, _ => rfl
  | n + 1, h => by
    have ih := j_c1_s (n := n) (fun i hi => h i (by omega))
    have h2 := h n (by omega)
    unfold j_c1
    have : g 87 n = 0 ∨ g 87 n = 1 ∨ g 87 n = 2 ∨ g 87 n = 3 ∨ g 87 n = 4 ∨ g 87 n = 5 := by omega
    rcases this with e | e | e | e | e | e <;> rw [e] <;> simp <;> omega
theorem j_or_5 {m x v y i : Int} (q : j_or g m x v) (n : j_ni g y i) (e : i = m) (h0 : 0 ≤ y) (h5 : y ≤ 5) : m ≤ 5 := by
  obtain ⟨b1, b2, b3, b4, b5, b6⟩ := q
  subst e
  have s := j_c1_s (g := g) (n := i.toNat) (fun k hk => b5 k (by omega))
  have d : ∀ z : Int, j_c1 g z i.toNat ≤ 1 := fun z => j_c1_1 (fun a b hab hb => b6 a b hab (by omega))
  have z : j_c1 g y i.toNat = 0 := j_c1_0 (fun k hk => n.2 k (by omega))
  have d0 := d 0
  have d1 := d 1
  have d2 := d 2
  have d3 := d 3
  have d4 := d 4
  have d5 := d 5
  have : y = 0 ∨ y = 1 ∨ y = 2 ∨ y = 3 ∨ y = 4 ∨ y = 5 := by omega
  rcases this with rfl | rfl | rfl | rfl | rfl | rfl <;> omega
theorem j_rk_b : ∀ {n : Nat}, n ≤ 6 → (∀ i : Nat, i < n → 0 ≤ g 87 i ∧ g 87 i ≤ 5) → 0 ≤ j_rk g n ∧ j_rk g n ≤ n * 823543
  | 0, _, _ => by unfold j_rk; omega
  | n + 1, hn, h => by
    have ih := j_rk_b (n := n) (by omega) (fun i hi => h i (by omega))
    have h2 := h n (by omega)
    rw [j_rk_s]
    have hp : (0 : Int) < 7 ^ (6 - n) := Int.pow_pos (by omega)
    have hq : (7 : Int) ^ (6 - n) ≤ 117649 := by
      have : n = 0 ∨ n = 1 ∨ n = 2 ∨ n = 3 ∨ n = 4 ∨ n = 5 := by omega
      rcases this with rfl | rfl | rfl | rfl | rfl | rfl <;> decide
    have m1 : 0 ≤ (g 87 n + 1) * 7 ^ (6 - n) := Int.mul_nonneg (by omega) (by omega)
    have m2 : (g 87 n + 1) * 7 ^ (6 - n) ≤ 6 * 7 ^ (6 - n) := Int.mul_le_mul_of_nonneg_right (by omega) (by omega)
    omega
theorem j_rk_c7 : ∀ {n : Nat}, n ≤ 6 → (∀ i : Nat, i < n → 0 ≤ g 87 i ∧ g 87 i ≤ 5) → j_rk g n ≤ 823543 - 7 ^ (7 - n)
  | 0, _, _ => by unfold j_rk; decide
  | n + 1, hn, h => by
    have ih := j_rk_c7 (n := n) (by omega) (fun i hi => h i (by omega))
    have h2 := h n (by omega)
    rw [j_rk_s]
    have e1 : (7 : Int) ^ (7 - n) = 7 * 7 ^ (6 - n) := by
      rw [show 7 - n = (6 - n) + 1 by omega, Int.pow_succ]
      omega
    have e2 : 7 - (n + 1) = 6 - n := by omega
    rw [e2]
    rw [e1] at ih
    have hp : (0 : Int) < 7 ^ (6 - n) := Int.pow_pos (by omega)
    have m2 : (g 87 n + 1) * 7 ^ (6 - n) ≤ 6 * 7 ^ (6 - n) := Int.mul_le_mul_of_nonneg_right (by omega) (by omega)
    generalize (7 : Int) ^ (6 - n) = P at *
    omega
theorem r_ni_ok (q : y_S (mGw W) (mJS X) S σ ρ ls st h) {m : zL} {z : List zL} (jm : y_in S.1.length m) (hz : ∀ e ∈ z, y_in S.1.length e) (hx : r_ni S m z = true) : ∃ y i, z = [y, i] ∧ y_ev σ i = y_ev σ m ∧ 0 ≤ y_ev σ y ∧ y_ev σ y ≤ 5 := by
  unfold r_ni at hx
  split at hx
  · next y i =>
    rw [Bool.and_eq_true] at hx
    have e1 := y_sm q (hz i (by simp)) jm hx.1
    have e2 := r_bt_ok q (hz y (by simp)) (y_in_k 0) (y_in_k 5) hx.2
    rw [y_ev_k, y_ev_k] at e2
    exact ⟨y, i, rfl, e1, e2⟩
  · cases hx
theorem j_31 : j_ok W X r_31 := by
  intro S σ ρ ls st h q hH
  unfold r_31
  split
  · next m x v hm =>
    obtain ⟨a1, a2, -⟩ := j_tag q hm
    have jm := a1 m (by simp)
    have jx := a1 x (by simp)
    have jv := a1 v (by simp)
    have hb : j_or (j_g h) (y_ev σ m) (y_ev σ x) (y_ev σ v) := a2
    split
    · next gg i y hg hy =>
      obtain ⟨c1, c2, c3⟩ := j_tag q hg
      obtain ⟨gg', i', ez, e1, e2, e3⟩ := r_ni_ok q jm c1 c3
      cases ez
      have jg := c1 gg (by simp)
      have hn : j_ni (j_g h) (y_ev σ gg) (y_ev σ i) := c2
      obtain ⟨y1, y2, y3⟩ := j_fi q hH (by decide) jm hy
      split
      · next hc =>
        rw [Bool.and_eq_true] at hc
        have e4 := y_sm q y1 jg hc.1
        have e5 := y_sub0 q y1 jx hc.2
        have m5 := j_or_5 hb hn e1 e2 e3
        obtain ⟨b1, b2, b3, b4, b5, b6⟩ := hb
        have et : (y_ev σ m + 1).toNat = (y_ev σ m).toNat + 1 := by omega
        have ec : (((y_ev σ m).toNat : Nat) : Int) = y_ev σ m := by omega
        have hrg : ∀ k : Nat, k < (y_ev σ m + 1).toNat → 0 ≤ j_g h 87 k ∧ j_g h 87 k ≤ 5 := by
          intro k hk
          by_cases e : k = (y_ev σ m).toNat
          · rw [e, ec]
            omega
          · exact b5 k (by omega)
        have hrk := j_rk_c7 (g := j_g h) (n := (y_ev σ m + 1).toNat) (by omega) hrg
        have hrk0 := (j_rk_b (g := j_g h) (n := (y_ev σ m + 1).toNat) (by omega) hrg).1
        have hP : (0 : Int) < 7 ^ (7 - (y_ev σ m + 1).toNat) := Int.pow_pos (by omega)
        obtain ⟨σ', g1, g2, g3, g4⟩ := y_new q (p := (0, 1000000)) (z := j_rk (j_g h) (y_ev σ m + 1).toNat) ⟨hrk0, by dsimp only; omega⟩
        have em := y_ev_ext jm g2.1
        have ev := y_ev_ext jv g2.1
        have hlt : y_ev σ v + 1 ≤ j_rk (j_g h) (y_ev σ m + 1).toNat := by
          rw [et, j_rk_s, ec, ← y2]
          have hp0 : (0 : Int) < 7 ^ (6 - (y_ev σ m).toNat) := Int.pow_pos (by omega)
          have : (y_ev σ x + 1) * 7 ^ (6 - (y_ev σ m).toNat) ≤ (y_ev σ y + 1) * (7 : Int) ^ (6 - (y_ev σ m).toNat) := Int.mul_le_mul_of_nonneg_right (by omega) (by omega)
          omega
        obtain ⟨S1, k1, k2, k3, -⟩ := j_asl g1 (es := [x_scl 1000 (x_inc (-1) (x_sub (x_new S (0, 1000000)).1 v))]) (fun e he => by
          simp only [List.mem_cons, List.not_mem_nil, or_false] at he
          subst he
          refine ⟨y_in_scl (y_in_inc (y_in_sub g3.1 (y_in_le jv g2.2.2.1))), ?_⟩
          rw [y_ev_scl, y_ev_inc, y_ev_sub, g3.2, ev]
          omega)
        have l2 := Nat.le_trans g2.2.2.1 k3.2.2.1
        have f := j_three k2 (k := 8) (a := x_inc 1 m) (b := x_k 0) (c := (x_new S (0, 1000000)).1) (y_in_inc (y_in_le jm l2)) (y_in_k 0) (y_in_le g3.1 k3.2.2.1) (by
          show j_or (j_g h) (y_ev σ' (x_inc 1 m)) (y_ev σ' (x_k 0)) (y_ev σ' (x_new S (0, 1000000)).1)
          rw [y_ev_inc, y_ev_k, g3.2, em]
          refine ⟨by omega, by omega, by omega, ?_, fun k hk => hrg k (by omega), fun i j hij hj => ?_⟩
          · have hp0 : (0 : Int) < 7 ^ (6 - (y_ev σ m + 1).toNat) := Int.pow_pos (by omega)
            omega
          · by_cases e : j = (y_ev σ m).toNat
            · rw [e, ec, ← y2, e4]
              exact hn.2 i (by omega)
            · exact b6 i j hij (by omega))
        exact ⟨_, j_opt k1, σ', ρ, f, g2.trans k3⟩
      · exact j_no q
    · exact j_no q
  · exact j_no q
theorem j_32 : j_ok W X r_32 := by
  intro S σ ρ ls st h q hH
  unfold r_32
  split
  · next m x v hm =>
    obtain ⟨a1, a2, -⟩ := j_tag q hm
    have jm := a1 m (by simp)
    have hb : j_or (j_g h) (y_ev σ m) (y_ev σ x) (y_ev σ v) := a2
    split
    · next gg i hg =>
      obtain ⟨c1, c2, c3⟩ := j_tag q hg
      obtain ⟨gg', i', ez, e1, e2, e3⟩ := r_ni_ok q jm c1 c3
      cases ez
      have m5 := j_or_5 hb (show j_ni (j_g h) (y_ev σ gg) (y_ev σ i) from c2) e1 e2 e3
      obtain ⟨S1, k1, k2, k3, -⟩ := j_asl q (es := [x_inc 5 (x_scl (-1) m)]) (fun e he => by
        simp only [List.mem_cons, List.not_mem_nil, or_false] at he
        subst he
        exact ⟨y_in_inc (y_in_scl jm), by rw [y_ev_inc, y_ev_scl]; omega⟩)
      exact ⟨S1, j_opt (f := id) k1, .of k2 k3⟩
    · exact j_no q
  · exact j_no q
theorem j_33 {a : Nat} : j_ok W X (fun S => r_33 S a) := by
  intro S σ ρ ls st h q hH
  dsimp only
  unfold r_33
  split
  · next y hy =>
    refine j_one (j_two q (j_lo q hy) (y_in_k 0) ?_) rfl rfl
    show j_ni (j_g h) (y_ev σ y) (y_ev σ (x_k 0))
    rw [y_ev_k]
    exact ⟨by omega, fun j hj => by omega⟩
  · exact j_no q
theorem j_34 : j_ok W X r_34 := by
  intro S σ ρ ls st h q hH
  unfold r_34
  split
  · next y i hx =>
    obtain ⟨a1, a2, a3⟩ := j_tag q hx
    have jy := a1 y (by simp)
    have ji := a1 i (by simp)
    have hb : j_ni (j_g h) (y_ev σ y) (y_ev σ i) := a2
    dsimp only at a3
    split at a3
    · next x hfx =>
      obtain ⟨x1, x2, x3⟩ := j_fi q hH (by decide) ji hfx
      have hne : y_ev σ x ≠ y_ev σ y := by
        rw [Bool.or_eq_true] at a3
        rcases a3 with a3 | a3
        · have := q.has (((y_E.of x1).sub (y_E.of jy)).inc (-1)) a3
          omega
        · have := q.has (((y_E.of jy).sub (y_E.of x1)).inc (-1)) a3
          omega
      refine j_one (j_two q jy (y_in_inc ji) ?_) rfl rfl
      show j_ni (j_g h) (y_ev σ y) (y_ev σ (x_inc 1 i))
      rw [y_ev_inc]
      refine ⟨by omega, fun j hj => ?_⟩
      by_cases e : (j : Int) = y_ev σ i
      · rw [e, ← x2]
        exact hne
      · exact hb.2 j (by omega)
    · cases a3
  · exact j_no q
theorem j_37 {k : Nat} : j_ok W X (fun S => r_37 S k) := by
  intro S σ ρ ls st h q hH
  dsimp only
  unfold r_37
  split
  · split
    · exact ⟨_, List.mem_cons_self, .of ⟨q.1, q.2.1, fun e he => q.2.2.1 e (List.mem_filter.mp he).1, q.2.2.2⟩ (.of rfl rfl)⟩
    · exact j_no q
  · exact j_no q
theorem mRU_ok : y_RU (mGw W) mLT (mJS X) mRU := by
  intro n S l σ ρ ls st h hx q hH
  unfold mRU at hx
  cases hx
  split
  · split
    · next e he => exact j_split q (j_lo q he)
    · exact j_no q
  · split
    · next e he =>
      have : ∀ (T : List zV) (xs : List mV) (k : Nat) (a : Nat) (e : zL), y_Vs S.1.length S.2.1.length σ ρ T xs → T[k]? = some (0, a, e) → y_in S.1.length e := by
        intro T
        induction T with
        | nil => intro xs k a e _ h; simp at h
        | cons v T ih =>
          intro xs k a e hv hk
          obtain ⟨x, r, rfl, h1, h2⟩ := hv.cons
          cases k with
          | zero =>
            simp only [List.getElem?_cons_zero, Option.some.injEq] at hk
            subst hk
            obtain ⟨i, -, hi⟩ := h1
            exact hi.1
          | succ k => exact ih r k a e h2 (by simpa using hk)
      exact j_split q (this _ _ _ _ _ q.2.2.2.2.1 he)
    · exact j_no q
  · exact j_2 S σ ρ ls st h q hH
  · exact j_3 S σ ρ ls st h q hH
  · exact j_4 S σ ρ ls st h q hH
  · exact j_5 S σ ρ ls st h q hH
  · exact j_6 S σ ρ ls st h q hH
  · exact j_7 S σ ρ ls st h q hH
  · exact j_8 S σ ρ ls st h q hH
  · exact j_9 S σ ρ ls st h q hH
  · exact j_10 S σ ρ ls st h q hH
  · exact j_cx0 S σ ρ ls st h q hH
  · exact j_cx0 S σ ρ ls st h q hH
  · exact j_cx0 S σ ρ ls st h q hH
  · exact j_cx0 S σ ρ ls st h q hH
  · exact j_cx0 S σ ρ ls st h q hH
  · exact j_cx0 S σ ρ ls st h q hH
  · exact j_17 S σ ρ ls st h q hH
  · exact j_18 S σ ρ ls st h q hH
  · exact j_19 S σ ρ ls st h q hH
  · exact j_20 S σ ρ ls st h q hH
  · exact j_21 S σ ρ ls st h q hH
  · exact j_22 S σ ρ ls st h q hH
  · exact j_23 S σ ρ ls st h q hH
  · exact j_24 S σ ρ ls st h q hH
  · exact j_25 S σ ρ ls st h q hH
  · exact j_26 S σ ρ ls st h q hH
  · exact j_27 S σ ρ ls st h q hH
  · exact j_28 S σ ρ ls st h q hH
  · exact j_29 S σ ρ ls st h q hH
  · exact j_30 S σ ρ ls st h q hH
  · exact j_31 S σ ρ ls st h q hH
  · exact j_32 S σ ρ ls st h q hH
  · exact j_33 S σ ρ ls st h q hH
  · exact j_34 S σ ρ ls st h q hH
  · exact j_cx0 S σ ρ ls st h q hH
  · exact j_36 S σ ρ ls st h q hH
  · exact j_37 S σ ρ ls st h q hH
  · exact j_36 S σ ρ ls st h q hH
  · split
    · next e he => exact j_ten q (j_lo q he)
    · exact j_no q
  · exact j_no q
end ZJ8
end
