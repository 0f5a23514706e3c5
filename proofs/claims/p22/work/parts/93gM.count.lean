noncomputable section
/-! ===== sums and bits of HOUSES ===== -/
section ZM1
theorem g_or_all : ∀ z : Fin 64, ∀ w : Fin 6, (z.val / 2 ^ w.val) % 2 = 0 → g_op 102 (z.val : Int) (g_op 104 1 (w.val : Int)) = (z.val : Int) + ((2 ^ w.val : Nat) : Int) := by decide +kernel
theorem g_or0 {z : Int} (z0 : 0 ≤ z) (z1 : z < 64) (h : z % 2 = 0) : g_op 102 z (g_op 104 1 0) = z + 1 := by
  have e := g_or_all ⟨z.toNat, by omega⟩ ⟨0, by omega⟩ (by show z.toNat / 1 % 2 = 0; omega)
  have e2 : ((z.toNat : Nat) : Int) = z := by omega
  rw [← e2]
  exact e
theorem g_or1 {z : Int} (z0 : 0 ≤ z) (z1 : z < 64) (h : z / 2 % 2 = 0) : g_op 102 z (g_op 104 1 1) = z + 2 := by
  have e := g_or_all ⟨z.toNat, by omega⟩ ⟨1, by omega⟩ (by show z.toNat / 2 % 2 = 0; omega)
  have e2 : ((z.toNat : Nat) : Int) = z := by omega
  rw [← e2]
  exact e
theorem g_or2 {z : Int} (z0 : 0 ≤ z) (z1 : z < 64) (h : z / 4 % 2 = 0) : g_op 102 z (g_op 104 1 2) = z + 4 := by
  have e := g_or_all ⟨z.toNat, by omega⟩ ⟨2, by omega⟩ (by show z.toNat / 4 % 2 = 0; omega)
  have e2 : ((z.toNat : Nat) : Int) = z := by omega
  rw [← e2]
  exact e
theorem g_or3 {z : Int} (z0 : 0 ≤ z) (z1 : z < 64) (h : z / 8 % 2 = 0) : g_op 102 z (g_op 104 1 3) = z + 8 := by
  have e := g_or_all ⟨z.toNat, by omega⟩ ⟨3, by omega⟩ (by show z.toNat / 8 % 2 = 0; omega)
  have e2 : ((z.toNat : Nat) : Int) = z := by omega
  rw [← e2]
  exact e
theorem g_or4 {z : Int} (z0 : 0 ≤ z) (z1 : z < 64) (h : z / 16 % 2 = 0) : g_op 102 z (g_op 104 1 4) = z + 16 := by
  have e := g_or_all ⟨z.toNat, by omega⟩ ⟨4, by omega⟩ (by show z.toNat / 16 % 2 = 0; omega)
  have e2 : ((z.toNat : Nat) : Int) = z := by omega
  rw [← e2]
  exact e
theorem g_or5 {z : Int} (z0 : 0 ≤ z) (z1 : z < 64) (h : z / 32 % 2 = 0) : g_op 102 z (g_op 104 1 5) = z + 32 := by
  have e := g_or_all ⟨z.toNat, by omega⟩ ⟨5, by omega⟩ (by show z.toNat / 32 % 2 = 0; omega)
  have e2 : ((z.toNat : Nat) : Int) = z := by omega
  rw [← e2]
  exact e
variable {f : Int → Int}
theorem g_bt_s {n : Nat} : g_bt f (n + 1) = g_bt f n + if f n = 1 then g_2 n else 0 := rfl
theorem g_2_pos : ∀ n : Nat, 1 ≤ g_2 n
  | 0 => Int.le_refl _
  | n + 1 => by
    have h := g_2_pos n
    show 1 ≤ 2 * g_2 n
    omega
theorem g_bt_b : ∀ n : Nat, 0 ≤ g_bt f n ∧ g_bt f n < g_2 n
  | 0 => by show (0 : Int) ≤ 0 ∧ (0 : Int) < 1; omega
  | n + 1 => by
    have h := g_bt_b n
    rw [g_bt_s]
    show 0 ≤ _ ∧ _ < 2 * g_2 n
    by_cases c : f n = 1
    · rw [if_pos c]; omega
    · rw [if_neg c]; omega
theorem g_btY {i : Int} (i0 : 0 ≤ i) (i5 : i ≤ 5) (h : f i = 1) : g_bt f (i + 1).toNat = g_op 102 (g_bt f i.toNat) (g_op 104 1 i) := by
  have b := g_bt_b (f := f) i.toNat
  have c : i = 0 ∨ i = 1 ∨ i = 2 ∨ i = 3 ∨ i = 4 ∨ i = 5 := by omega
  rcases c with c | c | c | c | c | c
  · subst c
    have b2 : g_bt f 0 < 1 := b.2
    have b1 : 0 ≤ g_bt f 0 := b.1
    show g_bt f 0 + (if f ((0 : Nat) : Int) = 1 then (1 : Int) else 0) = g_op 102 (g_bt f 0) (g_op 104 1 0)
    have h9 : f ((0 : Nat) : Int) = 1 := h
    rw [if_pos h9, g_or0 b1 (by omega) (by omega)]
  · subst c
    have b2 : g_bt f 1 < 2 := b.2
    have b1 : 0 ≤ g_bt f 1 := b.1
    show g_bt f 1 + (if f ((1 : Nat) : Int) = 1 then (2 : Int) else 0) = g_op 102 (g_bt f 1) (g_op 104 1 1)
    have h9 : f ((1 : Nat) : Int) = 1 := h
    rw [if_pos h9, g_or1 b1 (by omega) (by omega)]
  · subst c
    have b2 : g_bt f 2 < 4 := b.2
    have b1 : 0 ≤ g_bt f 2 := b.1
    show g_bt f 2 + (if f ((2 : Nat) : Int) = 1 then (4 : Int) else 0) = g_op 102 (g_bt f 2) (g_op 104 1 2)
    have h9 : f ((2 : Nat) : Int) = 1 := h
    rw [if_pos h9, g_or2 b1 (by omega) (by omega)]
  · subst c
    have b2 : g_bt f 3 < 8 := b.2
    have b1 : 0 ≤ g_bt f 3 := b.1
    show g_bt f 3 + (if f ((3 : Nat) : Int) = 1 then (8 : Int) else 0) = g_op 102 (g_bt f 3) (g_op 104 1 3)
    have h9 : f ((3 : Nat) : Int) = 1 := h
    rw [if_pos h9, g_or3 b1 (by omega) (by omega)]
  · subst c
    have b2 : g_bt f 4 < 16 := b.2
    have b1 : 0 ≤ g_bt f 4 := b.1
    show g_bt f 4 + (if f ((4 : Nat) : Int) = 1 then (16 : Int) else 0) = g_op 102 (g_bt f 4) (g_op 104 1 4)
    have h9 : f ((4 : Nat) : Int) = 1 := h
    rw [if_pos h9, g_or4 b1 (by omega) (by omega)]
  · subst c
    have b2 : g_bt f 5 < 32 := b.2
    have b1 : 0 ≤ g_bt f 5 := b.1
    show g_bt f 5 + (if f ((5 : Nat) : Int) = 1 then (32 : Int) else 0) = g_op 102 (g_bt f 5) (g_op 104 1 5)
    have h9 : f ((5 : Nat) : Int) = 1 := h
    rw [if_pos h9, g_or5 b1 (by omega) (by omega)]
theorem g_btN {i : Int} (i0 : 0 ≤ i) (h : f i ≠ 1) : g_bt f (i + 1).toNat = g_bt f i.toNat := by
  rw [show (i + 1).toNat = i.toNat + 1 by omega, g_bt_s, show ((i.toNat : Nat) : Int) = i by omega, if_neg h]
  omega
theorem g_bt_ext {n : Nat} : ∀ d : Nat, (∀ h : Int, (n : Int) ≤ h → h < n + d → f h ≠ 1) → g_bt f (n + d) = g_bt f n
  | 0, _ => rfl
  | d + 1, h => by
    show g_bt f (n + d) + (if f ((n + d : Nat) : Int) = 1 then g_2 (n + d) else 0) = g_bt f n
    rw [g_bt_ext d (fun k k0 k1 => h k k0 (by omega)), if_neg (h _ (by omega) (by omega))]
    omega
end ZM1
section ZM2
variable {H : Int} {A : Int → Int}
theorem g_bip (w : g_wf H A) {k : Nat} (hk : (k : Int) < A 24) : g_is A (k + 1) = g_op 102 (g_is A k) (g_op 104 1 (A (25 + (k : Int)))) := by
  have hw := w.pl_lt (i := (k : Int)) (by omega) (by omega)
  have hn := g_n6_new w (k := k) hk
  have hs : ∀ h : Int, h ≠ A (25 + (k : Int)) → g_n6 A (k + 1) h = g_n6 A k h := fun h c => g_n6_same c
  have hb : ∀ h : Int, 0 ≤ g_n6 A k h ∧ g_n6 A k h ≤ 1 := fun h => g_n6_b
  have h1 : g_n6 A (k + 1) (A (25 + (k : Int))) = 1 := by
    unfold g_n6
    have : g_pl (fun t => A (25 + t)) (A (25 + (k : Int))) (k + 1) = k := by
      have hm : g_pl (fun t => A (25 + t)) (A (25 + (k : Int))) k = -1 := g_pl_none fun i hi he => by
        have := w.2.2.2.1 (i : Int) (k : Int) (by omega) (by omega) (by omega) (by omega) he
        omega
      show (if 0 ≤ g_pl (fun t => A (25 + t)) (A (25 + (k : Int))) k then _ else if A (25 + (k : Int)) = A (25 + (k : Int)) then (k : Int) else -1) = (k : Int)
      rw [if_neg (by rw [hm]; omega), if_pos rfl]
    rw [this, if_pos (by omega)]
  show g_n6 A (k + 1) 0 + 2 * g_n6 A (k + 1) 1 + 4 * g_n6 A (k + 1) 2 + 8 * g_n6 A (k + 1) 3 + 16 * g_n6 A (k + 1) 4 + 32 * g_n6 A (k + 1) 5 = g_op 102 (g_n6 A k 0 + 2 * g_n6 A k 1 + 4 * g_n6 A k 2 + 8 * g_n6 A k 3 + 16 * g_n6 A k 4 + 32 * g_n6 A k 5) (g_op 104 1 (A (25 + (k : Int))))
  have b0 := hb 0; have b1 := hb 1; have b2 := hb 2; have b3 := hb 3; have b4 := hb 4; have b5 := hb 5
  generalize A (25 + (k : Int)) = z at hw hn hs h1 ⊢
  have c : z = 0 ∨ z = 1 ∨ z = 2 ∨ z = 3 ∨ z = 4 ∨ z = 5 := by omega
  rcases c with c | c | c | c | c | c
  · subst c; rw [hs 1 (by omega), hs 2 (by omega), hs 3 (by omega), hs 4 (by omega), hs 5 (by omega), h1, g_or0 (by omega) (by omega) (by omega)]; omega
  · subst c; rw [hs 0 (by omega), hs 2 (by omega), hs 3 (by omega), hs 4 (by omega), hs 5 (by omega), h1, g_or1 (by omega) (by omega) (by omega)]; omega
  · subst c; rw [hs 0 (by omega), hs 1 (by omega), hs 3 (by omega), hs 4 (by omega), hs 5 (by omega), h1, g_or2 (by omega) (by omega) (by omega)]; omega
  · subst c; rw [hs 0 (by omega), hs 1 (by omega), hs 2 (by omega), hs 4 (by omega), hs 5 (by omega), h1, g_or3 (by omega) (by omega) (by omega)]; omega
  · subst c; rw [hs 0 (by omega), hs 1 (by omega), hs 2 (by omega), hs 3 (by omega), hs 5 (by omega), h1, g_or4 (by omega) (by omega) (by omega)]; omega
  · subst c; rw [hs 0 (by omega), hs 1 (by omega), hs 2 (by omega), hs 3 (by omega), hs 4 (by omega), h1, g_or5 (by omega) (by omega) (by omega)]; omega
theorem g_i6_e (w : g_wf H A) {h : Int} (h0 : 0 ≤ h) (h6 : h < 6) : g_i6 A (A 24).toNat h = if 1 ≤ A (6 + h) then 1 else 0 := by
  unfold g_i6
  have w24 := w.2.1
  by_cases c : 1 ≤ A (6 + h)
  · obtain ⟨u, u0, q⟩ := w.yes_at h0 h6 c
    have e : g_pl (fun t => A (25 + t)) h (A 24).toNat = u := (g_at_iff.mp q).symm
    rw [if_pos c, e, if_pos u0]
  · have n : A (6 + h) = 0 := by
      rcases w.2.2.2.2.2.1 h h0 h6 with a | a
      · exact absurd a.1 c
      · exact a.1
    have e : g_pl (fun t => A (25 + t)) h (A 24).toNat = -1 := (g_at_iff.mp (w.no_at h0 h6 n)).symm
    rw [if_neg c, e, if_neg (by omega)]
theorem g_is_bt (w : g_wf H A) : g_is A (A 24).toNat = g_bt (fun h => if 1 ≤ A (6 + h) then 1 else 0) (6 : Int).toNat := by
  show g_i6 A (A 24).toNat 0 + 2 * g_i6 A (A 24).toNat 1 + 4 * g_i6 A (A 24).toNat 2 + 8 * g_i6 A (A 24).toNat 3 + 16 * g_i6 A (A 24).toNat 4 + 32 * g_i6 A (A 24).toNat 5 = 0 + (if (if 1 ≤ A (6 + 0) then (1 : Int) else 0) = 1 then (1 : Int) else 0) + (if (if 1 ≤ A (6 + 1) then (1 : Int) else 0) = 1 then (2 : Int) else 0) + (if (if 1 ≤ A (6 + 2) then (1 : Int) else 0) = 1 then (4 : Int) else 0) + (if (if 1 ≤ A (6 + 3) then (1 : Int) else 0) = 1 then (8 : Int) else 0) + (if (if 1 ≤ A (6 + 4) then (1 : Int) else 0) = 1 then (16 : Int) else 0) + (if (if 1 ≤ A (6 + 5) then (1 : Int) else 0) = 1 then (32 : Int) else 0)
  rw [g_i6_e w (by omega) (by omega), g_i6_e w (by omega) (by omega), g_i6_e w (by omega) (by omega), g_i6_e w (by omega) (by omega), g_i6_e w (by omega) (by omega), g_i6_e w (by omega) (by omega)]
  have k : ∀ (p : Prop) [Decidable p] (m : Int), (if (if p then (1 : Int) else 0) = 1 then m else 0) = m * (if p then 1 else 0) := fun p _ m => by
    by_cases c : p
    · rw [if_pos c, if_pos rfl, Int.mul_one]
    · rw [if_neg c, if_neg (by omega), Int.mul_zero]
  rw [k, k, k, k, k, k]
  omega
theorem g_no_pl (w : g_wf H A) {h : Int} (hH : H ≤ h) (h6 : h < 6) : ¬ 1 ≤ A (6 + h) := fun c => by
  have := w.1
  obtain ⟨u, u0, q⟩ := w.yes_at (by omega) h6 c
  have := w.at_len q u0
  omega
/-! sums -/
theorem g_sw_s {f : Int → Int} {i : Int} (i0 : 0 ≤ i) : g_sw f (i + 1).toNat = g_op 110 (g_sw f i.toNat) (f i) := by
  rw [show (i + 1).toNat = i.toNat + 1 by omega]
  show g_op 110 (g_sw f i.toNat) (f ((i.toNat : Nat) : Int)) = _
  rw [show ((i.toNat : Nat) : Int) = i by omega]
theorem g_sw_b {f : Int → Int} : ∀ n : Nat, -2147483648 ≤ g_sw f n ∧ g_sw f n ≤ 2147483647
  | 0 => by show -2147483648 ≤ (0 : Int) ∧ (0 : Int) ≤ 2147483647; omega
  | n + 1 => g_op_b 110 _ _
theorem g_sw_ext {f : Int → Int} {n : Nat} : ∀ d : Nat, (∀ h : Int, (n : Int) ≤ h → h < n + d → f h = 0) → g_sw f (n + d) = g_sw f n
  | 0, _ => rfl
  | d + 1, h => by
    have b := g_sw_b (f := f) n
    show g_op 110 (g_sw f (n + d)) (f ((n + d : Nat) : Int)) = g_sw f n
    rw [g_sw_ext d (fun k k0 k1 => h k k0 (by omega)), h _ (by omega) (by omega), g_op_add b.1 b.2 (by omega) (by omega) (by omega) (by omega)]
    omega
theorem g_sw6 {f : Int → Int} (b : ∀ h : Int, 0 ≤ h → h < 6 → 0 ≤ f h ∧ f h ≤ 99) : g_sw f (6 : Int).toNat = f 0 + f 1 + f 2 + f 3 + f 4 + f 5 := by
  have b0 := b 0 (by omega) (by omega); have b1 := b 1 (by omega) (by omega); have b2 := b 2 (by omega) (by omega); have b3 := b 3 (by omega) (by omega); have b4 := b 4 (by omega) (by omega); have b5 := b 5 (by omega) (by omega)
  show g_op 110 (g_op 110 (g_op 110 (g_op 110 (g_op 110 (g_op 110 0 (f 0)) (f 1)) (f 2)) (f 3)) (f 4)) (f 5) = _
  have k : ∀ x y : Int, 0 ≤ x → x ≤ 1000 → 0 ≤ y → y ≤ 99 → g_op 110 x y = x + y := fun x y x0 x1 y0 y1 => g_op_add (by omega) (by omega) (by omega) (by omega) (by omega) (by omega)
  rw [k 0 (f 0) (by omega) (by omega) (by omega) (by omega), k (0 + f 0) (f 1) (by omega) (by omega) (by omega) (by omega), k (0 + f 0 + f 1) (f 2) (by omega) (by omega) (by omega) (by omega), k (0 + f 0 + f 1 + f 2) (f 3) (by omega) (by omega) (by omega) (by omega), k (0 + f 0 + f 1 + f 2 + f 3) (f 4) (by omega) (by omega) (by omega) (by omega), k (0 + f 0 + f 1 + f 2 + f 3 + f 4) (f 5) (by omega) (by omega) (by omega) (by omega)]
  omega
def g_d6 (A : Int → Int) (k : Nat) (h : Int) : Int := if 0 ≤ g_pl (fun t => A (25 + t)) h k then A (12 + h) else 0
theorem g_d6_n {k : Nat} {h : Int} : g_d6 A k h = if g_n6 A k h = 1 then A (12 + h) else 0 := by
  unfold g_d6 g_n6
  by_cases c : 0 ≤ g_pl (fun t => A (25 + t)) h k
  · rw [if_pos c, if_pos c, if_pos rfl]
  · rw [if_neg c, if_neg c, if_neg (by omega)]
theorem g_sx_d6 (w : g_wf H A) : ∀ k : Nat, (k : Int) ≤ A 24 → g_sx A k = g_d6 A k 0 + g_d6 A k 1 + g_d6 A k 2 + g_d6 A k 3 + g_d6 A k 4 + g_d6 A k 5
  | 0, _ => by
    have e : ∀ h : Int, g_d6 A 0 h = 0 := fun h => by unfold g_d6; rw [if_neg (by show ¬ (0 : Int) ≤ -1; omega)]
    rw [e, e, e, e, e, e]; rfl
  | k + 1, hk => by
    have ih := g_sx_d6 w k (by omega)
    have hw := w.pl_lt (i := (k : Int)) (by omega) (by omega)
    have hn := g_n6_new w (k := k) (by omega)
    have hs : ∀ h : Int, h ≠ A (25 + (k : Int)) → g_d6 A (k + 1) h = g_d6 A k h := fun h c => by rw [g_d6_n, g_d6_n, g_n6_same c]
    have ho : g_d6 A k (A (25 + (k : Int))) = 0 := by rw [g_d6_n, hn, if_neg (by omega)]
    have h1 : g_d6 A (k + 1) (A (25 + (k : Int))) = A (12 + A (25 + (k : Int))) := by
      unfold g_d6
      have : g_pl (fun t => A (25 + t)) (A (25 + (k : Int))) (k + 1) = k := by
        have hm : g_pl (fun t => A (25 + t)) (A (25 + (k : Int))) k = -1 := g_pl_none fun i hi he => by
          have := w.2.2.2.1 (i : Int) (k : Int) (by omega) (by omega) (by omega) (by omega) he
          omega
        show (if 0 ≤ g_pl (fun t => A (25 + t)) (A (25 + (k : Int))) k then _ else if A (25 + (k : Int)) = A (25 + (k : Int)) then (k : Int) else -1) = (k : Int)
        rw [if_neg (by rw [hm]; omega), if_pos rfl]
      rw [this, if_pos (by omega)]
    show g_sx A k + A (12 + A (25 + (k : Int))) = _
    rw [ih, ← h1]
    generalize A (25 + (k : Int)) = z at hw hs ho ⊢
    have c : z = 0 ∨ z = 1 ∨ z = 2 ∨ z = 3 ∨ z = 4 ∨ z = 5 := by omega
    rcases c with c | c | c | c | c | c
    · subst c; rw [hs 1 (by omega), hs 2 (by omega), hs 3 (by omega), hs 4 (by omega), hs 5 (by omega)]; omega
    · subst c; rw [hs 0 (by omega), hs 2 (by omega), hs 3 (by omega), hs 4 (by omega), hs 5 (by omega)]; omega
    · subst c; rw [hs 0 (by omega), hs 1 (by omega), hs 3 (by omega), hs 4 (by omega), hs 5 (by omega)]; omega
    · subst c; rw [hs 0 (by omega), hs 1 (by omega), hs 2 (by omega), hs 4 (by omega), hs 5 (by omega)]; omega
    · subst c; rw [hs 0 (by omega), hs 1 (by omega), hs 2 (by omega), hs 3 (by omega), hs 5 (by omega)]; omega
    · subst c; rw [hs 0 (by omega), hs 1 (by omega), hs 2 (by omega), hs 3 (by omega), hs 4 (by omega)]; omega
theorem g_sx_all (w : g_wf H A) : g_sx A (A 24).toNat = g_sw (fun k => A (12 + k)) (6 : Int).toNat := by
  have w24 := w.2.1
  have e : ∀ h : Int, 0 ≤ h → h < 6 → g_d6 A (A 24).toNat h = A (12 + h) := fun h h0 h6 => by
    unfold g_d6
    split
    · rfl
    · next c =>
      have hb := g_pl_b (w := fun t => A (25 + t)) (h := h) (A 24).toNat
      have hn2 : g_at A h (-1) := Or.inr ⟨rfl, fun i i0 i1 => g_pl_noI (w := fun t => A (25 + t)) (by omega) i i0 i1⟩
      exact (w.at_no hn2 h0 h6).2.symm
  rw [g_sx_d6 w (A 24).toNat (by omega), e 0 (by omega) (by omega), e 1 (by omega) (by omega), e 2 (by omega) (by omega), e 3 (by omega) (by omega), e 4 (by omega) (by omega), e 5 (by omega) (by omega)]
  exact (g_sw6 (f := fun k => A (12 + k)) (fun h h0 h6 => by
    have := w.2.2.2.2.2.2.1 h h0 h6
    show 0 ≤ A (12 + h) ∧ A (12 + h) ≤ 99
    omega)).symm
end ZM2
section ZM3
variable {v : zVw} {q b s o a1 a2 a3 x1 x2 u : Int} {A : Int → Int}
theorem g_sx_s {i : Int} (i0 : 0 ≤ i) : g_sx A (i + 1).toNat = g_sx A i.toNat + A (12 + A (25 + i)) := by
  rw [show (i + 1).toNat = i.toNat + 1 by omega]
  show g_sx A i.toNat + A (12 + A (25 + ((i.toNat : Nat) : Int))) = _
  rw [show ((i.toNat : Nat) : Int) = i by omega]
theorem g_k31 (T : q_qry v 31 q b s o a1 a2 a3 x1 x2 u) : u = g_sw (fun k => g_F v q b s o a1 a2 a3 (g_nw v) (x1 + k)) x2.toNat := T.2
theorem g_Q31 (h : u = g_sw (fun k => A (x1 + k)) x2.toNat) : q_Q v q b s A 31 x1 x2 u := h
theorem g_k32 (T : q_qry v 32 q b s o a1 a2 a3 x1 x2 u) : u = g_sx (g_F v q b s o a1 a2 a3 (g_nw v)) x1.toNat := T.2
theorem g_Q32 (h : u = g_sx A x1.toNat) : q_Q v q b s A 32 x1 x2 u := h
theorem g_k33 (T : q_qry v 33 q b s o a1 a2 a3 x1 x2 u) : u = g_bt (fun h => if 1 ≤ g_F v q b s o a1 a2 a3 (g_nw v) (6 + h) then 1 else 0) x1.toNat := T.2
theorem g_Q33 (h : u = g_bt (fun h => if 1 ≤ A (6 + h) then 1 else 0) x1.toNat) : q_Q v q b s A 33 x1 x2 u := h
theorem g_k34 (T : q_qry v 34 q b s o a1 a2 a3 x1 x2 u) : u = g_is (g_F v q b s o a1 a2 a3 (g_nw v)) x1.toNat := T.2
theorem g_Q34 (h : u = g_is A x1.toNat) : q_Q v q b s A 34 x1 x2 u := h
theorem g_k35 (T : q_qry v 35 q b s o a1 a2 a3 x1 x2 u) : u = g_bt (fun h => if g_F v q b s o a1 a2 a3 (g_nw v) h = 0 then 1 else 0) x1.toNat := T.2
theorem g_Q35 (h : u = g_bt (fun h => if A h = 0 then 1 else 0) x1.toNat) : q_Q v q b s A 35 x1 x2 u := h
end ZM3
end
