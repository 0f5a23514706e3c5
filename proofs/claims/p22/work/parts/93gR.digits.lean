/-! ===== numbers to base 6 ===== -/
theorem r_6_pos : ∀ n : Nat, 1 ≤ r_6 n
  | 0 => Int.le_refl _
  | n + 1 => by
    have h := r_6_pos n
    show 1 ≤ 6 * r_6 n
    omega
theorem r_6_add (a : Nat) : ∀ b : Nat, r_6 (a + b) = r_6 a * r_6 b
  | 0 => by
    show r_6 a = r_6 a * 1
    omega
  | b + 1 => by
    show 6 * r_6 (a + b) = r_6 a * (6 * r_6 b)
    rw [r_6_add a b, Int.mul_left_comm]
theorem r_6_up {l p : Int} (h : p < l) : r_6 (l - p).toNat = 6 * r_6 (l - (p + 1)).toNat := by
  rw [show (l - p).toNat = (l - (p + 1)).toNat + 1 by omega]
  rfl
theorem r_6_b {l : Int} (h : l ≤ 6) : r_6 l.toNat ≤ 46656 := by
  have h0 : l.toNat = 0 ∨ l.toNat = 1 ∨ l.toNat = 2 ∨ l.toNat = 3 ∨ l.toNat = 4 ∨ l.toNat = 5 ∨ l.toNat = 6 := by omega
  rcases h0 with e | e | e | e | e | e | e <;> rw [e] <;> decide
theorem r_6_b5 {l : Int} (h : l ≤ 5) : r_6 l.toNat ≤ 7776 := by
  have h0 : l.toNat = 0 ∨ l.toNat = 1 ∨ l.toNat = 2 ∨ l.toNat = 3 ∨ l.toNat = 4 ∨ l.toNat = 5 := by omega
  rcases h0 with e | e | e | e | e | e <;> rw [e] <;> decide
theorem r_dd {n a b : Int} (a0 : 0 ≤ a) : n / a / b = n / (a * b) := by
  first
    | exact Int.ediv_ediv_of_nonneg a0
    | exact Int.ediv_ediv_eq_ediv_mul n a0
    | exact Int.ediv_ediv a0
    | exact Int.ediv_ediv_eq_ediv_mul _ a0
    | rw [Int.ediv_ediv a0]
theorem r_D_b {l n i : Int} : 0 ≤ r_D l n i ∧ r_D l n i < 6 := by
  unfold r_D
  omega
/-- one digit more -/
theorem r_D_old {p c h i : Int} (h0 : 0 ≤ h) (h6 : h < 6) (i1 : i < p) : r_D (p + 1) (6 * c + h) i = r_D p c i := by
  unfold r_D
  rw [show (p + 1 - 1 - i).toNat = (p - 1 - i).toNat + 1 by omega]
  show (6 * c + h) / (6 * r_6 (p - 1 - i).toNat) % 6 = _
  rw [← r_dd (a := 6) (by omega), show (6 * c + h) / 6 = c by omega]
theorem r_D_new {p c h : Int} (h0 : 0 ≤ h) (h6 : h < 6) : r_D (p + 1) (6 * c + h) p = h := by
  unfold r_D
  rw [show (p + 1 - 1 - p).toNat = 0 by omega]
  show (6 * c + h) / 1 % 6 = h
  rw [Int.ediv_one]
  omega
/-- the first digits of a longer number -/
theorem r_D_pre {l p n i : Int} (p1 : p ≤ l) (i1 : i < p) : r_D p (n / r_6 (l - p).toNat) i = r_D l n i := by
  unfold r_D
  have h := r_6_pos (l - p).toNat
  rw [r_dd (by omega), ← r_6_add, show (l - p).toNat + (p - 1 - i).toNat = (l - 1 - i).toNat by omega]
theorem r_K_pre {ok : Int → Int → Prop} {l p n : Int} (p0 : 0 ≤ p) (p1 : p ≤ l) (h : r_K ok l n) : r_K ok p (n / r_6 (l - p).toNat) := by
  obtain ⟨⟨h1, h2⟩, h3, h4⟩ := h
  have hr := r_6_pos (l - p).toNat
  refine ⟨⟨Int.ediv_nonneg h1 (by omega), ?_⟩, fun i i0 i1 => ?_, fun i j i0 i1 j1 => ?_⟩
  · refine Int.ediv_lt_of_lt_mul (by omega) ?_
    rw [← r_6_add, show p.toNat + (l - p).toNat = l.toNat by omega]
    exact h2
  · rw [r_D_pre p1 i1]; exact h3 i i0 (by omega)
  · rw [r_D_pre p1 (by omega), r_D_pre p1 j1]; exact h4 i j i0 i1 (by omega)
/-! how many, and the first -/
section ZR9
variable {K K' : Int → Prop} {a : Int}
theorem r_cs_Y {n : Nat} (h : K (a + n)) : r_cs K a (n + 1) = r_cs K a n + 1 := by
  show r_cs K a n + @ite Int (K (a + n)) (Classical.propDecidable _) 1 0 = _
  rw [if_pos h]
theorem r_cs_N {n : Nat} (h : ¬ K (a + n)) : r_cs K a (n + 1) = r_cs K a n := by
  show r_cs K a n + @ite Int (K (a + n)) (Classical.propDecidable _) 1 0 = _
  rw [if_neg h]
  omega
theorem r_fr_N {n : Nat} (h : ¬ K (a + n)) (b : -2 = r_fr K a n ∨ 0 ≤ r_fr K a n) : r_fr K a (n + 1) = r_fr K a n := by
  show (if 0 ≤ r_fr K a n then r_fr K a n else @ite Int (K (a + n)) (Classical.propDecidable _) (a + n) (-2)) = _
  by_cases c : 0 ≤ r_fr K a n
  · rw [if_pos c]
  · rw [if_neg c, if_neg h]; omega
theorem r_fr_Y0 {n : Nat} (h : K (a + n)) (c : ¬ 0 ≤ r_fr K a n) : r_fr K a (n + 1) = a + n := by
  show (if 0 ≤ r_fr K a n then r_fr K a n else @ite Int (K (a + n)) (Classical.propDecidable _) (a + n) (-2)) = _
  rw [if_neg c, if_pos h]
theorem r_fr_Y1 {n : Nat} (c : 0 ≤ r_fr K a n) : r_fr K a (n + 1) = r_fr K a n := by
  show (if 0 ≤ r_fr K a n then r_fr K a n else @ite Int (K (a + n)) (Classical.propDecidable _) (a + n) (-2)) = _
  rw [if_pos c]
/-- none, and none first; some, and one first -/
theorem r_cf (a0 : 0 ≤ a) : ∀ n : Nat, (r_cs K a n = 0 ∧ r_fr K a n = -2) ∨ (1 ≤ r_cs K a n ∧ 0 ≤ r_fr K a n)
  | 0 => Or.inl ⟨rfl, rfl⟩
  | n + 1 => by
    by_cases h : K (a + n)
    · right
      rw [r_cs_Y h]
      rcases r_cf a0 n with ⟨c, d⟩ | ⟨c, d⟩
      · rw [r_fr_Y0 h (by omega)]; omega
      · rw [r_fr_Y1 d]; omega
    · rw [r_cs_N h]
      rcases r_cf a0 n with ⟨c, d⟩ | ⟨c, d⟩
      · rw [r_fr_N h (Or.inl d.symm)]; exact Or.inl ⟨c, d⟩
      · rw [r_fr_N h (Or.inr d)]; exact Or.inr ⟨c, d⟩
theorem r_cs_b : ∀ n : Nat, 0 ≤ r_cs K a n ∧ r_cs K a n ≤ n
  | 0 => ⟨Int.le_refl _, Int.le_refl _⟩
  | n + 1 => by
    have ih := r_cs_b n
    by_cases h : K (a + n)
    · rw [r_cs_Y h]; omega
    · rw [r_cs_N h]; omega
theorem r_cs_le (h : ∀ x : Int, K x → K' x) : ∀ n : Nat, r_cs K a n ≤ r_cs K' a n
  | 0 => Int.le_refl _
  | n + 1 => by
    have ih := r_cs_le h n
    by_cases c : K (a + n)
    · rw [r_cs_Y c, r_cs_Y (h _ c)]; omega
    · rw [r_cs_N c]
      by_cases c' : K' (a + n)
      · rw [r_cs_Y c']; omega
      · rw [r_cs_N c']; exact ih
theorem r_cs_cg (h : ∀ x : Int, K x ↔ K' x) (n : Nat) : r_cs K a n = r_cs K' a n := by
  rw [show K = K' from funext fun x => propext (h x)]
theorem r_fr_cg (h : ∀ x : Int, K x ↔ K' x) (n : Nat) : r_fr K a n = r_fr K' a n := by
  rw [show K = K' from funext fun x => propext (h x)]
theorem r_cs_skip (n : Nat) : ∀ d : Nat, (∀ i : Nat, i < d → ¬ K (a + n + i)) → r_cs K a (n + d) = r_cs K a n
  | 0, _ => rfl
  | d + 1, h => by
    have e : ¬ K (a + ((n + d : Nat) : Int)) := by
      have := h d (by omega)
      rw [show a + ((n + d : Nat) : Int) = a + n + d by omega]
      exact this
    rw [show n + (d + 1) = (n + d) + 1 from rfl, r_cs_N e, r_cs_skip n d (fun i hi => h i (by omega))]
theorem r_fr_2 (a0 : 0 ≤ a) (n : Nat) : -2 = r_fr K a n ∨ 0 ≤ r_fr K a n := by
  rcases r_cf (K := K) a0 n with ⟨-, d⟩ | ⟨-, d⟩
  · exact Or.inl d.symm
  · exact Or.inr d
theorem r_fr_skip (a0 : 0 ≤ a) (n : Nat) : ∀ d : Nat, (∀ i : Nat, i < d → ¬ K (a + n + i)) → r_fr K a (n + d) = r_fr K a n
  | 0, _ => rfl
  | d + 1, h => by
    have e : ¬ K (a + ((n + d : Nat) : Int)) := by
      have := h d (by omega)
      rw [show a + ((n + d : Nat) : Int) = a + n + d by omega]
      exact this
    rw [show n + (d + 1) = (n + d) + 1 from rfl, r_fr_N e (r_fr_2 a0 _), r_fr_skip a0 n d (fun i hi => h i (by omega))]
/-- from below instead -/
theorem r_cs_fY (h : K a) : ∀ n : Nat, r_cs K a (n + 1) = r_cs K (a + 1) n + 1
  | 0 => by
    rw [r_cs_Y (by rw [show a + ((0 : Nat) : Int) = a by omega]; exact h)]
    rfl
  | n + 1 => by
    have ih := r_cs_fY h n
    by_cases c : K (a + ((n + 1 : Nat) : Int))
    · rw [r_cs_Y c, ih, r_cs_Y (a := a + 1) (by rw [show a + 1 + (n : Int) = a + ((n + 1 : Nat) : Int) by omega]; exact c)]
    · rw [r_cs_N c, ih, r_cs_N (a := a + 1) (by rw [show a + 1 + (n : Int) = a + ((n + 1 : Nat) : Int) by omega]; exact c)]
theorem r_cs_fN (h : ¬ K a) : ∀ n : Nat, r_cs K a (n + 1) = r_cs K (a + 1) n
  | 0 => by
    rw [r_cs_N (by rw [show a + ((0 : Nat) : Int) = a by omega]; exact h)]
    rfl
  | n + 1 => by
    have ih := r_cs_fN h n
    by_cases c : K (a + ((n + 1 : Nat) : Int))
    · rw [r_cs_Y c, ih, r_cs_Y (a := a + 1) (by rw [show a + 1 + (n : Int) = a + ((n + 1 : Nat) : Int) by omega]; exact c)]
    · rw [r_cs_N c, ih, r_cs_N (a := a + 1) (by rw [show a + 1 + (n : Int) = a + ((n + 1 : Nat) : Int) by omega]; exact c)]
theorem r_fr_fY (a0 : 0 ≤ a) (h : K a) : ∀ n : Nat, r_fr K a (n + 1) = a
  | 0 => by
    have h9 : ¬ 0 ≤ r_fr K a 0 := by
      show ¬ (0 : Int) ≤ -2
      omega
    rw [r_fr_Y0 (by rw [show a + ((0 : Nat) : Int) = a by omega]; exact h) h9]
    omega
  | n + 1 => by
    rw [r_fr_Y1 (by rw [r_fr_fY a0 h n]; exact a0), r_fr_fY a0 h n]
theorem r_fr_fN (a0 : 0 ≤ a) (h : ¬ K a) : ∀ n : Nat, r_fr K a (n + 1) = r_fr K (a + 1) n
  | 0 => by
    rw [r_fr_N (by rw [show a + ((0 : Nat) : Int) = a by omega]; exact h) (Or.inl rfl)]
    rfl
  | n + 1 => by
    have ih := r_fr_fN a0 h n
    have e9 : a + 1 + (n : Int) = a + ((n + 1 : Nat) : Int) := by omega
    by_cases d : 0 ≤ r_fr K a (n + 1)
    · rw [r_fr_Y1 d, ih, r_fr_Y1 (by rw [← ih]; exact d)]
    · by_cases c : K (a + ((n + 1 : Nat) : Int))
      · rw [r_fr_Y0 c d, r_fr_Y0 (a := a + 1) (by rw [e9]; exact c) (by rw [← ih]; exact d)]
        omega
      · rw [r_fr_N c (r_fr_2 a0 _), ih, r_fr_N (a := a + 1) (by rw [e9]; exact c) (r_fr_2 (by omega) _)]
end ZR9
/-! bits -/
theorem r_g0 : g_2 0 = 1 := rfl
theorem r_g1 : g_2 1 = 2 := rfl
theorem r_g2 : g_2 2 = 4 := rfl
theorem r_g3 : g_2 3 = 8 := rfl
theorem r_g4 : g_2 4 = 16 := rfl
theorem r_g5 : g_2 5 = 32 := rfl
theorem r_and_all : ∀ x : Fin 64, ∀ y : Fin 64, ∀ h : Fin 6, decide ((0 ≤ g_op 101 (x.val : Int) (y.val : Int) ∧ g_op 101 (x.val : Int) (y.val : Int) < 64) ∧ (g_op 101 (x.val : Int) (y.val : Int) / g_2 h.val % 2 = 1 ↔ ((x.val : Int) / g_2 h.val % 2 = 1 ∧ (y.val : Int) / g_2 h.val % 2 = 1))) = true := by decide +kernel
theorem r_andn_all : ∀ x : Fin 64, ∀ y : Fin 64, ∀ h : Fin 6, decide ((0 ≤ g_op 101 (x.val : Int) (g_op 103 (y.val : Int) (-1)) ∧ g_op 101 (x.val : Int) (g_op 103 (y.val : Int) (-1)) < 64) ∧ (g_op 101 (x.val : Int) (g_op 103 (y.val : Int) (-1)) / g_2 h.val % 2 = 1 ↔ ((x.val : Int) / g_2 h.val % 2 = 1 ∧ ¬ (y.val : Int) / g_2 h.val % 2 = 1))) = true := by decide +kernel
theorem r_or_all : ∀ x : Fin 64, ∀ i : Fin 6, ∀ h : Fin 6, decide ((0 ≤ g_op 102 (x.val : Int) (g_op 104 1 (i.val : Int)) ∧ g_op 102 (x.val : Int) (g_op 104 1 (i.val : Int)) < 64) ∧ (g_op 102 (x.val : Int) (g_op 104 1 (i.val : Int)) / g_2 h.val % 2 = 1 ↔ ((x.val : Int) / g_2 h.val % 2 = 1 ∨ h.val = i.val))) = true := by decide +kernel
theorem r_fin {P : Int → Prop} {n : Nat} (h : ∀ x : Fin n, P (x.val : Int)) {x : Int} (x0 : 0 ≤ x) (x1 : x < n) : P x := by
  have := h ⟨x.toNat, by omega⟩
  rw [show ((x.toNat : Nat) : Int) = x by omega] at this
  exact this
theorem r_fi2 {P : Nat → Prop} {n : Nat} (h : ∀ x : Fin n, P x.val) {x : Int} (x0 : 0 ≤ x) (x1 : x < n) : P x.toNat := h ⟨x.toNat, by omega⟩
theorem r_and {x y z : Int} (x0 : 0 ≤ x) (x1 : x < 64) (y0 : 0 ≤ y) (y1 : y < 64) (e : g_op 101 x y = z) : (0 ≤ z ∧ z < 64) ∧ ∀ h : Int, 0 ≤ h → h < 6 → (r_bit z h ↔ (r_bit x h ∧ r_bit y h)) := by
  have H : ∀ h : Int, 0 ≤ h → h < 6 → (0 ≤ g_op 101 x y ∧ g_op 101 x y < 64) ∧ (g_op 101 x y / g_2 h.toNat % 2 = 1 ↔ (x / g_2 h.toNat % 2 = 1 ∧ y / g_2 h.toNat % 2 = 1)) := fun h h0 h6 => by
    have a := r_and_all ⟨x.toNat, by omega⟩ ⟨y.toNat, by omega⟩ ⟨h.toNat, by omega⟩
    have b := of_decide_eq_true a
    dsimp only at b
    rw [show ((x.toNat : Nat) : Int) = x by omega, show ((y.toNat : Nat) : Int) = y by omega] at b
    exact b
  rw [e] at H
  exact ⟨(H 0 (by omega) (by omega)).1, fun h h0 h6 => (H h h0 h6).2⟩
theorem r_andn {x y z n : Int} (x0 : 0 ≤ x) (x1 : x < 64) (y0 : 0 ≤ y) (y1 : y < 64) (en : g_op 103 y (-1) = n) (e : g_op 101 x n = z) : (0 ≤ z ∧ z < 64) ∧ ∀ h : Int, 0 ≤ h → h < 6 → (r_bit z h ↔ (r_bit x h ∧ ¬ r_bit y h)) := by
  have H : ∀ h : Int, 0 ≤ h → h < 6 → (0 ≤ g_op 101 x (g_op 103 y (-1)) ∧ g_op 101 x (g_op 103 y (-1)) < 64) ∧ (g_op 101 x (g_op 103 y (-1)) / g_2 h.toNat % 2 = 1 ↔ (x / g_2 h.toNat % 2 = 1 ∧ ¬ y / g_2 h.toNat % 2 = 1)) := fun h h0 h6 => by
    have a := r_andn_all ⟨x.toNat, by omega⟩ ⟨y.toNat, by omega⟩ ⟨h.toNat, by omega⟩
    have b := of_decide_eq_true a
    dsimp only at b
    rw [show ((x.toNat : Nat) : Int) = x by omega, show ((y.toNat : Nat) : Int) = y by omega] at b
    exact b
  rw [en, e] at H
  exact ⟨(H 0 (by omega) (by omega)).1, fun h h0 h6 => (H h h0 h6).2⟩
theorem r_or {x i n z : Int} (x0 : 0 ≤ x) (x1 : x < 64) (i0 : 0 ≤ i) (i1 : i < 6) (en : g_op 104 1 i = n) (e : g_op 102 x n = z) : (0 ≤ z ∧ z < 64) ∧ ∀ h : Int, 0 ≤ h → h < 6 → (r_bit z h ↔ (r_bit x h ∨ h = i)) := by
  have H : ∀ h : Int, 0 ≤ h → h < 6 → (0 ≤ g_op 102 x (g_op 104 1 i) ∧ g_op 102 x (g_op 104 1 i) < 64) ∧ (g_op 102 x (g_op 104 1 i) / g_2 h.toNat % 2 = 1 ↔ (x / g_2 h.toNat % 2 = 1 ∨ h = i)) := fun h h0 h6 => by
    have a := r_or_all ⟨x.toNat, by omega⟩ ⟨i.toNat, by omega⟩ ⟨h.toNat, by omega⟩
    have b := of_decide_eq_true a
    dsimp only at b
    rw [show ((x.toNat : Nat) : Int) = x by omega, show ((i.toNat : Nat) : Int) = i by omega] at b
    refine ⟨b.1, b.2.trans ⟨fun c => c.imp id fun d => by omega, fun c => c.imp id fun d => by omega⟩⟩
  rw [en, e] at H
  exact ⟨(H 0 (by omega) (by omega)).1, fun h h0 h6 => (H h h0 h6).2⟩
/-- one bit asked for -/
theorem r_bt1 {x i n z : Int} (x0 : 0 ≤ x) (x1 : x < 64) (i0 : 0 ≤ i) (i1 : i < 6) (en : g_op 104 1 i = n) (e : g_op 101 x n = z) : 1 ≤ z ↔ r_bit x i := g_bita x0 (by omega) i0 (by omega) en e
/-- bits that are told by a function -/
theorem r_bt_f {f : Int → Int} : ∀ n : Nat, n ≤ 6 → ∀ h : Nat, h < 6 → (g_bt f n / g_2 h % 2 = 1 ↔ (h < n ∧ f h = 1))
  | 0, _, h, h6 => by
    have e : (g_bt f 0 : Int) = 0 := rfl
    rw [e, Int.zero_ediv]
    constructor
    · intro c; omega
    · intro c; omega
  | n + 1, hn, h, h6 => by
    have ih := r_bt_f (f := f) n (by omega) h h6
    have b := g_bt_b (f := f) n
    rw [g_bt_s]
    have hn6 : n = 0 ∨ n = 1 ∨ n = 2 ∨ n = 3 ∨ n = 4 ∨ n = 5 := by omega
    have hh6 : h = 0 ∨ h = 1 ∨ h = 2 ∨ h = 3 ∨ h = 4 ∨ h = 5 := by omega
    by_cases c : f n = 1
    · rw [if_pos c]
      by_cases d : h = n
      · subst d
        constructor
        · exact fun _ => ⟨by omega, c⟩
        · intro _
          have e2 : g_bt f h < g_2 h := b.2
          have e1 : 0 ≤ g_bt f h := b.1
          rcases hh6 with rfl | rfl | rfl | rfl | rfl | rfl <;> (simp only [r_g0, r_g1, r_g2, r_g3, r_g4, r_g5] at e2 ⊢; omega)
      · constructor
        · intro g
          have e2 : g_bt f n < g_2 n := b.2
          have e1 : 0 ≤ g_bt f n := b.1
          by_cases k : h < n
          · refine ⟨by omega, (ih.mp ?_).2⟩
            rcases hh6 with rfl | rfl | rfl | rfl | rfl | rfl <;> rcases hn6 with rfl | rfl | rfl | rfl | rfl | rfl <;> first | (exfalso; omega) | (simp only [r_g0, r_g1, r_g2, r_g3, r_g4, r_g5] at g e2 ⊢; omega)
          · exfalso
            rcases hh6 with rfl | rfl | rfl | rfl | rfl | rfl <;> rcases hn6 with rfl | rfl | rfl | rfl | rfl | rfl <;> first | omega | (simp only [r_g0, r_g1, r_g2, r_g3, r_g4, r_g5] at g e2; omega)
        · intro g
          have g2 := ih.mpr ⟨by omega, g.2⟩
          have e2 : g_bt f n < g_2 n := b.2
          have e1 : 0 ≤ g_bt f n := b.1
          rcases hh6 with rfl | rfl | rfl | rfl | rfl | rfl <;> rcases hn6 with rfl | rfl | rfl | rfl | rfl | rfl <;> first | (exfalso; omega) | (simp only [r_g0, r_g1, r_g2, r_g3, r_g4, r_g5] at g2 e2 ⊢; omega)
    · rw [if_neg c, Int.add_zero]
      constructor
      · intro g
        have g2 := ih.mp g
        exact ⟨by omega, g2.2⟩
      · intro g
        by_cases d : h = n
        · subst d; exact absurd g.2 c
        · exact ih.mpr ⟨by omega, g.2⟩
theorem g_op_mul6 {n : Int} (n0 : 0 ≤ n) (n1 : n ≤ 100000) : g_op 100 n 6 = n * 6 := by
  have ha := z_ofInt (z := n) (by omega) (by omega)
  have hb := z_ofInt (z := (6 : Int)) (by omega) (by omega)
  show (Int32.ofInt n * Int32.ofInt 6).toInt = n * 6
  rw [Int32.toInt_mul, ha, hb]
  exact Int.bmod_eq_of_le (by omega) (by omega)
