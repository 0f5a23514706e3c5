/-! ===== put upon ===== -/
section ZU3
variable {c st : Int → Int} {J : Int → Int → Int}
theorem o_h_c {t u : Int} {l : List Int} {e r : Int} (hr : o_z (u :: l) = r) (he : e = o_m (st t) (J t u) - c r) : o_h c st J (t :: u :: l) = if e < o_h c st J (u :: l) then e else o_h c st J (u :: l) := by
  show o_m (o_m (o_h c st J (u :: l)) (J t u - c (o_z (u :: l)))) (st t - c (o_z (u :: l))) = _
  rw [hr, he]
  generalize o_h c st J (u :: l) = a
  unfold o_m
  split <;> split <;> (try split) <;> (try split) <;> omega
theorem o_h_1 {t : Int} : o_h c st J [t] = o_m 999 (st t) := by
  show o_m 999 (st t - 0) = _
  rw [Int.sub_zero]
theorem o_h_999 : ∀ l : List Int, o_h c st J l ≤ 999
  | [] => Int.le_refl _
  | t :: l => by
    have ih := o_h_999 l
    have m1 : ∀ a b : Int, a ≤ 999 → o_m a b ≤ 999 := fun a b h => by
      unfold o_m
      split <;> omega
    refine m1 _ _ ?_
    cases l with
    | nil => exact Int.le_refl _
    | cons u l => exact m1 _ _ ih
theorem o_M_app {X Y : List (List Int)} {t h u e g k : Int} (a : o_M c st J h X) (b : o_M c st J u Y) (y : ∀ m ∈ Y, o_h c st J (t :: m) = if e < o_h c st J m then e else o_h c st J m) (hg : g ≤ e ∧ g ≤ u ∧ (g = e ∨ g = u)) (hk : h ≤ k ∧ g ≤ k ∧ (k = h ∨ k = g)) : o_M c st J k (X ++ Y.map (t :: ·)) := by
  obtain ⟨a1, a2, a3⟩ := a
  obtain ⟨b1, b2, b3⟩ := b
  have hk9 : -2 ≤ k ∧ k ≤ 999 := by
    clear a3 b3
    omega
  refine ⟨hk9, fun l hl => ?_, ?_⟩
  · clear a3 b3
    rcases List.mem_append.mp hl with d | d
    · have := a2 l d; omega
    · obtain ⟨m, m0, m1⟩ := List.mem_map.mp d
      have e1 := y m m0
      have e2 := b2 m m0
      rw [← m1, e1]
      split <;> omega
  · by_cases d : k = h
    · clear b3
      rcases a3 with z | ⟨l, l0, l1⟩
      · exact Or.inl (by omega)
      · exact Or.inr ⟨l, List.mem_append.mpr (Or.inl l0), by omega⟩
    · clear a3
      rcases b3 with z | ⟨m, m0, m1⟩
      · exact Or.inl (by omega)
      · refine Or.inr ⟨t :: m, List.mem_append.mpr (Or.inr (List.mem_map.mpr ⟨m, m0, rfl⟩)), ?_⟩
        rw [y m m0, m1]
        split <;> omega
theorem o_n_put {Y : List (List Int)} {t u e w : Int} (b : o_M c st J u Y) (y : ∀ m ∈ Y, o_h c st J (t :: m) = if e < o_h c st J m then e else o_h c st J m) : o_n (fun l => w ≤ o_h c st J l) (Y.map (t :: ·)) = if w ≤ e ∧ w ≤ u then o_n (fun l => w ≤ o_h c st J l) Y else 0 := by
  rw [o_n_map]
  by_cases d : w ≤ e ∧ w ≤ u
  · rw [if_pos d]
    refine o_n_cg Y fun m hm => ?_
    rw [y m hm]
    split <;> omega
  · rw [if_neg d]
    have : ∀ Z : List (List Int), (∀ m ∈ Z, m ∈ Y) → o_n (fun m => w ≤ o_h c st J (t :: m)) Z = 0 := fun Z => by
      induction Z with
      | nil => exact fun _ => rfl
      | cons m Z ih =>
        intro hz
        have h1 := ih (fun x hx => hz x (List.mem_cons_of_mem _ hx))
        have h2 := hz m (List.mem_cons_self ..)
        have h3 := y m h2
        have h4 := b.2.1 m h2
        show o_n _ Z + @ite Int _ (Classical.propDecidable _) 1 0 = 0
        rw [h1, if_neg (by show ¬ (w ≤ o_h c st J (t :: m)); rw [h3]; split <;> omega)]
        rfl
    exact this Y (fun _ h => h)
end ZU3
/-- fuel -/
theorem o_D_cg {C D : Int → Int → List (List Int)} {s t : Int} (h : ∀ y : Int, 0 ≤ y → y < 6 → r_bit (s - g_2 t.toNat) y → C (s - g_2 t.toNat) y = D (s - g_2 t.toNat) y) : ∀ x : Nat, x ≤ 6 → o_D C s t x = o_D D s t x
  | 0, _ => rfl
  | x + 1, hx => by
    show o_D C s t x ++ _ = o_D D s t x ++ _
    rw [o_D_cg h x (by omega)]
    by_cases c : (s - g_2 t.toNat) / g_2 x % 2 = 1
    · rw [if_pos c, if_pos c, h x (by omega) (by omega) c]
    · rw [if_neg c, if_neg c]
theorem o_bit_pos {r y : Int} (r0 : 0 ≤ r) (y0 : 0 ≤ y) (y6 : y < 6) (c : r_bit r y) : 1 ≤ r := by
  by_cases z : r = 0
  · exfalso
    rw [z] at c
    have hh : y = 0 ∨ y = 1 ∨ y = 2 ∨ y = 3 ∨ y = 4 ∨ y = 5 := by omega
    rcases hh with rfl | rfl | rfl | rfl | rfl | rfl <;> exact absurd c (by unfold r_bit; decide)
  · omega
theorem o_C_fuel : ∀ (n : Nat) (s t : Int), s ≤ n → 1 ≤ s → s < 64 → 0 ≤ t → t < 6 → r_bit s t → ∀ m : Nat, s ≤ m → o_C n s t = o_C m s t
  | 0, s, _, h, h1, _, _, _, _, _, _ => by omega
  | n + 1, s, t, hn, s1, s6, t0, t6, c, m, hm => by
    have d := o_del (by omega) s6 t0 t6 c
    cases m with
    | zero => omega
    | succ m =>
      show o_D (o_C n) s t 6 = o_D (o_C m) s t 6
      exact o_D_cg (fun y y0 y6 yb => o_C_fuel n _ y (by omega) (o_bit_pos d.1.1 y0 y6 yb) (by omega) y0 y6 yb m (by omega)) 6 (by omega)
