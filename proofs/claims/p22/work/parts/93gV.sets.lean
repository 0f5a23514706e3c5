noncomputable section
/-! ===== lists by their sets ===== -/
theorem o_del_all : ∀ s : Fin 64, ∀ t : Fin 6, ∀ h : Fin 6, decide ((s.val : Int) / g_2 t.val % 2 = 1 → (0 ≤ (s.val : Int) - g_2 t.val ∧ (s.val : Int) - g_2 t.val < s.val) ∧ (((s.val : Int) - g_2 t.val) / g_2 h.val % 2 = 1 ↔ ((s.val : Int) / g_2 h.val % 2 = 1 ∧ h.val ≠ t.val))) = true := by decide +kernel
theorem o_add_all : ∀ s : Fin 64, ∀ t : Fin 6, ∀ h : Fin 6, decide (¬ (s.val : Int) / g_2 t.val % 2 = 1 → ((s.val : Int) + g_2 t.val < 64) ∧ (((s.val : Int) + g_2 t.val) / g_2 h.val % 2 = 1 ↔ ((s.val : Int) / g_2 h.val % 2 = 1 ∨ h.val = t.val))) = true := by decide +kernel
theorem o_ext_all : ∀ s : Fin 64, ∀ t : Fin 64, decide ((∀ h : Fin 6, ((s.val : Int) / g_2 h.val % 2 = 1 ↔ (t.val : Int) / g_2 h.val % 2 = 1)) → s.val = t.val) = true := by decide +kernel
theorem o_del {s t : Int} (s0 : 0 ≤ s) (s6 : s < 64) (t0 : 0 ≤ t) (t6 : t < 6) (c : r_bit s t) : (0 ≤ s - g_2 t.toNat ∧ s - g_2 t.toNat < s) ∧ ∀ h : Int, 0 ≤ h → h < 6 → (r_bit (s - g_2 t.toNat) h ↔ (r_bit s h ∧ h ≠ t)) := by
  have H : ∀ h : Int, 0 ≤ h → h < 6 → (0 ≤ s - g_2 t.toNat ∧ s - g_2 t.toNat < s) ∧ ((s - g_2 t.toNat) / g_2 h.toNat % 2 = 1 ↔ (s / g_2 h.toNat % 2 = 1 ∧ h ≠ t)) := fun h h0 h6 => by
    have b := of_decide_eq_true (o_del_all ⟨s.toNat, by omega⟩ ⟨t.toNat, by omega⟩ ⟨h.toNat, by omega⟩)
    dsimp only at b
    rw [show ((s.toNat : Nat) : Int) = s by omega] at b
    have d := b c
    refine ⟨d.1, d.2.trans ⟨fun e => ⟨e.1, fun z => e.2 (by rw [z])⟩, fun e => ⟨e.1, fun z => e.2 (by omega)⟩⟩⟩
  exact ⟨(H 0 (by omega) (by omega)).1, fun h h0 h6 => (H h h0 h6).2⟩
theorem o_add {s t : Int} (s0 : 0 ≤ s) (s6 : s < 64) (t0 : 0 ≤ t) (t6 : t < 6) (c : ¬ r_bit s t) : s + g_2 t.toNat < 64 ∧ ∀ h : Int, 0 ≤ h → h < 6 → (r_bit (s + g_2 t.toNat) h ↔ (r_bit s h ∨ h = t)) := by
  have H : ∀ h : Int, 0 ≤ h → h < 6 → (s + g_2 t.toNat < 64) ∧ ((s + g_2 t.toNat) / g_2 h.toNat % 2 = 1 ↔ (s / g_2 h.toNat % 2 = 1 ∨ h = t)) := fun h h0 h6 => by
    have b := of_decide_eq_true (o_add_all ⟨s.toNat, by omega⟩ ⟨t.toNat, by omega⟩ ⟨h.toNat, by omega⟩)
    dsimp only at b
    rw [show ((s.toNat : Nat) : Int) = s by omega] at b
    have d := b c
    refine ⟨d.1, d.2.trans ⟨fun e => e.elim Or.inl (fun z => Or.inr (by omega)), fun e => e.elim Or.inl (fun z => Or.inr (by rw [z]))⟩⟩
  exact ⟨(H 0 (by omega) (by omega)).1, fun h h0 h6 => (H h h0 h6).2⟩
theorem o_ext {s t : Int} (s0 : 0 ≤ s) (s6 : s < 64) (t0 : 0 ≤ t) (t6 : t < 64) (e : ∀ h : Int, 0 ≤ h → h < 6 → (r_bit s h ↔ r_bit t h)) : s = t := by
  have b := of_decide_eq_true (o_ext_all ⟨s.toNat, by omega⟩ ⟨t.toNat, by omega⟩)
  dsimp only at b
  rw [show ((s.toNat : Nat) : Int) = s by omega, show ((t.toNat : Nat) : Int) = t by omega] at b
  have := b (fun h => e (h.val : Int) (by omega) (by have := h.isLt; omega))
  omega
/-- a list of HOUSES, all different -/
def o_hl (l : List Int) : Prop := l.Nodup ∧ ∀ h ∈ l, 0 ≤ h ∧ h < 6
theorem o_hl_tl {t : Int} {l : List Int} (k : o_hl (t :: l)) : o_hl l ∧ ¬ t ∈ l ∧ 0 ≤ t ∧ t < 6 := by
  have n := List.nodup_cons.mp k.1
  have t6 := k.2 t (List.mem_cons_self ..)
  exact ⟨⟨n.2, fun h hh => k.2 h (List.mem_cons_of_mem _ hh)⟩, n.1, t6.1, t6.2⟩
theorem o_z_b : ∀ l : List Int, o_hl l → (0 ≤ o_z l ∧ o_z l < 64) ∧ ∀ h : Int, 0 ≤ h → h < 6 → (r_bit (o_z l) h ↔ h ∈ l)
  | [], _ => ⟨⟨Int.le_refl _, (by decide : (0 : Int) < 64)⟩, fun h h0 h6 => by
    have hh : h = 0 ∨ h = 1 ∨ h = 2 ∨ h = 3 ∨ h = 4 ∨ h = 5 := by omega
    constructor
    · intro c
      exfalso
      rcases hh with rfl | rfl | rfl | rfl | rfl | rfl <;> exact absurd c (by unfold r_bit; decide)
    · intro c
      cases c⟩
  | t :: l, k => by
    obtain ⟨k1, k2, t0, t6⟩ := o_hl_tl k
    obtain ⟨b1, b2⟩ := o_z_b l k1
    have a := o_add b1.1 b1.2 t0 t6 (fun c => k2 ((b2 t t0 t6).mp c))
    have p : 0 ≤ g_2 t.toNat := by
      have hh : t = 0 ∨ t = 1 ∨ t = 2 ∨ t = 3 ∨ t = 4 ∨ t = 5 := by omega
      rcases hh with rfl | rfl | rfl | rfl | rfl | rfl <;> decide
    have e : o_z (t :: l) = o_z l + g_2 t.toNat := Int.add_comm ..
    rw [e]
    refine ⟨⟨by omega, a.1⟩, fun h h0 h6 => (a.2 h h0 h6).trans ?_⟩
    rw [b2 h h0 h6, List.mem_cons]
    exact or_comm
/-- the lists of a set -/
theorem o_D_mem {C : Int → Int → List (List Int)} {s t : Int} {l : List Int} : ∀ x : Nat, l ∈ o_D C s t x ↔ (s = g_2 t.toNat ∧ l = [t]) ∨ ∃ y : Nat, y < x ∧ (s - g_2 t.toNat) / g_2 y % 2 = 1 ∧ ∃ m ∈ C (s - g_2 t.toNat) y, l = t :: m
  | 0 => by
    unfold o_D
    by_cases c : s = g_2 t.toNat
    · rw [if_pos c]
      constructor
      · intro h
        exact Or.inl ⟨c, List.mem_singleton.mp h⟩
      · rintro (⟨-, h⟩ | ⟨y, y0, -⟩)
        · exact List.mem_singleton.mpr h
        · omega
    · rw [if_neg c]
      constructor
      · intro h; cases h
      · rintro (⟨h, -⟩ | ⟨y, y0, -⟩)
        · exact absurd h c
        · omega
  | x + 1 => by
    have ih := o_D_mem (C := C) (s := s) (t := t) (l := l) x
    show l ∈ o_D C s t x ++ _ ↔ _
    rw [List.mem_append, ih]
    constructor
    · rintro ((h | ⟨y, y0, y1, y2⟩) | h)
      · exact Or.inl h
      · exact Or.inr ⟨y, by omega, y1, y2⟩
      · by_cases c : (s - g_2 t.toNat) / g_2 x % 2 = 1
        · rw [if_pos c] at h
          obtain ⟨m, m0, m1⟩ := List.mem_map.mp h
          exact Or.inr ⟨x, by omega, c, m, m0, m1.symm⟩
        · rw [if_neg c] at h; cases h
    · rintro (h | ⟨y, y0, y1, m, m0, m1⟩)
      · exact Or.inl (Or.inl h)
      · by_cases d : y = x
        · subst d
          rw [if_pos y1]
          exact Or.inr (List.mem_map.mpr ⟨m, m0, m1.symm⟩)
        · exact Or.inl (Or.inr ⟨y, by omega, y1, m, m0, m1⟩)
theorem o_C_mem : ∀ (n : Nat) (s t : Int) (l : List Int), s ≤ n → 1 ≤ s → s < 64 → 0 ≤ t → t < 6 → r_bit s t → (l ∈ o_C n s t ↔ o_hl l ∧ o_z l = s ∧ ∃ m : List Int, l = t :: m)
  | 0, s, _, _, h, h1, _, _, _, _ => by omega
  | n + 1, s, t, l, hn, s1, s6, t0, t6, c => by
    have d := o_del (by omega) s6 t0 t6 c
    show l ∈ o_D (o_C n) s t 6 ↔ _
    rw [o_D_mem]
    constructor
    · rintro (⟨e, e1⟩ | ⟨y, y0, y1, m, m0, m1⟩)
      · rw [e1]
        refine ⟨⟨by simp, fun h hh => by rw [List.mem_singleton.mp hh]; exact ⟨t0, t6⟩⟩, ?_, [], rfl⟩
        show g_2 t.toNat + 0 = s
        omega
      · have yb : r_bit (s - g_2 t.toNat) (y : Int) := y1
        have r1 : 1 ≤ s - g_2 t.toNat := by
          by_cases z : s - g_2 t.toNat = 0
          · exfalso
            have yb9 := yb
            rw [z] at yb9
            have hh : y = 0 ∨ y = 1 ∨ y = 2 ∨ y = 3 ∨ y = 4 ∨ y = 5 := by omega
            rcases hh with rfl | rfl | rfl | rfl | rfl | rfl <;> exact absurd yb9 (by unfold r_bit; decide)
          · omega
        have i := (o_C_mem n (s - g_2 t.toNat) y m (by omega) r1 (by omega) (by omega) (by omega) yb).mp m0
        have zb := (o_z_b m i.1).2 t t0 t6
        rw [i.2.1] at zb
        have nt : ¬ t ∈ m := fun h => ((d.2 t t0 t6).mp (zb.mpr h)).2 rfl
        rw [m1]
        refine ⟨⟨List.nodup_cons.mpr ⟨nt, i.1.1⟩, fun h hh => ?_⟩, ?_, m, rfl⟩
        · rcases List.mem_cons.mp hh with e | e
          · rw [e]; exact ⟨t0, t6⟩
          · exact i.1.2 h e
        · show g_2 t.toNat + o_z m = s
          rw [i.2.1]; omega
    · rintro ⟨k, e, m, em⟩
      subst em
      have k9 := o_hl_tl k
      have em : o_z m = s - g_2 t.toNat := by
        have : g_2 t.toNat + o_z m = s := e
        omega
      cases m with
      | nil =>
        have : (0 : Int) = s - g_2 t.toNat := em
        exact Or.inl ⟨by omega, rfl⟩
      | cons y m =>
        have y6 := (o_hl_tl k9.1).2.2
        have yb : r_bit (o_z (y :: m)) y := ((o_z_b _ k9.1).2 y y6.1 y6.2).mpr (List.mem_cons_self ..)
        rw [em] at yb
        have r1 : 1 ≤ s - g_2 t.toNat := by
          by_cases z : s - g_2 t.toNat = 0
          · exfalso
            have yb9 := yb
            rw [z] at yb9
            have hh : y = 0 ∨ y = 1 ∨ y = 2 ∨ y = 3 ∨ y = 4 ∨ y = 5 := by omega
            rcases hh with rfl | rfl | rfl | rfl | rfl | rfl <;> exact absurd yb9 (by unfold r_bit; decide)
          · omega
        refine Or.inr ⟨y.toNat, by omega, yb, y :: m, ?_, rfl⟩
        rw [show ((y.toNat : Nat) : Int) = y by omega]
        exact (o_C_mem n (s - g_2 t.toNat) y (y :: m) (by omega) r1 (by omega) y6.1 y6.2 yb).mpr ⟨k9.1, em, m, rfl⟩
end
