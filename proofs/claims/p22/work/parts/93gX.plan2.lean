noncomputable section
/-! ===== lists of a set: how many, none twice ===== -/
def o_pc (s : Int) : Nat := (s % 2 + s / 2 % 2 + s / 4 % 2 + s / 8 % 2 + s / 16 % 2 + s / 32 % 2).toNat
theorem o_pc_all : ∀ s : Fin 64, ∀ t : Fin 6, decide ((s.val : Int) / g_2 t.val % 2 = 1 → o_pc ((s.val : Int) - g_2 t.val) + 1 = o_pc (s.val : Int)) = true := by decide +kernel
theorem o_pc_1all : ∀ s : Fin 64, decide (o_pc (s.val : Int) ≤ 6 ∧ (1 ≤ (s.val : Int) → 1 ≤ o_pc (s.val : Int))) = true := by decide +kernel
theorem o_le_all : ∀ s : Fin 64, ∀ t : Fin 64, decide ((∀ h : Fin 6, ((s.val : Int) / g_2 h.val % 2 = 1 → (t.val : Int) / g_2 h.val % 2 = 1)) → s.val ≤ t.val) = true := by decide +kernel
theorem o_rsn_all : ∀ s : Fin 64, ∀ t : Fin 6, decide ((s.val : Int) / g_2 t.val % 2 = 1 → g_op 101 (s.val : Int) (g_op 103 (g_op 104 1 (t.val : Int)) (-1)) = (s.val : Int) - g_2 t.val) = true := by decide +kernel
theorem o_pc_d {s t : Int} (s0 : 0 ≤ s) (s6 : s < 64) (t0 : 0 ≤ t) (t6 : t < 6) (c : r_bit s t) : o_pc (s - g_2 t.toNat) + 1 = o_pc s := by
  have b := of_decide_eq_true (o_pc_all ⟨s.toNat, by omega⟩ ⟨t.toNat, by omega⟩)
  dsimp only at b
  rw [show ((s.toNat : Nat) : Int) = s by omega] at b
  exact b c
theorem o_pc_1 {s : Int} (s0 : 0 ≤ s) (s6 : s < 64) : o_pc s ≤ 6 ∧ (1 ≤ s → 1 ≤ o_pc s) := by
  have b := of_decide_eq_true (o_pc_1all ⟨s.toNat, by omega⟩)
  dsimp only at b
  rw [show ((s.toNat : Nat) : Int) = s by omega] at b
  exact b
theorem o_le {s t : Int} (s0 : 0 ≤ s) (s6 : s < 64) (t0 : 0 ≤ t) (t6 : t < 64) (e : ∀ h : Int, 0 ≤ h → h < 6 → r_bit s h → r_bit t h) : s ≤ t := by
  have b := of_decide_eq_true (o_le_all ⟨s.toNat, by omega⟩ ⟨t.toNat, by omega⟩)
  dsimp only at b
  rw [show ((s.toNat : Nat) : Int) = s by omega, show ((t.toNat : Nat) : Int) = t by omega] at b
  have := b (fun h => e (h.val : Int) (by omega) (by have := h.isLt; omega))
  omega
theorem o_rsn {s t r m n : Int} (s0 : 0 ≤ s) (s6 : s < 64) (t0 : 0 ≤ t) (t6 : t < 6) (c : r_bit s t) (en : g_op 104 1 t = n) (em : g_op 103 n (-1) = m) (er : g_op 101 s m = r) : r = s - g_2 t.toNat := by
  have b := of_decide_eq_true (o_rsn_all ⟨s.toNat, by omega⟩ ⟨t.toNat, by omega⟩)
  dsimp only at b
  rw [show ((s.toNat : Nat) : Int) = s by omega, show ((t.toNat : Nat) : Int) = t by omega, en, em, er] at b
  exact b c
theorem o_D_len {C : Int → Int → List (List Int)} {s t : Int} {m : Nat} (h : ∀ y : Int, 0 ≤ y → y < 6 → r_bit (s - g_2 t.toNat) y → (C (s - g_2 t.toNat) y).length ≤ m) : ∀ x : Nat, x ≤ 6 → (o_D C s t x).length ≤ (o_D C s t 0).length + x * m
  | 0, _ => Nat.le_add_right ..
  | x + 1, hx => by
    have ih := o_D_len h x (by omega)
    have e : o_D C s t (x + 1) = o_D C s t x ++ (if (s - g_2 t.toNat) / g_2 x % 2 = 1 then (C (s - g_2 t.toNat) x).map (t :: ·) else []) := rfl
    rw [e, List.length_append, Nat.succ_mul]
    by_cases c : (s - g_2 t.toNat) / g_2 x % 2 = 1
    · rw [if_pos c, List.length_map]
      have := h x (by omega) (by omega) c
      omega
    · rw [if_neg c, List.length_nil]
      omega
theorem o_D_0y {C : Int → Int → List (List Int)} {s t : Int} (e : s = g_2 t.toNat) : o_D C s t 0 = [[t]] := if_pos e
theorem o_D_0n {C : Int → Int → List (List Int)} {s t : Int} (e : ¬ s = g_2 t.toNat) : o_D C s t 0 = [] := if_neg e
theorem o_C_len : ∀ (n : Nat) (s t : Int), s ≤ n → 1 ≤ s → s < 64 → 0 ≤ t → t < 6 → r_bit s t → (o_C n s t).length ≤ 6 ^ (o_pc s - 1)
  | 0, s, _, h, h1, _, _, _, _ => by omega
  | n + 1, s, t, hn, s1, s6, t0, t6, c => by
    have d := o_del (by omega) s6 t0 t6 c
    have p := o_pc_d (by omega) s6 t0 t6 c
    show (o_D (o_C n) s t 6).length ≤ _
    by_cases e : s = g_2 t.toNat
    · have L := o_D_len (C := o_C n) (s := s) (t := t) (m := 0) (fun y y0 y6 yb => absurd (o_bit_pos d.1.1 y0 y6 yb) (by omega)) 6 (Nat.le_refl _)
      rw [o_D_0y e] at L
      have e1 : ([[t]] : List (List Int)).length = 1 := rfl
      have q : 0 < 6 ^ (o_pc s - 1) := Nat.pow_pos (by decide)
      generalize 6 ^ (o_pc s - 1) = m at q ⊢
      omega
    · have r1 : 1 ≤ s - g_2 t.toNat := by omega
      have pr := (o_pc_1 d.1.1 (by omega)).2 r1
      have L := o_D_len (C := o_C n) (s := s) (t := t) (m := 6 ^ (o_pc (s - g_2 t.toNat) - 1)) (fun y y0 y6 yb => o_C_len n _ y (by omega) r1 (by omega) y0 y6 yb) 6 (Nat.le_refl _)
      rw [o_D_0n e, List.length_nil] at L
      have e9 : o_pc s - 1 = (o_pc (s - g_2 t.toNat) - 1) + 1 := by omega
      rw [e9, Nat.pow_succ]
      generalize 6 ^ (o_pc (s - g_2 t.toNat) - 1) = m at L ⊢
      omega
theorem o_6_5 {s : Int} (s0 : 0 ≤ s) (s6 : s < 64) : 6 ^ (o_pc s - 1) ≤ 7776 := by
  have h := (o_pc_1 s0 s6).1
  have q : 6 ^ (o_pc s - 1) ≤ 6 ^ 5 := Nat.pow_le_pow_right (by decide) (by omega)
  exact Nat.le_trans q (by decide)
theorem o_D_nd {C : Int → Int → List (List Int)} {s t : Int} (r0 : 0 ≤ s - g_2 t.toNat) (nd : ∀ y : Int, 0 ≤ y → y < 6 → r_bit (s - g_2 t.toNat) y → (C (s - g_2 t.toNat) y).Nodup) (hd : ∀ y : Int, 0 ≤ y → y < 6 → r_bit (s - g_2 t.toNat) y → ∀ m ∈ C (s - g_2 t.toNat) y, ∃ l : List Int, m = y :: l) : ∀ x : Nat, x ≤ 6 → (o_D C s t x).Nodup
  | 0, _ => by
    by_cases e : s = g_2 t.toNat
    · rw [o_D_0y e]
      exact List.nodup_cons.mpr ⟨(fun h => by cases h), List.nodup_nil⟩
    · rw [o_D_0n e]
      exact List.nodup_nil
  | x + 1, hx => by
    have ih := o_D_nd r0 nd hd x (by omega)
    have e9 : o_D C s t (x + 1) = o_D C s t x ++ (if (s - g_2 t.toNat) / g_2 x % 2 = 1 then (C (s - g_2 t.toNat) x).map (t :: ·) else []) := rfl
    rw [e9]
    by_cases c : (s - g_2 t.toNat) / g_2 x % 2 = 1
    · rw [if_pos c]
      refine List.nodup_append.mpr ⟨ih, ?_, ?_⟩
      · show ((C (s - g_2 t.toNat) x).map (t :: ·)).Pairwise (· ≠ ·)
        rw [List.pairwise_map]
        exact List.Pairwise.imp (fun {a b} h e => h (List.cons.inj e).2) (nd x (by omega) (by omega) c)
      · intro l hl m hm e
        obtain ⟨m9, h9, e8⟩ := List.mem_map.mp hm
        obtain ⟨l9, e7⟩ := hd x (by omega) (by omega) c m9 h9
        rcases (o_D_mem x).mp hl with ⟨e6, e5⟩ | ⟨y, y0, y1, k, k0, k1⟩
        · have z := o_bit_pos (r := s - g_2 t.toNat) (y := x) r0 (by omega) (by omega) c
          omega
        · obtain ⟨l8, e4⟩ := hd y (by omega) (by omega) y1 k k0
          have e3 : t :: m9 = t :: k := by rw [e8, ← e, k1]
          have e2 := (List.cons.inj e3).2
          rw [e7, e4] at e2
          have e1 := (List.cons.inj e2).1
          omega
    · rw [if_neg c, List.append_nil]
      exact ih
theorem o_C_nd : ∀ (n : Nat) (s t : Int), s ≤ n → 1 ≤ s → s < 64 → 0 ≤ t → t < 6 → r_bit s t → (o_C n s t).Nodup
  | 0, s, _, h, h1, _, _, _, _ => by omega
  | n + 1, s, t, hn, s1, s6, t0, t6, c => by
    have d := o_del (by omega) s6 t0 t6 c
    show (o_D (o_C n) s t 6).Nodup
    exact o_D_nd d.1.1 (fun y y0 y6 yb => o_C_nd n _ y (by omega) (o_bit_pos d.1.1 y0 y6 yb) (by omega) y0 y6 yb) (fun y y0 y6 yb m hm => ((o_C_mem n _ y m (by omega) (o_bit_pos d.1.1 y0 y6 yb) (by omega) y0 y6 yb).mp hm).2.2) 6 (Nat.le_refl _)
section ZX1
variable {s t z : Int}
theorem o_K_mem (k : q_sin s t z) {l : List Int} : l ∈ o_K s t ↔ o_hl l ∧ o_z l = s ∧ ∃ m : List Int, l = t :: m := o_C_mem s.toNat s t l (by have := k.1; omega) k.1.1 k.1.2 k.2.1.1 k.2.1.2 k.2.2.2
theorem o_K_len (k : q_sin s t z) : (o_K s t).length ≤ 7776 := Nat.le_trans (o_C_len s.toNat s t (by have := k.1; omega) k.1.1 k.1.2 k.2.1.1 k.2.1.2 k.2.2.2) (o_6_5 (by have := k.1; omega) k.1.2)
theorem o_K_nd (k : q_sin s t z) : (o_K s t).Nodup := o_C_nd s.toNat s t (by have := k.1; omega) k.1.1 k.1.2 k.2.1.1 k.2.1.2 k.2.2.2
theorem o_K_D (k : q_sin s t z) : o_K s t = o_D (o_C (s - 1).toNat) s t 6 := by
  have h := k.1
  have e : s.toNat = (s - 1).toNat + 1 := by omega
  show o_C s.toNat s t = _
  rw [e]
  rfl
theorem o_sin6 (k : q_sin s t z) : q_sin s t (6 * s + t) := ⟨k.1, k.2.1, rfl, k.2.2.2⟩
/-- the rest below a top -/
theorem o_rest (k : q_sin s t z) {x : Int} (x0 : 0 ≤ x) (x6 : x < 6) (b : r_bit (s - g_2 t.toNat) x) : q_sin (s - g_2 t.toNat) x (6 * (s - g_2 t.toNat) + x) ∧ 6 * (s - g_2 t.toNat) + x < z ∧ s - g_2 t.toNat < s ∧ x ≠ t ∧ r_bit s x := by
  have d := o_del (by have := k.1; omega) k.1.2 k.2.1.1 k.2.1.2 k.2.2.2
  have r1 := o_bit_pos d.1.1 x0 x6 b
  have h := (d.2 x x0 x6).mp b
  have d1 := d.1
  have k1 := k.1
  have k3 := k.2.2.1
  have k2 := k.2.1
  exact ⟨⟨⟨r1, by omega⟩, ⟨x0, x6⟩, rfl, b⟩, by omega, d.1.2, h.2, h.1⟩
theorem o_C_K (k : q_sin s t z) {x : Int} (x0 : 0 ≤ x) (x6 : x < 6) (b : r_bit (s - g_2 t.toNat) x) : o_C (s - 1).toNat (s - g_2 t.toNat) x = o_K (s - g_2 t.toNat) x := by
  have r := o_rest k x0 x6 b
  have r1 := r.1.1
  have r3 := r.2.2.1
  exact o_C_fuel (s - 1).toNat _ x (by omega) r1.1 r1.2 x0 x6 b _ (by omega)
theorem o_Dl {x : Int} (s1 : 1 ≤ s) (s6 : s < 64) (t0 : 0 ≤ t) (t6 : t < 6) (b : r_bit s t) (x0 : 0 ≤ x) (x6 : x ≤ 6) : (o_D (o_C (s - 1).toNat) s t x.toNat).length ≤ 46656 := by
  have d := o_del (by omega) s6 t0 t6 b
  by_cases e : s = g_2 t.toNat
  · have L := o_D_len (C := o_C (s - 1).toNat) (s := s) (t := t) (m := 0) (fun y y0 y6 yb => absurd (o_bit_pos d.1.1 y0 y6 yb) (by omega)) x.toNat (by omega)
    rw [o_D_0y e] at L
    have : ([[t]] : List (List Int)).length = 1 := rfl
    omega
  · have L := o_D_len (C := o_C (s - 1).toNat) (s := s) (t := t) (m := 7776) (fun y y0 y6 yb => by
      have r1 := o_bit_pos d.1.1 y0 y6 yb
      exact Nat.le_trans (o_C_len (s - 1).toNat _ y (by omega) r1 (by omega) y0 y6 yb) (o_6_5 (by omega) (by omega))) x.toNat (by omega)
    rw [o_D_0n e, List.length_nil] at L
    omega
end ZX1
/-! ===== the ropes that hold, by sets ===== -/
section ZX2
variable {c st : Int → Int} {J : Int → Int → Int} {w W a : Int}
theorem o_T_s {z : Nat} : o_T c st J w W a (z + 1) = o_T c st J w W a z ++ @ite (List (List Int)) (q_sin ((z : Int) / 6) ((z : Int) % 6) z ∧ o_sub ((z : Int) / 6) a ∧ W ≤ c ((z : Int) / 6)) (Classical.propDecidable _) ((o_K ((z : Int) / 6) ((z : Int) % 6)).filter fun l => @decide (w ≤ o_h c st J l) (Classical.propDecidable _)) [] := rfl
theorem o_T_no {z : Nat} (d : ¬ (q_sin ((z : Int) / 6) ((z : Int) % 6) z ∧ o_sub ((z : Int) / 6) a ∧ W ≤ c ((z : Int) / 6))) : o_T c st J w W a (z + 1) = o_T c st J w W a z := by
  rw [o_T_s, if_neg d, List.append_nil]
theorem o_z6 {s t z : Int} (k : q_sin s t z) : z / 6 = s ∧ z % 6 = t ∧ 0 ≤ z ∧ z < 384 := by
  have k1 := k.1
  have k2 := k.2.1
  have k3 := k.2.2.1
  omega
theorem o_T_yes {s t : Int} {z : Nat} (k : q_sin s t z) (u : o_sub s a) (r : W ≤ c s) : o_T c st J w W a (z + 1) = o_T c st J w W a z ++ (o_K s t).filter fun l => @decide (w ≤ o_h c st J l) (Classical.propDecidable _) := by
  have e := o_z6 k
  rw [o_T_s, if_pos (by rw [e.1, e.2.1]; exact ⟨k, u, r⟩), e.1, e.2.1]
theorem o_T_mem {l : List Int} : ∀ z : Nat, l ∈ o_T c st J w W a z ↔ ∃ s t : Int, q_sin s t (6 * s + t) ∧ 6 * s + t < z ∧ o_sub s a ∧ W ≤ c s ∧ l ∈ o_K s t ∧ w ≤ o_h c st J l
  | 0 => by
    constructor
    · intro h; cases h
    · rintro ⟨s, t, h1, h2, -⟩
      have := h1.1
      have := h1.2.1
      omega
  | z + 1 => by
    have ih := o_T_mem (l := l) z
    constructor
    · intro h
      by_cases d : q_sin ((z : Int) / 6) ((z : Int) % 6) z ∧ o_sub ((z : Int) / 6) a ∧ W ≤ c ((z : Int) / 6)
      · rw [o_T_yes d.1 d.2.1 d.2.2] at h
        rcases List.mem_append.mp h with g | g
        · obtain ⟨s, t, h1, h2, h3⟩ := ih.mp g
          exact ⟨s, t, h1, by omega, h3⟩
        · obtain ⟨g1, g2⟩ := List.mem_filter.mp g
          exact ⟨(z : Int) / 6, (z : Int) % 6, o_sin6 d.1, by omega, d.2.1, d.2.2, g1, by simpa using g2⟩
      · rw [o_T_no d] at h
        obtain ⟨s, t, h1, h2, h3⟩ := ih.mp h
        exact ⟨s, t, h1, by omega, h3⟩
    · rintro ⟨s, t, h1, h2, h3, h4, h5, h6⟩
      by_cases g : 6 * s + t < z
      · rw [o_T_s]
        exact List.mem_append.mpr (Or.inl (ih.mpr ⟨s, t, h1, g, h3, h4, h5, h6⟩))
      · have ez : 6 * s + t = z := by omega
        have k : q_sin s t z := by rw [← ez]; exact h1
        rw [o_T_yes k h3 h4]
        exact List.mem_append.mpr (Or.inr (List.mem_filter.mpr ⟨h5, by simpa using h6⟩))
theorem o_T_nd : ∀ z : Nat, (o_T c st J w W a z).Nodup
  | 0 => List.nodup_nil
  | z + 1 => by
    have ih := o_T_nd z
    by_cases d : q_sin ((z : Int) / 6) ((z : Int) % 6) z ∧ o_sub ((z : Int) / 6) a ∧ W ≤ c ((z : Int) / 6)
    · rw [o_T_yes d.1 d.2.1 d.2.2]
      refine List.nodup_append.mpr ⟨ih, List.Pairwise.filter _ (o_K_nd d.1), ?_⟩
      intro l hl m hm e
      obtain ⟨s, t, h1, h2, h3, h4, h5, h6⟩ := (o_T_mem z).mp hl
      have k1 := (o_K_mem h1).mp h5
      have k2 := (o_K_mem d.1).mp (List.mem_filter.mp hm).1
      rw [← e] at k2
      have es := k1.2.1.symm.trans k2.2.1
      obtain ⟨x1, e1⟩ := k1.2.2
      obtain ⟨x2, e2⟩ := k2.2.2
      rw [e1] at e2
      have et := (List.cons.inj e2).1
      omega
    · rw [o_T_no d]
      exact ih
theorem o_T_len : ∀ z : Nat, (o_T c st J w W a z).length ≤ 7776 * z
  | 0 => Nat.le_refl _
  | z + 1 => by
    have ih := o_T_len z
    by_cases d : q_sin ((z : Int) / 6) ((z : Int) % 6) z ∧ o_sub ((z : Int) / 6) a ∧ W ≤ c ((z : Int) / 6)
    · rw [o_T_yes d.1 d.2.1 d.2.2, List.length_append]
      exact Nat.le_trans (Nat.add_le_add ih (Nat.le_trans (List.length_filter_le ..) (o_K_len d.1))) (by omega)
    · rw [o_T_no d]
      omega
theorem o_fil_n {X : List (List Int)} : ((X.filter fun l => @decide (w ≤ o_h c st J l) (Classical.propDecidable _)).length : Int) = o_n (fun l => w ≤ o_h c st J l) X := (o_n_len _ X).symm
/-- nothing more holds -/
theorem o_not_no {z r p i : Int} (T : q_not c st J w W a z r p i) (z6 : z < 384) (d : ∀ s t : Int, q_sin s t z → o_sub s a → W ≤ c s → o_n (fun l => w ≤ o_h c st J l) (o_K s t) ≤ 0) : q_not c st J w W a (z + 1) r p i := by
  have T0 := T.1
  have e9 : (z + 1).toNat = z.toNat + 1 := by omega
  have ez : ((z.toNat : Nat) : Int) = z := by omega
  have e : o_T c st J w W a (z + 1).toNat = o_T c st J w W a z.toNat := by
    rw [e9]
    by_cases g : q_sin ((z.toNat : Int) / 6) ((z.toNat : Int) % 6) z.toNat ∧ o_sub ((z.toNat : Int) / 6) a ∧ W ≤ c ((z.toNat : Int) / 6)
    · have g9 := g
      rw [ez] at g9
      have n := d _ _ g9.1 g9.2.1 g9.2.2
      rw [← o_fil_n] at n
      have f0 : ((o_K (z / 6) (z % 6)).filter fun l => @decide (w ≤ o_h c st J l) (Classical.propDecidable _)) = [] := List.eq_nil_of_length_eq_zero (by omega)
      rw [o_T_yes g.1 g.2.1 g.2.2, ez, f0, List.append_nil]
    · exact o_T_no g
  refine ⟨⟨⟨by omega, by omega⟩, T0.2⟩, ?_⟩
  rw [e]
  exact T.2
/-- some more hold -/
theorem o_not_yes {s t z r p i y h q i2 : Int} (T : q_not c st J w W a z r p i) (k : q_sin s t z) (u : o_sub s a) (rc : W ≤ c s) (y1 : 1 ≤ y) (ey : y = o_n (fun l => w ≤ o_h c st J l) (o_K s t)) (hM : o_M c st J h (o_K s t)) (hq : p ≤ q ∧ h ≤ q ∧ (q = p ∨ q = h)) (hi : g_op 101 i s = i2) : q_not c st J w W a (z + 1) (r + y) q i2 := by
  obtain ⟨T0, T1, T2, T3, T4⟩ := T
  have z6 := o_z6 k
  have e9 : (z + 1).toNat = z.toNat + 1 := by omega
  have ez : ((z.toNat : Nat) : Int) = z := by omega
  have e : o_T c st J w W a (z + 1).toNat = o_T c st J w W a z.toNat ++ (o_K s t).filter fun l => @decide (w ≤ o_h c st J l) (Classical.propDecidable _) := by
    rw [e9]
    exact o_T_yes (by rw [ez]; exact k) u rc
  have fn := o_fil_n (c := c) (st := st) (J := J) (w := w) (X := o_K s t)
  rw [← ey] at fn
  have fm : ∀ l : List Int, l ∈ ((o_K s t).filter fun l => @decide (w ≤ o_h c st J l) (Classical.propDecidable _)) ↔ l ∈ o_K s t ∧ w ≤ o_h c st J l := fun l => by
    rw [List.mem_filter]
    simp
  have wit : ∃ l : List Int, l ∈ o_K s t ∧ w ≤ o_h c st J l := by
    cases hf : ((o_K s t).filter fun l => @decide (w ≤ o_h c st J l) (Classical.propDecidable _)) with
    | nil =>
      rw [hf, List.length_nil] at fn
      omega
    | cons l X => exact ⟨l, (fm l).mp (by rw [hf]; exact List.mem_cons_self ..)⟩
  have b := r_and T3.1 T3.2 (by have := k.1; omega) k.1.2 hi
  have km : ∀ l : List Int, l ∈ o_K s t → ∀ g : Int, 0 ≤ g → g < 6 → (r_bit s g ↔ g ∈ l) := fun l hl g g0 g6 => by
    have m := (o_K_mem k).mp hl
    have n := (o_z_b l m.1).2 g g0 g6
    rw [m.2.1] at n
    exact n
  have hw := T0.2.1
  refine ⟨⟨⟨by omega, by omega⟩, T0.2⟩, ?_, ?_, b.1, ?_⟩
  · rw [e, List.length_append]
    omega
  · rw [e]
    obtain ⟨p1, p2, p3⟩ := T2
    obtain ⟨h1, h2, h3⟩ := hM
    obtain ⟨l0, l1, l2⟩ := wit
    have l3 := h2 l0 l1
    have hq9 : -2 ≤ q ∧ q ≤ 999 := by
      clear p3 h3
      omega
    refine ⟨hq9, fun l hl => ?_, ?_⟩
    · clear p3 h3
      rcases List.mem_append.mp hl with g | g
      · have := p2 l g; omega
      · have := h2 l ((fm l).mp g).1; omega
    · by_cases d : q = p
      · rcases p3 with g | ⟨l, m0, m1⟩
        · exact Or.inl (by omega)
        · exact Or.inr ⟨l, List.mem_append.mpr (Or.inl m0), by omega⟩
      · rcases h3 with g | ⟨l, m0, m1⟩
        · clear p3
          exact Or.inl (by omega)
        · clear p3
          exact Or.inr ⟨l, List.mem_append.mpr (Or.inr ((fm l).mpr ⟨m0, by omega⟩)), by omega⟩
  · intro g g0 g6
    rw [b.2 g g0 g6, T4 g g0 g6, e]
    constructor
    · rintro ⟨⟨a1, a2⟩, a3⟩
      refine ⟨a1, fun l hl => ?_⟩
      rcases List.mem_append.mp hl with x | x
      · exact a2 l x
      · exact (km l ((fm l).mp x).1 g g0 g6).mp a3
    · rintro ⟨a1, a2⟩
      obtain ⟨l0, l1, l2⟩ := wit
      exact ⟨⟨a1, fun l hl => a2 l (List.mem_append.mpr (Or.inl hl))⟩, (km l0 l1 g g0 g6).mpr (a2 l0 (List.mem_append.mpr (Or.inr ((fm l0).mpr ⟨l1, l2⟩))))⟩
theorem o_not_6 {z r p i : Int} (T : q_not c st J w W a z r p i) (z6 : z ≤ 378) (d : ∀ s t y : Int, z ≤ y → y < z + 6 → q_sin s t y → ¬ o_sub s a) : q_not c st J w W a (z + 6) r p i := by
  have T0 := T.1
  have n : ∀ k : Nat, k ≤ 6 → q_not c st J w W a (z + k) r p i := fun k => by
    induction k with
    | zero => exact fun _ => by rw [show z + ((0 : Nat) : Int) = z by omega]; exact T
    | succ k ih =>
      intro hk
      have h := o_not_no (ih (by omega)) (by omega) (fun s t q u _ => absurd u (d s t _ (by omega) (by omega) q))
      rw [show z + ((k + 1 : Nat) : Int) = z + k + 1 by omega]
      exact h
  have h6 := n 6 (Nat.le_refl _)
  rw [show z + ((6 : Nat) : Int) = z + 6 by omega] at h6
  exact h6
theorem o_not_0 (w0 : 0 ≤ w) (w9 : w ≤ 999) (a0 : 0 ≤ a) (a6 : a < 64) : q_not c st J w W a 6 0 (-2) a := by
  have e : o_T c st J w W a (6 : Int).toNat = [] := List.eq_nil_iff_forall_not_mem.mpr fun l h => by
    obtain ⟨s, t, h1, h2, -⟩ := (o_T_mem _).mp h
    have h3 := h1.1
    have h4 := h1.2.1
    have h5 : ((6 : Int).toNat : Int) = 6 := rfl
    omega
  refine ⟨⟨⟨by omega, by omega⟩, ⟨w0, w9⟩, a0, a6⟩, ?_, ?_, ⟨a0, a6⟩, ?_⟩
  · rw [e]; rfl
  · rw [e]
    exact ⟨⟨by omega, by omega⟩, (fun l h => by cases h), Or.inl rfl⟩
  · intro h h0 h6
    rw [e]
    exact ⟨fun x => ⟨x, fun l hl => by cases hl⟩, fun x => x.1⟩
end ZX2
/-! ===== one HOUSE more: what a list has ===== -/
theorem o_ss_add {A : Int → Int} {x y t : Int} (t0 : 0 ≤ t) (c : ¬ r_bit x t) (b : ∀ h : Int, 0 ≤ h → h < 6 → (r_bit y h ↔ (r_bit x h ∨ h = t))) : ∀ n : Nat, n ≤ 6 → g_ss A y n = g_ss A x n + if t < n then g_ha A t else 0
  | 0, _ => by
    rw [if_neg (by omega)]
    rfl
  | n + 1, hn => by
    have ih := o_ss_add (A := A) t0 c b n (by omega)
    have bn := b n (by omega) (by omega)
    have e1 : g_ss A y (n + 1) = g_ss A y n + if y / g_2 n % 2 = 1 then g_ha A n else 0 := rfl
    have e2 : g_ss A x (n + 1) = g_ss A x n + if x / g_2 n % 2 = 1 then g_ha A n else 0 := rfl
    rw [e1, e2, ih]
    by_cases d : t = n
    · have c9 : ¬ x / g_2 n % 2 = 1 := by
        rw [d] at c
        exact c
      have y9 : y / g_2 n % 2 = 1 := bn.mpr (Or.inr d.symm)
      rw [if_pos y9, if_neg c9, if_neg (show ¬ t < (n : Int) by omega), if_pos (show t < ((n + 1 : Nat) : Int) by omega), d]
      try omega
    · have k9 : (t < ((n + 1 : Nat) : Int)) ↔ t < (n : Int) := by omega
      by_cases y9 : y / g_2 n % 2 = 1
      · have x9 : x / g_2 n % 2 = 1 := by
          rcases bn.mp y9 with h | h
          · exact h
          · exact absurd h.symm d
        rw [if_pos y9, if_pos x9]
        by_cases k : t < (n : Int)
        · rw [if_pos k, if_pos (k9.mpr k)]; try omega
        · rw [if_neg k, if_neg (fun h => k (k9.mp h))]; try omega
      · have x9 : ¬ x / g_2 n % 2 = 1 := fun h => y9 (bn.mpr (Or.inl h))
        rw [if_neg y9, if_neg x9]
        by_cases k : t < (n : Int)
        · rw [if_pos k, if_pos (k9.mpr k)]; try omega
        · rw [if_neg k, if_neg (fun h => k (k9.mp h))]; try omega
theorem o_s_c {A : Int → Int} {t : Int} {l : List Int} (k : o_hl (t :: l)) : o_s (o_c A) (t :: l) = o_s (o_c A) l + g_ha A t := by
  obtain ⟨k1, k2, t0, t6⟩ := o_hl_tl k
  have b := o_z_b l k1
  have nb : ¬ r_bit (o_z l) t := fun h => k2 ((b.2 t t0 t6).mp h)
  have a := o_add b.1.1 b.1.2 t0 t6 nb
  have e : o_z (t :: l) = o_z l + g_2 t.toNat := Int.add_comm ..
  have h := o_ss_add (A := A) t0 nb a.2 6 (Nat.le_refl _)
  rw [if_pos (show t < ((6 : Nat) : Int) by omega)] at h
  show g_ss A (o_z (t :: l)) 6 = _
  rw [e, h]
  cases l with
  | nil =>
    have e0 : g_ss A (o_z []) 6 = 0 := g_ss_0 6
    rw [e0]
    rfl
  | cons u l => rfl
/-! ===== the same lists, by what the class keeps and by rows ===== -/
section ZX3
variable {c c' st st' : Int → Int} {J J' : Int → Int → Int} {P : Int → Prop}
theorem o_h_cg (hc : ∀ l : List Int, l ≠ [] → o_hl l → (∀ h ∈ l, P h) → c (o_z l) = c' (o_z l)) (hs : ∀ h : Int, P h → st h = st' h) (hj : ∀ t u : Int, P t → P u → t ≠ u → J t u = J' t u) : ∀ l : List Int, o_hl l → (∀ h ∈ l, P h) → o_h c st J l = o_h c' st' J' l ∧ o_s c l = o_s c' l
  | [], _, _ => ⟨rfl, rfl⟩
  | t :: l, k, p => by
    have k9 := o_hl_tl k
    have pt := p t (List.mem_cons_self ..)
    obtain ⟨ih, i2⟩ := o_h_cg hc hs hj l k9.1 (fun h hh => p h (List.mem_cons_of_mem _ hh))
    refine ⟨?_, hc (t :: l) (by simp) k p⟩
    have ej : o_j J t (o_h c st J l) (o_s c l) l = o_j J' t (o_h c' st' J' l) (o_s c' l) l := by
      rw [ih, i2]
      cases l with
      | nil => rfl
      | cons u l =>
        have pu := p u (List.mem_cons_of_mem _ (List.mem_cons_self ..))
        have tu : t ≠ u := fun e => k9.2.1 (by rw [e]; exact List.mem_cons_self ..)
        show o_m _ (J t u - _) = o_m _ (J' t u - _)
        rw [hj t u pt pu tu]
    show o_m (o_j J t (o_h c st J l) (o_s c l) l) (st t - o_s c l) = o_m (o_j J' t (o_h c' st' J' l) (o_s c' l) l) (st' t - o_s c' l)
    rw [ej, i2, hs t pt]
end ZX3
theorem o_ab_bit {A : Int → Int} {a : Int} (ea : a = g_ab A 6) {h : Int} (h0 : 0 ≤ h) (h6 : h < 6) : r_bit a h ↔ o_ab A h := by
  have e := r_bt_f (f := fun h => if 1 ≤ g_ha A h then 1 else 0) 6 (Nat.le_refl _) h.toNat (by omega)
  rw [show ((h.toNat : Nat) : Int) = h by omega] at e
  have ea2 : a = g_bt (fun h => if 1 ≤ g_ha A h then 1 else 0) 6 := ea
  unfold r_bit
  rw [ea2, e]
  constructor
  · rintro ⟨-, b⟩
    refine ⟨⟨h0, h6⟩, ?_⟩
    have b9 : (if 1 ≤ g_ha A h then (1 : Int) else 0) = 1 := b
    by_cases c : 1 ≤ g_ha A h
    · exact c
    · rw [if_neg c] at b9; omega
  · rintro ⟨-, b⟩
    exact ⟨by omega, if_pos b⟩
/-- what the class keeps is as the rows say -/
def o_agr (c st : Int → Int) (J : Int → Int → Int) (v : zVw) (K : Int → Int → Int) (A : Int → Int) (a : Int) : Prop := (0 ≤ a ∧ a < 64) ∧ (∀ h : Int, 0 ≤ h → h < 6 → (r_bit a h ↔ o_ab A h)) ∧ (∀ l : List Int, l ≠ [] → o_hl l → (∀ h ∈ l, o_ab A h) → c (o_z l) = o_c A (o_z l)) ∧ (∀ h : Int, o_ab A h → st h = o_S v A h) ∧ ∀ t u : Int, o_ab A t → o_ab A u → t ≠ u → J t u = K t u
section ZX4
variable {c st : Int → Int} {J K : Int → Int → Int} {v : zVw} {w W a r p i : Int} {A : Int → Int}
theorem o_TA (g : o_agr c st J v K A a) {l : List Int} : l ∈ o_T c st J w W a 384 ↔ l.reverse ∈ o_A (o_a A) ∧ o_Q v K A W w l.reverse := by
  obtain ⟨g1, g2, g3, g4, g5⟩ := g
  have ag : ∀ l : List Int, o_hl l → (∀ h ∈ l, o_ab A h) → o_h c st J l = o_h (o_c A) (o_S v A) K l ∧ o_s c l = o_s (o_c A) l := o_h_cg g3 g4 g5
  constructor
  · intro h
    obtain ⟨s, t, h1, h2, h3, h4, h5, h6⟩ := (o_T_mem _).mp h
    obtain ⟨m1, m2, x, m3⟩ := (o_K_mem h1).mp h5
    have b := o_z_b l m1
    have ab : ∀ h ∈ l, o_ab A h := fun h hh => by
      have hb := m1.2 h hh
      have := (b.2 h hb.1 hb.2).mpr hh
      rw [m2] at this
      exact (g2 h hb.1 hb.2).mp (h3.2.2 h hb.1 hb.2 this)
    have e := ag l m1 ab
    refine ⟨o_A_mem.mpr ⟨⟨?_, fun h hh => o_a_mem.mpr (ab h (List.mem_reverse.mp hh))⟩, ?_⟩, ?_⟩
    · show l.reverse.Pairwise (· ≠ ·)
      rw [List.pairwise_reverse]
      exact List.Pairwise.imp (fun {a b} h e => h e.symm) m1.1
    · rw [m3]
      simp
    · show o_P _ _ _ W w l.reverse.reverse
      rw [List.reverse_reverse]
      refine ⟨?_, by rw [← e.1]; exact h6⟩
      rw [← e.2, m3]
      show W ≤ c (o_z (t :: x))
      rw [← m3, m2]
      exact h4
  · rintro ⟨h1, h2⟩
    have o := o_A_mem.mp h1
    have h2' : o_P (o_c A) (o_S v A) K W w l.reverse.reverse := h2
    rw [List.reverse_reverse] at h2'
    have ab : ∀ h ∈ l, o_ab A h := fun h hh => o_a_mem.mp (o.1.2 h (List.mem_reverse.mpr hh))
    have n1 : l.Nodup := by
      have := o.1.1
      have t : l.reverse.Pairwise (· ≠ ·) := this
      rw [List.pairwise_reverse] at t
      exact List.Pairwise.imp (fun {a b} h e => h e.symm) t
    have k : o_hl l := ⟨n1, fun h hh => (ab h hh).1⟩
    have ln : l ≠ [] := fun z => o.2 (by rw [z]; rfl)
    have e := ag l k ab
    have b := o_z_b l k
    cases l with
    | nil => exact absurd rfl ln
    | cons t x =>
      have t6 := k.2 t (List.mem_cons_self ..)
      have tb := (b.2 t t6.1 t6.2).mpr (List.mem_cons_self ..)
      have s1 := o_bit_pos b.1.1 t6.1 t6.2 tb
      have sn : q_sin (o_z (t :: x)) t (6 * o_z (t :: x) + t) := ⟨⟨s1, b.1.2⟩, t6, rfl, tb⟩
      have h3 : W ≤ o_s (o_c A) (t :: x) := h2'.1
      rw [← e.2] at h3
      have h4 : w ≤ o_h (o_c A) (o_S v A) K (t :: x) := h2'.2
      rw [← e.1] at h4
      have b9 := b.1
      exact (o_T_mem _).mpr ⟨o_z (t :: x), t, sn, by omega, ⟨⟨s1, b.1.2⟩, g1, fun h h0 h6 hb => (g2 h h0 h6).mpr (ab h ((b.2 h h0 h6).mp hb))⟩, h3, (o_K_mem sn).mpr ⟨k, rfl, x, rfl⟩, h4⟩
theorem o_T_hl {l : List Int} (h : l ∈ o_T c st J w W a 384) : o_hl l ∧ w ≤ o_h c st J l := by
  obtain ⟨s, t, h1, h2, h3, h4, h5, h6⟩ := (o_T_mem _).mp h
  exact ⟨((o_K_mem h1).mp h5).1, h6⟩
theorem o_T_h (g : o_agr c st J v K A a) {l : List Int} (h : l ∈ o_T c st J w W a 384) : o_h c st J l = o_h (o_c A) (o_S v A) K l := by
  have k := (o_T_hl h).1
  have o := o_A_mem.mp ((o_TA g).mp h).1
  exact (o_h_cg g.2.2.1 g.2.2.2.1 g.2.2.2.2 l k (fun h hh => o_a_mem.mp (o.1.2 h (List.mem_reverse.mpr hh)))).1
theorem o_TA2 (g : o_agr c st J v K A a) {l : List Int} : l.reverse ∈ o_T c st J w W a 384 ↔ l ∈ o_A (o_a A) ∧ o_Q v K A W w l := by
  have h := o_TA (w := w) (W := W) g (l := l.reverse)
  rw [List.reverse_reverse] at h
  exact h
theorem o_384 : (384 : Int).toNat = 384 := rfl
theorem o_ordC (g : o_agr c st J v K A a) (T : q_not c st J w W a 384 r p i) : r = o_n (o_Q v K A W w) (o_A (o_a A)) := by
  rw [T.2.1, o_384, o_n_len]
  have h := o_same (l := (o_T c st J w W a 384).map List.reverse) (m := (o_A (o_a A)).filter fun x => @decide (o_Q v K A W w x) (Classical.propDecidable _)) (by
    show List.Pairwise (· ≠ ·) _
    rw [List.pairwise_map]
    exact List.Pairwise.imp (fun {a b} h e => h (List.reverse_inj.mp e)) (o_T_nd 384)) (List.Pairwise.filter _ (o_A_nd A)) (fun x => by
    rw [List.mem_map, List.mem_filter]
    constructor
    · rintro ⟨l, l0, l1⟩
      rw [← l1]
      have := (o_TA g).mp l0
      exact ⟨this.1, by simpa using this.2⟩
    · rintro ⟨x0, x1⟩
      exact ⟨x.reverse, (o_TA2 g).mpr ⟨x0, by simpa using x1⟩, List.reverse_reverse x⟩)
  rw [List.length_map] at h
  rw [h]
theorem o_T_ex (T : q_not c st J w W a 384 r p i) (r1 : 1 ≤ r) : ∃ l : List Int, l ∈ o_T c st J w W a 384 := by
  have e := T.2.1
  rw [o_384] at e
  cases h : o_T c st J w W a 384 with
  | nil =>
    rw [h, List.length_nil] at e
    omega
  | cons l X => exact ⟨l, List.mem_cons_self ..⟩
theorem o_T_no0 (T : q_not c st J w W a 384 r p i) (r1 : r ≤ 0) (l : List Int) : ¬ l ∈ o_T c st J w W a 384 := fun h => by
  have e := T.2.1
  rw [o_384] at e
  have := List.length_pos_of_mem h
  omega
theorem o_peaC (g : o_agr c st J v K A a) (T : q_not c st J 0 W a 384 r p i) (r1 : 1 ≤ r) : o_x v K A W p (o_A (o_a A)) := by
  have T2 := T.2.2.1
  rw [o_384] at T2
  obtain ⟨l0, l1⟩ := o_T_ex T r1
  obtain ⟨p1, p2, p3⟩ := T2
  have l2 := p2 l0 l1
  have l3 := (o_T_hl l1).2
  refine ⟨fun x x0 x1 => ?_, ?_⟩
  · have h := (o_TA2 g).mpr ⟨x0, x1⟩
    rw [← o_T_h g h]
    exact p2 _ h
  · rcases p3 with h | ⟨l, m0, m1⟩
    · exact absurd h (by omega)
    · refine Or.inr ⟨by omega, l.reverse, ((o_TA g).mp m0).1, ((o_TA g).mp m0).2, ?_⟩
      rw [List.reverse_reverse, ← o_T_h g m0]
      exact m1
theorem o_peaN (g : o_agr c st J v K A a) (T : q_not c st J 0 W a 384 r p i) (r1 : r ≤ 0) : o_x v K A W (-2) (o_A (o_a A)) := ⟨fun _ x0 x1 => absurd ((o_TA2 g).mpr ⟨x0, x1⟩) (o_T_no0 T r1 _), Or.inl rfl⟩
theorem o_neeC (g : o_agr c st J v K A a) (T : q_not c st J w W a 384 r p i) (r1 : 1 ≤ r) : o_i v K A w W (-2) i (o_A (o_a A)) := by
  have T4 := T.2.2.2.2
  rw [o_384] at T4
  obtain ⟨l0, l1⟩ := o_T_ex T r1
  refine Or.inr ⟨T.2.2.2.1, ⟨l0.reverse, ((o_TA g).mp l1).1, ((o_TA g).mp l1).2⟩, fun h h0 h6 => (T4 h h0 h6).trans ⟨fun x y y0 y1 => ?_, fun x => ⟨?_, fun l hl => ?_⟩⟩⟩
  · exact List.mem_reverse.mp (x.2 _ ((o_TA2 g).mpr ⟨y0, y1⟩))
  · have y := (o_TA g).mp l1
    have hm := x _ y.1 y.2
    exact (g.2.1 h h0 h6).mpr (o_a_mem.mp ((o_A_mem.mp y.1).1.2 h hm))
  · have y := (o_TA g).mp hl
    exact List.mem_reverse.mp (x _ y.1 y.2)
theorem o_neeN (g : o_agr c st J v K A a) (T : q_not c st J w W a 384 r p i) (r1 : r ≤ 0) : o_i v K A w W (-2) (-2) (o_A (o_a A)) := Or.inl ⟨rfl, fun _ x0 x1 => o_T_no0 T r1 _ ((o_TA2 g).mpr ⟨x0, x1⟩)⟩
end ZX4
end
