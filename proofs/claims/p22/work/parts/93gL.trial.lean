noncomputable section
/-! ===== one HOUSE's YEARS alone, and those of all ===== -/
section ZL1
variable {v : zVw} {H q b s : Int} {A B : Int → Int} {h : Int}
/-- alike in all that is a HOUSE's, the places and what is counted -/
def g_hs (h : Int) (B A : Int → Int) : Prop := ∀ i : Int, i = h ∨ i = 6 + h ∨ i = 12 + h ∨ i = 18 + h ∨ 24 ≤ i → B i = A i
theorem g_lw_hs (E : g_hs h B A) (k : Int) : g_lw v q k B h = g_lw v q k A h := by
  unfold g_lw
  rw [g_raw_cg (g_lk_cg (E _ (by omega)) (E _ (by omega)) (E _ (by omega)) (E _ (by omega)) (E _ (by omega)) (fun i i0 i1 => E _ (by omega)) (E _ (by omega)))]
theorem g_nha_hs (E : g_hs h B A) : g_nha v q b s B h = g_nha v q b s A h := by
  unfold g_nha g_bli
  rw [E 31 (by omega), E h (by omega), g_lw_hs E 0]
theorem g_nst_hs (E : g_hs h B A) : g_nst v q B h = g_nst v q A h := by
  unfold g_nst
  rw [E (6 + h) (by omega), E (12 + h) (by omega), g_lw_hs E 1]
theorem g_hs_y1 (E : g_hs h B A) (h0 : 0 ≤ h) (h6 : h < 6) : g_hs h (g_y1 v q b s B h) (g_y1 v q b s A h) := fun i hi => by
  by_cases c : i = h
  · rw [c, g_y1_h, g_y1_h, g_nha_hs E]
  · by_cases c2 : i = 12 + h
    · rw [c2, g_y1_s, g_y1_s, g_nst_hs E]
    · rw [g_y1_o c c2, g_y1_o c c2, E i hi]
theorem g_hs_lo (E : g_hs h B A) {n : Nat} (hn : (n : Int) ≤ h) (h6 : h < 6) : g_hs h (g_ya v q b s B n) A := fun i hi => by
  have e := g_ya_h (v := v) (q := q) (b := b) (s := s) (A := B) n hn h6
  rcases hi with c | c | c | c | c
  · rw [c, e.1, E h (by omega)]
  · rw [c, g_ya_o n (by omega) (by omega), E _ (by omega)]
  · rw [c, e.2, E _ (by omega)]
  · rw [c, g_ya_o n (by omega) (by omega), E _ (by omega)]
  · rw [g_ya_o n (by omega) (by omega), E _ (by omega)]
theorem g_hs_up (E : g_hs h B A) (h0 : 0 ≤ h) (h6 : h < 6) : ∀ d : Nat, h + 1 + d ≤ 6 → g_hs h (g_ya v q b s B (h.toNat + 1 + d)) (g_y1 v q b s A h)
  | 0, _ => by
    show g_hs h (g_y1 v q b s (g_ya v q b s B h.toNat) ((h.toNat : Nat) : Int)) (g_y1 v q b s A h)
    rw [show ((h.toNat : Nat) : Int) = h by omega]
    exact g_hs_y1 (g_hs_lo E (by omega) h6) h0 h6
  | d + 1, hd => fun i hi => by
    have ih := g_hs_up E h0 h6 d (by omega) i hi
    show g_y1 v q b s (g_ya v q b s B (h.toNat + 1 + d)) ((h.toNat + 1 + d : Nat) : Int) i = _
    rw [g_y1_o (by omega) (by omega)]
    exact ih
theorem g_hs_ya (E : g_hs h B A) (h0 : 0 ≤ h) (hH : h < H) (H6 : H ≤ 6) : g_hs h (g_ya v q b s B H.toNat) (g_y1 v q b s A h) := by
  rw [show H.toNat = h.toNat + 1 + (H - h - 1).toNat by omega]
  exact g_hs_up E h0 (by omega) _ (by omega)
theorem g_hs_yi (E : g_hs h B A) : g_hs h (g_yi B) (g_yi A) := fun i hi => by
  by_cases c : i = 31
  · rw [c, g_yi_y, g_yi_y, E 31 (by omega)]
  · rw [g_yi_o c, g_yi_o c, E i hi]
theorem g_hs_yr (h0 : 0 ≤ h) (hH : h < H) (H6 : H ≤ 6) : ∀ n : Nat, g_hs h (g_yr v q b s H A n) (g_ys v q b s h A n)
  | 0 => fun _ _ => rfl
  | n + 1 => g_hs_yi (g_hs_ya (g_hs_yr h0 hH H6 n) h0 hH H6)
theorem g_wf_ya (w : g_wf H A) : ∀ n : Nat, (n : Int) ≤ H → g_wf H (g_ya v q b s A n)
  | 0, _ => w
  | n + 1, hn => (g_wf_ya w n (by omega)).y1 (by omega) (by omega)
theorem g_wf_yr (w : g_wf H A) : ∀ n : Nat, g_wf H (g_yr v q b s H A n)
  | 0 => w
  | n + 1 => (g_wf_ya (g_wf_yr w n) H.toNat (by have := w.1; omega)).yi
theorem g_F4 {n : Int} : g_F v q b s 4 n 0 H A = g_yr v q b s H A n.toNat := rfl
theorem g_F5 {n : Int} : g_F v q b s 5 n h 0 A = g_ys v q b s h A n.toNat := rfl
theorem g_F0 {o1 o2 o3 : Int} : g_F v q b s 0 o1 o2 o3 A = A := rfl
theorem g_F50 : g_F v q b s 5 0 h 0 A = A := rfl
theorem g_F40 : g_F v q b s 4 0 0 H A = A := rfl
theorem g_hs_F {n : Int} (h0 : 0 ≤ h) (hH : h < H) (H6 : H ≤ 6) : g_hs h (g_F v q b s 4 n 0 H A) (g_F v q b s 5 n h 0 A) := g_hs_yr h0 hH H6 n.toNat
theorem g_wf_F4 {n : Int} (w : g_wf H A) : g_wf H (g_F v q b s 4 n 0 H A) := g_wf_yr w n.toNat
end ZL1
/-! how many of some are so much -/
section ZL2
variable {f : Int → Int} {w i : Int}
theorem g_ye0 : (0 : Int) = g_ye f w (0 : Int).toNat := rfl
theorem g_ye_s (i0 : 0 ≤ i) : g_ye f w (i + 1).toNat = g_ye f w i.toNat + if w ≤ f i then 1 else 0 := by
  rw [show (i + 1).toNat = i.toNat + 1 by omega]
  show g_ye f w i.toNat + (if w ≤ f ((i.toNat : Nat) : Int) then 1 else 0) = _
  rw [show ((i.toNat : Nat) : Int) = i by omega]
theorem g_ye_b : ∀ n : Nat, 0 ≤ g_ye f w n ∧ g_ye f w n ≤ n
  | 0 => ⟨Int.le_refl _, Int.le_refl _⟩
  | n + 1 => by
    have h := g_ye_b n
    show 0 ≤ g_ye f w n + (if w ≤ f n then 1 else 0) ∧ g_ye f w n + (if w ≤ f n then 1 else 0) ≤ ((n + 1 : Nat) : Int)
    by_cases c : w ≤ f n
    · rw [if_pos c]; omega
    · rw [if_neg c]; omega
end ZL2
/-! the trial -/
section ZL3
variable {v : zVw} {H p y d q b s o a1 a2 a3 x1 x2 u w m i : Int} {A : Int → Int}
theorem g_st1_pt (T : q_sto v 1 H p y d q b s o a1 a2 a3) : g_pt (v 107) (v 108) (v 109) (v 110) (v 111) H p y d (g_F v q b s o a1 a2 a3 (g_nw v)) := g_sto_pt T
theorem g_sto50 {f : Nat} {h : Int} (T : q_sto v f H p y d 0 0 0 0 0 0 0) : q_sto v f H p y d q b s 5 0 h 0 := by
  unfold q_sto at T ⊢
  rw [g_F0] at T
  rw [g_F50]
  exact T
theorem g_sto40 {f : Nat} (T : q_sto v f H p y d 0 0 0 0 0 0 0) : q_sto v f H p y d q b s 4 0 0 H := by
  unfold q_sto at T ⊢
  rw [g_F0] at T
  rw [g_F40]
  exact T
theorem g_rwo40 (T : q_rwo v H 0 0 0 0 0 0 0) : q_rwo v H q b s 4 0 0 H := by
  unfold q_rwo at T ⊢
  rw [g_F0] at T
  rw [g_F40]
  exact T
theorem g_brk1 (T0 : q_mgn v q b s o a1 a2 a3 (-2) m) (T1 : (0 ≤ i ∧ i < m ∧ v 25 i < w ∧ ∀ t : Int, 0 ≤ t → t < i → w ≤ v 25 t) ∨ (i = -1 ∧ ∀ t : Int, 0 ≤ t → t < m → w ≤ v 25 t)) (C0 : 0 ≤ i) (C1 : w ≤ 9999) : g_br v q (g_F v q b s o a1 a2 a3 (g_nw v)) w (i + 1) := by
  obtain ⟨h9, h8, h7⟩ := T0
  have h6 : ∀ t : Int, 0 ≤ t → t < m → v 25 t = g_sp v q (g_F v q b s o a1 a2 a3 (g_nw v)) (t + 1) := fun t t0 t1 => h7 t t0 (by omega) t1
  obtain ⟨H9, w9⟩ := id h9
  have w24 := w9.2.1
  have h5 : m ≤ 2 * g_F v q b s o a1 a2 a3 (g_nw v) 24 - 1 ∨ m = 0 := by
    rw [h8]; split <;> omega
  rcases T1 with ⟨i0, i1, i2, i3⟩ | ⟨i0, -⟩
  · refine Or.inl ⟨by omega, by omega, by rw [← h6 i i0 i1]; exact i2, fun k k0 k1 => ?_⟩
    by_cases c9 : k = 0
    · rw [c9, g_sp_0]; omega
    · have h4 := h6 (k - 1) (by omega) (by omega)
      rw [show k - 1 + 1 = k by omega] at h4
      rw [← h4]; exact i3 (k - 1) (by omega) (by omega)
  · omega
theorem g_brk0 (T0 : q_mgn v q b s o a1 a2 a3 (-2) m) (T1 : (0 ≤ (-1 : Int) ∧ (-1 : Int) < m ∧ v 25 (-1 : Int) < w ∧ ∀ t : Int, 0 ≤ t → t < (-1 : Int) → w ≤ v 25 t) ∨ ((-1 : Int) = -1 ∧ ∀ t : Int, 0 ≤ t → t < m → w ≤ v 25 t)) (C1 : w ≤ 9999) : g_br v q (g_F v q b s o a1 a2 a3 (g_nw v)) w (-1) := by
  obtain ⟨h9, h8, h7⟩ := T0
  have h6 : ∀ t : Int, 0 ≤ t → t < m → v 25 t = g_sp v q (g_F v q b s o a1 a2 a3 (g_nw v)) (t + 1) := fun t t0 t1 => h7 t t0 (by omega) t1
  have hm : ∀ k : Int, k < 2 * g_F v q b s o a1 a2 a3 (g_nw v) 24 → 1 ≤ k → k - 1 < m := fun k k1 k2 => by
    rw [h8]; split <;> omega
  rcases T1 with ⟨i0, i1, i2, i3⟩ | ⟨-, i3⟩
  · omega
  · refine Or.inr ⟨rfl, fun k k0 k1 => ?_⟩
    by_cases c9 : k = 0
    · rw [c9, g_sp_0]; omega
    · have h5 := hm k k1 (by omega)
      have h4 := h6 (k - 1) (by omega) h5
      rw [show k - 1 + 1 = k by omega] at h4
      rw [← h4]; exact i3 (k - 1) (by omega) h5
theorem g_k40 (T : q_qry v 40 q b s o a1 a2 a3 x1 x2 u) : u = g_ye (fun k => g_ys v q b (s + k) (x1 % 6) (g_F v q b s o a1 a2 a3 (g_nw v)) (x1 / 600).toNat (x1 % 6)) (x1 / 6 % 100) x2.toNat := T.2
theorem g_Q40 (h : u = g_ye (fun k => g_ys v q b (s + k) (x1 % 6) A (x1 / 600).toNat (x1 % 6)) (x1 / 6 % 100) x2.toNat) : q_Q v q b s A 40 x1 x2 u := h
theorem g_k41 (T : q_qry v 41 q b s o a1 a2 a3 x1 x2 u) : ∀ k : Int, 0 ≤ k → k < x2 → g_br v q (g_yr v q 0 0 (x1 % 10) (g_F v q b s o a1 a2 a3 (g_nw v)) k.toNat) (x1 / 10) (-1) := T.2
theorem g_Q41 (h : ∀ k : Int, 0 ≤ k → k < x2 → g_br v q (g_yr v q 0 0 (x1 % 10) A k.toNat) (x1 / 10) (-1)) : q_Q v q b s A 41 x1 x2 u := h
theorem g_k42 (T : q_qry v 42 q b s o a1 a2 a3 x1 x2 u) : (0 ≤ u ∧ u ≤ 60 ∧ (∀ k : Int, 0 ≤ k → k < u → g_br v q (g_yr v q 0 0 (x1 % 10) (g_F v q b s o a1 a2 a3 (g_nw v)) k.toNat) (x1 / 10) (-1)) ∧ ∃ i : Int, 0 ≤ i ∧ g_br v q (g_yr v q 0 0 (x1 % 10) (g_F v q b s o a1 a2 a3 (g_nw v)) u.toNat) (x1 / 10) i) ∨ (u = -2 ∧ ∀ k : Int, 0 ≤ k → k < 61 → g_br v q (g_yr v q 0 0 (x1 % 10) (g_F v q b s o a1 a2 a3 (g_nw v)) k.toNat) (x1 / 10) (-1)) := T.2
theorem g_Q42 (h : (0 ≤ u ∧ u ≤ 60 ∧ (∀ k : Int, 0 ≤ k → k < u → g_br v q (g_yr v q 0 0 (x1 % 10) A k.toNat) (x1 / 10) (-1)) ∧ ∃ i : Int, 0 ≤ i ∧ g_br v q (g_yr v q 0 0 (x1 % 10) A u.toNat) (x1 / 10) i) ∨ (u = -2 ∧ ∀ k : Int, 0 ≤ k → k < 61 → g_br v q (g_yr v q 0 0 (x1 % 10) A k.toNat) (x1 / 10) (-1))) : q_Q v q b s A 42 x1 x2 u := h
theorem g_Q25s {h : Int} (c : 0 ≤ g_lot s (g_op 110 (g_op 100 8 (A 31)) h)) : q_Q v q 0 s A 25 h 0 0 := by
  show (0 : Int) = g_bli 0 s A h
  unfold g_bli
  rw [if_neg (by omega)]
theorem g_la_eq {f : Int → Int → Prop} {u' : Int} (fe : ∀ k i i' : Int, f k i → f k i' → i = i') (h : (0 ≤ u ∧ u ≤ 60 ∧ (∀ k : Int, 0 ≤ k → k < u → f k (-1)) ∧ ∃ i : Int, 0 ≤ i ∧ f u i) ∨ (u = -2 ∧ ∀ k : Int, 0 ≤ k → k < 61 → f k (-1))) (h' : (0 ≤ u' ∧ u' ≤ 60 ∧ (∀ k : Int, 0 ≤ k → k < u' → f k (-1)) ∧ ∃ i : Int, 0 ≤ i ∧ f u' i) ∨ (u' = -2 ∧ ∀ k : Int, 0 ≤ k → k < 61 → f k (-1))) : u = u' := by
  rcases h with ⟨a, b', c, i, d, e⟩ | ⟨a, c⟩ <;> rcases h' with ⟨a', b2, c', i', d', e'⟩ | ⟨a', c'⟩
  · rcases Int.lt_trichotomy u u' with x | x | x
    · have := fe _ _ _ e (c' u a x); omega
    · exact x
    · have := fe _ _ _ e' (c u' a' x); omega
  · have := fe _ _ _ e (c' u a (by omega)); omega
  · have := fe _ _ _ e' (c u' a' (by omega)); omega
  · omega
end ZL3
end
