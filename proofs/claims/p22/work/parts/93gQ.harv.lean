/-! ===== a HOUSE whose HAIR is given away, at every e-th YEAR and at the end ===== -/
section ZQ1
variable {v : zVw} {H q b s h e N k n c : Int} {A B : Int → Int}
theorem g_hx_o {i : Int} (d : i ≠ h) : g_hx e N h k B i = B i := by
  unfold g_hx
  rw [if_neg (fun z => d z.1)]
theorem g_hx_y (d : g_op 108 k e ≤ 0 ∨ N ≤ k) : g_hx e N h k B h = 0 := by
  unfold g_hx
  rw [if_pos ⟨rfl, d⟩]
theorem g_hx_n (d : ¬ (g_op 108 k e ≤ 0 ∨ N ≤ k)) : g_hx e N h k B = B := by
  funext i
  unfold g_hx
  rw [if_neg (fun z => d z.2)]
theorem g_hx_v (e N h k : Int) (B : Int → Int) (i : Int) : g_hx e N h k B i = B i ∨ g_hx e N h k B i = 0 := by
  unfold g_hx
  by_cases d : i = h ∧ (g_op 108 k e ≤ 0 ∨ N ≤ k)
  · rw [if_pos d]; exact Or.inr rfl
  · rw [if_neg d]; exact Or.inl rfl
theorem g_wf.hx (w : g_wf H A) (h0 : 0 ≤ h) (h6 : h < 6) : g_wf H (g_hx e N h k A) := by
  refine w.cg (fun j j0 j6 => g_hx_o (by omega)) (g_hx_o (by omega)) (fun i i0 i6 => g_hx_o (by omega)) (fun j j0 j6 => ?_) (fun j j0 j6 => ?_)
  · have a := w.2.2.2.2.2.2.1 j j0 j6
    have a8 := w.2.2.2.2.2.1 j j0 j6
    rw [g_hx_o (i := 12 + j) (by omega)]
    have x := g_hx_v e N h k A j
    refine ⟨by omega, by omega, a.2.2.2.1, a.2.2.2.2, fun z => ?_⟩
    rcases a8 with ⟨a9, -⟩ | ⟨-, a9, -⟩
    · omega
    · exact a9
  · have a := w.2.2.2.2.2.2.2 j j0 j6
    have w1 := w.1.1; have x := g_hx_v e N h k A j
    rw [g_hx_o (i := 18 + j) (by omega)]
    exact ⟨by omega, a.2⟩
theorem g_sup.hx (t : g_sup A) : g_sup (g_hx e N h k A) := fun i hi => by
  have x := g_hx_v e N h k A i
  have y := t i hi
  omega
theorem g_hs_hx (E : g_hs h B A) : g_hs h (g_hx e N h k B) (g_hx e N h k A) := fun i hi => by
  unfold g_hx
  by_cases d : i = h ∧ (g_op 108 k e ≤ 0 ∨ N ≤ k)
  · rw [if_pos d, if_pos d]
  · rw [if_neg d, if_neg d]
    exact E i hi
/-- the row of a HOUSE alone and of all -/
theorem g_hs_h8 (h0 : 0 ≤ h) (hH : h < H) (H6 : H ≤ 6) : ∀ n : Nat, g_hs h (g_h8 v q b s H h e N A n) (g_h7 v q b s h e N A n)
  | 0 => fun _ _ => rfl
  | n + 1 => g_hs_hx (g_hs_yi (g_hs_ya (g_hs_h8 h0 hH H6 n) h0 hH H6))
/-! what is done, 7 and 8 -/
theorem g_F7a (h0 : 0 ≤ h) (h6 : h < 6) : g_F v q b s 7 n h c A = g_h7 v q b s h (c % 64) (c / 64) A n.toNat := by
  show (if h < 8 then g_h7 v q b s h (c % 64) (c / 64) A n.toNat else _) = _
  rw [if_pos (by omega)]
theorem g_F70 (h0 : 0 ≤ h) (h6 : h < 6) : g_F v q b s 7 0 h c A = A := by
  rw [g_F7a h0 h6]
  rfl
theorem g_F7b (h0 : 0 ≤ h) (h6 : h < 6) : g_F v q b s 7 n (h + 8) c A = g_y1 v q b s (g_F v q b s 7 n h c A) h := by
  rw [g_F7a h0 h6]
  show (if h + 8 < 8 then _ else if h + 8 < 16 then g_y1 v q b s (g_h7 v q b s (h + 8 - 8) (c % 64) (c / 64) A n.toNat) (h + 8 - 8) else _) = _
  rw [if_neg (by omega), if_pos (by omega), show h + 8 - 8 = h by omega]
theorem g_F7c (h0 : 0 ≤ h) (h6 : h < 6) : g_F v q b s 7 n (h + 16) c A = g_yi (g_F v q b s 7 n (h + 8) c A) := by
  rw [g_F7b h0 h6, g_F7a h0 h6]
  show (if h + 16 < 8 then _ else if h + 16 < 16 then _ else g_yi (g_y1 v q b s (g_h7 v q b s (h + 16 - 16) (c % 64) (c / 64) A n.toNat) (h + 16 - 16))) = _
  rw [if_neg (by omega), if_neg (by omega), show h + 16 - 16 = h by omega]
theorem g_F7d (h0 : 0 ≤ h) (h6 : h < 6) (n0 : 0 ≤ n) (kn : k = n + 1) : g_F v q b s 7 k h c A = g_hx (c % 64) (c / 64) h k (g_F v q b s 7 n (h + 16) c A) := by
  rw [g_F7c h0 h6, g_F7b h0 h6, g_F7a h0 h6, g_F7a h0 h6, show k.toNat = n.toNat + 1 by omega]
  show g_hx _ _ h (((n.toNat : Nat) : Int) + 1) _ = _
  rw [show ((n.toNat : Nat) : Int) + 1 = k by omega]
theorem g_F8a {a : Int} (a0 : 0 ≤ a) (a6 : a ≤ 6) : g_F v q b s 8 n a c A = g_ya v q b s (g_F v q b s 8 n 0 c A) a.toNat := by
  show (if a < 8 then g_ya v q b s (g_h8 v q b s (c % 8) (c / 8 % 8) (c / 64 % 64) (c / 4096) A n.toNat) a.toNat else _) = _
  rw [if_pos (by omega)]
  rfl
theorem g_F80 : g_F v q b s 8 0 0 c A = A := rfl
theorem g_F8z : g_F v q b s 8 n 0 c A = g_h8 v q b s (c % 8) (c / 8 % 8) (c / 64 % 64) (c / 4096) A n.toNat := rfl
theorem g_F8s {a : Int} (a0 : 0 ≤ a) (a6 : a < 6) : g_F v q b s 8 n (a + 1) c A = g_y1 v q b s (g_F v q b s 8 n a c A) a := by
  rw [g_F8a (a := a + 1) (by omega) (by omega), g_F8a (a := a) a0 (by omega), show (a + 1).toNat = a.toNat + 1 by omega]
  show g_y1 v q b s _ ((a.toNat : Nat) : Int) = _
  rw [show ((a.toNat : Nat) : Int) = a by omega]
theorem g_F8b (H0 : 0 ≤ H) (H6 : H ≤ 6) : g_F v q b s 8 n (H + 8) c A = g_yi (g_F v q b s 8 n H c A) := by
  rw [g_F8a H0 H6]
  show (if H + 8 < 8 then _ else g_yi (g_ya v q b s (g_h8 v q b s (c % 8) (c / 8 % 8) (c / 64 % 64) (c / 4096) A n.toNat) (H + 8 - 8).toNat)) = _
  rw [if_neg (by omega), show H + 8 - 8 = H by omega]
  rfl
theorem g_F8d (H0 : 0 ≤ H) (H6 : H ≤ 6) (n0 : 0 ≤ n) (kn : k = n + 1) (cH : c % 8 = H) (ch : c / 8 % 8 = h) (ce : c / 64 % 64 = e) (cN : c / 4096 = N) : g_F v q b s 8 k 0 c A = g_hx e N h k (g_F v q b s 8 n (H + 8) c A) := by
  rw [g_F8b H0 H6, g_F8a H0 H6, g_F8z, g_F8z, cH, ch, ce, cN, show k.toNat = n.toNat + 1 by omega]
  show g_hx _ _ h (((n.toNat : Nat) : Int) + 1) _ = _
  rw [show ((n.toNat : Nat) : Int) + 1 = k by omega]
theorem g_ya_sup8 (t : g_sup A) : ∀ n : Nat, (n : Int) ≤ 8 → g_sup (g_ya v q b s A n)
  | 0, _ => t
  | n + 1, hn => fun i hi => by
    show g_y1 v q b s (g_ya v q b s A n) n i = 0
    rw [g_y1_o (by omega) (by omega)]
    exact g_ya_sup8 t n (by omega) i hi
theorem g_h8_sup (t : g_sup A) (H8 : H ≤ 8) : ∀ n : Nat, g_sup (g_h8 v q b s H h e N A n)
  | 0 => t
  | n + 1 => (g_ya_sup8 (g_h8_sup t H8 n) H.toNat (by omega)).yi.hx
theorem g_F8_sup (t : g_sup A) {a : Int} (a0 : 0 ≤ a) (a6 : a ≤ 6) : g_sup (g_F v q b s 8 n a c A) := by
  rw [g_F8a a0 a6]
  exact g_ya_sup8 (by rw [g_F8z]; exact g_h8_sup t (by omega) _) _ (by omega)
/-- the HAIR behind a YEAR of all is that behind a YEAR of the HOUSE -/
theorem g_F8h {d : Int} (h0 : 0 ≤ h) (hH : h < H) (H6 : H ≤ 6) (cH : c % 8 = H) (ch : c / 8 % 8 = h) (ce : c / 64 % 64 = d % 64) (cN : c / 4096 = d / 64) : g_F v q b s 8 n (H + 8) c A h = g_F v q b s 7 n (h + 16) d A h := by
  rw [g_F8b (by omega) H6, g_F8a (by omega) H6, g_F8z, g_F7c h0 (by omega), g_F7b h0 (by omega), g_F7a h0 (by omega), cH, ch, ce, cN]
  exact g_hs_yi (g_hs_ya (g_hs_h8 h0 hH H6 n.toNat) h0 hH H6) h (Or.inl rfl)
/-! the trial's HAIR taken -/
theorem g_saz {ha gi wh le sr : Int → Int} {p y d x z : Int} (w : g_wf H A) (t : g_rv ha gi wh le sr H p y d = A) (hx : A h = x) : g_rv (q_up ha h x) gi wh le (q_up sr (-1) z) H p y d = A := by
  obtain ⟨-, p4, -⟩ := g_rv_pt w t
  rw [← t]
  refine g_rv_cg (fun k k0 k1 k6 => ⟨?_, rfl⟩) (fun j j0 j1 => ⟨rfl, rfl, ?_⟩)
  · unfold q_up
    split
    · next c9 => subst c9; rw [← hx]; exact (p4 k k0 k1).1.symm
    · rfl
  · unfold q_up
    rw [if_neg (by omega)]
theorem g_sax_hx {ha gi wh le sr : Int → Int} {p y d x z : Int} (w : g_wf H A) (t : g_rv (q_up ha h x) gi wh le (q_up sr (-1) z) H p y d = A) (h0 : 0 ≤ h) (hH : h < H) (hv : ha h = 0) (dd : g_op 108 k e ≤ 0 ∨ N ≤ k) : g_wf H (g_hx e N h k A) ∧ g_rv ha gi wh le sr H p y d = g_hx e N h k A := by
  have hH6 := w.1.2
  have w' : g_wf H (g_hx e N h k A) := w.hx h0 (by omega)
  have sA : g_sup A := by rw [← t]; exact fun i hi => g_rv_o hi
  refine ⟨w', g_pt_rv w' sA.hx ?_⟩
  obtain ⟨⟨p1, p2, p3⟩, p4, p5⟩ := g_rv_pt w t
  have w24 := w.2.1
  refine ⟨⟨?_, ?_, ?_⟩, fun j j0 j1 => ⟨?_, ?_⟩, fun i i0 i1 => ?_⟩
  · rw [g_hx_o (by omega)]; exact p1
  · rw [g_hx_o (by omega)]; exact p2
  · rw [g_hx_o (by omega)]; exact p3
  · by_cases c9 : j = h
    · rw [c9, g_hx_y dd]; exact hv
    · have e9 := (p4 j j0 j1).1
      unfold q_up at e9
      rw [if_neg c9] at e9
      rw [g_hx_o c9]; exact e9
  · rw [g_hx_o (by omega)]; exact (p4 j j0 j1).2
  · have e9 := p5 i i0 i1
    have hw := w.pl_lt i0 (by omega)
    rw [g_hx_o (i := 25 + i) (by omega)]
    refine ⟨e9.1, ?_, ?_⟩
    · rw [g_hx_o (by omega)]; exact e9.2.1
    · have e3 := e9.2.2
      unfold q_up at e3
      rw [if_neg (by omega)] at e3
      rw [g_hx_o (by omega)]
      exact e3
theorem g_sto70 {f : Nat} {p y d : Int} (T : q_sto v f H p y d 0 0 0 0 0 0 0) (h0 : 0 ≤ h) (h6 : h < 6) : q_sto v f H p y d q 0 0 7 0 h c := by
  unfold q_sto at T ⊢
  rw [g_F0] at T
  rw [g_F70 h0 h6]
  exact T
theorem g_rwo80 (T : q_rwo v H 0 0 0 0 0 0 0) : q_rwo v H q 0 0 8 0 0 c := by
  unfold q_rwo at T ⊢
  rw [g_F0] at T
  rw [g_F80]
  exact T
end ZQ1
/-! what it comes to -/
section ZQ2
variable {v : zVw} {q b s o a1 a2 a3 x1 x2 u h e N k n c g x y z : Int} {A : Int → Int}
theorem g_k54 (T : q_qry v 54 q b s o a1 a2 a3 x1 x2 u) : u = g_hv v q (x1 % 8) (x1 / 8 % 64) (x1 / 512) (g_F v q b s o a1 a2 a3 (g_nw v)) x2.toNat := T.2
theorem g_Q54 (h : u = g_hv v q (x1 % 8) (x1 / 8 % 64) (x1 / 512) A x2.toNat) : q_Q v q b s A 54 x1 x2 u := h
theorem g_k55 (T : q_qry v 55 q b s o a1 a2 a3 x1 x2 u) : g_hb v q (x1 % 8) (x1 / 8 % 64) (g_F v q b s o a1 a2 a3 (g_nw v)) (x1 / 512).toNat = (x2, u) := T.2
theorem g_Q55 (h : g_hb v q (x1 % 8) (x1 / 8 % 64) A (x1 / 512).toNat = (x2, u)) : q_Q v q b s A 55 x1 x2 u := h
theorem g_k56 (T : q_qry v 56 q b s o a1 a2 a3 x1 x2 u) : u = (if x2 = 0 then (g_hb v q (x1 % 8) (x1 / 8 % 64) (g_F v q b s o a1 a2 a3 (g_nw v)) (x1 / 512).toNat).1 else (g_hb v q (x1 % 8) (x1 / 8 % 64) (g_F v q b s o a1 a2 a3 (g_nw v)) (x1 / 512).toNat).2) := T.2
theorem g_Q56a (h : g_hb v q (x1 % 8) (x1 / 8 % 64) A (x1 / 512).toNat = (u, x2)) : q_Q v q b s A 56 x1 0 u := by
  show u = (if (0 : Int) = 0 then (g_hb v q (x1 % 8) (x1 / 8 % 64) A (x1 / 512).toNat).1 else _)
  rw [if_pos rfl, h]
theorem g_Q56b (h : g_hb v q (x1 % 8) (x1 / 8 % 64) A (x1 / 512).toNat = (x2, u)) : q_Q v q b s A 56 x1 1 u := by
  show u = (if (1 : Int) = 0 then _ else (g_hb v q (x1 % 8) (x1 / 8 % 64) A (x1 / 512).toNat).2)
  rw [if_neg (by decide), h]
theorem g_hv_s (n0 : 0 ≤ n) (kn : k = n + 1) : g_hv v q h e N A k.toNat = g_hv v q h e N A n.toNat + if g_op 108 k e ≤ 0 ∨ N ≤ k then g_y1 v q 0 0 (g_h7 v q 0 0 h e N A n.toNat) h h else 0 := by
  rw [show k.toNat = n.toNat + 1 by omega]
  show g_hv v q h e N A n.toNat + (if g_op 108 (((n.toNat : Nat) : Int) + 1) e ≤ 0 ∨ N ≤ ((n.toNat : Nat) : Int) + 1 then g_y1 v q 0 0 (g_h7 v q 0 0 h e N A n.toNat) h h else 0) = _
  rw [show ((n.toNat : Nat) : Int) + 1 = k by omega]
theorem g_hvY (h0 : 0 ≤ h) (h6 : h < 6) (n0 : 0 ≤ n) (kn : k = n + 1) (dd : g_op 108 k e ≤ 0 ∨ N ≤ k) (c6 : c % 64 = e) (c5 : c / 64 = N) (z0 : u = g_F v q 0 0 7 n (h + 16) c A h) (z1 : g = g_hv v q h e N A n.toNat) : g + u = g_hv v q h e N A k.toNat := by
  rw [g_hv_s n0 kn, if_pos dd, ← z1, z0, g_F7c h0 h6, g_yi_o (by omega), g_F7b h0 h6, g_F7a h0 h6, c6, c5]
theorem g_hvN (n0 : 0 ≤ n) (kn : k = n + 1) (dd : ¬ (g_op 108 k e ≤ 0 ∨ N ≤ k)) (z1 : g = g_hv v q h e N A n.toNat) : g = g_hv v q h e N A k.toNat := by
  rw [g_hv_s n0 kn, if_neg dd, ← z1, Int.add_zero]
theorem g_hb_s (k1 : 1 ≤ k) (z1 : g_hb v q h N A (k - 1).toNat = (x, y)) (z0 : g = g_hv v q h k N A N.toNat) : g_hb v q h N A k.toNat = if y < g then (k, g) else (x, y) := by
  have e9 : k.toNat = (k - 1).toNat + 1 := by omega
  have e8 : (((k - 1).toNat : Nat) : Int) + 1 = k := by omega
  rw [e9]
  show (if (g_hb v q h N A (k - 1).toNat).2 < g_hv v q h ((((k - 1).toNat : Nat) : Int) + 1) N A N.toNat then ((((k - 1).toNat : Nat) : Int) + 1, g_hv v q h ((((k - 1).toNat : Nat) : Int) + 1) N A N.toNat) else g_hb v q h N A (k - 1).toNat) = _
  rw [e8, z1, ← z0]
theorem g_hbY (k1 : 1 ≤ k) (z1 : g_hb v q h N A (k - 1).toNat = (x, y)) (z0 : g = g_hv v q h k N A N.toNat) (lt : y < g) : g_hb v q h N A k.toNat = (k, g) := by
  rw [g_hb_s k1 z1 z0, if_pos lt]
theorem g_hbN (k1 : 1 ≤ k) (z1 : g_hb v q h N A (k - 1).toNat = (x, y)) (z0 : g = g_hv v q h k N A N.toNat) (lt : g ≤ y) : g_hb v q h N A k.toNat = (x, y) := by
  rw [g_hb_s k1 z1 z0, if_neg (by omega)]
end ZQ2
