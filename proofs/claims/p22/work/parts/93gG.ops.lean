/-! ===== rows: what is done to them ===== -/
theorem g_op_div {a b : Int} (a0 : 0 ≤ a) (a1 : a ≤ 2147483647) (b0 : 1 ≤ b) (b1 : b ≤ 2147483647) : g_op 107 a b = a / b := by
  have ha := z_ofInt (z := a) (by omega) a1
  have hb := z_ofInt (z := b) (by omega) b1
  show (Int32.ofInt a / Int32.ofInt b).toInt = a / b
  rw [lg_idiv_nonneg (by omega) (by omega), ha, hb]
theorem g_op_rem {a b : Int} (a0 : 0 ≤ a) (a1 : a ≤ 2147483647) (b0 : 1 ≤ b) (b1 : b ≤ 2147483647) : g_op 108 a b = a % b := by
  have ha := z_ofInt (z := a) (by omega) a1
  have hb := z_ofInt (z := b) (by omega) b1
  show (Int32.ofInt a - Int32.ofInt a / Int32.ofInt b * Int32.ofInt b).toInt = a % b
  rw [rem_toInt, ha, hb, Int.tmod_eq_emod_of_nonneg a0]
theorem g_op_add {a b : Int} (h0 : -2147483648 ≤ a) (h1 : a ≤ 2147483647) (b0 : -2147483648 ≤ b) (b1 : b ≤ 2147483647) (l0 : -2147483648 ≤ a + b) (l1 : a + b ≤ 2147483647) : g_op 110 a b = a + b := by
  have ha := z_ofInt (z := a) h0 h1
  have hb := z_ofInt (z := b) b0 b1
  show (Int32.ofInt a + Int32.ofInt b).toInt = a + b
  rw [Int32.toInt_add, ha, hb]
  exact Int.bmod_eq_of_le (by omega) (by omega)
theorem g_op_b (k : Nat) (a b : Int) : -2147483648 ≤ g_op k a b ∧ g_op k a b ≤ 2147483647 := by
  unfold g_op
  have h1 := Int32.le_toInt (mOP k (Int32.ofInt a) (Int32.ofInt b))
  have h2 := Int32.toInt_lt (mOP k (Int32.ofInt a) (Int32.ofInt b))
  omega
theorem nI_toInt_sh (x : Int32) : (x.toUInt32 >>> 1).toInt32.toInt = ((x.toUInt32.toNat / 2 : Nat) : Int) := by
  have hl : x.toUInt32.toNat < 4294967296 := x.toUInt32.toNat_lt
  have e : (x.toUInt32 >>> 1).toInt32.toInt = (x.toUInt32 >>> 1).toBitVec.toInt := rfl
  have e2 : (x.toUInt32 >>> 1).toBitVec.toNat = x.toUInt32.toNat / 2 := by
    rw [UInt32.toNat_toBitVec, UInt32.toNat_shiftRight]
    rfl
  rw [e, BitVec.toInt_eq_toNat_of_lt (by rw [e2]; omega), e2]
theorem zushr1 (x : Int32) : 0 ≤ (x.toUInt32 >>> ((Int32.ofInt 1).toUInt32 &&& Int32.toUInt32 31)).toInt32.toInt := by
  have e : (Int32.ofInt 1).toUInt32 &&& Int32.toUInt32 31 = 1 := by decide
  rw [e, nI_toInt_sh x]
  omega
theorem g_op_shr1 (c : Int) : 0 ≤ g_op 106 c 1 ∧ g_op 106 c 1 ≤ 2147483647 := by
  have hz := zushr1 (Int32.ofInt c)
  have h2 := (g_op_b 106 c 1).2
  refine ⟨?_, h2⟩
  show 0 ≤ ((Int32.ofInt c).toUInt32 >>> ((Int32.ofInt 1).toUInt32 &&& Int32.toUInt32 31)).toInt32.toInt
  exact hz
theorem g_lot_b (z w : Int) : 0 ≤ g_lot z w ∧ g_lot z w ≤ 99 := by
  unfold g_lot
  have h := g_op_shr1 (g_mx (g_mx z 219) w)
  rw [g_op_rem h.1 h.2 (by omega) (by omega)]
  omega
theorem g_cl_b (m u : Int) (m0 : 0 ≤ m) : 0 ≤ g_cl m u ∧ g_cl m u ≤ m := by unfold g_cl; split; omega; split <;> omega
theorem g_lw_b (v : zVw) (q k : Int) (A : Int → Int) (h : Int) : 0 ≤ g_lw v q k A h ∧ g_lw v q k A h ≤ 99 := g_cl_b 99 _ (by omega)
/-! sums -/
theorem g_b_eq {f g : Int → Int} {o1 o2 : Int} (h : ∀ j : Int, 0 ≤ j → j < 33 → f (o1 + j) = g (o2 + j)) : g_b f o1 = g_b g o2 := by
  funext i
  unfold g_b
  by_cases c : 0 ≤ i ∧ i < 33
  · rw [if_pos c, if_pos c]; exact h i c.1 c.2
  · rw [if_neg c, if_neg c]
theorem g_b_fn {f A : Int → Int} {o : Int} (s : g_sup A) (h : ∀ j : Int, 0 ≤ j → j < 33 → f (o + j) = A j) : g_b f o = A := by
  funext i
  by_cases c : 0 ≤ i ∧ i < 33
  · rw [g_b_in c.1 c.2]; exact h i c.1 c.2
  · rw [s i (by omega)]; unfold g_b; rw [if_neg c]
theorem g_all33 {P : Int → Prop} (h0 : P 0) (h1 : P 1) (h2 : P 2) (h3 : P 3) (h4 : P 4) (h5 : P 5) (h6 : P 6) (h7 : P 7) (h8 : P 8) (h9 : P 9) (h10 : P 10) (h11 : P 11) (h12 : P 12) (h13 : P 13) (h14 : P 14) (h15 : P 15) (h16 : P 16) (h17 : P 17) (h18 : P 18) (h19 : P 19) (h20 : P 20) (h21 : P 21) (h22 : P 22) (h23 : P 23) (h24 : P 24) (h25 : P 25) (h26 : P 26) (h27 : P 27) (h28 : P 28) (h29 : P 29) (h30 : P 30) (h31 : P 31) (h32 : P 32) : ∀ j : Int, 0 ≤ j → j < 33 → P j := by
  intro j j0 j1
  have c : j = 0 ∨ j = 1 ∨ j = 2 ∨ j = 3 ∨ j = 4 ∨ j = 5 ∨ j = 6 ∨ j = 7 ∨ j = 8 ∨ j = 9 ∨ j = 10 ∨ j = 11 ∨ j = 12 ∨ j = 13 ∨ j = 14 ∨ j = 15 ∨ j = 16 ∨ j = 17 ∨ j = 18 ∨ j = 19 ∨ j = 20 ∨ j = 21 ∨ j = 22 ∨ j = 23 ∨ j = 24 ∨ j = 25 ∨ j = 26 ∨ j = 27 ∨ j = 28 ∨ j = 29 ∨ j = 30 ∨ j = 31 ∨ j = 32 := by omega
  rcases c with c | c | c | c | c | c | c | c | c | c | c | c | c | c | c | c | c | c | c | c | c | c | c | c | c | c | c | c | c | c | c | c | c <;> (rw [c]; assumption)
theorem g_all6 {P : Int → Prop} (h0 : P 0) (h1 : P 1) (h2 : P 2) (h3 : P 3) (h4 : P 4) (h5 : P 5) : ∀ j : Int, 0 ≤ j → j < 6 → P j := by
  intro j j0 j1
  have c : j = 0 ∨ j = 1 ∨ j = 2 ∨ j = 3 ∨ j = 4 ∨ j = 5 := by omega
  rcases c with c | c | c | c | c | c <;> (rw [c]; assumption)
/-! what the sentences give -/
section ZR3
variable {v : zVw} {f : Nat} {H p y d q b s o a1 a2 a3 c c' x1 x2 x3 x4 u u' : Int}
theorem g_nw_sup : g_sup (g_nw v) := g_sup_b
theorem g_sto_sup (T : q_sto v f H p y d q b s o a1 a2 a3) : g_sup (g_F v q b s o a1 a2 a3 (g_nw v)) := by rw [← T.2]; exact fun i hi => g_rv_o hi
theorem g_rwo_sup (T : q_rwo v H q b s o a1 a2 a3) : g_sup (g_F v q b s o a1 a2 a3 (g_nw v)) := by rw [← T.2]; exact g_sup_b
theorem g_sto_pt (T : q_sto v f H p y d q b s o a1 a2 a3) : g_pt (v (g_l f 1)) (v (g_l f 2)) (v (g_l f 3)) (v (g_l f 4)) (v (g_l f 5)) H p y d (g_F v q b s o a1 a2 a3 (g_nw v)) := g_rv_pt T.1.1 T.2
theorem g_st0_pt (T : q_sto v 0 H p y d q b s o a1 a2 a3) : g_pt (v 27) (v 28) (v 29) (v 30) (v 31) H p y d (g_F v q b s o a1 a2 a3 (g_nw v)) := g_sto_pt T
theorem g_rwo_at (T : q_rwo v H q b s o a1 a2 a3) {i : Int} (i0 : 0 ≤ i) (i1 : i < 33) : v 78 i = g_F v q b s o a1 a2 a3 (g_nw v) i := by rw [← T.2, g_b0 i0 i1]
theorem g_qs (T : q_sto v f H p y d q b s o a1 a2 a3) (h : q_Q v q b s (g_F v q b s o a1 a2 a3 (g_nw v)) c x1 x2 u) : q_qry v c q b s o a1 a2 a3 x1 x2 u := ⟨⟨H, T.1.1⟩, h⟩
theorem g_qr (T : q_rwo v H q b s o a1 a2 a3) (h : q_Q v q b s (g_F v q b s o a1 a2 a3 (g_nw v)) c x1 x2 u) : q_qry v c q b s o a1 a2 a3 x1 x2 u := ⟨⟨H, T.1.1⟩, h⟩
theorem g_qq (T : q_qry v c' q b s o a1 a2 a3 x3 x4 u') (h : q_Q v q b s (g_F v q b s o a1 a2 a3 (g_nw v)) c x1 x2 u) : q_qry v c q b s o a1 a2 a3 x1 x2 u := ⟨T.1, h⟩
end ZR3
/-! one's rows are the other's -/
section ZR4
variable {ha gi wh le sr ha' gi' wh' le' sr' : Int → Int} {H p y d : Int}
theorem g_rv_cg (c1 : ∀ k : Int, 0 ≤ k → k < H → k < 6 → ha k = ha' k ∧ gi k = gi' k) (c2 : ∀ j : Int, 0 ≤ j → j < p → wh j = wh' j ∧ le j = le' j ∧ sr j = sr' j) : g_rv ha gi wh le sr H p y d = g_rv ha' gi' wh' le' sr' H p y d := by
  have hpl : ∀ h : Int, g_pl wh h p.toNat = g_pl wh' h p.toNat := fun h => g_pl_cgI fun i i0 i1 => (c2 i i0 i1).1
  have hb : ∀ h : Int, g_pl wh' h p.toNat < p.toNat := fun h => (g_pl_b (w := wh') (h := h) p.toNat).2
  refine g_ext (fun i hi => g_rv_o hi) (fun i hi => g_rv_o hi) (fun h h0 h6 => ⟨?_, ?_, ?_, ?_, ?_⟩) (by rw [g_rv_p, g_rv_p]) (by rw [g_rv_y, g_rv_y]) (by rw [g_rv_d, g_rv_d])
  · rw [g_rv_h h0 h6, g_rv_h h0 h6]
    split
    · next c => exact (c1 h h0 c h6).1
    · rfl
  · rw [g_rv_l h0 h6, g_rv_l h0 h6, hpl]
    split
    · next c => exact (c2 _ c (by have := hb h; omega)).2.1
    · rfl
  · rw [g_rv_s h0 h6, g_rv_s h0 h6, hpl]
    split
    · next c => exact (c2 _ c (by have := hb h; omega)).2.2
    · rfl
  · rw [g_rv_g h0 h6, g_rv_g h0 h6]
    split
    · next c => exact (c1 h h0 c h6).2
    · rfl
  · rw [g_rv_w h0 h6, g_rv_w h0 h6]
    split
    · next c => exact (c2 h h0 c).1
    · rfl
end ZR4
/-! well-made rows that change -/
theorem g_wf.cg {H : Int} {A B : Int → Int} (w : g_wf H A) (e6 : ∀ h : Int, 0 ≤ h → h < 6 → B (6 + h) = A (6 + h)) (e24 : B 24 = A 24) (e25 : ∀ i : Int, 0 ≤ i → i < 6 → B (25 + i) = A (25 + i)) (eh : ∀ h : Int, 0 ≤ h → h < 6 → 0 ≤ B h ∧ B h ≤ 99 ∧ 0 ≤ B (12 + h) ∧ B (12 + h) ≤ 99 ∧ (A (6 + h) = 0 → B (12 + h) = 0)) (ez : ∀ h : Int, H ≤ h → h < 6 → B h = 0 ∧ B (18 + h) = 0) : g_wf H B := by
  obtain ⟨w1, w3, w5, w6, w7, w8, w9, w10⟩ := w
  refine ⟨w1, by rw [e24]; exact w3, fun i i0 i1 => ?_, fun i j i0 i1 j0 j1 e => ?_, fun i i0 i1 => ?_, fun h h0 h6 => ?_, fun h h0 h6 => ?_, ez⟩
  · rw [e24] at i1
    rw [e25 i i0 (by omega)]; exact w5 i i0 i1
  · rw [e24] at i1 j1
    rw [e25 i i0 (by omega), e25 j j0 (by omega)] at e
    exact w6 i j i0 i1 j0 j1 e
  · rw [e24] at i0
    rw [e25 i (by omega) i1]; exact w7 i i0 i1
  · rw [e6 h h0 h6, e24]
    rcases w8 h h0 h6 with ⟨a, i, i0, i1, e⟩ | ⟨a, b, c⟩
    · exact Or.inl ⟨a, i, i0, i1, by rw [e25 i i0 (by omega)]; exact e⟩
    · exact Or.inr ⟨a, (eh h h0 h6).2.2.2.2 a, fun i i0 i1 => by rw [e25 i i0 (by omega)]; exact c i i0 i1⟩
  · have := eh h h0 h6
    have := w9 h h0 h6
    rw [e6 h h0 h6]
    omega
section ZR5
variable {v : zVw} {q b s H : Int} {A : Int → Int}
theorem g_nha_b (w : g_wf H A) {h : Int} (h0 : 0 ≤ h) (h6 : h < 6) : 0 ≤ g_nha v q b s A h ∧ g_nha v q b s A h ≤ 99 := by
  have a := w.2.2.2.2.2.2.1 h h0 h6
  have l := g_lw_b v q 0 A h
  unfold g_nha
  split
  · rw [g_op_div a.1 (by omega) (by omega) (by omega)]
    omega
  · split <;> omega
theorem g_nst_b (w : g_wf H A) {h : Int} (h0 : 0 ≤ h) (h6 : h < 6) : 0 ≤ g_nst v q A h ∧ g_nst v q A h ≤ 99 ∧ (A (6 + h) = 0 → g_nst v q A h = 0) := by
  have a := w.2.2.2.2.2.2.1 h h0 h6
  have l := g_lw_b v q 1 A h
  unfold g_nst
  split
  · split <;> omega
  · omega
theorem g_y1_h {h : Int} : g_y1 v q b s A h h = g_nha v q b s A h := by unfold g_y1; rw [if_pos rfl]
theorem g_y1_s {h : Int} : g_y1 v q b s A h (12 + h) = g_nst v q A h := by unfold g_y1; rw [if_neg (by omega), if_pos rfl]
theorem g_y1_o {h i : Int} (c : i ≠ h) (c2 : i ≠ 12 + h) : g_y1 v q b s A h i = A i := by unfold g_y1; rw [if_neg c, if_neg c2]
theorem g_wf.y1 (w : g_wf H A) {h : Int} (h0 : 0 ≤ h) (hH : h < H) : g_wf H (g_y1 v q b s A h) := by
  have hH6 := w.1.2
  refine w.cg (fun k k0 k6 => g_y1_o (by omega) (by omega)) (g_y1_o (by omega) (by omega)) (fun i i0 i6 => g_y1_o (by omega) (by omega)) (fun k k0 k6 => ?_) (fun k k0 k6 => ?_)
  · have a := w.2.2.2.2.2.2.1 k k0 k6
    have a8 := w.2.2.2.2.2.1 k k0 k6
    by_cases c : k = h
    · subst c
      rw [g_y1_h, g_y1_s]
      have n1 := g_nha_b (v := v) (q := q) (b := b) (s := s) w k0 k6
      have n2 := g_nst_b (v := v) (q := q) w k0 k6
      exact ⟨n1.1, n1.2, n2.1, n2.2.1, n2.2.2⟩
    · rw [g_y1_o c (by omega), g_y1_o (by omega) (by omega)]
      refine ⟨a.1, a.2.1, a.2.2.2.1, a.2.2.2.2, fun z => ?_⟩
      rcases a8 with ⟨a9, -⟩ | ⟨-, a9, -⟩
      · omega
      · exact a9
  · rw [g_y1_o (by omega) (by omega), g_y1_o (by omega) (by omega)]
    exact w.2.2.2.2.2.2.2 k k0 k6
theorem g_sup.y1 (t : g_sup A) {h : Int} (h0 : 0 ≤ h) (h6 : h < 6) : g_sup (g_y1 v q b s A h) := fun i hi => by rw [g_y1_o (by omega) (by omega)]; exact t i hi
theorem g_yi_o {i : Int} (c : i ≠ 31) : g_yi A i = A i := by unfold g_yi; rw [if_neg c]
theorem g_yi_y : g_yi A 31 = g_op 110 (A 31) 1 := by unfold g_yi; rw [if_pos rfl]
theorem g_wf.same {B : Int → Int} (w : g_wf H A) (e : ∀ i : Int, i < 31 → B i = A i) : g_wf H B := by
  refine w.cg (fun k k0 k6 => e _ (by omega)) (e _ (by omega)) (fun i i0 i6 => e _ (by omega)) (fun k k0 k6 => ?_) (fun k k0 k6 => ?_)
  · have a := w.2.2.2.2.2.2.1 k k0 k6
    rw [e _ (by omega), e _ (by omega)]
    refine ⟨a.1, a.2.1, a.2.2.2.1, a.2.2.2.2, fun z => ?_⟩
    rcases w.2.2.2.2.2.1 k k0 k6 with ⟨a9, -⟩ | ⟨-, a9, -⟩
    · omega
    · exact a9
  · rw [e _ (by omega), e _ (by omega)]
    exact w.2.2.2.2.2.2.2 k k0 k6
theorem g_wf.yi (w : g_wf H A) : g_wf H (g_yi A) := w.same fun i hi => g_yi_o (by omega)
theorem g_sup.yi (t : g_sup A) : g_sup (g_yi A) := fun i hi => by rw [g_yi_o (by omega)]; exact t i hi
theorem g_drw_o {w i : Int} (c : i ≠ 32) : g_drw w A i = A i := by unfold g_drw; rw [if_neg c]
theorem g_drw_d {w : Int} : g_drw w A 32 = g_op 110 (A 32) w := by unfold g_drw; rw [if_pos rfl]
theorem g_wf.drw (w : g_wf H A) {x : Int} : g_wf H (g_drw x A) := w.same fun i hi => g_drw_o (by omega)
theorem g_sup.drw (t : g_sup A) {x : Int} : g_sup (g_drw x A) := fun i hi => by rw [g_drw_o (by omega)]; exact t i hi
/-- one HOUSE's YEAR in the State's arrays -/
theorem g_sax_y1 {ha gi wh le sr : Int → Int} {p y d h pl x z : Int} (w : g_wf H A) (t : g_rv (q_up ha h x) gi wh le (q_up sr pl z) H p y d = A) (at_ : g_at A h pl) (h0 : 0 ≤ h) (hH : h < H) (hv : ha h = g_nha v q b s A h) (hs : 0 ≤ pl → sr pl = g_nst v q A h) : g_wf H (g_y1 v q b s A h) ∧ g_rv ha gi wh le sr H p y d = g_y1 v q b s A h := by
  have hH6 := w.1.2
  have w' : g_wf H (g_y1 v q b s A h) := w.y1 h0 hH
  have sA : g_sup A := by rw [← t]; exact fun i hi => g_rv_o hi
  refine ⟨w', g_pt_rv w' (sA.y1 h0 (by omega)) ?_⟩
  obtain ⟨⟨p1, p2, p3⟩, p4, p5⟩ := g_rv_pt w t
  have w24 := w.2.1
  refine ⟨⟨?_, ?_, ?_⟩, fun k k0 k1 => ⟨?_, ?_⟩, fun i i0 i1 => ?_⟩
  · rw [g_y1_o (by omega) (by omega)]; exact p1
  · rw [g_y1_o (by omega) (by omega)]; exact p2
  · rw [g_y1_o (by omega) (by omega)]; exact p3
  · by_cases c : k = h
    · subst c; rw [g_y1_h]; exact hv
    · have := (p4 k k0 k1).1
      unfold q_up at this
      rw [if_neg c] at this
      rw [g_y1_o c (by omega)]; exact this
  · rw [g_y1_o (by omega) (by omega)]; exact (p4 k k0 k1).2
  · have e := p5 i i0 i1
    have hw := w.pl_lt i0 (by omega)
    rw [g_y1_o (i := 25 + i) (by omega) (by omega)]
    refine ⟨e.1, ?_, ?_⟩
    · rw [g_y1_o (by omega) (by omega)]; exact e.2.1
    · have e3 := e.2.2
      unfold q_up at e3
      by_cases c : A (25 + i) = h
      · have ei : i = pl := by
          have h1 := g_at_iff.mp at_
          have h2 := g_at_iff.mp (w.pl_in i0 (by omega))
          rw [c] at h2
          omega
        rw [c, g_y1_s, ei]
        exact hs (by omega)
      · rw [if_neg (by
          intro ei
          rcases at_ with ⟨a, b', c', d'⟩ | ⟨a, b'⟩
          · rw [ei] at c; exact c c'
          · omega)] at e3
        rw [g_y1_o (by omega) (by omega)]
        exact e3
theorem g_sax_mk {ha gi wh le sr : Int → Int} {p y d h pl x z : Int} (w : g_wf H A) (t : g_rv ha gi wh le sr H p y d = A) (at_ : g_at A h pl) (h0 : 0 ≤ h) (h6 : h < 6) (hx : A h = x) (hz : 0 ≤ pl → A (12 + h) = z) : g_rv (q_up ha h x) gi wh le (q_up sr pl z) H p y d = A := by
  obtain ⟨⟨p1, p2, p3⟩, p4, p5⟩ := g_rv_pt w t
  rw [← t]
  refine g_rv_cg (fun k k0 k1 k6 => ⟨?_, rfl⟩) (fun j j0 j1 => ⟨rfl, rfl, ?_⟩)
  · unfold q_up
    split
    · next c => subst c; rw [← hx]; exact (p4 k k0 k1).1.symm
    · rfl
  · unfold q_up
    split
    · next c =>
      subst c
      have e := (p5 j j0 j1).2.2
      rcases at_ with ⟨a, b', c', d'⟩ | ⟨a, b'⟩
      · rw [c', hz j0] at e; exact e.symm
      · omega
    · rfl
end ZR5
