noncomputable section
/-! ===== two places exchanged ===== -/
section ZN1
variable {v : zVw} {H q b s p y d : Int} {A : Int → Int} {i j k : Int}
theorem g_ex_a : g_ex i j A (25 + i) = A (25 + j) := by unfold g_ex; rw [if_pos rfl]
theorem g_ex_b (c : i ≠ j) : g_ex i j A (25 + j) = A (25 + i) := by unfold g_ex; rw [if_neg (by omega), if_pos rfl]
theorem g_ex_o (c : k ≠ 25 + i) (c2 : k ≠ 25 + j) : g_ex i j A k = A k := by unfold g_ex; rw [if_neg c, if_neg c2]
/-- which place comes to t -/
def g_pi (i j t : Int) : Int := if t = i then j else if t = j then i else t
theorem g_ex_pi (t : Int) : g_ex i j A (25 + t) = A (25 + g_pi i j t) := by
  unfold g_ex g_pi
  by_cases c : t = i
  · rw [if_pos (by omega), if_pos c]
  · rw [if_neg (by omega), if_neg c]
    by_cases c2 : t = j
    · rw [if_pos (by omega), if_pos c2]
    · rw [if_neg (by omega), if_neg c2]
theorem g_pi_b {p t : Int} (i0 : 0 ≤ i) (ip : i < p) (j0 : 0 ≤ j) (jp : j < p) (t0 : 0 ≤ t) (tp : t < p) : 0 ≤ g_pi i j t ∧ g_pi i j t < p := by
  unfold g_pi
  by_cases c : t = i
  · rw [if_pos c]; omega
  · rw [if_neg c]
    by_cases c2 : t = j
    · rw [if_pos c2]; omega
    · rw [if_neg c2]; omega
theorem g_pi_pi (t : Int) : g_pi i j (g_pi i j t) = t := by
  unfold g_pi
  by_cases c : t = i
  · rw [if_pos c]
    by_cases c3 : j = i
    · rw [if_pos c3]; omega
    · rw [if_neg c3, if_pos rfl]; omega
  · rw [if_neg c]
    by_cases c2 : t = j
    · rw [if_pos c2, if_pos rfl]; omega
    · rw [if_neg c2, if_neg c, if_neg c2]
theorem g_wf.ex (w : g_wf H A) (i0 : 0 ≤ i) (ip : i < A 24) (j0 : 0 ≤ j) (jp : j < A 24) : g_wf H (g_ex i j A) := by
  obtain ⟨w1, w3, w5, w6, w7, w8, w9, w10⟩ := w
  have e24 : g_ex i j A 24 = A 24 := g_ex_o (by omega) (by omega)
  have eo : ∀ k : Int, k < 25 → g_ex i j A k = A k := fun k hk => g_ex_o (by omega) (by omega)
  refine ⟨w1, by rw [e24]; exact w3, fun t t0 t1 => ?_, fun t u t0 t1 u0 u1 e => ?_, fun t t0 t1 => ?_, fun k k0 k6 => ?_, fun k k0 k6 => ?_, fun k k0 k6 => ?_⟩
  · rw [e24] at t1
    have b := g_pi_b i0 ip j0 jp t0 t1
    rw [g_ex_pi]
    exact w5 _ b.1 b.2
  · rw [e24] at t1 u1
    have b := g_pi_b i0 ip j0 jp t0 t1
    have b2 := g_pi_b i0 ip j0 jp u0 u1
    rw [g_ex_pi, g_ex_pi] at e
    have e2 := w6 _ _ b.1 b.2 b2.1 b2.2 e
    have e3 := congrArg (g_pi i j) e2
    rw [g_pi_pi, g_pi_pi] at e3
    exact e3
  · rw [e24] at t0
    rw [g_ex_o (by omega) (by omega)]
    exact w7 t t0 t1
  · rw [eo (6 + k) (by omega), eo (12 + k) (by omega), e24]
    rcases w8 k k0 k6 with ⟨a, t, t0, t1, e⟩ | ⟨a, a2, a3⟩
    · refine Or.inl ⟨a, g_pi i j t, ?_⟩
      have b := g_pi_b i0 ip j0 jp t0 t1
      exact ⟨b.1, b.2, by rw [g_ex_pi, g_pi_pi]; exact e⟩
    · refine Or.inr ⟨a, a2, fun t t0 t1 => ?_⟩
      have b := g_pi_b i0 ip j0 jp t0 t1
      rw [g_ex_pi]
      exact a3 _ b.1 b.2
  · rw [eo k (by omega), eo (6 + k) (by omega), eo (12 + k) (by omega)]
    exact w9 k k0 k6
  · rw [eo k (by omega), eo (18 + k) (by omega)]
    exact w10 k k0 k6
theorem g_sup.ex (t : g_sup A) (i0 : 0 ≤ i) (i6 : i < 6) (j0 : 0 ≤ j) (j6 : j < 6) : g_sup (g_ex i j A) := fun k hk => by rw [g_ex_o (by omega) (by omega)]; exact t k hk
theorem g_F6 {c : Int} : g_F v q b s 6 i j c A = g_ex i j A := rfl
theorem g_exc (T : q_sto v 0 H p y d 0 0 0 0 0 0 0) (i0 : 0 ≤ i) (j0 : 0 ≤ j) (ip : i < p) (jp : j < p) (h1 : ∀ k : Int, 0 ≤ k → k < 6 → v 107 k = v 27 k) (h2 : ∀ k : Int, 0 ≤ k → k < 6 → v 108 k = v 28 k) (h3 : ∀ t : Int, 0 ≤ t → t < 6 → v 109 t = v 29 (g_pi i j t)) (h4 : ∀ t : Int, 0 ≤ t → t < 6 → v 110 t = v 30 (g_pi i j t)) (h5 : ∀ t : Int, 0 ≤ t → t < 6 → v 111 t = v 31 (g_pi i j t)) : q_sto v 1 H p y d q 0 0 6 i j 0 := by
  have w : g_wf H (g_nw v) := T.1.2.1
  obtain ⟨⟨p1, p2, p3⟩, p4, p5⟩ := g_st0_pt T
  rw [g_F0] at p1 p2 p3
  have p1' : p = g_nw v 24 := p1
  have wH := w.1
  have w24 := w.2.1
  have we := w.ex (i := i) (j := j) i0 (by omega) j0 (by omega)
  have eo : ∀ k : Int, k < 25 ∨ 31 ≤ k → g_ex i j (g_nw v) k = g_nw v k := fun k hk => g_ex_o (by omega) (by omega)
  refine ⟨⟨we, w, T.1.2.2⟩, ?_⟩
  show g_sv v 1 H p y d = g_ex i j (g_nw v)
  refine g_pt_rv we (g_nw_sup.ex i0 (by omega) j0 (by omega)) ⟨⟨?_, ?_, ?_⟩, fun k k0 k1 => ?_, fun t t0 t1 => ?_⟩
  · rw [eo _ (by omega)]; exact p1
  · rw [eo _ (by omega)]; exact p2
  · rw [eo _ (by omega)]; exact p3
  · rw [eo _ (by omega), eo _ (by omega)]
    show v 107 k = g_nw v k ∧ v 108 k = g_nw v (18 + k)
    rw [h1 k k0 (by omega), h2 k k0 (by omega)]
    exact p4 k k0 k1
  · have b := g_pi_b i0 ip j0 jp t0 t1
    have l := w.pl_lt (i := g_pi i j t) b.1 (by omega)
    have e := p5 _ b.1 b.2
    rw [g_F0] at e
    show v 109 t = g_ex i j (g_nw v) (25 + t) ∧ v 110 t = g_ex i j (g_nw v) (6 + g_ex i j (g_nw v) (25 + t)) ∧ v 111 t = g_ex i j (g_nw v) (12 + g_ex i j (g_nw v) (25 + t))
    rw [g_ex_pi, eo (6 + _) (by omega), eo (12 + _) (by omega), h3 t t0 (by omega), h4 t t0 (by omega), h5 t t0 (by omega)]
    exact e
theorem g_exr {o : Int → Prop} (T : q_rnx v H (i + 25) (j + 25) (j + 25) (j + 25) (j + 25) (j + 25)) (i0 : 0 ≤ i) (j0 : 0 ≤ j) (c : i ≠ j) (i6 : i < 6) (j6 : j < 6) (ip : i < g_nw v 24) (jp : j < g_nw v 24) (hi : v 78 (i + 25) = g_nw v (j + 25)) (hj : v 78 (j + 25) = g_nw v (i + 25)) : q_rwo v H q 0 0 6 i j 0 := by
  obtain ⟨⟨w, w', sb⟩, t⟩ := T
  refine ⟨⟨w.ex i0 ip j0 jp, w', sb⟩, ?_⟩
  show g_b (v 78) 0 = g_ex i j (g_nw v)
  refine g_but_row (g_nw_sup.ex i0 i6 j0 j6) t (fun k k0 k1 c9 => ?_) (fun k k0 k1 c9 => (g_ex_o (by omega) (by omega)).symm)
  by_cases c2 : k = i + 25
  · rw [c2, hi, show i + 25 = 25 + i by omega, g_ex_a, show 25 + j = j + 25 by omega]
  · rw [show k = j + 25 by omega, hj, show j + 25 = 25 + j by omega, g_ex_b c, show 25 + i = i + 25 by omega]
end ZN1
section ZN2
variable {f : Int → Int → Int} {p m i j a b : Int}
theorem g_st_i : g_st f p m 0 1 = (m, -2) := rfl
theorem g_st_s (h : i + 1 ≤ j) : g_st f p m i (j + 1) = if (g_st f p m i j).1 < f i j then (f i j, 10 * i + j) else g_st f p m i j := by
  unfold g_st
  rw [show (j + 1 - i - 1).toNat = (j - i - 1).toNat + 1 by omega]
  show (if (g_s1 f i (g_s2 f p m i.toNat) (j - i - 1).toNat).1 < f i (i + 1 + ((j - i - 1).toNat : Int)) then (f i (i + 1 + ((j - i - 1).toNat : Int)), 10 * i + (i + 1 + ((j - i - 1).toNat : Int))) else g_s1 f i (g_s2 f p m i.toNat) (j - i - 1).toNat) = _
  rw [show i + 1 + ((j - i - 1).toNat : Int) = j by omega]
theorem g_stY (h : i + 1 ≤ j) (e : g_st f p m i j = (a, b)) (c : a < f i j) : g_st f p m i (j + 1) = (f i j, 10 * i + j) := by
  rw [g_st_s h, if_pos (by rw [e]; exact c)]
theorem g_stN (h : i + 1 ≤ j) (e : g_st f p m i j = (a, b)) (c : f i j ≤ a) : g_st f p m i (j + 1) = (a, b) := by
  rw [g_st_s h, if_neg (by rw [e]; show ¬ a < f i j; omega), e]
theorem g_stR (i0 : 0 ≤ i) (hj : j = p) : g_st f p m (i + 1) (i + 2) = g_st f p m i j := by
  subst hj
  unfold g_st
  rw [show (i + 2 - (i + 1) - 1).toNat = 0 by omega, show (i + 1).toNat = i.toNat + 1 by omega]
  show g_s1 f ((i.toNat : Nat) : Int) (g_s2 f j m i.toNat) (j - 1 - ((i.toNat : Nat) : Int)).toNat = _
  rw [show ((i.toNat : Nat) : Int) = i by omega, show j - 1 - i = j - i - 1 by omega]
theorem g_stE (hp : i = p) (e : g_st f p m i (i + 1) = (a, b)) : b = (g_s2 f p m p.toNat).2 := by
  subst hp
  unfold g_st at e
  rw [show (i + 1 - i - 1).toNat = 0 by omega] at e
  have e2 : g_s2 f i m i.toNat = (a, b) := e
  rw [e2]
end ZN2
section ZN3
variable {v : zVw} {q b s o a1 a2 a3 x1 x2 u i j : Int} {A : Int → Int}
theorem g_k43 (T : q_qry v 43 q b s o a1 a2 a3 x1 x2 u) : g_st (fun i j => g_mo (g_sp v q (g_ex i j (g_F v q b s o a1 a2 a3 (g_nw v)))) (g_F v q b s o a1 a2 a3 (g_nw v) 24)) (g_F v q b s o a1 a2 a3 (g_nw v) 24) (g_mo (g_sp v q (g_F v q b s o a1 a2 a3 (g_nw v))) (g_F v q b s o a1 a2 a3 (g_nw v) 24)) (x1 / 10) (x1 % 10) = (x2, u) := T.2
theorem g_Q43 (h : g_st (fun i j => g_mo (g_sp v q (g_ex i j A)) (A 24)) (A 24) (g_mo (g_sp v q A) (A 24)) (x1 / 10) (x1 % 10) = (x2, u)) : q_Q v q b s A 43 x1 x2 u := h
theorem g_k44 (T : q_qry v 44 q b s o a1 a2 a3 x1 x2 u) : u = (g_s2 (fun i j => g_mo (g_sp v q (g_ex i j (g_F v q b s o a1 a2 a3 (g_nw v)))) (g_F v q b s o a1 a2 a3 (g_nw v) 24)) (g_F v q b s o a1 a2 a3 (g_nw v) 24) (g_mo (g_sp v q (g_F v q b s o a1 a2 a3 (g_nw v))) (g_F v q b s o a1 a2 a3 (g_nw v) 24)) (g_F v q b s o a1 a2 a3 (g_nw v) 24).toNat).2 := T.2
theorem g_Q44 (h : u = (g_s2 (fun i j => g_mo (g_sp v q (g_ex i j A)) (A 24)) (A 24) (g_mo (g_sp v q A) (A 24)) (A 24).toNat).2) : q_Q v q b s A 44 x1 x2 u := h
theorem g_mo_ex (T : q_qry v 27 q 0 0 6 i j 0 x1 x2 u) (i0 : 0 ≤ i) (j0 : 0 ≤ j) : u = g_mo (g_sp v q (g_ex i j (g_F v q 0 0 0 0 0 0 (g_nw v)))) (g_F v q 0 0 0 0 0 0 (g_nw v) 24) := by
  have h := g_k27 T
  rw [g_F6, g_ex_o (by omega) (by omega)] at h
  exact h
end ZN3
end
