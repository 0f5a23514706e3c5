/-! ===== sums of LONG: at least how many; the least, and where it is ===== -/
section ZK1
variable {H : Int} {A : Int → Int}
theorem g_su_ge (w : g_wf H A) : ∀ n : Nat, (n : Int) ≤ A 24 → (n : Int) ≤ g_su A 0 n
  | 0, _ => by show ((0 : Nat) : Int) ≤ 0; omega
  | n + 1, h => by
    have h1 := g_su_ge w n (by omega)
    have h2 := w.len (i := 0 + n) (by omega) (by omega)
    show ((n + 1 : Nat) : Int) ≤ g_su A 0 n + A (6 + A (25 + (0 + n)))
    omega
end ZK1
section ZK2
variable {f : Int → Int} {c d a : Int}
theorem g_mi_s {n : Nat} : g_mi f c (n + 1) = if f n < g_mi f c n then f n else g_mi f c n := rfl
theorem g_miA {i : Int} (i0 : 0 ≤ i) (h : g_mi f c i.toNat ≤ f i) : g_mi f c (i + 1).toNat = g_mi f c i.toNat := by
  rw [show (i + 1).toNat = i.toNat + 1 by omega, g_mi_s, show ((i.toNat : Nat) : Int) = i by omega, if_neg (by omega)]
theorem g_miB {i : Int} (i0 : 0 ≤ i) (h : f i < g_mi f c i.toNat) : g_mi f c (i + 1).toNat = f i := by
  rw [show (i + 1).toNat = i.toNat + 1 by omega, g_mi_s, show ((i.toNat : Nat) : Int) = i by omega, if_pos h]
theorem g_mi_c (h : c ≤ d) : ∀ n : Nat, g_mi f c n = if g_mi f d n < c then g_mi f d n else c
  | 0 => by show c = if d < c then d else c; rw [if_neg (by omega)]
  | n + 1 => by
    rw [g_mi_s, g_mi_s, g_mi_c h n]
    generalize g_mi f d n = x
    generalize f n = y
    by_cases h1 : x < c
    · rw [if_pos h1]
      by_cases h2 : y < x
      · rw [if_pos h2, if_pos (show y < c by omega)]
      · rw [if_neg h2, if_pos h1]
    · rw [if_neg h1]
      by_cases h3 : y < c
      · rw [if_pos h3, if_pos (show y < x by omega), if_pos h3]
      · rw [if_neg h3]
        by_cases h2 : y < x
        · rw [if_pos h2, if_neg h3]
        · rw [if_neg h2, if_neg h1]
theorem g_mi_1 (hf : f 0 = 9999) : g_mi f 999 (1 : Int).toNat = 999 := by
  have h : ¬ f ((0 : Nat) : Int) < 999 := by
    have e : f ((0 : Nat) : Int) = 9999 := hf
    omega
  exact if_neg h
theorem g_mo_c {p m z : Int} (hm : m = if 1 ≤ p then 2 * p - 1 else 0) (p0 : 0 ≤ p) (hf : f 0 = 9999) (hz : z = g_mi f 999 (m + 1).toNat) : g_mo f p = if z < 0 then -2 else z := by
  by_cases h1 : 1 ≤ p
  · rw [if_pos h1] at hm
    rw [show m + 1 = 2 * p by omega, g_mi_c (show (999 : Int) ≤ 9999 by omega)] at hz
    unfold g_mo
    generalize g_mi f 9999 (2 * p).toNat = w at *
    by_cases h2 : w < 0
    · rw [if_pos (by omega)] at hz
      rw [if_pos h2, if_pos (by omega)]
    · rw [if_neg h2]
      by_cases h3 : 999 < w
      · rw [if_neg (by omega)] at hz
        rw [if_pos h3, if_neg (by omega), hz]
      · by_cases h4 : w < 999
        · rw [if_pos h4] at hz
          rw [if_neg h3, if_neg (by omega), hz]
        · rw [if_neg h4] at hz
          rw [if_neg h3, if_neg (by omega), hz]
          omega
  · rw [if_neg h1] at hm
    have e : z = 999 := by
      rw [hz, show m + 1 = 1 by omega]
      exact g_mi_1 hf
    have h0 : p = 0 := by omega
    subst h0
    rw [if_neg (by omega), e]
    rfl
theorem g_ar_s {n : Nat} : g_ar f a (n + 1) = if (g_ar f a n).1 < 0 ∨ f (a + n) < (g_ar f a n).2 then (a + n, f (a + n)) else g_ar f a n := rfl
theorem g_ar_in (a0 : 0 ≤ a) : ∀ n : Nat, g_ar f a n = (-2, -2) ∨ (0 ≤ (g_ar f a n).1 ∧ (g_ar f a n).2 = f (g_ar f a n).1)
  | 0 => Or.inl rfl
  | n + 1 => by
    rw [g_ar_s]
    by_cases h : (g_ar f a n).1 < 0 ∨ f (a + n) < (g_ar f a n).2
    · rw [if_pos h]
      exact Or.inr ⟨show 0 ≤ a + (n : Int) by omega, rfl⟩
    · rw [if_neg h]
      exact g_ar_in a0 n
theorem g_ar_2 {n : Nat} {bb : Int} (a0 : 0 ≤ a) (h : (g_ar f a n).1 = bb) (b0 : 0 ≤ bb) : (g_ar f a n).2 = f bb := by
  rcases g_ar_in (f := f) a0 n with e | ⟨-, e⟩
  · rw [e] at h
    have h9 : (-2 : Int) = bb := h
    omega
  · rw [e, h]
theorem g_ar_n {n : Nat} {bb l : Int} (a0 : 0 ≤ a) (h : g_ar f a n = (bb, l)) (b0 : bb < 0) : bb = l := by
  rcases g_ar_in (f := f) a0 n with e | ⟨e, -⟩
  · rw [e] at h
    have h9 : (-2 : Int) = bb := congrArg Prod.fst h
    have h8 : (-2 : Int) = l := congrArg Prod.snd h
    omega
  · rw [h] at e
    have h9 : 0 ≤ bb := e
    omega
variable {i p q bb l u v w : Int}
theorem g_q0 : g_ar f a ((if a < p then a else p) - a).toNat = (-2, -2) := by
  have e : ((if a < p then a else p) - a).toNat = 0 := by split <;> omega
  rw [e]
  rfl
theorem g_qi (i0 : a ≤ i) (ip : i < p) : ((if i + 1 < p then i + 1 else p) - a).toNat = ((if i < p then i else p) - a).toNat + 1 := by
  rw [if_pos ip]
  split <;> omega
theorem g_qk (i0 : a ≤ i) (ip : i < p) : a + (((if i < p then i else p) - a).toNat : Int) = i := by
  rw [if_pos ip]
  omega
theorem g_qA (i0 : a ≤ i) (ip : i < p) (c : (g_ar f a ((if i < p then i else p) - a).toNat).1 < 0 ∨ f i < (g_ar f a ((if i < p then i else p) - a).toNat).2) : g_ar f a ((if i + 1 < p then i + 1 else p) - a).toNat = (i, f i) := by
  rw [g_qi i0 ip, g_ar_s, g_qk i0 ip, if_pos c]
theorem g_qZ (i0 : a ≤ i) (ip : i < p) (c : ¬ ((g_ar f a ((if i < p then i else p) - a).toNat).1 < 0 ∨ f i < (g_ar f a ((if i < p then i else p) - a).toNat).2)) : g_ar f a ((if i + 1 < p then i + 1 else p) - a).toNat = g_ar f a ((if i < p then i else p) - a).toNat := by
  rw [g_qi i0 ip, g_ar_s, g_qk i0 ip, if_neg c]
theorem g_qT (i0 : a ≤ i) (ip : i < p) (h : g_ar f a ((if i < p then i else p) - a).toNat = (bb, l)) (hu : u = f i) (c : bb < 0 ∨ u < l) : g_ar f a ((if i + 1 < p then i + 1 else p) - a).toNat = (i, u) := by
  rw [g_qA i0 ip (by rw [h, ← hu]; exact c), ← hu]
theorem g_qN (i0 : a ≤ i) (ip : i < p) (h : g_ar f a ((if i < p then i else p) - a).toNat = (bb, l)) (hu : u = f i) (c : 0 ≤ bb) (c' : l ≤ u) : g_ar f a ((if i + 1 < p then i + 1 else p) - a).toNat = (bb, l) := by
  rw [g_qZ i0 ip (by rw [h, ← hu]; show ¬ (bb < 0 ∨ u < l); omega), h]
theorem g_qE (hq : q = p) (ip : p ≤ i) (h : g_ar f a ((if i < p then i else p) - a).toNat = (bb, l)) : g_ar f a ((if q < p then q else p) - a).toNat = (bb, l) := by
  rw [if_neg (by omega)] at h
  rw [if_neg (by omega)]
  exact h
theorem g_qE' (hq : q = p) (ip : p ≤ i) (h : (g_ar f a ((if i < p then i else p) - a).toNat).1 = bb) : (g_ar f a ((if q < p then q else p) - a).toNat).1 = bb := by
  rw [if_neg (by omega)] at h
  rw [if_neg (by omega)]
  exact h
theorem g_qA' (i0 : a ≤ i) (ip : i < p) (h : (g_ar f a ((if i < p then i else p) - a).toNat).1 = bb) (c : bb < 0) : (g_ar f a ((if i + 1 < p then i + 1 else p) - a).toNat).1 = i := by
  rw [g_qA i0 ip (Or.inl (by rw [h]; exact c))]
theorem g_qB' (a0 : 0 ≤ a) (i0 : a ≤ i) (ip : i < p) (h : (g_ar f a ((if i < p then i else p) - a).toNat).1 = bb) (b0 : 0 ≤ bb) (hv : v = f i) (hw : w = f bb) (c : v < w) : (g_ar f a ((if i + 1 < p then i + 1 else p) - a).toNat).1 = i := by
  rw [g_qA i0 ip (Or.inr (by rw [g_ar_2 a0 h b0, ← hv, ← hw]; exact c))]
theorem g_qC' (a0 : 0 ≤ a) (i0 : a ≤ i) (ip : i < p) (h : (g_ar f a ((if i < p then i else p) - a).toNat).1 = bb) (b0 : 0 ≤ bb) (hv : v = f i) (hw : w = f bb) (c : w ≤ v) : (g_ar f a ((if i + 1 < p then i + 1 else p) - a).toNat).1 = bb := by
  rw [g_qZ i0 ip (by rw [g_ar_2 a0 h b0, h, ← hv, ← hw]; omega), h]
end ZK2
section ZK3
variable {v : zVw} {q b s o a1 a2 a3 x1 x2 u : Int} {A : Int → Int}
theorem g_sp0 : g_sp v q A 0 = 9999 := by
  unfold g_sp
  rw [if_neg (by omega), if_pos rfl]
theorem g_k26 (T : q_qry v 26 q b s o a1 a2 a3 x1 x2 u) : u = g_mi (g_sp v q (g_F v q b s o a1 a2 a3 (g_nw v))) x1 x2.toNat := T.2
theorem g_k27 (T : q_qry v 27 q b s o a1 a2 a3 x1 x2 u) : u = g_mo (g_sp v q (g_F v q b s o a1 a2 a3 (g_nw v))) (g_F v q b s o a1 a2 a3 (g_nw v) 24) := T.2
theorem g_k28 (T : q_qry v 28 q b s o a1 a2 a3 x1 x2 u) : g_ar (fun k => g_jo v q (g_F v q b s o a1 a2 a3 (g_nw v)) (g_F v q b s o a1 a2 a3 (g_nw v) (24 + k)) (g_F v q b s o a1 a2 a3 (g_nw v) (25 + k))) 1 ((if x1 < g_F v q b s o a1 a2 a3 (g_nw v) 24 then x1 else g_F v q b s o a1 a2 a3 (g_nw v) 24) - 1).toNat = (x2, u) := T.2
theorem g_k29 (T : q_qry v 29 q b s o a1 a2 a3 x1 x2 u) : g_ar (fun k => g_F v q b s o a1 a2 a3 (g_nw v) (12 + g_F v q b s o a1 a2 a3 (g_nw v) (25 + k))) 0 ((if x1 < g_F v q b s o a1 a2 a3 (g_nw v) 24 then x1 else g_F v q b s o a1 a2 a3 (g_nw v) 24) - 0).toNat = (x2, u) := T.2
theorem g_k30 (T : q_qry v 30 q b s o a1 a2 a3 x1 x2 u) : (g_ar (fun k => g_F v q b s o a1 a2 a3 (g_nw v) (12 + g_F v q b s o a1 a2 a3 (g_nw v) (25 + k))) 0 ((if x1 < g_F v q b s o a1 a2 a3 (g_nw v) 24 then x1 else g_F v q b s o a1 a2 a3 (g_nw v) 24) - 0).toNat).1 = x2 := T.2
theorem g_Q28 (h : g_ar (fun k => g_jo v q A (A (24 + k)) (A (25 + k))) 1 ((if x1 < A 24 then x1 else A 24) - 1).toNat = (x2, u)) : q_Q v q b s A 28 x1 x2 u := h
theorem g_Q29 (h : g_ar (fun k => A (12 + A (25 + k))) 0 ((if x1 < A 24 then x1 else A 24) - 0).toNat = (x2, u)) : q_Q v q b s A 29 x1 x2 u := h
theorem g_Q30 (h : (g_ar (fun k => A (12 + A (25 + k))) 0 ((if x1 < A 24 then x1 else A 24) - 0).toNat).1 = x2) : q_Q v q b s A 30 x1 x2 u := h
end ZK3
