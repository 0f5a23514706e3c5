noncomputable section
/-! ===== sets with which nobody would do otherwise ===== -/
section ZP1
variable {v : zVw} {H q b s o a1 a2 a3 x1 x2 u : Int} {A : Int → Int}
theorem g_k49 (T : q_qry v 49 q b s o a1 a2 a3 x1 x2 u) : u = g_co v q (g_F v q b s o a1 a2 a3 (g_nw v)) x1 := T.2
theorem g_Q49 (h : u = g_co v q A x1) : q_Q v q b s A 49 x1 x2 u := h
theorem g_k50 (T : q_qry v 50 q b s o a1 a2 a3 x1 x2 u) : u = g_gn v q (g_F v q b s o a1 a2 a3 (g_nw v)) (x1 % 10000) (x1 / 10000) (x2 % 64) (x2 / 64) := T.2
theorem g_Q50 (h : u = g_gn v q A (x1 % 10000) (x1 / 10000) (x2 % 64) (x2 / 64)) : q_Q v q b s A 50 x1 x2 u := h
theorem g_k51 (T : q_qry v 51 q b s o a1 a2 a3 x1 x2 u) : u = g_ri v q (g_F v q b s o a1 a2 a3 (g_nw v)) (x1 % 10000) (x1 / 10000) (x2 % 64) (x2 / 64).toNat := T.2
theorem g_Q51 (h : u = g_ri v q A (x1 % 10000) (x1 / 10000) (x2 % 64) (x2 / 64).toNat) : q_Q v q b s A 51 x1 x2 u := h
theorem g_k52 (T : q_qry v 52 q b s o a1 a2 a3 x1 x2 u) : u = (g_rr v q (g_F v q b s o a1 a2 a3 (g_nw v)) (x1 % 10000) (x1 / 10000) x2.toNat).1 := T.2
theorem g_Q52 (h : u = (g_rr v q A (x1 % 10000) (x1 / 10000) x2.toNat).1) : q_Q v q b s A 52 x1 x2 u := h
theorem g_k53 (T : q_qry v 53 q b s o a1 a2 a3 x1 x2 u) : u = (g_rr v q (g_F v q b s o a1 a2 a3 (g_nw v)) (x1 % 10000) (x1 / 10000) x2.toNat).2 := T.2
theorem g_Q53 (h : u = (g_rr v q A (x1 % 10000) (x1 / 10000) x2.toNat).2) : q_Q v q b s A 53 x1 x2 u := h
/-- what giving costs: nothing where there is a PLAIT -/
theorem g_coP (w : g_wf H A) {h i : Int} (a : g_at A h i) (i0 : 0 ≤ i) : g_co v q A h = 0 := by
  have k := w.at_len a i0
  unfold g_co
  rw [if_pos k.2.2.2.2.2]
theorem g_coL (w : g_wf H A) {h : Int} (a : g_at A h (-1)) (h0 : 0 ≤ h) (h6 : h < 6) : g_co v q A h = g_lw v q 3 A h := by
  have k := w.at_no a h0 h6
  unfold g_co
  rw [if_neg (by omega)]
theorem g_co_b {h : Int} : 0 ≤ g_co v q A h ∧ g_co v q A h ≤ 99 := by
  have k := g_lw_b v q 3 A h
  unfold g_co
  split
  · omega
  · exact k
/-- a set and a HOUSE in one number, WELL and WATER in one -/
theorem g_x64 {x h : Int} (x0 : 0 ≤ x) (x1 : x ≤ 63) : (x + 64 * h) % 64 = x ∧ (x + 64 * h) / 64 = h := by omega
theorem g_w10 {w z : Int} (w0 : 0 ≤ w) (w1 : w ≤ 9999) : (w + 10000 * z) % 10000 = w ∧ (w + 10000 * z) / 10000 = z := by omega
theorem g_bita_all : ∀ k : Fin 64, ∀ i : Fin 6, decide (1 ≤ g_op 101 (k.val : Int) (g_op 104 1 (i.val : Int))) = decide (k.val / 2 ^ i.val % 2 = 1) := by decide +kernel
theorem g_2q {k i : Int} (k0 : 0 ≤ k) : k / g_2 i.toNat % 2 = ((k.toNat / 2 ^ i.toNat % 2 : Nat) : Int) := by
  rw [g_2n, Int.natCast_emod, Int.natCast_ediv, show ((k.toNat : Nat) : Int) = k by omega]
  rfl
theorem g_bita {k i n r : Int} (k0 : 0 ≤ k) (k1 : k ≤ 63) (i0 : 0 ≤ i) (i5 : i ≤ 5) (en : g_op 104 1 i = n) (er : g_op 101 k n = r) : 1 ≤ r ↔ k / g_2 i.toNat % 2 = 1 := by
  have e := g_bita_all ⟨k.toNat, by omega⟩ ⟨i.toNat, by omega⟩
  have e2 : ((k.toNat : Nat) : Int) = k := by omega
  have e3 : ((i.toNat : Nat) : Int) = i := by omega
  have e' : decide (1 ≤ g_op 101 ((k.toNat : Nat) : Int) (g_op 104 1 ((i.toNat : Nat) : Int))) = decide (k.toNat / 2 ^ i.toNat % 2 = 1) := e
  rw [e2, e3, en, er, decide_eq_decide] at e'
  rw [e', g_2q k0]
  generalize k.toNat / 2 ^ i.toNat % 2 = m
  omega
/-- what a HOUSE has of a set -/
theorem g_gnE {w z x h u t c i : Int} (w0 : 0 ≤ w) (w1 : w ≤ 9999) (x0 : 0 ≤ x) (x1 : x ≤ 63) (bt : 1 ≤ i ↔ x / g_2 h.toNat % 2 = 1) (ec : 1 ≤ i → c = g_co v q A h) (et : t = g_ss A x 6) (e : u = (if w ≤ t then z else 0) - (if 1 ≤ i then c else 0)) : u = g_gn v q A ((w + 10000 * z) % 10000) ((w + 10000 * z) / 10000) ((x + 64 * h) % 64) ((x + 64 * h) / 64) := by
  rw [(g_w10 w0 w1).1, (g_w10 w0 w1).2, (g_x64 x0 x1).1, (g_x64 x0 x1).2]
  unfold g_gn
  rw [← et, e]
  by_cases c9 : 1 ≤ i
  · rw [if_pos c9, if_pos (bt.1 c9), ec c9]
  · rw [if_neg c9, if_neg (fun k => c9 (bt.2 k))]
/-- nobody of the first n would do otherwise -/
theorem g_ri_s {w z x : Int} {n : Nat} : g_ri v q A w z x (n + 1) = if g_ri v q A w z x n = 1 ∧ (g_ab A 6 / g_2 n % 2 = 1 → g_gn v q A w z (g_op 103 x (g_op 104 1 n)) n ≤ g_gn v q A w z x n) then 1 else 0 := rfl
theorem g_ri_01 {w z x : Int} : ∀ n : Nat, g_ri v q A w z x n = 1 ∨ g_ri v q A w z x n = 0
  | 0 => Or.inl rfl
  | n + 1 => by
    rw [g_ri_s]
    split
    · exact Or.inl rfl
    · exact Or.inr rfl
theorem g_ri_1 {w z x : Int} {m : Nat} : ∀ n : Nat, g_ri v q A w z x n = 1 → m < n → (g_ab A 6 / g_2 m % 2 = 1 → g_gn v q A w z (g_op 103 x (g_op 104 1 m)) m ≤ g_gn v q A w z x m)
  | 0, _, h => absurd h (by omega)
  | n + 1, e, h => by
    rw [g_ri_s] at e
    by_cases c : g_ri v q A w z x n = 1 ∧ (g_ab A 6 / g_2 n % 2 = 1 → g_gn v q A w z (g_op 103 x (g_op 104 1 n)) n ≤ g_gn v q A w z x n)
    · by_cases d : m = n
      · subst d
        exact c.2
      · exact g_ri_1 n c.1 (by omega)
    · rw [if_neg c] at e
      exact absurd e (by decide)
theorem g_riS {w z x : Int} {n : Nat} (e : g_ri v q A w z x n = 1) (h : g_ab A 6 / g_2 n % 2 = 1 → g_gn v q A w z (g_op 103 x (g_op 104 1 n)) n ≤ g_gn v q A w z x n) : g_ri v q A w z x (n + 1) = 1 := by
  rw [g_ri_s, if_pos ⟨e, h⟩]
theorem g_riU {w z x : Int} {n : Nat} : ∀ k : Nat, (∀ j : Nat, n ≤ j → j < n + k → ¬ g_ab A 6 / g_2 j % 2 = 1) → g_ri v q A w z x n = 1 → g_ri v q A w z x (n + k) = 1
  | 0, _, e => e
  | k + 1, h, e => g_riS (g_riU k (fun j j0 j1 => h j j0 (by omega)) e) (fun c => absurd c (h (n + k) (by omega) (by omega)))
theorem g_x384 {x : Int} (x0 : 0 ≤ x) (x1 : x ≤ 63) : (x + 384) % 64 = x ∧ ((x + 384) / 64).toNat = 6 := by omega
theorem g_xS {x i : Int} (x0 : 0 ≤ x) (x1 : x ≤ 63) (i0 : 0 ≤ i) : (x + 64 * i + 64) % 64 = x ∧ ((x + 64 * i + 64) / 64).toNat = i.toNat + 1 := by omega
theorem g_xI {x i : Int} (x0 : 0 ≤ x) (x1 : x ≤ 63) (i0 : 0 ≤ i) : (x + 64 * i) % 64 = x ∧ ((x + 64 * i) / 64).toNat = i.toNat := by omega
theorem g_rs0 {x k : Int} (x0 : 0 ≤ x) (x1 : x ≤ 63) : 1 = g_ri v q A (k % 10000) (k / 10000) (x % 64) (x / 64).toNat := by
  rw [show (x / 64).toNat = 0 by omega]
  rfl
/-- one more, who is none of the able -/
theorem g_rsN {x i k r : Int} (x0 : 0 ≤ x) (x1 : x ≤ 63) (i0 : 0 ≤ i) (bt : 1 ≤ r ↔ g_ab A 6 / g_2 i.toNat % 2 = 1) (r0 : r ≤ 0) (e : 1 = g_ri v q A (k % 10000) (k / 10000) ((x + 64 * i) % 64) ((x + 64 * i) / 64).toNat) : 1 = g_ri v q A (k % 10000) (k / 10000) ((x + 64 * i + 64) % 64) ((x + 64 * i + 64) / 64).toNat := by
  rw [(g_xI x0 x1 i0).1, (g_xI x0 x1 i0).2] at e
  rw [(g_xS x0 x1 i0).1, (g_xS x0 x1 i0).2]
  exact (g_riS e.symm (fun c => absurd (bt.2 c) (by omega))).symm
/-- one more, who has no more so -/
theorem g_rsG {x i k m e g t : Int} (x0 : 0 ≤ x) (x1 : x ≤ 63) (e0 : 0 ≤ e) (e1 : e ≤ 63) (i0 : 0 ≤ i) (em : g_op 104 1 i = m) (ee : g_op 103 x m = e) (eg : g = g_gn v q A (k % 10000) (k / 10000) ((e + 64 * i) % 64) ((e + 64 * i) / 64)) (et : t = g_gn v q A (k % 10000) (k / 10000) ((x + 64 * i) % 64) ((x + 64 * i) / 64)) (gt : g ≤ t) (er : 1 = g_ri v q A (k % 10000) (k / 10000) ((x + 64 * i) % 64) ((x + 64 * i) / 64).toNat) : 1 = g_ri v q A (k % 10000) (k / 10000) ((x + 64 * i + 64) % 64) ((x + 64 * i + 64) / 64).toNat := by
  rw [(g_xI x0 x1 i0).1, (g_xI x0 x1 i0).2] at er
  rw [(g_x64 e0 e1).1, (g_x64 e0 e1).2] at eg
  rw [(g_x64 x0 x1).1, (g_x64 x0 x1).2] at et
  rw [(g_xS x0 x1 i0).1, (g_xS x0 x1 i0).2]
  refine (g_riS er.symm (fun _ => ?_)).symm
  rw [show ((i.toNat : Nat) : Int) = i by omega, em, ee, ← eg, ← et]
  exact gt
/-- one who has more otherwise -/
theorem g_rsF {x i k m e g t r : Int} (x0 : 0 ≤ x) (x1 : x ≤ 63) (e0 : 0 ≤ e) (e1 : e ≤ 63) (i0 : 0 ≤ i) (i5 : i ≤ 5) (bt : 1 ≤ r ↔ g_ab A 6 / g_2 i.toNat % 2 = 1) (r1 : 1 ≤ r) (em : g_op 104 1 i = m) (ee : g_op 103 x m = e) (eg : g = g_gn v q A (k % 10000) (k / 10000) ((e + 64 * i) % 64) ((e + 64 * i) / 64)) (et : t = g_gn v q A (k % 10000) (k / 10000) ((x + 64 * i) % 64) ((x + 64 * i) / 64)) (gt : t < g) : 0 = g_ri v q A (k % 10000) (k / 10000) ((x + 384) % 64) ((x + 384) / 64).toNat := by
  rw [(g_x64 e0 e1).1, (g_x64 e0 e1).2] at eg
  rw [(g_x64 x0 x1).1, (g_x64 x0 x1).2] at et
  rw [(g_x384 x0 x1).1, (g_x384 x0 x1).2]
  rcases g_ri_01 (v := v) (q := q) (A := A) (w := k % 10000) (z := k / 10000) (x := x) 6 with h | h
  · have f := g_ri_1 (m := i.toNat) 6 h (by omega) (bt.1 r1)
    rw [show ((i.toNat : Nat) : Int) = i by omega, em, ee, ← eg, ← et] at f
    omega
  · exact h.symm
theorem g_rsE {x i k : Int} (i6 : i = 6) (e : 1 = g_ri v q A (k % 10000) (k / 10000) ((x + 64 * i) % 64) ((x + 64 * i) / 64).toNat) : 1 = g_ri v q A (k % 10000) (k / 10000) ((x + 384) % 64) ((x + 384) / 64).toNat := by
  rw [i6, show x + 64 * 6 = x + 384 by omega] at e
  exact e
/-- no HOUSE from k on is in the able of the first k -/
theorem g_ab_hi {k i : Int} {j : Nat} (k0 : 0 ≤ k) (k6 : k ≤ 6) (j6 : j < 6) (kj : k ≤ (j : Int)) (ei : i = g_ab A k.toNat) : ¬ i / g_2 j % 2 = 1 := by
  have b := g_ab_b (A := A) (n := k.toNat)
  rw [← ei] at b
  have m : g_2 k.toNat ≤ g_2 j := by
    rw [g_2n, g_2n]
    exact Int.ofNat_le.2 (Nat.pow_le_pow_right (by omega) (by omega))
  rw [Int.ediv_eq_zero_of_lt b.1 (show i < g_2 j by omega)]
  decide
theorem g_mrE (w : g_wf H A) {x i k : Int} (x0 : 0 ≤ x) (x1 : x ≤ 63) (i0 : 0 ≤ i) (i6 : i ≤ 6) (hi : H ≤ i) (e : 1 = g_ri v q A (k % 10000) (k / 10000) ((x + 64 * i) % 64) ((x + 64 * i) / 64).toNat) : 1 = g_ri v q A (k % 10000) (k / 10000) ((x + 384) % 64) ((x + 384) / 64).toNat := by
  rw [(g_xI x0 x1 i0).1, (g_xI x0 x1 i0).2] at e
  rw [(g_x384 x0 x1).1, (g_x384 x0 x1).2]
  have a := g_abE w i0 i6 hi (a := g_ab A i.toNat) rfl
  have f := g_riU (n := i.toNat) (6 - i).toNat (fun j j0 j1 => g_ab_hi (A := A) (k := i) (i := g_ab A 6) i0 i6 (by omega) (by omega) a.symm) e.symm
  rw [show i.toNat + (6 - i).toNat = 6 by omega] at f
  exact f.symm
theorem g_abH {i k z m r : Int} (i0 : 0 ≤ i) (i5 : i ≤ 5) (k0 : 0 ≤ k) (k6 : k ≤ 6) (em : g_op 104 1 i = m) (er : g_op 101 z m = r) (r1 : 1 ≤ r) (ez : z = g_ab A k.toNat) : i < k := by
  have b := g_ab_i k0 k6 ez
  have t := (g_bita b.1 b.2 i0 i5 em er).1 r1
  rcases Int.lt_or_le i k with c | c
  · exact c
  · exact absurd t (g_ab_hi k0 k6 (by omega) (by omega) ez)
/-- sets of some of the able -/
theorem g_sub_all : ∀ z : Fin 64, ∀ x : Fin 64, g_op 101 (x.val : Int) (g_op 103 (z.val : Int) (-1)) = 0 → x.val ≤ z.val := by decide +kernel
theorem g_sub {z x r j : Int} (z0 : 0 ≤ z) (z1 : z ≤ 63) (x0 : 0 ≤ x) (x1 : x ≤ 63) (er : g_op 103 z (-1) = r) (ej : g_op 101 x r = j) (j0 : j = 0) : x ≤ z := by
  have e := g_sub_all ⟨z.toNat, by omega⟩ ⟨x.toNat, by omega⟩
  have e2 : ((z.toNat : Nat) : Int) = z := by omega
  have e3 : ((x.toNat : Nat) : Int) = x := by omega
  have e' : g_op 101 ((x.toNat : Nat) : Int) (g_op 103 ((z.toNat : Nat) : Int) (-1)) = 0 → x.toNat ≤ z.toNat := e
  rw [e2, e3, er, ej] at e'
  have e4 := e' j0
  omega
theorem g_xor_all : ∀ x : Fin 64, ∀ i : Fin 6, 0 ≤ g_op 103 (x.val : Int) (g_op 104 1 (i.val : Int)) ∧ g_op 103 (x.val : Int) (g_op 104 1 (i.val : Int)) ≤ 63 := by decide +kernel
theorem g_xor {x i m e : Int} (x0 : 0 ≤ x) (x1 : x ≤ 63) (i0 : 0 ≤ i) (i5 : i ≤ 5) (em : g_op 104 1 i = m) (ee : g_op 103 x m = e) : 0 ≤ e ∧ e ≤ 63 := by
  have h := g_xor_all ⟨x.toNat, by omega⟩ ⟨i.toNat, by omega⟩
  have e2 : ((x.toNat : Nat) : Int) = x := by omega
  have e3 : ((i.toNat : Nat) : Int) = i := by omega
  have h' : 0 ≤ g_op 103 ((x.toNat : Nat) : Int) (g_op 104 1 ((i.toNat : Nat) : Int)) ∧ g_op 103 ((x.toNat : Nat) : Int) (g_op 104 1 ((i.toNat : Nat) : Int)) ≤ 63 := h
  rw [e2, e3, em, ee] at h'
  exact h'
theorem g_xorS_all : ∀ z : Fin 64, ∀ x : Fin 64, ∀ i : Fin 6, g_op 101 (x.val : Int) (g_op 103 (z.val : Int) (-1)) = 0 → 1 ≤ g_op 101 (z.val : Int) (g_op 104 1 (i.val : Int)) → g_op 103 (x.val : Int) (g_op 104 1 (i.val : Int)) ≤ (z.val : Int) := by decide +kernel
theorem g_xorS {z x i m e r n j : Int} (z0 : 0 ≤ z) (z1 : z ≤ 63) (x0 : 0 ≤ x) (x1 : x ≤ 63) (i0 : 0 ≤ i) (i5 : i ≤ 5) (em : g_op 104 1 i = m) (ee : g_op 103 x m = e) (er : g_op 103 z (-1) = r) (en : g_op 101 x r = n) (n0 : n = 0) (ej : g_op 101 z m = j) (j1 : 1 ≤ j) : e ≤ z := by
  have h := g_xorS_all ⟨z.toNat, by omega⟩ ⟨x.toNat, by omega⟩ ⟨i.toNat, by omega⟩
  have e1 : ((z.toNat : Nat) : Int) = z := by omega
  have e2 : ((x.toNat : Nat) : Int) = x := by omega
  have e3 : ((i.toNat : Nat) : Int) = i := by omega
  have h' : g_op 101 ((x.toNat : Nat) : Int) (g_op 103 ((z.toNat : Nat) : Int) (-1)) = 0 → 1 ≤ g_op 101 ((z.toNat : Nat) : Int) (g_op 104 1 ((i.toNat : Nat) : Int)) → g_op 103 ((x.toNat : Nat) : Int) (g_op 104 1 ((i.toNat : Nat) : Int)) ≤ ((z.toNat : Nat) : Int) := h
  rw [e1, e2, e3, em, ee, er, en, ej] at h'
  exact h' n0 j1
/-- how many bits -/
theorem g_bc_s {x : Int} {n : Nat} : g_bc x (n + 1) = g_bc x n + x / g_2 n % 2 := rfl
theorem g_bcS {x i n j g c : Int} (x0 : 0 ≤ x) (x1 : x ≤ 63) (i0 : 0 ≤ i) (i5 : i ≤ 5) (en : g_op 105 x i = n) (ej : g_op 101 n 1 = j) (eg : g = g_bc x i.toNat) (ec : c = g + j) : c = g_bc x (i + 1).toNat := by
  have h := g_bitm x0 x1 i0 i5 en ej
  rw [show (i + 1).toNat = i.toNat + 1 by omega, g_bc_s, ← eg, ← h]
  exact ec
def g_bch (x : Int) : Int :=
  let c0 := g_op 106 x 1
  let c1 := g_op 101 c0 1431655765
  let c2 := g_op 111 x c1
  let c3 := g_op 101 c2 858993459
  let c4 := g_op 106 c2 2
  let c5 := g_op 101 c4 858993459
  let c6 := g_op 110 c3 c5
  let c7 := g_op 106 c6 4
  let c8 := g_op 110 c6 c7
  let c9 := g_op 101 c8 252645135
  let d0 := g_op 106 c9 8
  let d1 := g_op 110 c9 d0
  let d2 := g_op 106 d1 16
  let d3 := g_op 110 d1 d2
  g_op 101 d3 63
theorem g_bchE {x c0 c1 c2 c3 c4 c5 c6 c7 c8 c9 d0 d1 d2 d3 r : Int} (t0 : g_op 106 x 1 = c0) (t1 : g_op 101 c0 1431655765 = c1) (t2 : g_op 111 x c1 = c2) (t3 : g_op 101 c2 858993459 = c3) (t4 : g_op 106 c2 2 = c4) (t5 : g_op 101 c4 858993459 = c5) (t6 : g_op 110 c3 c5 = c6) (t7 : g_op 106 c6 4 = c7) (t8 : g_op 110 c6 c7 = c8) (t9 : g_op 101 c8 252645135 = c9) (ta : g_op 106 c9 8 = d0) (tb : g_op 110 c9 d0 = d1) (tc : g_op 106 d1 16 = d2) (td : g_op 110 d1 d2 = d3) (te : g_op 101 d3 63 = r) : r = g_bch x := by
  subst t0 t1 t2 t3 t4 t5 t6 t7 t8 t9 ta tb tc td te
  rfl
theorem g_bch_all : ∀ x : Fin 64, g_bch (x.val : Int) = g_bc (x.val : Int) 6 ∧ 0 ≤ g_bc (x.val : Int) 6 ∧ g_bc (x.val : Int) 6 ≤ 6 := by decide +kernel
theorem g_bch_e {x : Int} (x0 : 0 ≤ x) (x1 : x ≤ 63) : g_bch x = g_bc x 6 ∧ 0 ≤ g_bc x 6 ∧ g_bc x 6 ≤ 6 := by
  have h := g_bch_all ⟨x.toNat, by omega⟩
  have e : ((x.toNat : Nat) : Int) = x := by omega
  have h' : g_bch ((x.toNat : Nat) : Int) = g_bc ((x.toNat : Nat) : Int) 6 ∧ 0 ≤ g_bc ((x.toNat : Nat) : Int) 6 ∧ g_bc ((x.toNat : Nat) : Int) 6 ≤ 6 := h
  rw [e] at h'
  exact h'
/-- how many sets, and the first of the smallest -/
theorem g_rr_s {w z : Int} {n : Nat} : g_rr v q A w z (n + 1) = if g_op 101 (n : Int) (g_op 103 (g_ab A 6) (-1)) = 0 ∧ g_ri v q A w z n 6 = 1 then ((g_rr v q A w z n).1 + 1, if (g_rr v q A w z n).2 < 0 ∨ g_bc n 6 < g_bc (g_rr v q A w z n).2 6 then (n : Int) else (g_rr v q A w z n).2) else g_rr v q A w z n := rfl
theorem g_rrN {w z i c f : Int} (i0 : 0 ≤ i) (h : ¬ (g_op 101 i (g_op 103 (g_ab A 6) (-1)) = 0 ∧ g_ri v q A w z i 6 = 1)) (ec : c = (g_rr v q A w z i.toNat).1) (ef : f = (g_rr v q A w z i.toNat).2) : c = (g_rr v q A w z (i + 1).toNat).1 ∧ f = (g_rr v q A w z (i + 1).toNat).2 := by
  rw [show (i + 1).toNat = i.toNat + 1 by omega, g_rr_s, show ((i.toNat : Nat) : Int) = i by omega, if_neg h]
  exact ⟨ec, ef⟩
theorem g_rrY {w z i c f g : Int} (i0 : 0 ≤ i) (h : g_op 101 i (g_op 103 (g_ab A 6) (-1)) = 0 ∧ g_ri v q A w z i 6 = 1) (ec : c = (g_rr v q A w z i.toNat).1) (ef : f = (g_rr v q A w z i.toNat).2) (eg : g = if f < 0 ∨ g_bc i 6 < g_bc f 6 then i else f) : c + 1 = (g_rr v q A w z (i + 1).toNat).1 ∧ g = (g_rr v q A w z (i + 1).toNat).2 := by
  rw [show (i + 1).toNat = i.toNat + 1 by omega, g_rr_s, show ((i.toNat : Nat) : Int) = i by omega, if_pos h, ← ec, ← ef]
  exact ⟨rfl, eg⟩
theorem g_rr_b {w z : Int} : ∀ n : Nat, ((g_rr v q A w z n).1 = 0 ∧ (g_rr v q A w z n).2 = -2) ∨ (1 ≤ (g_rr v q A w z n).1 ∧ 0 ≤ (g_rr v q A w z n).2 ∧ (g_rr v q A w z n).2 < n)
  | 0 => Or.inl ⟨rfl, rfl⟩
  | n + 1 => by
    have k := g_rr_b (w := w) (z := z) n
    rw [g_rr_s]
    split
    · right
      refine ⟨?_, ?_⟩
      · show 1 ≤ (g_rr v q A w z n).1 + 1
        omega
      · show 0 ≤ (if (g_rr v q A w z n).2 < 0 ∨ g_bc n 6 < g_bc (g_rr v q A w z n).2 6 then (n : Int) else (g_rr v q A w z n).2) ∧ (if (g_rr v q A w z n).2 < 0 ∨ g_bc n 6 < g_bc (g_rr v q A w z n).2 6 then (n : Int) else (g_rr v q A w z n).2) < ((n + 1 : Nat) : Int)
        split <;> omega
    · rcases k with k | k
      · exact Or.inl k
      · exact Or.inr ⟨k.1, k.2.1, by omega⟩
end ZP1
end
