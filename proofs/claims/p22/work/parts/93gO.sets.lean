/-! ===== what HOUSES have, by sets ===== -/
section ZO1
variable {v : zVw} {H q b s o a1 a2 a3 x1 x2 u : Int} {A : Int → Int}
theorem g_k45 (T : q_qry v 45 q b s o a1 a2 a3 x1 x2 u) : u = g_ha (g_F v q b s o a1 a2 a3 (g_nw v)) x1 := T.2
theorem g_Q45 (h : u = g_ha A x1) : q_Q v q b s A 45 x1 x2 u := h
theorem g_k46 (T : q_qry v 46 q b s o a1 a2 a3 x1 x2 u) : u = g_ab (g_F v q b s o a1 a2 a3 (g_nw v)) x1.toNat := T.2
theorem g_Q46 (h : u = g_ab A x1.toNat) : q_Q v q b s A 46 x1 x2 u := h
theorem g_k47 (T : q_qry v 47 q b s o a1 a2 a3 x1 x2 u) : u = g_ss (g_F v q b s o a1 a2 a3 (g_nw v)) x1 x2.toNat := T.2
theorem g_Q47 (h : u = g_ss A x1 x2.toNat) : q_Q v q b s A 47 x1 x2 u := h
theorem g_k48 (T : q_qry v 48 q b s o a1 a2 a3 x1 x2 u) : u = g_pv (g_F v q b s o a1 a2 a3 (g_nw v)) x1 x2.toNat := T.2
theorem g_Q48 (h : u = g_pv A x1 x2.toNat) : q_Q v q b s A 48 x1 x2 u := h
theorem g_ha_pl (w : g_wf H A) {h i : Int} (a : g_at A h i) (i0 : 0 ≤ i) : g_ha A h = A (6 + h) ∧ 1 ≤ A (6 + h) ∧ A (6 + h) ≤ 99 := by
  have k := w.at_len a i0
  have l := w.2.2.2.2.2.2.1 h k.1 k.2.1
  unfold g_ha
  rw [if_pos k.2.2.2.2.2]
  exact ⟨rfl, k.2.2.2.2.2, l.2.2.1⟩
theorem g_ha_no (w : g_wf H A) {h : Int} (a : g_at A h (-1)) (h0 : 0 ≤ h) (h6 : h < 6) : g_ha A h = A h ∧ 0 ≤ A h ∧ A h ≤ 99 := by
  have k := w.at_no a h0 h6
  have l := w.2.2.2.2.2.2.1 h h0 h6
  unfold g_ha
  rw [if_neg (by omega)]
  exact ⟨rfl, l.1, l.2.1⟩
theorem g_ha_b (w : g_wf H A) {h : Int} (h0 : 0 ≤ h) (h6 : h < 6) : 0 ≤ g_ha A h ∧ g_ha A h ≤ 99 := by
  have l := w.2.2.2.2.2.2.1 h h0 h6
  unfold g_ha
  split
  · omega
  · omega
theorem g_ha_out (w : g_wf H A) {h : Int} (h0 : H ≤ h) (h6 : h < 6) : g_ha A h = 0 := by
  have l := w.2.2.2.2.2.2.2 h h0 h6
  unfold g_ha
  rw [if_neg (g_no_pl w h0 h6)]
  exact l.1
theorem g_sh_all : ∀ h : Fin 7, g_op 104 1 (h.val : Int) = g_2 h.val := by decide +kernel
theorem g_sh {h : Int} (h0 : 0 ≤ h) (h6 : h ≤ 6) : g_op 104 1 h = g_2 h.toNat := by
  have e := g_sh_all ⟨h.toNat, by omega⟩
  have e2 : ((h.toNat : Nat) : Int) = h := by omega
  rw [e2] at e
  exact e
theorem g_h6 {h : Int} (h0 : 0 ≤ h) (h6 : h ≤ 5) : h = 0 ∨ h = 1 ∨ h = 2 ∨ h = 3 ∨ h = 4 ∨ h = 5 := by omega
theorem g_shb {h n : Int} (h0 : 0 ≤ h) (h6 : h ≤ 5) (e : g_op 104 1 h = n) : 1 ≤ n ∧ n ≤ 32 := by
  rw [g_sh h0 (by omega)] at e
  rcases g_h6 h0 h6 with rfl | rfl | rfl | rfl | rfl | rfl <;> (rw [← e]; decide)
theorem g_shS {h n : Int} (h0 : 0 ≤ h) (h6 : h ≤ 5) (e : g_op 104 1 h = n) : g_op 104 1 (h + 1) = 2 * n := by
  rw [g_sh h0 (by omega)] at e
  rw [g_sh (by omega) (by omega), ← e, show (h + 1).toNat = h.toNat + 1 by omega]
  rfl
theorem g_orz_all : ∀ z : Fin 64, g_op 102 (z.val : Int) 0 = (z.val : Int) := by decide +kernel
theorem g_orz {z : Int} (z0 : 0 ≤ z) (z1 : z < 64) : g_op 102 z 0 = z := by
  have e := g_orz_all ⟨z.toNat, by omega⟩
  have e2 : ((z.toNat : Nat) : Int) = z := by omega
  rw [e2] at e
  exact e
theorem g_or1_all : ∀ z : Fin 32, ∀ w : Fin 33, 1 ≤ w.val → 1 ≤ g_op 102 (z.val : Int) (w.val : Int) := by decide +kernel
theorem g_or_1 {z w : Int} (z0 : 0 ≤ z) (z1 : z ≤ 31) (w0 : 1 ≤ w) (w1 : w ≤ 32) : 1 ≤ g_op 102 z w := by
  have e := g_or1_all ⟨z.toNat, by omega⟩ ⟨w.toNat, by omega⟩ (by show 1 ≤ w.toNat; omega)
  have e2 : ((z.toNat : Nat) : Int) = z := by omega
  have e3 : ((w.toNat : Nat) : Int) = w := by omega
  rw [e2, e3] at e
  exact e
/-- a set of HOUSES below h, and h -/
theorem g_orx {h k n u : Int} (h0 : 0 ≤ h) (h5 : h ≤ 5) (e : g_op 104 1 h = n) (k0 : 0 ≤ k) (k1 : k < n) (eu : g_op 102 k n = u) : u = k + n ∧ u ≤ 63 ∧ 1 ≤ u := by
  have b := g_shb h0 h5 e
  rw [← e] at eu
  have e' := e
  rw [g_sh h0 (by omega)] at e'
  rcases g_h6 h0 h5 with rfl | rfl | rfl | rfl | rfl | rfl
  · have n1 : (1 : Int) = n := e'
    rw [g_or0 k0 (by omega) (by omega)] at eu
    omega
  · have n1 : (2 : Int) = n := e'
    rw [g_or1 k0 (by omega) (by omega)] at eu
    omega
  · have n1 : (4 : Int) = n := e'
    rw [g_or2 k0 (by omega) (by omega)] at eu
    omega
  · have n1 : (8 : Int) = n := e'
    rw [g_or3 k0 (by omega) (by omega)] at eu
    omega
  · have n1 : (16 : Int) = n := e'
    rw [g_or4 k0 (by omega) (by omega)] at eu
    omega
  · have n1 : (32 : Int) = n := e'
    rw [g_or5 k0 (by omega) (by omega)] at eu
    omega
theorem g_ss_s {x : Int} {n : Nat} : g_ss A x (n + 1) = g_ss A x n + if x / g_2 n % 2 = 1 then g_ha A n else 0 := rfl
theorem g_ss_0 : ∀ n : Nat, g_ss A 0 n = 0
  | 0 => rfl
  | n + 1 => by
    rw [g_ss_s, g_ss_0 n, Int.zero_ediv]
    rfl
theorem g_ss_b (w : g_wf H A) {x : Int} : ∀ n : Nat, n ≤ 6 → 0 ≤ g_ss A x n ∧ g_ss A x n ≤ 99 * n
  | 0, _ => by show (0 : Int) ≤ 0 ∧ (0 : Int) ≤ 99 * ((0 : Nat) : Int); omega
  | n + 1, hn => by
    have h := g_ss_b w (x := x) n (by omega)
    have k := g_ha_b w (h := (n : Int)) (by omega) (by omega)
    rw [g_ss_s]
    split <;> omega
theorem g_ss_6 {x : Int} : g_ss A x 6 = (if x % 2 = 1 then g_ha A 0 else 0) + (if x / 2 % 2 = 1 then g_ha A 1 else 0) + (if x / 4 % 2 = 1 then g_ha A 2 else 0) + (if x / 8 % 2 = 1 then g_ha A 3 else 0) + (if x / 16 % 2 = 1 then g_ha A 4 else 0) + (if x / 32 % 2 = 1 then g_ha A 5 else 0) := by
  have e : g_ss A x 6 = 0 + (if x / 1 % 2 = 1 then g_ha A 0 else 0) + (if x / 2 % 2 = 1 then g_ha A 1 else 0) + (if x / 4 % 2 = 1 then g_ha A 2 else 0) + (if x / 8 % 2 = 1 then g_ha A 3 else 0) + (if x / 16 % 2 = 1 then g_ha A 4 else 0) + (if x / 32 % 2 = 1 then g_ha A 5 else 0) := rfl
  rw [e, Int.zero_add, Int.ediv_one]
/-- one HOUSE more -/
theorem g_ss_add {h k n : Int} (h0 : 0 ≤ h) (h5 : h ≤ 5) (e : g_op 104 1 h = n) (k0 : 0 ≤ k) (k1 : k < n) : g_ss A (k + n) 6 = g_ss A k 6 + g_ha A h := by
  rw [g_sh h0 (by omega)] at e
  rw [g_ss_6, g_ss_6]
  rcases g_h6 h0 h5 with rfl | rfl | rfl | rfl | rfl | rfl
  · have n1 : (1 : Int) = n := e
    subst n1
    rw [if_pos (show (k + 1) % 2 = 1 by omega), if_neg (show ¬ k % 2 = 1 by omega), show (k + 1) / 2 = k / 2 by omega, show (k + 1) / 4 = k / 4 by omega, show (k + 1) / 8 = k / 8 by omega, show (k + 1) / 16 = k / 16 by omega, show (k + 1) / 32 = k / 32 by omega]
    omega
  · have n1 : (2 : Int) = n := e
    subst n1
    rw [if_pos (show (k + 2) / 2 % 2 = 1 by omega), if_neg (show ¬ k / 2 % 2 = 1 by omega), show (k + 2) % 2 = k % 2 by omega, show (k + 2) / 4 = k / 4 by omega, show (k + 2) / 8 = k / 8 by omega, show (k + 2) / 16 = k / 16 by omega, show (k + 2) / 32 = k / 32 by omega]
    omega
  · have n1 : (4 : Int) = n := e
    subst n1
    rw [if_pos (show (k + 4) / 4 % 2 = 1 by omega), if_neg (show ¬ k / 4 % 2 = 1 by omega), show (k + 4) % 2 = k % 2 by omega, show (k + 4) / 2 % 2 = k / 2 % 2 by omega, show (k + 4) / 8 = k / 8 by omega, show (k + 4) / 16 = k / 16 by omega, show (k + 4) / 32 = k / 32 by omega]
    omega
  · have n1 : (8 : Int) = n := e
    subst n1
    rw [if_pos (show (k + 8) / 8 % 2 = 1 by omega), if_neg (show ¬ k / 8 % 2 = 1 by omega), show (k + 8) % 2 = k % 2 by omega, show (k + 8) / 2 % 2 = k / 2 % 2 by omega, show (k + 8) / 4 % 2 = k / 4 % 2 by omega, show (k + 8) / 16 = k / 16 by omega, show (k + 8) / 32 = k / 32 by omega]
    omega
  · have n1 : (16 : Int) = n := e
    subst n1
    rw [if_pos (show (k + 16) / 16 % 2 = 1 by omega), if_neg (show ¬ k / 16 % 2 = 1 by omega), show (k + 16) % 2 = k % 2 by omega, show (k + 16) / 2 % 2 = k / 2 % 2 by omega, show (k + 16) / 4 % 2 = k / 4 % 2 by omega, show (k + 16) / 8 % 2 = k / 8 % 2 by omega, show (k + 16) / 32 = k / 32 by omega]
    omega
  · have n1 : (32 : Int) = n := e
    subst n1
    rw [if_pos (show (k + 32) / 32 % 2 = 1 by omega), if_neg (show ¬ k / 32 % 2 = 1 by omega), show (k + 32) % 2 = k % 2 by omega, show (k + 32) / 2 % 2 = k / 2 % 2 by omega, show (k + 32) / 4 % 2 = k / 4 % 2 by omega, show (k + 32) / 8 % 2 = k / 8 % 2 by omega, show (k + 32) / 16 % 2 = k / 16 % 2 by omega]
    omega
theorem g_ab_b {n : Nat} : 0 ≤ g_ab A n ∧ g_ab A n < g_2 n := g_bt_b n
theorem g_ab_6 : 0 ≤ g_ab A 6 ∧ g_ab A 6 ≤ 63 := by
  have h := g_ab_b (A := A) (n := 6)
  have e : g_2 6 = 64 := rfl
  omega
theorem g_ab_i {i a : Int} (i0 : 0 ≤ i) (i6 : i ≤ 6) (e : a = g_ab A i.toNat) : 0 ≤ a ∧ a ≤ 63 := by
  have h := g_ab_b (A := A) (n := i.toNat)
  rw [← e] at h
  have c : i = 0 ∨ i = 1 ∨ i = 2 ∨ i = 3 ∨ i = 4 ∨ i = 5 ∨ i = 6 := by omega
  rcases c with rfl | rfl | rfl | rfl | rfl | rfl | rfl <;>
    (have k := h.2
     first
     | (have k2 : a < 1 := k; omega)
     | (have k2 : a < 2 := k; omega)
     | (have k2 : a < 4 := k; omega)
     | (have k2 : a < 8 := k; omega)
     | (have k2 : a < 16 := k; omega)
     | (have k2 : a < 32 := k; omega)
     | (have k2 : a < 64 := k; omega))
theorem g_abY {i a n u : Int} (i0 : 0 ≤ i) (i5 : i ≤ 5) (x1 : 1 ≤ g_ha A i) (e : a = g_ab A i.toNat) (en : g_op 104 1 i = n) (eu : g_op 102 a n = u) : u = g_ab A (i + 1).toNat := by
  have h := g_btY (f := fun h => if 1 ≤ g_ha A h then 1 else 0) (i := i) i0 i5 (if_pos x1)
  have e' : g_bt (fun h => if 1 ≤ g_ha A h then 1 else 0) i.toNat = a := e.symm
  rw [e', en, eu] at h
  exact h.symm
theorem g_abN {i a : Int} (i0 : 0 ≤ i) (x1 : g_ha A i ≤ 0) (e : a = g_ab A i.toNat) : a = g_ab A (i + 1).toNat := by
  have h := g_btN (f := fun h => if 1 ≤ g_ha A h then 1 else 0) (i := i) i0 (by show ¬ (if 1 ≤ g_ha A i then (1 : Int) else 0) = 1; rw [if_neg (by omega)]; omega)
  rw [e]
  exact h.symm
theorem g_abE (w : g_wf H A) {i a : Int} (i0 : 0 ≤ i) (i6 : i ≤ 6) (hi : H ≤ i) (e : a = g_ab A i.toNat) : a = g_ab A 6 := by
  have h := g_bt_ext (f := fun h => if 1 ≤ g_ha A h then 1 else 0) (n := i.toNat) (6 - i).toNat (fun h h0 h1 => by
    show ¬ (if 1 ≤ g_ha A h then (1 : Int) else 0) = 1
    rw [g_ha_out w (by omega) (by omega), if_neg (by omega)]
    omega)
  rw [show i.toNat + (6 - i).toNat = 6 by omega] at h
  rw [e]
  exact h.symm
theorem g_and_b {a r x : Int} (a0 : 0 ≤ a) (a1 : a ≤ 63) (e : g_op 101 a r = x) : 0 ≤ x ∧ x ≤ a := by
  have ha := z_ofInt (z := a) (by omega) (by omega)
  have h := z_and_lo (x := Int32.ofInt a) (y := Int32.ofInt r) (by rw [ha]; exact a0)
  rw [ha] at h
  rw [← e]
  exact h
theorem g_and_1 {p r : Int} (e : g_op 101 p 1 = r) : 0 ≤ r ∧ r ≤ 1 := by
  have h1 := z_ofInt (z := 1) (by omega) (by omega)
  have h := z_and_lo (x := Int32.ofInt 1) (y := Int32.ofInt p) (by rw [h1]; omega)
  rw [h1] at h
  rw [← e]
  show 0 ≤ (Int32.ofInt p &&& Int32.ofInt 1).toInt ∧ (Int32.ofInt p &&& Int32.ofInt 1).toInt ≤ 1
  rw [Int32.and_comm]
  exact h
theorem g_bitm_all : ∀ k : Fin 64, ∀ i : Fin 6, g_op 101 (g_op 105 (k.val : Int) (i.val : Int)) 1 = ((k.val / 2 ^ i.val % 2 : Nat) : Int) := by decide +kernel
theorem g_2n : ∀ n : Nat, g_2 n = ((2 ^ n : Nat) : Int)
  | 0 => rfl
  | n + 1 => by
    show 2 * g_2 n = _
    rw [g_2n n, Nat.pow_succ]
    omega
theorem g_bitm {k i p r : Int} (k0 : 0 ≤ k) (k1 : k ≤ 63) (i0 : 0 ≤ i) (i5 : i ≤ 5) (ep : g_op 105 k i = p) (er : g_op 101 p 1 = r) : r = k / g_2 i.toNat % 2 := by
  have e := g_bitm_all ⟨k.toNat, by omega⟩ ⟨i.toNat, by omega⟩
  have e2 : ((k.toNat : Nat) : Int) = k := by omega
  have e3 : ((i.toNat : Nat) : Int) = i := by omega
  have e' : g_op 101 (g_op 105 ((k.toNat : Nat) : Int) ((i.toNat : Nat) : Int)) 1 = ((k.toNat / 2 ^ i.toNat % 2 : Nat) : Int) := e
  rw [e2, e3, ep, er] at e'
  rw [e', g_2n, Int.natCast_emod, Int.natCast_ediv, e2]
  rfl
theorem g_sh0_all : ∀ k : Fin 64, g_op 105 (k.val : Int) 0 = (k.val : Int) := by decide +kernel
theorem g_sh0 {k : Int} (k0 : 0 ≤ k) (k1 : k ≤ 63) : g_op 105 k 0 = k := by
  have e := g_sh0_all ⟨k.toNat, by omega⟩
  have e2 : ((k.toNat : Nat) : Int) = k := by omega
  rw [e2] at e
  exact e
theorem g_ssY {k i c d x r : Int} (i0 : 0 ≤ i) (er : r = k / g_2 i.toNat % 2) (r1 : r = 1) (ex : x = g_ha A i) (ed : d = g_ss A k i.toNat) (ec : c = d + x) : c = g_ss A k (i + 1).toNat := by
  rw [show (i + 1).toNat = i.toNat + 1 by omega, g_ss_s, ← ed, if_pos (by omega), show ((i.toNat : Nat) : Int) = i by omega, ← ex]
  exact ec
theorem g_ssN {k i c d r : Int} (i0 : 0 ≤ i) (er : r = k / g_2 i.toNat % 2) (r1 : r = 0) (ed : d = g_ss A k i.toNat) (ec : c = d) : c = g_ss A k (i + 1).toNat := by
  rw [show (i + 1).toNat = i.toNat + 1 by omega, g_ss_s, ← ed, if_neg (by omega)]
  omega
theorem g_pv_s {w : Int} {n : Nat} : g_pv A w (n + 1) = if g_ss A (g_px A n) 6 < w then g_op 102 (g_pv A w n) (g_op 104 1 n) else g_pv A w n := rfl
theorem g_px_e {i a p r x : Int} (ea : a = g_ab A 6) (ep : g_op 104 1 i = p) (er : g_op 103 p (-1) = r) (ex : g_op 101 a r = x) : g_px A i = x := by
  unfold g_px
  rw [← ea, ep, er, ex]
theorem g_pvN {i a p r x w c z : Int} (i0 : 0 ≤ i) (ea : a = g_ab A 6) (ep : g_op 104 1 i = p) (er : g_op 103 p (-1) = r) (ex : g_op 101 a r = x) (ev : z = g_ss A x 6) (ec : c = g_pv A w i.toNat) (hw : w ≤ z) : c = g_pv A w (i + 1).toNat := by
  rw [show (i + 1).toNat = i.toNat + 1 by omega, g_pv_s, show ((i.toNat : Nat) : Int) = i by omega, g_px_e ea ep er ex, ← ev, if_neg (by omega)]
  exact ec
theorem g_pvY {i a p r x w c z u : Int} (i0 : 0 ≤ i) (ea : a = g_ab A 6) (ep : g_op 104 1 i = p) (er : g_op 103 p (-1) = r) (ex : g_op 101 a r = x) (ev : z = g_ss A x 6) (ec : c = g_pv A w i.toNat) (eu : g_op 102 c p = u) (hw : z < w) : u = g_pv A w (i + 1).toNat := by
  rw [show (i + 1).toNat = i.toNat + 1 by omega, g_pv_s, show ((i.toNat : Nat) : Int) = i by omega, g_px_e ea ep er ex, ← ev, if_pos (by omega), ← ec, ep, eu]
end ZO1
