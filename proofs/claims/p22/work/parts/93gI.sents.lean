noncomputable section
/-! ===== rows: what the sentences give ===== -/
section ZR7
variable {v : zVw} {f : Nat} {H p y d q b s o a1 a2 a3 c x1 x2 u : Int} {A : Int → Int}
theorem g_k1 (T : q_qry v 1 q b s o a1 a2 a3 x1 x2 u) : u = g_su (g_F v q b s o a1 a2 a3 (g_nw v)) x1 (x2 - x1).toNat := T.2
theorem g_k2 (T : q_qry v 2 q b s o a1 a2 a3 x1 x2 u) : u = g_sp v q (g_F v q b s o a1 a2 a3 (g_nw v)) x1 := T.2
theorem g_k3 (T : q_qry v 3 q b s o a1 a2 a3 x1 x2 u) : g_br v q (g_F v q b s o a1 a2 a3 (g_nw v)) x1 u := T.2
theorem g_k4 (T : q_qry v 4 q b s o a1 a2 a3 x1 x2 u) : u = g_lw v q x1 (g_F v q b s o a1 a2 a3 (g_nw v)) x2 := T.2
theorem g_k5 (T : q_qry v 5 q b s o a1 a2 a3 x1 x2 u) : u = g_jo v q (g_F v q b s o a1 a2 a3 (g_nw v)) x1 x2 := T.2
theorem g_k6 (T : q_qry v 6 q b s o a1 a2 a3 x1 x2 u) : g_at (g_F v q b s o a1 a2 a3 (g_nw v)) x1 u := T.2
theorem g_k7 (T : q_qry v 7 q b s o a1 a2 a3 x1 x2 u) : u = g_sg (v 20) (g_F v q b s o a1 a2 a3 (g_nw v)) x1 := T.2
theorem g_k8 (T : q_qry v 8 q b s o a1 a2 a3 x1 x2 u) : u = g_F v q b s o a1 a2 a3 (g_nw v) x1 := T.2
theorem g_k9 (T : q_qry v 9 q b s o a1 a2 a3 x1 x2 u) : u = (if 0 ≤ x1 ∧ x1 < x2 ∧ g_F v q b s o a1 a2 a3 (g_nw v) (6 + x1) = 0 ∧ 1 ≤ g_F v q b s o a1 a2 a3 (g_nw v) x1 then 1 else 0) := T.2
theorem g_k12 (T : q_qry v 12 q b s o a1 a2 a3 x1 x2 u) : ∀ i : Int, 0 ≤ i → i < x2 → g_F v q b s o a1 a2 a3 (g_nw v) (25 + i) ≠ x1 := T.2
theorem g_k13 (T : q_qry v 13 q b s o a1 a2 a3 x1 x2 u) : u = g_raw v q x1 (g_F v q b s o a1 a2 a3 (g_nw v)) x2 0 0 := T.2
theorem g_k14 (T : q_qry v 14 q b s o a1 a2 a3 x1 x2 u) : u = g_rj v q (g_F v q b s o a1 a2 a3 (g_nw v)) x1 x2 := T.2
theorem g_k16 (T : q_qry v 16 q b s o a1 a2 a3 x1 x2 u) : u = g_p0 (g_F v q b s o a1 a2 a3 (g_nw v)) x1 := T.2
theorem g_k17 (T : q_qry v 17 q b s o a1 a2 a3 x1 x2 u) : u = g_jo v q (g_F v q b s o a1 a2 a3 (g_nw v)) (g_F v q b s o a1 a2 a3 (g_nw v) (24 + x1)) (g_F v q b s o a1 a2 a3 (g_nw v) (25 + x1)) := T.2
theorem g_k18 (T : q_qry v 18 q b s o a1 a2 a3 x1 x2 u) : u = g_F v q b s o a1 a2 a3 (g_nw v) (12 + g_F v q b s o a1 a2 a3 (g_nw v) (25 + x1)) := T.2
theorem g_k19 (T : q_qry v 19 q b s o a1 a2 a3 x1 x2 u) : u = g_F v q b s o a1 a2 a3 (g_nw v) (6 + g_F v q b s o a1 a2 a3 (g_nw v) (25 + x1)) := T.2
theorem g_k20 (T : q_qry v 20 q b s o a1 a2 a3 x1 x2 u) : u = g_nha v q b s (g_F v q b s o a1 a2 a3 (g_nw v)) x1 := T.2
theorem g_k21 (T : q_qry v 21 q b s o a1 a2 a3 x1 x2 u) : u = g_nst v q (g_F v q b s o a1 a2 a3 (g_nw v)) x1 := T.2
theorem g_k22 (T : q_qry v 22 q b s o a1 a2 a3 x1 x2 u) : ∃ k : Int, g_br v q (g_F v q b s o a1 a2 a3 (g_nw v)) x1 k ∧ u = g_op 107 k 2 := T.2
theorem g_k24 (T : q_qry v 24 q b s o a1 a2 a3 x1 x2 u) : ∀ k : Int, 0 ≤ k → k < x2 → x1 ≤ g_sp v q (g_F v q b s o a1 a2 a3 (g_nw v)) k := T.2
theorem g_k25 (T : q_qry v 25 q b s o a1 a2 a3 x1 x2 u) : u = g_bli b s (g_F v q b s o a1 a2 a3 (g_nw v)) x1 := T.2
theorem g_at.get {h i : Int} (t : g_at A h i) (i0 : 0 ≤ i) : A (25 + i) = h ∧ i < A 24 := by
  rcases t with ⟨a, b, c, d⟩ | ⟨a, b⟩
  · exact ⟨c, b⟩
  · omega
theorem g_at.no {h i : Int} (t : g_at A h i) (i0 : i < 0) : ∀ j : Int, 0 ≤ j → j < A 24 → A (25 + j) ≠ h := by
  rcases t with ⟨a, b, c, d⟩ | ⟨a, b⟩
  · omega
  · exact b
theorem g_bit0 {b u : Int} (b0 : 0 ≤ b) (b1 : b ≤ 7) (h : (mOP 101 (Int32.ofInt b) (Int32.ofInt 1)).toInt = u) : u = b % 2 := by
  have c : b = 0 ∨ b = 1 ∨ b = 2 ∨ b = 3 ∨ b = 4 ∨ b = 5 ∨ b = 6 ∨ b = 7 := by omega
  rw [← h]
  rcases c with c | c | c | c | c | c | c | c <;> (rw [c]; decide)
theorem g_bit1 {b u : Int} (b0 : 0 ≤ b) (b1 : b ≤ 7) (h : (mOP 101 (Int32.ofInt b) (Int32.ofInt 2)).toInt = u) : u = 2 * (b / 2 % 2) := by
  have c : b = 0 ∨ b = 1 ∨ b = 2 ∨ b = 3 ∨ b = 4 ∨ b = 5 ∨ b = 6 ∨ b = 7 := by omega
  rw [← h]
  rcases c with c | c | c | c | c | c | c | c <;> (rw [c]; decide)
theorem g_bit2 {b u : Int} (b0 : 0 ≤ b) (b1 : b ≤ 7) (h : (mOP 101 (Int32.ofInt b) (Int32.ofInt 4)).toInt = u) : u = 4 * (b / 4) := by
  have c : b = 0 ∨ b = 1 ∨ b = 2 ∨ b = 3 ∨ b = 4 ∨ b = 5 ∨ b = 6 ∨ b = 7 := by omega
  rw [← h]
  rcases c with c | c | c | c | c | c | c | c <;> (rw [c]; decide)
/-! kept States -/
theorem g_eqs_mk {f : Int} (p0 : 0 ≤ p) (p6 : p ≤ 6) (m0 : v (g_l f.toNat 0) 5 = H) (m1 : v (g_l f.toNat 0) 6 = p) (m2 : v (g_l f.toNat 0) 7 = y) (m3 : v (g_l f.toNat 0) 8 = d) (e1 : ∀ i : Int, 0 ≤ i → i < 6 → v (g_l f.toNat 1) i = v 27 i) (e2 : ∀ i : Int, 0 ≤ i → i < 6 → v (g_l f.toNat 2) i = v 28 i) (e3 : ∀ i : Int, 0 ≤ i → i < 6 → v (g_l f.toNat 3) i = v 29 i) (e4 : ∀ i : Int, 0 ≤ i → i < 6 → v (g_l f.toNat 4) i = v 30 i) (e5 : ∀ i : Int, 0 ≤ i → i < 6 → v (g_l f.toNat 5) i = v 31 i) : q_eqs v f H p y d := by
  refine ⟨⟨p0, p6⟩, ⟨m0, m1, m2, m3⟩, fun j j1 j5 => ?_⟩
  have c : j = 1 ∨ j = 2 ∨ j = 3 ∨ j = 4 ∨ j = 5 := by omega
  rcases c with c | c | c | c | c <;> (subst c; assumption)
theorem g_eqs_sv {f : Int} (e : q_eqs v f H p y d) (H6 : H ≤ 6) : g_fv v f.toNat = g_sv v 0 H p y d := by
  obtain ⟨⟨p0, p6⟩, ⟨m0, m1, m2, m3⟩, h⟩ := e
  unfold g_fv
  rw [m0, m1, m2, m3]
  exact g_rv_cg (fun k k0 k1 k6 => ⟨h 1 (by omega) (by omega) k k0 (by omega), h 2 (by omega) (by omega) k k0 (by omega)⟩) (fun j j0 j1 => ⟨h 3 (by omega) (by omega) j j0 (by omega), h 4 (by omega) (by omega) j j0 (by omega), h 5 (by omega) (by omega) j j0 (by omega)⟩)
theorem g_eqs_kp {f : Int} (e : q_eqs v f H p y d) (T : q_sto v 0 H p y d 0 0 0 0 0 0 0) : q_kp v f.toNat H (g_nw v) := by
  have w : g_wf H (g_nw v) := T.1.2.1
  exact ⟨w, e.2.1.1, (g_eqs_sv e w.1.2).trans T.2⟩
theorem g_kp_sh {f H2 : Int} (k : q_kp v f.toNat H A) (e : q_eqs v f H2 p y d) : H = H2 ∧ g_wf H A ∧ g_sv v 0 H p y d = A := by
  have h : H = H2 := k.2.1.symm.trans e.2.1.1
  subst h
  exact ⟨rfl, k.1, (g_eqs_sv e k.1.1.2).symm.trans k.2.2⟩
theorem g_row33 {f g : Int → Int} {o : Int} (h0 : f o = g 0) (h1 : f (o + 1) = g 1) (h2 : f (o + 2) = g 2) (h3 : f (o + 3) = g 3) (h4 : f (o + 4) = g 4) (h5 : f (o + 5) = g 5) (h6 : f (o + 6) = g 6) (h7 : f (o + 7) = g 7) (h8 : f (o + 8) = g 8) (h9 : f (o + 9) = g 9) (h10 : f (o + 10) = g 10) (h11 : f (o + 11) = g 11) (h12 : f (o + 12) = g 12) (h13 : f (o + 13) = g 13) (h14 : f (o + 14) = g 14) (h15 : f (o + 15) = g 15) (h16 : f (o + 16) = g 16) (h17 : f (o + 17) = g 17) (h18 : f (o + 18) = g 18) (h19 : f (o + 19) = g 19) (h20 : f (o + 20) = g 20) (h21 : f (o + 21) = g 21) (h22 : f (o + 22) = g 22) (h23 : f (o + 23) = g 23) (h24 : f (o + 24) = g 24) (h25 : f (o + 25) = g 25) (h26 : f (o + 26) = g 26) (h27 : f (o + 27) = g 27) (h28 : f (o + 28) = g 28) (h29 : f (o + 29) = g 29) (h30 : f (o + 30) = g 30) (h31 : f (o + 31) = g 31) (h32 : f (o + 32) = g 32) : g_b f o = g_b g 0 := by
  refine g_b_eq fun j j0 j1 => ?_
  rw [Int.zero_add]
  exact g_all33 (P := fun j => f (o + j) = g j) (by show f (o + 0) = g 0; rw [Int.add_zero]; exact h0) h1 h2 h3 h4 h5 h6 h7 h8 h9 h10 h11 h12 h13 h14 h15 h16 h17 h18 h19 h20 h21 h22 h23 h24 h25 h26 h27 h28 h29 h30 h31 h32 j j0 j1
theorem g_now_sto (w : g_wf H A) (sb : g_sb v H) (e : A = g_nw v) (t : g_sv v 0 H p y d = A) : q_sto v 0 H p y d 0 0 0 0 0 0 0 := by
  subst e
  exact ⟨⟨w, w, sb⟩, t⟩
/-! history's rows while they are moved -/
theorem g_hrow0 {i : Int} (i0 : 0 ≤ i) : q_hrow v 0 i = g_b (v 81) (33 * (i + 1)) := by
  funext j
  unfold q_hrow g_b
  by_cases c : 0 ≤ j ∧ j < 33
  · rw [if_pos c, if_pos c, if_neg (by omega), show 33 * i + j + 33 = 33 * (i + 1) + j by omega]
  · rw [if_neg c, if_neg c]
theorem g_hrowE {i : Int} (i1 : i < 39) : q_hrow v 1287 i = g_b (v 81) (33 * (i + 0)) := by
  funext j
  unfold q_hrow g_b
  by_cases c : 0 ≤ j ∧ j < 33
  · rw [if_pos c, if_pos c, if_pos (by omega), show 33 * i + j = 33 * (i + 0) + j by omega]
  · rw [if_neg c, if_neg c]
theorem g_hrowX {k x i : Int} (e : v 81 (k + 33) = x) : q_hrx v k x i = q_hrow v k i := by
  funext j
  unfold q_hrow q_hrx
  by_cases c : 0 ≤ j ∧ j < 33
  · rw [if_pos c, if_pos c]
    by_cases c2 : 33 * i + j = k
    · rw [if_pos c2, if_neg (by omega), c2]; exact e.symm
    · rw [if_neg c2]
  · rw [if_neg c, if_neg c]
theorem g_hrowS {k x i : Int} (e : v 81 k = x) : q_hrow v (k + 1) i = q_hrx v k x i := by
  funext j
  unfold q_hrow q_hrx
  by_cases c : 0 ≤ j ∧ j < 33
  · rw [if_pos c, if_pos c]
    by_cases c2 : 33 * i + j = k
    · rw [if_pos c2, if_pos (by omega), c2]; exact e
    · rw [if_neg c2]
      by_cases c3 : 33 * i + j < k
      · rw [if_pos c3, if_pos (by omega)]
      · rw [if_neg c3, if_neg (by omega)]
  · rw [if_neg c, if_neg c]
/-! what the model's row is but at some places -/
theorem g_but_row {B : Int → Int} {P : Int → Prop} (t : g_sup B) (bt : q_but (v 78) A P) (h : ∀ i : Int, 0 ≤ i → i < 33 → P i → v 78 i = B i) (e : ∀ i : Int, 0 ≤ i → i < 33 → ¬ P i → A i = B i) : g_b (v 78) 0 = B := g_b_fn t fun j j0 j1 => by
  rw [Int.zero_add]
  by_cases c : P j
  · exact h j j0 j1 c
  · rw [bt j j0 j1 c]; exact e j j0 j1 c
theorem g_ya_sup (t : g_sup A) : ∀ {n : Nat}, (n : Int) ≤ 6 → g_sup (g_ya v q b s A n)
  | 0, _ => t
  | n + 1, hn => by
    show g_sup (g_y1 v q b s (g_ya v q b s A n) (n : Int))
    exact (g_ya_sup t (n := n) (by omega)).y1 (by omega) (by omega)
theorem g_yr_sup (t : g_sup A) (H6 : H ≤ 6) : ∀ n : Nat, g_sup (g_yr v q b s H A n)
  | 0 => t
  | n + 1 => by
    show g_sup (g_yi (g_ya v q b s (g_yr v q b s H A n) H.toNat))
    exact (g_ya_sup (g_yr_sup t H6 n) (by omega)).yi
/-- six places leave no HOUSE out -/
def g_n6 (A : Int → Int) (k : Nat) (h : Int) : Int := if 0 ≤ g_pl (fun t => A (25 + t)) h k then 1 else 0
theorem g_n6_b {k : Nat} {h : Int} : 0 ≤ g_n6 A k h ∧ g_n6 A k h ≤ 1 := by unfold g_n6; split <;> omega
theorem g_n6_same {k : Nat} {h : Int} (c : h ≠ A (25 + (k : Int))) : g_n6 A (k + 1) h = g_n6 A k h := by
  have e : (0 ≤ g_pl (fun t => A (25 + t)) h (k + 1)) ↔ 0 ≤ g_pl (fun t => A (25 + t)) h k := by
    show (0 ≤ if 0 ≤ g_pl (fun t => A (25 + t)) h k then g_pl (fun t => A (25 + t)) h k else if A (25 + (k : Int)) = h then (k : Int) else -1) ↔ _
    by_cases c2 : 0 ≤ g_pl (fun t => A (25 + t)) h k
    · rw [if_pos c2]
    · rw [if_neg c2, if_neg (fun z => c z.symm)]; omega
  unfold g_n6
  by_cases c2 : 0 ≤ g_pl (fun t => A (25 + t)) h k
  · rw [if_pos (e.mpr c2), if_pos c2]
  · rw [if_neg (fun z => c2 (e.mp z)), if_neg c2]
theorem g_n6_new (w : g_wf H A) {k : Nat} (hk : (k : Int) < A 24) : g_n6 A k (A (25 + (k : Int))) = 0 := by
  have hn : g_pl (fun t => A (25 + t)) (A (25 + (k : Int))) k = -1 := g_pl_none fun i hi he => by
    have := w.2.2.2.1 (i : Int) (k : Int) (by omega) (by omega) (by omega) hk he
    omega
  unfold g_n6; rw [hn, if_neg (by omega)]
theorem g_n6_sum (w : g_wf H A) : ∀ k : Nat, (k : Int) ≤ A 24 → (k : Int) ≤ g_n6 A k 0 + g_n6 A k 1 + g_n6 A k 2 + g_n6 A k 3 + g_n6 A k 4 + g_n6 A k 5
  | 0, _ => by
    have e : ∀ h : Int, 0 ≤ g_n6 A 0 h := fun h => g_n6_b.1
    have := e 0; have := e 1; have := e 2; have := e 3; have := e 4; have := e 5
    omega
  | k + 1, hk => by
    have ih := g_n6_sum w k (by omega)
    have hw := w.pl_lt (i := (k : Int)) (by omega) (by omega)
    have hn := g_n6_new w (k := k) (by omega)
    have hs : ∀ h : Int, h ≠ A (25 + (k : Int)) → g_n6 A (k + 1) h = g_n6 A k h := fun h c => g_n6_same c
    have h1 : g_n6 A (k + 1) (A (25 + (k : Int))) = 1 := by
      unfold g_n6
      have : g_pl (fun t => A (25 + t)) (A (25 + (k : Int))) (k + 1) = k := by
        have hm : g_pl (fun t => A (25 + t)) (A (25 + (k : Int))) k = -1 := g_pl_none fun i hi he => by
          have := w.2.2.2.1 (i : Int) (k : Int) (by omega) (by omega) (by omega) (by omega) he
          omega
        show (if 0 ≤ g_pl (fun t => A (25 + t)) (A (25 + (k : Int))) k then _ else if A (25 + (k : Int)) = A (25 + (k : Int)) then (k : Int) else -1) = (k : Int)
        rw [if_neg (by rw [hm]; omega), if_pos rfl]
      rw [this, if_pos (by omega)]
    generalize A (25 + (k : Int)) = z at hw hn hs h1
    have c : z = 0 ∨ z = 1 ∨ z = 2 ∨ z = 3 ∨ z = 4 ∨ z = 5 := by omega
    rcases c with c | c | c | c | c | c
    · subst c; rw [hs 1 (by omega), hs 2 (by omega), hs 3 (by omega), hs 4 (by omega), hs 5 (by omega)]; omega
    · subst c; rw [hs 0 (by omega), hs 2 (by omega), hs 3 (by omega), hs 4 (by omega), hs 5 (by omega)]; omega
    · subst c; rw [hs 0 (by omega), hs 1 (by omega), hs 3 (by omega), hs 4 (by omega), hs 5 (by omega)]; omega
    · subst c; rw [hs 0 (by omega), hs 1 (by omega), hs 2 (by omega), hs 4 (by omega), hs 5 (by omega)]; omega
    · subst c; rw [hs 0 (by omega), hs 1 (by omega), hs 2 (by omega), hs 3 (by omega), hs 5 (by omega)]; omega
    · subst c; rw [hs 0 (by omega), hs 1 (by omega), hs 2 (by omega), hs 3 (by omega), hs 4 (by omega)]; omega
theorem g_wf.p5 (w : g_wf H A) {h : Int} (h0 : 0 ≤ h) (h6 : h < 6) (no : g_at A h (-1)) : A 24 ≤ 5 := by
  have w24 := w.2.1
  have s := g_n6_sum w (A 24).toNat (by omega)
  have z : g_n6 A (A 24).toNat h = 0 := by
    unfold g_n6
    rw [g_pl_noneI (p := A 24) (no.no (by omega)), if_neg (by omega)]
  have b : ∀ h : Int, g_n6 A (A 24).toNat h ≤ 1 := fun h => g_n6_b.2
  have := b 0; have := b 1; have := b 2; have := b 3; have := b 4; have := b 5
  have c : h = 0 ∨ h = 1 ∨ h = 2 ∨ h = 3 ∨ h = 4 ∨ h = 5 := by omega
  rcases c with c | c | c | c | c | c <;> (rw [c] at z; omega)
theorem g_Q9 (h : u = (if 0 ≤ x1 ∧ x1 < x2 ∧ A (6 + x1) = 0 ∧ 1 ≤ A x1 then 1 else 0)) : q_Q v q b s A 9 x1 x2 u := h
theorem g_los_le {j : Int} (w : g_wf H A) (wl : g_wf H (g_los j A)) : j ≤ A 24 := by
  rcases Int.lt_or_le (A 24) j with c | c
  · exfalso
    have w24 := w.2.1
    have l24 := wl.2.1
    rw [g_los_p] at l24
    have t0 := w.2.2.2.2.1 (A 24) (Int.le_refl _) (by omega)
    have e : g_los j A (25 + A 24) = 0 := by rw [g_los_w w24.1 (by omega), if_pos c, t0]
    have l := (wl.len (i := A 24) w24.1 (by rw [g_los_p]; exact c)).1
    rw [e, g_los_l (by omega) (by omega)] at l
    have l6 : 1 ≤ A (6 + 0) := by
      split at l
      · exact l
      · omega
    obtain ⟨k, k0, ka⟩ := w.yes_at (h := 0) (by omega) (by omega) l6
    have kg := ka.get k0
    have e2 : g_los j A (25 + k) = 0 := by rw [g_los_w k0 (by omega), if_pos (by omega), kg.1]
    have := wl.2.2.2.1 k (A 24) k0 (by rw [g_los_p]; omega) w24.1 (by rw [g_los_p]; exact c) (e2.trans e.symm)
    omega
  · exact c
/-- a rope of no PLAITS -/
theorem g_wf0 (H0 : 0 ≤ H) (H6 : H ≤ 6) (h : ∀ i : Int, 0 ≤ i → i < H → 0 ≤ A i ∧ A i ≤ 99) (z : ∀ i : Int, H ≤ i → i < 33 → A i = 0) : g_wf H A := by
  refine ⟨⟨H0, H6⟩, by rw [z 24 (by omega) (by omega)]; omega, fun i i0 i1 => ?_, fun i j i0 i1 j0 j1 e => ?_, fun i i0 i1 => z _ (by rw [z 24 (by omega) (by omega)] at i0; omega) (by omega), fun k k0 k6 => ?_, fun k k0 k6 => ?_, fun k k0 k6 => ⟨z _ (by omega) (by omega), z _ (by omega) (by omega)⟩⟩
  · rw [z 24 (by omega) (by omega)] at i1; omega
  · rw [z 24 (by omega) (by omega)] at i1; omega
  · exact Or.inr ⟨z _ (by omega) (by omega), z _ (by omega) (by omega), fun i i0 i1 => by rw [z 24 (by omega) (by omega)] at i1; omega⟩
  · rw [z (6 + k) (by omega) (by omega), z (12 + k) (by omega) (by omega)]
    by_cases c : k < H
    · have := h k k0 c; omega
    · rw [z k (by omega) (by omega)]; omega
end ZR7
end
