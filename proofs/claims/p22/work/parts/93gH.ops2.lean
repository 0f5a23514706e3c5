noncomputable section
/-! ===== rows: PLAITS lost, spliced; laws, sums, SPARE ===== -/
section ZR6
variable {v : zVw} {q b s H : Int} {A : Int → Int}
/-! what is lost -/
theorem g_los_p {j : Int} : g_los j A 24 = j := by unfold g_los; rw [if_pos rfl]
theorem g_los_w {j i : Int} (i0 : 0 ≤ i) (i1 : i < 6) : g_los j A (25 + i) = if i < j then A (25 + i) else 0 := by unfold g_los; rw [if_neg (by omega), if_pos (by omega), show 25 + i - 25 = i by omega]
theorem g_los_l {j h : Int} (i0 : 0 ≤ h) (i1 : h < 6) : g_los j A (6 + h) = if 0 ≤ g_pl (fun t => A (25 + t)) h j.toNat then A (6 + h) else 0 := by unfold g_los; rw [if_neg (by omega), if_neg (by omega), if_pos (by omega), show 6 + h - 6 = h by omega]
theorem g_los_s {j h : Int} (i0 : 0 ≤ h) (i1 : h < 6) : g_los j A (12 + h) = if 0 ≤ g_pl (fun t => A (25 + t)) h j.toNat then A (12 + h) else 0 := by unfold g_los; rw [if_neg (by omega), if_neg (by omega), if_neg (by omega), if_pos (by omega), show 12 + h - 12 = h by omega]
theorem g_los_o {j i : Int} (c : i < 6 ∨ (18 ≤ i ∧ i < 24) ∨ 30 < i) : g_los j A i = A i := by unfold g_los; rw [if_neg (by omega), if_neg (by omega), if_neg (by omega), if_neg (by omega)]
theorem g_sup.los (t : g_sup A) {j : Int} : g_sup (g_los j A) := fun i hi => by rw [g_los_o (by omega)]; exact t i hi
theorem g_wf.los (w : g_wf H A) {j : Int} (j0 : 0 ≤ j) (j1 : j ≤ A 24) : g_wf H (g_los j A) := by
  obtain ⟨w1, w3, w5, w6, w7, w8, w9, w10⟩ := w
  refine ⟨w1, by rw [g_los_p]; omega, fun i i0 i1 => ?_, fun i k i0 i1 k0 k1 e => ?_, fun i i0 i1 => ?_, fun h h0 h6 => ?_, fun h h0 h6 => ?_, fun h h0 h6 => ?_⟩
  · rw [g_los_p] at i1
    rw [g_los_w i0 (by omega), if_pos i1]; exact w5 i i0 (by omega)
  · rw [g_los_p] at i1 k1
    rw [g_los_w i0 (by omega), if_pos i1, g_los_w k0 (by omega), if_pos k1] at e
    exact w6 i k i0 (by omega) k0 (by omega) e
  · rw [g_los_p] at i0
    rw [g_los_w (by omega) i1, if_neg (by omega)]
  · rw [g_los_l h0 h6, g_los_s h0 h6, g_los_p]
    have hb := g_pl_b (w := fun t => A (25 + t)) (h := h) j.toNat
    by_cases c : 0 ≤ g_pl (fun t => A (25 + t)) h j.toNat
    · rw [if_pos c]
      have e : A (25 + g_pl (fun t => A (25 + t)) h j.toNat) = h := g_pl_get c
      refine Or.inl ⟨?_, g_pl (fun t => A (25 + t)) h j.toNat, c, by omega, by rw [g_los_w c (by omega), if_pos (by omega)]; exact e⟩
      rcases w8 h h0 h6 with a | a
      · exact a.1
      · exact absurd e (a.2.2 _ c (by omega))
    · rw [if_neg c, if_neg c]
      refine Or.inr ⟨rfl, rfl, fun i i0 i1 => ?_⟩
      rw [g_los_w i0 (by omega), if_pos i1]
      exact g_pl_noI (w := fun t => A (25 + t)) (by omega) i i0 i1
  · have a := w9 h h0 h6
    rw [g_los_o (Or.inl h6), g_los_l h0 h6, g_los_s h0 h6]
    refine ⟨a.1, a.2.1, ?_, ?_⟩
    · split <;> omega
    · split <;> omega
  · rw [g_los_o (Or.inl h6), g_los_o (by omega)]; exact w10 h h0 h6
theorem g_pt.los {ha gi wh le sr : Int → Int} {p y d : Int} (w : g_wf H A) (t : g_pt ha gi wh le sr H p y d A) {z : Int} (z0 : 0 ≤ z) (z1 : z ≤ p) : g_pt ha gi wh le sr H z y d (g_los z A) := by
  obtain ⟨⟨p1, p2, p3⟩, p4, p5⟩ := t
  have w24 := w.2.1
  have w1 := w.1
  refine ⟨⟨g_los_p.symm, by rw [g_los_o (by omega)]; exact p2, by rw [g_los_o (by omega)]; exact p3⟩, fun h h0 h1 => ?_, fun i i0 i1 => ?_⟩
  · rw [g_los_o (by omega), g_los_o (by omega)]; exact p4 h h0 h1
  · have e := p5 i i0 (by omega)
    have hw := w.pl_lt i0 (show i < A 24 by omega)
    have hp : g_pl (fun t => A (25 + t)) (A (25 + i)) z.toNat = i := g_pl_atI i0 i1 rfl (fun j j0 j1 he => by
      have := w.2.2.2.1 j i j0 (by omega) i0 (by omega) he
      omega)
    rw [g_los_w i0 (by omega), if_pos i1, g_los_l hw.1 hw.2.2, g_los_s hw.1 hw.2.2, hp, if_pos i0, if_pos i0]
    exact e
theorem g_los_id (w : g_wf H A) : g_los (A 24) A = A := by
  funext i
  by_cases c : i < 6 ∨ (18 ≤ i ∧ i < 24) ∨ 30 < i
  · exact g_los_o c
  · by_cases c1 : i = 24
    · rw [c1, g_los_p]
    · by_cases c2 : 25 ≤ i
      · have e := g_los_w (A := A) (j := A 24) (i := i - 25) (by omega) (by omega)
        rw [show 25 + (i - 25) = i by omega] at e
        rw [e]
        split
        · rfl
        · next c3 =>
          have := w.2.2.2.2.1 (i - 25) (by omega) (by omega)
          rw [show 25 + (i - 25) = i by omega] at this
          exact this.symm
      · have key : ∀ h : Int, 0 ≤ h → h < 6 → ¬ 0 ≤ g_pl (fun t => A (25 + t)) h (A 24).toNat → A (6 + h) = 0 ∧ A (12 + h) = 0 := fun h h0 h6 hn => by
          have := g_pl_b (w := fun t => A (25 + t)) (h := h) (A 24).toNat
          have hn2 : g_at A h (-1) := Or.inr ⟨rfl, fun i i0 i1 => g_pl_noI (w := fun t => A (25 + t)) (by omega) i i0 i1⟩
          exact w.at_no hn2 h0 h6
        by_cases c3 : i < 12
        · have e := g_los_l (A := A) (j := A 24) (h := i - 6) (by omega) (by omega)
          have k := key (i - 6) (by omega) (by omega)
          rw [show 6 + (i - 6) = i by omega] at e k
          rw [e]
          split
          · rfl
          · next c4 => exact (k c4).1.symm
        · have e := g_los_s (A := A) (j := A 24) (h := i - 12) (by omega) (by omega)
          have k := key (i - 12) (by omega) (by omega)
          rw [show 12 + (i - 12) = i by omega] at e k
          rw [e]
          split
          · rfl
          · next c4 => exact (k c4).2.symm
/-- one PLAIT more is lost -/
theorem g_los_step (w : g_wf H A) {j h : Int} (j1 : 1 ≤ j) (j2 : j ≤ A 24) (e : h = A (24 + j)) {R : Int → Int} (bt : q_but R (g_los j A) (fun i => i = 24 ∨ i = j + 24 ∨ i = h + 6 ∨ i = h + 12)) (r1 : R 24 = j - 1) (r2 : R (j + 24) = 0) (r3 : R (h + 6) = 0) (r4 : R (h + 12) = 0) : ∀ i : Int, 0 ≤ i → i < 33 → R i = g_los (j - 1) A i := by
  have w24 := w.2.1
  have hw := w.pl_lt (i := j - 1) (by omega) (by omega)
  rw [show 25 + (j - 1) = 24 + j by omega, ← e] at hw
  have hat : ∀ i : Int, 0 ≤ i → i < A 24 → A (25 + i) = h → i = j - 1 := fun i i0 i1 he => w.2.2.2.1 i (j - 1) i0 i1 (by omega) (by omega) (by rw [he, show 25 + (j - 1) = 24 + j by omega]; exact e)
  have hno : g_pl (fun t => A (25 + t)) h (j - 1).toNat = -1 := g_pl_noneI fun i i0 i1 he => by
    have := hat i i0 (by omega) he
    omega
  have hsame : ∀ k : Int, k ≠ h → g_pl (fun t => A (25 + t)) k j.toNat = g_pl (fun t => A (25 + t)) k (j - 1).toNat := fun k kh => by
    rw [show j.toNat = (j - 1).toNat + 1 by omega]
    show (if 0 ≤ _ then _ else _) = _
    split
    · rfl
    · next c =>
      have hb := g_pl_b (w := fun t => A (25 + t)) (h := k) (j - 1).toNat
      rw [if_neg (by
        show A (25 + (((j - 1).toNat : Nat) : Int)) ≠ k
        rw [show 25 + (((j - 1).toNat : Nat) : Int) = 24 + j by omega, ← e]
        exact fun z => kh z.symm)]
      omega
  intro i i0 i1
  by_cases c : i = 24 ∨ i = j + 24 ∨ i = h + 6 ∨ i = h + 12
  · rcases c with c | c | c | c
    · rw [c, r1, g_los_p]
    · rw [c, r2]
      have e2 := g_los_w (A := A) (j := j - 1) (i := j - 1) (by omega) (by omega)
      rw [show 25 + (j - 1) = j + 24 by omega, if_neg (by omega)] at e2
      exact e2.symm
    · have e2 := g_los_l (A := A) (j := j - 1) hw.1 hw.2.2
      rw [hno, if_neg (by omega), show 6 + h = h + 6 by omega] at e2
      rw [c, r3, e2]
    · have e2 := g_los_s (A := A) (j := j - 1) hw.1 hw.2.2
      rw [hno, if_neg (by omega), show 12 + h = h + 12 by omega] at e2
      rw [c, r4, e2]
  · rw [bt i i0 i1 c]
    by_cases c0 : i < 6 ∨ (18 ≤ i ∧ i < 24) ∨ 30 < i
    · rw [g_los_o c0, g_los_o c0]
    · by_cases c2 : 25 ≤ i
      · have e1 := g_los_w (A := A) (j := j) (i := i - 25) (by omega) (by omega)
        have e2 := g_los_w (A := A) (j := j - 1) (i := i - 25) (by omega) (by omega)
        rw [show 25 + (i - 25) = i by omega] at e1 e2
        rw [e1, e2]
        by_cases c3 : i - 25 < j - 1
        · rw [if_pos (by omega), if_pos c3]
        · rw [if_neg (by omega), if_neg c3]
      · by_cases c3 : i < 12
        · have e1 := g_los_l (A := A) (j := j) (h := i - 6) (by omega) (by omega)
          have e2 := g_los_l (A := A) (j := j - 1) (h := i - 6) (by omega) (by omega)
          rw [show 6 + (i - 6) = i by omega] at e1 e2
          rw [e1, e2, hsame _ (by omega)]
        · have e1 := g_los_s (A := A) (j := j) (h := i - 12) (by omega) (by omega)
          have e2 := g_los_s (A := A) (j := j - 1) (h := i - 12) (by omega) (by omega)
          rw [show 12 + (i - 12) = i by omega] at e1 e2
          rw [e1, e2, hsame _ (by omega)]
/-! what is spliced -/
theorem g_spl_o {h i : Int} (c1 : i ≠ h) (c2 : i ≠ 6 + h) (c3 : i ≠ 12 + h) (c4 : i ≠ 18 + h) (c5 : i ≠ 24) (c6 : i ≠ 25 + A 24) : g_spl v h A i = A i := by unfold g_spl; rw [if_neg c1, if_neg c2, if_neg c3, if_neg c4, if_neg c5, if_neg c6]
theorem g_spl_h {h : Int} : g_spl v h A h = 0 := by unfold g_spl; rw [if_pos rfl]
theorem g_spl_l {h : Int} : g_spl v h A (6 + h) = A h := by unfold g_spl; rw [if_neg (by omega), if_pos rfl]
theorem g_spl_s {h : Int} : g_spl v h A (12 + h) = v 20 h := by unfold g_spl; rw [if_neg (by omega), if_neg (by omega), if_pos rfl]
theorem g_spl_g {h : Int} : g_spl v h A (18 + h) = g_op 110 (A (18 + h)) 1 := by unfold g_spl; rw [if_neg (by omega), if_neg (by omega), if_neg (by omega), if_pos rfl]
theorem g_spl_p {h : Int} (h0 : 0 ≤ h) (h6 : h < 6) : g_spl v h A 24 = A 24 + 1 := by unfold g_spl; rw [if_neg (by omega), if_neg (by omega), if_neg (by omega), if_neg (by omega), if_pos rfl]
theorem g_spl_w {h : Int} (h0 : 0 ≤ h) (h6 : h < 6) (p0 : 0 ≤ A 24) : g_spl v h A (25 + A 24) = h := by unfold g_spl; rw [if_neg (by omega), if_neg (by omega), if_neg (by omega), if_neg (by omega), if_neg (by omega), if_pos rfl]
theorem g_sup.spl (t : g_sup A) {h : Int} (h0 : 0 ≤ h) (h6 : h < 6) (p0 : 0 ≤ A 24) (p5 : A 24 ≤ 5) : g_sup (g_spl v h A) := fun i hi => by rw [g_spl_o (by omega) (by omega) (by omega) (by omega) (by omega) (by omega)]; exact t i hi
theorem g_wf.spl (w : g_wf H A) (sb : g_sb v H) {h : Int} (h0 : 0 ≤ h) (hH : h < H) (p5 : A 24 ≤ 5) (x1 : 1 ≤ A h) (no : g_at A h (-1)) : g_wf H (g_spl v h A) := by
  have hv := sb h h0 hH
  have hno : ∀ i : Int, 0 ≤ i → i < A 24 → A (25 + i) ≠ h := by
    rcases no with ⟨a, -⟩ | ⟨-, a⟩
    · omega
    · exact a
  obtain ⟨w1, w3, w5, w6, w7, w8, w9, w10⟩ := w
  have hpl : ∀ i : Int, 0 ≤ i → i < A 24 → g_spl v h A (25 + i) = A (25 + i) := fun i i0 i1 => g_spl_o (by omega) (by omega) (by omega) (by omega) (by omega) (by omega)
  have hlast : g_spl v h A (25 + A 24) = h := g_spl_w h0 (by omega) w3.1
  refine ⟨w1, by rw [g_spl_p h0 (by omega)]; omega, fun i i0 i1 => ?_, fun i k i0 i1 k0 k1 e => ?_, fun i i0 i1 => ?_, fun k k0 k6 => ?_, fun k k0 k6 => ?_, fun k k0 k6 => ?_⟩
  · rw [g_spl_p h0 (by omega)] at i1
    by_cases c : i < A 24
    · rw [hpl i i0 c]; exact w5 i i0 c
    · rw [show i = A 24 by omega, hlast]; omega
  · rw [g_spl_p h0 (by omega)] at i1 k1
    by_cases c : i < A 24
    · by_cases c2 : k < A 24
      · rw [hpl i i0 c, hpl k k0 c2] at e; exact w6 i k i0 c k0 c2 e
      · rw [hpl i i0 c, show k = A 24 by omega, hlast] at e; exact absurd e (hno i i0 c)
    · by_cases c2 : k < A 24
      · rw [hpl k k0 c2, show i = A 24 by omega, hlast] at e; exact absurd e.symm (hno k k0 c2)
      · omega
  · rw [g_spl_p h0 (by omega)] at i0
    rw [g_spl_o (by omega) (by omega) (by omega) (by omega) (by omega) (by omega)]
    exact w7 i (by omega) i1
  · rw [g_spl_p h0 (by omega)]
    by_cases c : k = h
    · subst c
      rw [g_spl_l]
      exact Or.inl ⟨x1, A 24, w3.1, by omega, hlast⟩
    · rw [g_spl_o (i := 6 + k) (by omega) (by omega) (by omega) (by omega) (by omega) (by omega), g_spl_o (i := 12 + k) (by omega) (by omega) (by omega) (by omega) (by omega) (by omega)]
      rcases w8 k k0 k6 with ⟨a, i, i0, i1, e⟩ | ⟨a, a2, a3⟩
      · exact Or.inl ⟨a, i, i0, by omega, by rw [hpl i i0 i1]; exact e⟩
      · refine Or.inr ⟨a, a2, fun i i0 i1 => ?_⟩
        by_cases c2 : i < A 24
        · rw [hpl i i0 c2]; exact a3 i i0 c2
        · rw [show i = A 24 by omega, hlast]; exact fun z => c z.symm
  · have a := w9 k k0 k6
    by_cases c : k = h
    · subst c
      rw [g_spl_h, g_spl_l, g_spl_s]; omega
    · rw [g_spl_o (i := 6 + k) (by omega) (by omega) (by omega) (by omega) (by omega) (by omega), g_spl_o (i := 12 + k) (by omega) (by omega) (by omega) (by omega) (by omega) (by omega), g_spl_o (i := k) (by omega) (by omega) (by omega) (by omega) (by omega) (by omega)]
      exact a
  · rw [g_spl_o (i := k) (by omega) (by omega) (by omega) (by omega) (by omega) (by omega), g_spl_o (i := 18 + k) (by omega) (by omega) (by omega) (by omega) (by omega) (by omega)]
    exact w10 k k0 k6
/-! sums of LENGTHS -/
theorem g_su_front (a : Int) : ∀ n : Nat, g_su A a (n + 1) = A (6 + A (25 + a)) + g_su A (a + 1) n
  | 0 => by show 0 + A (6 + A (25 + (a + ((0 : Nat) : Int)))) = A (6 + A (25 + a)) + 0; rw [show a + ((0 : Nat) : Int) = a by omega]; omega
  | n + 1 => by
    have ih := g_su_front a n
    show g_su A a (n + 1) + A (6 + A (25 + (a + ((n + 1 : Nat) : Int)))) = A (6 + A (25 + a)) + (g_su A (a + 1) n + A (6 + A (25 + (a + 1 + (n : Int)))))
    rw [ih, show a + ((n + 1 : Nat) : Int) = a + 1 + (n : Int) by omega]
    omega
theorem g_su_up {a k : Int} (h : a ≤ k) : g_su A a (k + 1 - a).toNat = g_su A a (k - a).toNat + A (6 + A (25 + k)) := by
  rw [show (k + 1 - a).toNat = (k - a).toNat + 1 by omega]
  show g_su A a (k - a).toNat + A (6 + A (25 + (a + (((k - a).toNat : Nat) : Int)))) = _
  rw [show a + (((k - a).toNat : Nat) : Int) = k by omega]
theorem g_su_dn {i p : Int} (h : i < p) : g_su A i (p - i).toNat = A (6 + A (25 + i)) + g_su A (i + 1) (p - (i + 1)).toNat := by
  rw [show (p - i).toNat = (p - (i + 1)).toNat + 1 by omega]
  exact g_su_front i _
theorem g_su_b (w : g_wf H A) : ∀ n : Nat, (n : Int) ≤ 6 → 0 ≤ g_su A 0 n ∧ g_su A 0 n ≤ 99 * n
  | 0, _ => ⟨Int.le_refl _, Int.le_refl _⟩
  | n + 1, hn => by
    have ih := g_su_b w n (by omega)
    have hl : 0 ≤ A (6 + A (25 + (n : Int))) ∧ A (6 + A (25 + (n : Int))) ≤ 99 := by
      by_cases c : (n : Int) < A 24
      · have := w.len (i := (n : Int)) (by omega) c; omega
      · have e := w.2.2.2.2.1 (n : Int) (by omega) (by omega)
        rw [e]
        have a := w.2.2.2.2.2.2.1 0 (by omega) (by omega)
        have a8 := w.2.2.2.2.2.1 0 (by omega) (by omega)
        refine ⟨?_, a.2.2.1⟩
        rcases a8 with a9 | a9 <;> omega
    show 0 ≤ g_su A 0 n + A (6 + A (25 + (0 + (n : Int)))) ∧ g_su A 0 n + A (6 + A (25 + (0 + (n : Int)))) ≤ 99 * ((n + 1 : Nat) : Int)
    rw [show (0 : Int) + (n : Int) = n by omega]
    omega
def g_c6 (A : Int → Int) (k : Nat) (h : Int) : Int := if 0 ≤ g_pl (fun t => A (25 + t)) h k then A (6 + h) else 0
theorem g_c6_same (w : g_wf H A) {k : Nat} (hk : (k : Int) < A 24) {h : Int} (c : h ≠ A (25 + (k : Int))) : g_c6 A (k + 1) h = g_c6 A k h := by
  have e : (0 ≤ g_pl (fun t => A (25 + t)) h (k + 1)) ↔ 0 ≤ g_pl (fun t => A (25 + t)) h k := by
    show (0 ≤ if 0 ≤ g_pl (fun t => A (25 + t)) h k then g_pl (fun t => A (25 + t)) h k else if A (25 + (k : Int)) = h then (k : Int) else -1) ↔ _
    by_cases c2 : 0 ≤ g_pl (fun t => A (25 + t)) h k
    · rw [if_pos c2]
    · rw [if_neg c2, if_neg (fun z => c z.symm)]; omega
  unfold g_c6
  by_cases c2 : 0 ≤ g_pl (fun t => A (25 + t)) h k
  · rw [if_pos (e.mpr c2), if_pos c2]
  · rw [if_neg (fun z => c2 (e.mp z)), if_neg c2]
theorem g_c6_new (w : g_wf H A) {k : Nat} (hk : (k : Int) < A 24) : g_c6 A k (A (25 + (k : Int))) = 0 ∧ g_c6 A (k + 1) (A (25 + (k : Int))) = A (6 + A (25 + (k : Int))) := by
  have hn : g_pl (fun t => A (25 + t)) (A (25 + (k : Int))) k = -1 := g_pl_none fun i hi he => by
    have := w.2.2.2.1 (i : Int) (k : Int) (by omega) (by omega) (by omega) hk he
    omega
  refine ⟨by unfold g_c6; rw [hn, if_neg (by omega)], ?_⟩
  have e : g_pl (fun t => A (25 + t)) (A (25 + (k : Int))) (k + 1) = k := by
    show (if 0 ≤ g_pl (fun t => A (25 + t)) (A (25 + (k : Int))) k then _ else if A (25 + (k : Int)) = A (25 + (k : Int)) then (k : Int) else -1) = (k : Int)
    rw [if_neg (by rw [hn]; omega), if_pos rfl]
  unfold g_c6
  rw [e, if_pos (by omega)]
theorem g_su_c6 (w : g_wf H A) : ∀ k : Nat, (k : Int) ≤ A 24 → g_su A 0 k = g_c6 A k 0 + g_c6 A k 1 + g_c6 A k 2 + g_c6 A k 3 + g_c6 A k 4 + g_c6 A k 5
  | 0, _ => by
    have e : ∀ h : Int, g_c6 A 0 h = 0 := fun h => by unfold g_c6; rw [if_neg (by show ¬ (0 : Int) ≤ -1; omega)]
    rw [e, e, e, e, e, e]; rfl
  | k + 1, hk => by
    have ih := g_su_c6 w k (by omega)
    have hw := w.pl_lt (i := (k : Int)) (by omega) (by omega)
    have hn := g_c6_new w (k := k) (by omega)
    have hs : ∀ h : Int, h ≠ A (25 + (k : Int)) → g_c6 A (k + 1) h = g_c6 A k h := fun h c => g_c6_same w (by omega) c
    show g_su A 0 k + A (6 + A (25 + (0 + (k : Int)))) = _
    rw [show (0 : Int) + (k : Int) = k by omega, ih]
    generalize A (25 + (k : Int)) = z at hw hn hs ⊢
    have c : z = 0 ∨ z = 1 ∨ z = 2 ∨ z = 3 ∨ z = 4 ∨ z = 5 := by omega
    rcases c with c | c | c | c | c | c
    · subst c; rw [hs 1 (by omega), hs 2 (by omega), hs 3 (by omega), hs 4 (by omega), hs 5 (by omega)]; omega
    · subst c; rw [hs 0 (by omega), hs 2 (by omega), hs 3 (by omega), hs 4 (by omega), hs 5 (by omega)]; omega
    · subst c; rw [hs 0 (by omega), hs 1 (by omega), hs 3 (by omega), hs 4 (by omega), hs 5 (by omega)]; omega
    · subst c; rw [hs 0 (by omega), hs 1 (by omega), hs 2 (by omega), hs 4 (by omega), hs 5 (by omega)]; omega
    · subst c; rw [hs 0 (by omega), hs 1 (by omega), hs 2 (by omega), hs 3 (by omega), hs 5 (by omega)]; omega
    · subst c; rw [hs 0 (by omega), hs 1 (by omega), hs 2 (by omega), hs 3 (by omega), hs 4 (by omega)]; omega
theorem g_su_all (w : g_wf H A) : g_su A 0 (A 24 - 0).toNat = A 6 + A 7 + A 8 + A 9 + A 10 + A 11 := by
  have w24 := w.2.1
  rw [show A 24 - 0 = A 24 by omega, g_su_c6 w (A 24).toNat (by omega)]
  have e : ∀ h : Int, 0 ≤ h → h < 6 → g_c6 A (A 24).toNat h = A (6 + h) := fun h h0 h6 => by
    unfold g_c6
    split
    · rfl
    · next c =>
      have hb := g_pl_b (w := fun t => A (25 + t)) (h := h) (A 24).toNat
      have hn2 : g_at A h (-1) := Or.inr ⟨rfl, fun i i0 i1 => g_pl_noI (w := fun t => A (25 + t)) (by omega) i i0 i1⟩
      exact (w.at_no hn2 h0 h6).1.symm
  rw [e 0 (by omega) (by omega), e 1 (by omega) (by omega), e 2 (by omega) (by omega), e 3 (by omega) (by omega), e 4 (by omega) (by omega), e 5 (by omega) (by omega)]
  rfl
/-! laws -/
theorem g_raw_cg {B : Int → Int} {k h like other : Int} (e : g_lk (v 20) B h like other = g_lk (v 20) A h like other) : g_raw v q k B h like other = g_raw v q k A h like other := by unfold g_raw; rw [e]
theorem g_lk_cg {B S : Int → Int} {h like other : Int} (e0 : B h = A h) (e6 : B (6 + h) = A (6 + h)) (e12 : B (12 + h) = A (12 + h)) (e31 : B 31 = A 31) (e24 : B 24 = A 24) (e25 : ∀ i : Int, 0 ≤ i → i < A 24 → B (25 + i) = A (25 + i)) (e18 : B (18 + h) = A (18 + h)) : g_lk S B h like other = g_lk S A h like other := by
  have ep : g_p0 B h = g_p0 A h := by
    unfold g_p0 g_pA
    rw [e24, g_pl_cgI (w := fun i => B (25 + i)) (w' := fun i => A (25 + i)) (fun i i0 i1 => e25 i i0 i1)]
  unfold g_lk g_sg
  rw [e0, e6, e12, e31, e24, e18, ep]
theorem g_ya_o : ∀ (n : Nat) {i : Int}, (6 ≤ i ∧ i < 12) ∨ 18 ≤ i → (n : Int) ≤ 6 → g_ya v q b s A n i = A i
  | 0, _, _, _ => rfl
  | n + 1, i, hi, hn => by
    show g_y1 v q b s (g_ya v q b s A n) (n : Int) i = A i
    rw [g_y1_o (by omega) (by omega)]
    exact g_ya_o n hi (by omega)
theorem g_ya_h : ∀ (n : Nat) {h : Int}, (n : Int) ≤ h → h < 6 → g_ya v q b s A n h = A h ∧ g_ya v q b s A n (12 + h) = A (12 + h)
  | 0, _, _, _ => ⟨rfl, rfl⟩
  | n + 1, h, hn, h6 => by
    have ih := g_ya_h n (h := h) (by omega) h6
    show g_y1 v q b s (g_ya v q b s A n) (n : Int) h = A h ∧ g_y1 v q b s (g_ya v q b s A n) (n : Int) (12 + h) = A (12 + h)
    rw [g_y1_o (by omega) (by omega), g_y1_o (by omega) (by omega)]
    exact ih
theorem g_lw_ya (n : Nat) {k h : Int} (h1 : (n : Int) ≤ h) (h6 : h < 6) : g_lw v q k (g_ya v q b s A n) h = g_lw v q k A h := by
  have e := g_ya_h (v := v) (q := q) (b := b) (s := s) (A := A) n h1 h6
  unfold g_lw
  rw [g_raw_cg (g_lk_cg e.1 (g_ya_o n (by omega) (by omega)) e.2 (g_ya_o n (by omega) (by omega)) (g_ya_o n (by omega) (by omega)) (fun i i0 i1 => g_ya_o n (by omega) (by omega)) (g_ya_o n (by omega) (by omega)))]
/-! SPARE -/
theorem g_sp_odd {i : Int} : g_sp v q A (2 * i + 1) = A (12 + A (25 + i)) - g_su A (i + 1) (A 24 - (i + 1)).toNat := by
  unfold g_sp
  rw [if_pos (by omega), show (2 * i + 1) / 2 = i by omega]
theorem g_sp_ev {i : Int} (i1 : 1 ≤ i) : g_sp v q A (2 * i) = g_jo v q A (A (24 + i)) (A (25 + i)) - g_su A i (A 24 - i).toNat := by
  unfold g_sp
  rw [if_neg (by omega), if_neg (by omega), show (2 * i) / 2 = i by omega]
theorem g_sp_0 : g_sp v q A 0 = 9999 := by
  unfold g_sp
  rw [if_neg (by omega), if_pos rfl]
theorem g_br_eq {w u u' : Int} (h : g_br v q A w u) (h' : g_br v q A w u') : u = u' := by
  rcases h with ⟨a, b', c, d⟩ | ⟨a, b'⟩ <;> rcases h' with ⟨a', b2, c', d'⟩ | ⟨a', b2⟩
  · rcases Int.lt_trichotomy u u' with x | x | x
    · have := d' u a x; omega
    · exact x
    · have := d u' a' x; omega
  · have := b2 u a b'; omega
  · have := b' u' a' b2; omega
  · omega
theorem g_br_b {w u : Int} (wf : g_wf H A) (h : g_br v q A w u) : -1 ≤ u ∧ u < 12 := by
  have := wf.2.1
  rcases h with ⟨a, b', c, d⟩ | ⟨a, b'⟩ <;> omega
end ZR6
end
