noncomputable section
/-! ===== rows: places, well-made rows, a State as a row ===== -/
theorem g_pl_b {w : Int → Int} {h : Int} : ∀ n : Nat, -1 ≤ g_pl w h n ∧ g_pl w h n < n
  | 0 => by unfold g_pl; omega
  | n + 1 => by
    have := g_pl_b (w := w) (h := h) n
    unfold g_pl
    split
    · omega
    · split <;> omega
theorem g_pl_get {w : Int → Int} {h : Int} : ∀ {n : Nat}, 0 ≤ g_pl w h n → w (g_pl w h n) = h
  | 0, q => by unfold g_pl at q; omega
  | n + 1, q => by
    unfold g_pl at q ⊢
    split at q
    · next c => rw [if_pos c]; exact g_pl_get c
    · next c =>
      rw [if_neg c]
      split at q
      · next e => rw [if_pos e]; exact e
      · omega
theorem g_pl_no {w : Int → Int} {h : Int} : ∀ {n : Nat}, g_pl w h n < 0 → ∀ i : Nat, i < n → w i ≠ h
  | 0, _, i, hi => by omega
  | n + 1, q, i, hi => by
    unfold g_pl at q
    split at q
    · omega
    · next c =>
      split at q
      · omega
      · next e =>
        rcases Nat.lt_or_ge i n with a | a
        · exact g_pl_no (by omega) i a
        · rw [show i = n by omega]; exact e
theorem g_pl_none {w : Int → Int} {h : Int} : ∀ {n : Nat}, (∀ i : Nat, i < n → w i ≠ h) → g_pl w h n = -1
  | 0, _ => rfl
  | n + 1, q => by
    unfold g_pl
    rw [g_pl_none (fun i hi => q i (by omega)), if_neg (by omega), if_neg (q n (by omega))]
theorem g_pl_at {w : Int → Int} {h : Int} {i : Nat} (he : w i = h) (hu : ∀ j : Nat, j < i → w j ≠ h) : ∀ {n : Nat}, i < n → g_pl w h n = i
  | 0, hi => by omega
  | n + 1, hi => by
    unfold g_pl
    rcases Nat.lt_or_ge i n with a | a
    · rw [g_pl_at he hu a, if_pos (by omega)]
    · have e : i = n := by omega
      subst e
      rw [g_pl_none hu, if_neg (by omega), if_pos he]
theorem g_pl_cg {w w' : Int → Int} {h : Int} : ∀ {n : Nat}, (∀ i : Nat, i < n → w i = w' i) → g_pl w h n = g_pl w' h n
  | 0, _ => rfl
  | n + 1, q => by
    unfold g_pl
    rw [g_pl_cg (fun i hi => q i (by omega)), q n (by omega)]
/-- places and what they hold, by ints -/
theorem g_pl_atI {w : Int → Int} {h p i : Int} (i0 : 0 ≤ i) (i1 : i < p) (he : w i = h) (hu : ∀ j : Int, 0 ≤ j → j < i → w j ≠ h) : g_pl w h p.toNat = i := by
  have := g_pl_at (w := w) (h := h) (i := i.toNat) (by rw [show ((i.toNat : Nat) : Int) = i by omega]; exact he) (fun j hj => hu j (by omega) (by omega)) (n := p.toNat) (by omega)
  omega
theorem g_pl_noneI {w : Int → Int} {h p : Int} (q : ∀ i : Int, 0 ≤ i → i < p → w i ≠ h) : g_pl w h p.toNat = -1 := g_pl_none fun i hi => q i (by omega) (by omega)
theorem g_pl_noI {w : Int → Int} {h p : Int} (q : g_pl w h p.toNat < 0) : ∀ i : Int, 0 ≤ i → i < p → w i ≠ h := by
  intro i i0 i1
  have := g_pl_no q i.toNat (by omega)
  rw [show ((i.toNat : Nat) : Int) = i by omega] at this
  exact this
theorem g_pl_cgI {w w' : Int → Int} {h p : Int} (q : ∀ i : Int, 0 ≤ i → i < p → w i = w' i) : g_pl w h p.toNat = g_pl w' h p.toNat := g_pl_cg fun i hi => q i (by omega) (by omega)
theorem g_at_iff {A : Int → Int} {h u : Int} : g_at A h u ↔ u = g_pA A h := by
  constructor
  · rintro (⟨a, b, c, d⟩ | ⟨a, b⟩)
    · exact (g_pl_atI a b c d).symm
    · rw [a]; exact (g_pl_noneI b).symm
  · intro e
    have hb := g_pl_b (w := fun i => A (25 + i)) (h := h) (A 24).toNat
    by_cases c : 0 ≤ g_pA A h
    · left
      have g := g_pl_get (w := fun i => A (25 + i)) (h := h) (n := (A 24).toNat) c
      unfold g_pA at c e
      rw [e]
      refine ⟨c, by omega, g, fun i i0 i1 he => ?_⟩
      -- an earlier one would be the first
      have key : ∀ n : Nat, (i : Int) < n → A (25 + i) = h → g_pl (fun i => A (25 + i)) h n ≤ i := by
        intro n
        induction n with
        | zero => intro hn _; omega
        | succ n ih =>
          intro hn he
          unfold g_pl
          by_cases hi : i < n
          · have := ih hi he
            split
            · exact this
            · next c9 =>
              have := g_pl_no (w := fun i => A (25 + i)) (h := h) (n := n) (by omega) i.toNat (by omega)
              rw [show ((i.toNat : Nat) : Int) = i by omega] at this
              exact absurd he this
          · have e9 : i = n := by omega
            split
            · have := g_pl_b (w := fun i => A (25 + i)) (h := h) n; omega
            · split <;> omega
      have := key (A 24).toNat (by omega) he
      omega
    · right
      unfold g_pA at c e
      exact ⟨by omega, g_pl_noI (by omega)⟩
/-! a row's support -/
def g_sup (A : Int → Int) : Prop := ∀ i : Int, i < 0 ∨ 32 < i → A i = 0
theorem g_sup_b {f : Int → Int} {o : Int} : g_sup (g_b f o) := fun i hi => by unfold g_b; rw [if_neg (by omega)]
theorem g_b_in {f : Int → Int} {o i : Int} (i0 : 0 ≤ i) (i1 : i < 33) : g_b f o i = f (o + i) := by unfold g_b; rw [if_pos ⟨i0, i1⟩]
theorem g_b0 {f : Int → Int} {i : Int} (i0 : 0 ≤ i) (i1 : i < 33) : g_b f 0 i = f i := by rw [g_b_in i0 i1]; rw [Int.zero_add]
section ZR1
variable {ha gi wh le sr : Int → Int} {H p y d : Int}
theorem g_rv_h {i : Int} (i0 : 0 ≤ i) (i1 : i < 6) : g_rv ha gi wh le sr H p y d i = if i < H then ha i else 0 := by unfold g_rv; rw [if_neg (by omega), if_pos (by omega)]
theorem g_rv_l {h : Int} (i0 : 0 ≤ h) (i1 : h < 6) : g_rv ha gi wh le sr H p y d (6 + h) = if 0 ≤ g_pl wh h p.toNat then le (g_pl wh h p.toNat) else 0 := by unfold g_rv; rw [if_neg (by omega), if_neg (by omega), if_pos (by omega), show 6 + h - 6 = h by omega]
theorem g_rv_s {h : Int} (i0 : 0 ≤ h) (i1 : h < 6) : g_rv ha gi wh le sr H p y d (12 + h) = if 0 ≤ g_pl wh h p.toNat then sr (g_pl wh h p.toNat) else 0 := by unfold g_rv; rw [if_neg (by omega), if_neg (by omega), if_neg (by omega), if_pos (by omega), show 12 + h - 12 = h by omega]
theorem g_rv_g {h : Int} (i0 : 0 ≤ h) (i1 : h < 6) : g_rv ha gi wh le sr H p y d (18 + h) = if h < H then gi h else 0 := by unfold g_rv; rw [if_neg (by omega), if_neg (by omega), if_neg (by omega), if_neg (by omega), if_pos (by omega), show 18 + h - 18 = h by omega]
theorem g_rv_p : g_rv ha gi wh le sr H p y d 24 = p := by unfold g_rv; rw [if_neg (by omega), if_neg (by omega), if_neg (by omega), if_neg (by omega), if_neg (by omega), if_pos rfl]
theorem g_rv_w {i : Int} (i0 : 0 ≤ i) (i1 : i < 6) : g_rv ha gi wh le sr H p y d (25 + i) = if i < p then wh i else 0 := by unfold g_rv; rw [if_neg (by omega), if_neg (by omega), if_neg (by omega), if_neg (by omega), if_neg (by omega), if_neg (by omega), if_pos (by omega), show 25 + i - 25 = i by omega]
theorem g_rv_y : g_rv ha gi wh le sr H p y d 31 = y := by unfold g_rv; rw [if_neg (by omega), if_neg (by omega), if_neg (by omega), if_neg (by omega), if_neg (by omega), if_neg (by omega), if_neg (by omega), if_pos rfl]
theorem g_rv_d : g_rv ha gi wh le sr H p y d 32 = d := by unfold g_rv; rw [if_neg (by omega), if_neg (by omega), if_neg (by omega), if_neg (by omega), if_neg (by omega), if_neg (by omega), if_neg (by omega), if_neg (by omega), if_pos rfl]
theorem g_rv_o {i : Int} (hi : i < 0 ∨ 32 < i) : g_rv ha gi wh le sr H p y d i = 0 := by
  unfold g_rv
  rcases hi with h | h
  · rw [if_pos h]
  · rw [if_neg (by omega), if_neg (by omega), if_neg (by omega), if_neg (by omega), if_neg (by omega), if_neg (by omega), if_neg (by omega), if_neg (by omega), if_neg (by omega)]
/-- two rows that are alike place by place -/
theorem g_ext {A B : Int → Int} (sA : g_sup A) (sB : g_sup B) (h0 : ∀ h : Int, 0 ≤ h → h < 6 → A h = B h ∧ A (6 + h) = B (6 + h) ∧ A (12 + h) = B (12 + h) ∧ A (18 + h) = B (18 + h) ∧ A (25 + h) = B (25 + h)) (h1 : A 24 = B 24) (h2 : A 31 = B 31) (h3 : A 32 = B 32) : A = B := by
  funext i
  by_cases c : i < 0 ∨ 32 < i
  · rw [sA i c, sB i c]
  · by_cases c1 : i < 6
    · exact (h0 i (by omega) c1).1
    · by_cases c2 : i < 12
      · have := (h0 (i - 6) (by omega) (by omega)).2.1; rw [show 6 + (i - 6) = i by omega] at this; exact this
      · by_cases c3 : i < 18
        · have := (h0 (i - 12) (by omega) (by omega)).2.2.1; rw [show 12 + (i - 12) = i by omega] at this; exact this
        · by_cases c4 : i < 24
          · have := (h0 (i - 18) (by omega) (by omega)).2.2.2.1; rw [show 18 + (i - 18) = i by omega] at this; exact this
          · by_cases c5 : i = 24
            · rw [c5]; exact h1
            · by_cases c6 : i < 31
              · have := (h0 (i - 25) (by omega) (by omega)).2.2.2.2; rw [show 25 + (i - 25) = i by omega] at this; exact this
              · by_cases c7 : i = 31
                · rw [c7]; exact h2
                · rw [show i = 32 by omega]; exact h3
/-- a State's arrays, place by place -/
def g_pt (ha gi wh le sr : Int → Int) (H p y d : Int) (A : Int → Int) : Prop := (p = A 24 ∧ y = A 31 ∧ d = A 32) ∧ (∀ h : Int, 0 ≤ h → h < H → ha h = A h ∧ gi h = A (18 + h)) ∧ ∀ i : Int, 0 ≤ i → i < p → wh i = A (25 + i) ∧ le i = A (6 + A (25 + i)) ∧ sr i = A (12 + A (25 + i))
theorem g_pt_rv {A : Int → Int} (w : g_wf H A) (sp : g_sup A) (q : g_pt ha gi wh le sr H p y d A) : g_rv ha gi wh le sr H p y d = A := by
  obtain ⟨⟨w1, w2⟩, ⟨w3, w4⟩, w5, w6, w7, w8, w9, w10⟩ := w
  obtain ⟨⟨rfl, rfl, rfl⟩, q2, q3⟩ := q
  have hpl : ∀ h : Int, g_pl wh h (A 24).toNat = g_pA A h := fun h => g_pl_cgI fun i i0 i1 => (q3 i i0 i1).1
  refine g_ext (fun i hi => g_rv_o hi) sp (fun h h0 h6 => ⟨?_, ?_, ?_, ?_, ?_⟩) g_rv_p g_rv_y g_rv_d
  · rw [g_rv_h h0 h6]
    split
    · next c => exact (q2 h h0 c).1
    · next c => exact (w10 h (by omega) h6).1.symm
  · rw [g_rv_l h0 h6, hpl]
    rcases w8 h h0 h6 with ⟨-, i, i0, i1, e⟩ | ⟨a, b, c⟩
    · have e2 : g_pA A h = i := g_pl_atI i0 i1 e (fun j j0 j1 he => by have := w6 j i j0 (by omega) i0 i1 (by rw [e]; exact he); omega)
      rw [e2, if_pos i0, (q3 i i0 i1).2.1, e]
    · rw [show g_pA A h = -1 from g_pl_noneI c, if_neg (by omega), a]
  · rw [g_rv_s h0 h6, hpl]
    rcases w8 h h0 h6 with ⟨-, i, i0, i1, e⟩ | ⟨a, b, c⟩
    · have e2 : g_pA A h = i := g_pl_atI i0 i1 e (fun j j0 j1 he => by have := w6 j i j0 (by omega) i0 i1 (by rw [e]; exact he); omega)
      rw [e2, if_pos i0, (q3 i i0 i1).2.2, e]
    · rw [show g_pA A h = -1 from g_pl_noneI c, if_neg (by omega), b]
  · rw [g_rv_g h0 h6]
    split
    · next c => exact (q2 h h0 c).2
    · next c => exact (w10 h (by omega) h6).2.symm
  · rw [g_rv_w h0 h6]
    split
    · next c => exact (q3 h h0 c).1
    · next c => exact (w7 h (by omega) h6).symm
theorem g_rv_pt {A : Int → Int} (w : g_wf H A) (q : g_rv ha gi wh le sr H p y d = A) : g_pt ha gi wh le sr H p y d A := by
  obtain ⟨⟨w1, w2⟩, ⟨w3, w4⟩, w5, w6, w7, w8, w9, w10⟩ := w
  have e24 : p = A 24 := by rw [← q]; exact g_rv_p.symm
  have hw : ∀ i : Int, 0 ≤ i → i < p → wh i = A (25 + i) := by
    intro i i0 i1
    rw [← q, g_rv_w i0 (by omega), if_pos i1]
  have hpl : ∀ i : Int, 0 ≤ i → i < p → g_pl wh (A (25 + i)) p.toNat = i := fun i i0 i1 => g_pl_atI i0 i1 (hw i i0 i1) (fun j j0 j1 he => by
    have := w6 j i j0 (by omega) i0 (by omega) (by rw [← hw j j0 (by omega)]; exact he)
    omega)
  refine ⟨⟨e24, by rw [← q]; exact g_rv_y.symm, by rw [← q]; exact g_rv_d.symm⟩, fun h h0 h1 => ⟨?_, ?_⟩, fun i i0 i1 => ⟨hw i i0 i1, ?_, ?_⟩⟩
  · rw [← q, g_rv_h h0 (by omega), if_pos h1]
  · rw [← q, g_rv_g h0 (by omega), if_pos h1]
  · have := w5 i i0 (by omega)
    have e := g_rv_l (ha := ha) (gi := gi) (wh := wh) (le := le) (sr := sr) (H := H) (p := p) (y := y) (d := d) (h := A (25 + i)) (by omega) (by omega)
    rw [hpl i i0 i1, if_pos i0, q] at e
    exact e.symm
  · have := w5 i i0 (by omega)
    have e := g_rv_s (ha := ha) (gi := gi) (wh := wh) (le := le) (sr := sr) (H := H) (p := p) (y := y) (d := d) (h := A (25 + i)) (by omega) (by omega)
    rw [hpl i i0 i1, if_pos i0, q] at e
    exact e.symm
end ZR1
/-! what a well-made row has -/
section ZR2
variable {H : Int} {A : Int → Int}
theorem g_wf.pl_lt (w : g_wf H A) {i : Int} (i0 : 0 ≤ i) (i1 : i < A 24) : 0 ≤ A (25 + i) ∧ A (25 + i) < H ∧ A (25 + i) < 6 := by
  have := w.2.2.1 i i0 i1
  have := w.1
  omega
theorem g_wf.pl_in (w : g_wf H A) {i : Int} (i0 : 0 ≤ i) (i1 : i < A 24) : g_at A (A (25 + i)) i := by
  left
  refine ⟨i0, i1, rfl, fun j j0 j1 he => ?_⟩
  have := w.2.2.2.1 j i j0 (by omega) i0 i1 he
  omega
theorem g_wf.len (w : g_wf H A) {i : Int} (i0 : 0 ≤ i) (i1 : i < A 24) : 1 ≤ A (6 + A (25 + i)) ∧ A (6 + A (25 + i)) ≤ 99 := by
  have h := w.pl_lt i0 i1
  rcases w.2.2.2.2.2.1 _ h.1 h.2.2 with a | ⟨a, b, c⟩
  · exact ⟨a.1, (w.2.2.2.2.2.2.1 _ h.1 h.2.2).2.2.1⟩
  · exact absurd rfl (c i i0 i1)
theorem g_wf.at_len (w : g_wf H A) {h u : Int} (q : g_at A h u) (u0 : 0 ≤ u) : 0 ≤ h ∧ h < 6 ∧ h < H ∧ u < A 24 ∧ A (25 + u) = h ∧ 1 ≤ A (6 + h) := by
  rcases q with ⟨a, b, c, d⟩ | ⟨a, b⟩
  · have e := w.pl_lt a b
    have f := w.len a b
    rw [c] at e f
    exact ⟨e.1, e.2.2, e.2.1, b, c, f.1⟩
  · omega
theorem g_wf.at_no (w : g_wf H A) {h : Int} (q : g_at A h (-1)) (h0 : 0 ≤ h) (h6 : h < 6) : A (6 + h) = 0 ∧ A (12 + h) = 0 := by
  rcases q with ⟨a, b, c, d⟩ | ⟨a, b⟩
  · omega
  · rcases w.2.2.2.2.2.1 h h0 h6 with ⟨-, i, i0, i1, e⟩ | c
    · exact absurd e (b i i0 i1)
    · exact ⟨c.1, c.2.1⟩
theorem g_wf.no_at (w : g_wf H A) {h : Int} (h0 : 0 ≤ h) (h6 : h < 6) (q : A (6 + h) = 0) : g_at A h (-1) := by
  right
  refine ⟨rfl, ?_⟩
  rcases w.2.2.2.2.2.1 h h0 h6 with ⟨a, -⟩ | c
  · omega
  · exact c.2.2
theorem g_wf.yes_at (w : g_wf H A) {h : Int} (h0 : 0 ≤ h) (h6 : h < 6) (q : 1 ≤ A (6 + h)) : ∃ u : Int, 0 ≤ u ∧ g_at A h u := by
  rcases w.2.2.2.2.2.1 h h0 h6 with ⟨-, i, i0, i1, e⟩ | c
  · refine ⟨i, i0, ?_⟩
    rw [← e]
    exact w.pl_in i0 i1
  · omega
end ZR2
end
