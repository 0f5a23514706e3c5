noncomputable section
/-! ===== LAWS under way: the class's answer, the model's termOf and lawTells ===== -/
section ZMF
variable {g h : Int → Int} {v : zVw} {q r i x top u a b s k l m j w y z f : Int} {e : Int → Int}
def e_in (z : Int) : Prop := -2147483648 ≤ z ∧ z ≤ 2147483647
theorem e_i_in {z : Int} : e_in (e_i z) := ⟨zx_lo _, zx_hi _⟩
theorem e_i_id {z : Int} (h0 : 0 ≤ z + 2147483648) (h1 : 0 ≤ 2147483647 - z) : e_i z = z := z_ofInt (by omega) (by omega)
theorem e_op_in {o a b : Int} : e_in (e_op o a b) := ⟨zx_lo _, zx_hi _⟩
theorem e_0_in : e_in 0 := ⟨by decide, by decide⟩
theorem e_last_in {s : List Int} (hs : ∀ y ∈ s, e_in y) : e_in (s.getLast?.getD 0) := by
  cases hg : s.getLast? with
  | none => exact e_0_in
  | some y =>
    obtain ⟨ys, e9⟩ := List.getLast?_eq_some_iff.mp hg
    exact hs y (by rw [e9]; exact List.mem_append_right _ List.mem_cons_self)
theorem e_C_in : ∀ {f : Nat} {x : Int} {s : List Int}, (∀ y ∈ s, e_in y) → e_in (e_C g h q e f x s)
  | 0, _, _, _ => e_0_in
  | f + 1, x, s, hs => by
    rw [e_C_c]
    split
    · split
      · exact e_last_in hs
      · split
        · split
          · exact e_0_in
          · exact e_C_in (fun y hy => (List.mem_cons.mp hy).elim (fun c => c ▸ e_i_in) (hs y))
        · cases s with
          | nil => exact e_0_in
          | cons b s =>
            cases s with
            | nil => exact e_0_in
            | cons a t =>
              have ht : ∀ y ∈ t, e_in y := fun y hy => hs y (List.mem_cons_of_mem _ (List.mem_cons_of_mem _ hy))
              dsimp only
              split
              · exact e_0_in
              · split
                · split
                  · exact e_C_in ht
                  · exact e_C_in ht
                · exact e_C_in (fun y hy => (List.mem_cons.mp hy).elim (fun c => c ▸ e_op_in) (ht y))
    · exact e_0_in
/-! piles -/
theorem e_pl_0 {l : Nat} : e_pl v l 0 [] := ⟨rfl, fun i x h => by simp at h⟩
theorem e_pl_push {l : Nat} {st : List Int} (hp : e_pl v l top st) (hv : v l top = a) : e_pl v l (top + 1) (a :: st) := by
  obtain ⟨h1, h2⟩ := hp
  refine ⟨by rw [List.length_cons]; push_cast; omega, fun i x hi => ?_⟩
  rw [List.reverse_cons] at hi
  rcases Nat.lt_trichotomy i st.length with c | c | c
  · rw [List.getElem?_append_left (by rw [List.length_reverse]; exact c)] at hi
    exact h2 i x hi
  · rw [List.getElem?_append_right (by rw [List.length_reverse]; omega), List.length_reverse, c, Nat.sub_self] at hi
    have e9 : a = x := by simpa using hi
    rw [c, ← h1, hv, e9]
  · rw [List.getElem?_eq_none (by rw [List.length_append, List.length_reverse, List.length_singleton]; omega)] at hi
    cases hi
theorem e_pl_top {l : Nat} {st : List Int} (hp : e_pl v l top st) (ht : 1 ≤ top) : ∃ t, st = v l (top - 1) :: t ∧ e_pl v l (top - 1) t := by
  obtain ⟨h1, h2⟩ := hp
  cases st with
  | nil =>
    rw [List.length_nil] at h1
    omega
  | cons a t =>
    rw [List.length_cons] at h1
    have e1 : (top - 1 : Int) = (t.length : Int) := by omega
    refine ⟨t, ?_, e1, fun i x hi => ?_⟩
    · have := h2 t.length a (by rw [List.reverse_cons, List.getElem?_append_right (by rw [List.length_reverse]; exact Nat.le_refl _), List.length_reverse, Nat.sub_self]; rfl)
      rw [e1, this]
    · have hl := (List.getElem?_eq_some_iff.mp hi).1
      exact h2 i x (by rw [List.reverse_cons, List.getElem?_append_left hl]; exact hi)
theorem e_pl_top2 {l : Nat} {st : List Int} (hp : e_pl v l top st) (ht : 2 ≤ top) (hy : v l (top - 2) = y) (hz : v l (top - 1) = z) : ∃ t, st = z :: y :: t ∧ e_pl v l (top - 2) t := by
  obtain ⟨t1, e1, p1⟩ := e_pl_top hp (by omega)
  obtain ⟨t2, e2, p2⟩ := e_pl_top p1 (by omega)
  rw [show top - 1 - 1 = top - 2 by omega] at e2 p2
  exact ⟨t2, by rw [e1, e2, hy, hz], p2⟩
theorem e_pl_bot {l : Nat} {st : List Int} (hp : e_pl v l top st) (ht : 1 ≤ top) : st.getLast?.getD 0 = v l 0 := by
  obtain ⟨h1, h2⟩ := hp
  cases hg : st.getLast? with
  | none =>
    rw [List.getLast?_eq_none_iff] at hg
    rw [hg, List.length_nil] at h1
    omega
  | some y =>
    have := h2 0 y (by rw [← List.head?_eq_getElem?, List.head?_reverse, hg])
    exact this.symm
/-! the class's -/
theorem c_rc0 (hx : v 23 k = x) : ∃ z : Int, ((-2147483648) ≤ z ∧ z ≤ 2147483647) ∧ q_runc v q z 0 x 0 ∧ q_vlc v q k z := by
  refine ⟨e_C (v 21) (v 22) q (v 26) 432 (v 23 k) [], e_C_in (fun y hy => absurd hy List.not_mem_nil), ⟨Int.le_refl _, [], e_pl_0, ?_⟩, rfl⟩
  rw [hx]
  rfl
theorem c_rcE (hc : q_runc v q r i x top) (hs : 432 ≤ i ∨ x < 0 ∨ 432 ≤ x ∨ q ≤ x) : r = 0 := by
  obtain ⟨h0, st, h1, h2⟩ := hc
  cases hf : (432 - i).toNat with
  | zero =>
    rw [hf] at h2
    exact h2.symm
  | succ f =>
    rw [hf, e_C_c, if_neg (by omega)] at h2
    exact h2.symm
theorem c_un (i0 : 0 ≤ i) (i1 : i ≤ 431) : (432 - i).toNat = (432 - (i + 1)).toNat + 1 := by omega
theorem c_rcA1 (hc : q_runc v q r i x top) (i1 : i ≤ 431) (x0 : 0 ≤ x) (x1 : x ≤ 431) (x2 : x < q) (h7 : v 21 x = 7) (ht : 1 ≤ top) (hu : v 24 0 = u) : r = u := by
  obtain ⟨h0, st, h1, h2⟩ := hc
  rw [c_un h0 i1, e_C_c, if_pos ⟨x0, by omega, x2⟩, if_pos h7, e_pl_bot h1 ht, hu] at h2
  exact h2.symm
theorem c_rcA0 (hc : q_runc v q r i x top) (i1 : i ≤ 431) (x0 : 0 ≤ x) (x1 : x ≤ 431) (x2 : x < q) (h7 : v 21 x = 7) (ht : top ≤ 0) : r = 0 := by
  obtain ⟨h0, st, h1, h2⟩ := hc
  have es : st = [] := List.eq_nil_of_length_eq_zero (by have := h1.1; omega)
  rw [c_un h0 i1, e_C_c, if_pos ⟨x0, by omega, x2⟩, if_pos h7, es] at h2
  exact h2.symm
theorem c_rcB (hc : q_runc v q r i x top) (i1 : i ≤ 431) (x0 : 0 ≤ x) (x1 : x ≤ 431) (x2 : x < q) (hs : v 21 x = 0 ∨ v 21 x = 1) (hb : 22 ≤ top ∨ v 22 x < 0 ∨ (v 21 x = 1 ∧ 9 ≤ v 22 x)) : r = 0 := by
  obtain ⟨h0, st, h1, h2⟩ := hc
  have hl := h1.1
  rw [c_un h0 i1, e_C_c, if_pos ⟨x0, by omega, x2⟩, if_neg (by omega), if_pos hs, if_pos (by omega)] at h2
  exact h2.symm
theorem c_rcP (hc : q_runc v q r i x top) (i1 : i ≤ 431) (x0 : 0 ≤ x) (x1 : x ≤ 431) (x2 : x < q) (hs : v 21 x = 0 ∨ v 21 x = 1) (hb : 0 ≤ v 22 x ∧ (v 21 x = 1 → v 22 x ≤ 8)) (ht : top ≤ 21) (hu : (if v 21 x = 0 then v 22 x else v 26 (v 22 x)) = u) (u0 : 0 ≤ u + 2147483648) (u1 : 0 ≤ 2147483647 - u) (hw : v 24 top = u) : q_runc v q r (i + 1) (x + 1) (top + 1) := by
  obtain ⟨h0, st, h1, h2⟩ := hc
  have hl := h1.1
  rw [c_un h0 i1, e_C_c, if_pos ⟨x0, by omega, x2⟩, if_neg (by omega), if_pos hs, if_neg (by omega), hu, e_i_id u0 u1] at h2
  exact ⟨by omega, u :: st, e_pl_push h1 hw, h2⟩
theorem c_rcX1 (hc : q_runc v q r i x top) (i1 : i ≤ 431) (x0 : 0 ≤ x) (x1 : x ≤ 431) (x2 : x < q) (hs : 2 ≤ v 21 x ∧ v 21 x ≤ 6) (ht : top ≤ 1) : r = 0 := by
  obtain ⟨h0, st, h1, h2⟩ := hc
  have hl := h1.1
  rw [c_un h0 i1, e_C_c, if_pos ⟨x0, by omega, x2⟩, if_neg (by omega), if_neg (by omega)] at h2
  cases st with
  | nil => exact h2.symm
  | cons a t =>
    cases t with
    | nil => exact h2.symm
    | cons b t =>
      rw [List.length_cons, List.length_cons] at hl
      omega
theorem c_rcX2 (hc : q_runc v q r i x top) (i1 : i ≤ 431) (x0 : 0 ≤ x) (x1 : x ≤ 431) (x2 : x < q) (hs : v 21 x = 5) (ht : 2 ≤ top) (hz : v 24 (top - 1) = 0) : r = 0 := by
  obtain ⟨h0, st, h1, h2⟩ := hc
  obtain ⟨t, e1, -⟩ := e_pl_top2 h1 ht rfl hz
  rw [c_un h0 i1, e_C_c, if_pos ⟨x0, by omega, x2⟩, if_neg (by omega), if_neg (by omega), e1] at h2
  dsimp only at h2
  rw [if_pos ⟨hs, rfl⟩] at h2
  exact h2.symm
theorem c_rcU (hc : q_runc v q r i x top) (i1 : i ≤ 431) (x0 : 0 ≤ x) (x1 : x ≤ 431) (x2 : x < q) (hs : v 21 x = 6) (ht : 2 ≤ top) (hy : v 24 (top - 2) = y) (hz : v 24 (top - 1) = z) : (z ≤ y → q_runc v q r (i + 1) (v 22 x) (top - 2)) ∧ (y < z → q_runc v q r (i + 1) (x + 1) (top - 2)) := by
  obtain ⟨h0, st, h1, h2⟩ := hc
  obtain ⟨t, e1, p1⟩ := e_pl_top2 h1 ht hy hz
  rw [c_un h0 i1, e_C_c, if_pos ⟨x0, by omega, x2⟩, if_neg (by omega), if_neg (by omega), e1] at h2
  dsimp only at h2
  rw [if_neg (by omega), if_pos hs] at h2
  refine ⟨fun c => ⟨by omega, t, p1, ?_⟩, fun c => ⟨by omega, t, p1, ?_⟩⟩
  · rw [if_pos c] at h2
    exact h2
  · rw [if_neg (by omega)] at h2
    exact h2
theorem c_rcO {o : Int} (hc : q_runc v q r i x top) (i1 : i ≤ 431) (x0 : 0 ≤ x) (x1 : x ≤ 431) (x2 : x < q) (hs : v 21 x = o) (ho : 2 ≤ o ∧ o ≤ 5) (ht : 2 ≤ top) (hy : v 24 (top - 2) = y) (hz : v 24 (top - 1) = z) (h5 : o = 5 → z ≠ 0) (hw : e_op o y z = w) : q_run2c v q r (i + 1) (x + 1) (top - 2) w := by
  obtain ⟨h0, st, h1, h2⟩ := hc
  obtain ⟨t, e1, p1⟩ := e_pl_top2 h1 ht hy hz
  rw [c_un h0 i1, e_C_c, if_pos ⟨x0, by omega, x2⟩, if_neg (by omega), if_neg (by omega), e1] at h2
  dsimp only at h2
  rw [hs, if_neg (fun c => h5 c.1 c.2), if_neg (by omega), hw] at h2
  exact ⟨by omega, t, p1, h2⟩
theorem c_rcW (hc : q_run2c v q r i x top w) (hw : v 24 top = w) : q_runc v q r i x (top + 1) := by
  obtain ⟨h0, st, h1, h2⟩ := hc
  exact ⟨h0, w :: st, e_pl_push h1 hw, h2⟩
/-! the model's term -/
theorem e_T_in : ∀ {f : Nat} {x : Int} {s s' : List Int}, (∀ y ∈ s, e_in y) → e_T g h e f x s = some s' → ∀ y ∈ s', e_in y
  | 0, _, s, s', hs, h1 => by
    cases h1
    exact hs
  | f + 1, x, s, s', hs, h1 => by
    rw [e_T_c] at h1
    split at h1
    · exact e_T_in (fun y hy => (List.mem_cons.mp hy).elim (fun c => c ▸ e_i_in) (hs y)) h1
    · cases s with
      | nil => exact nomatch (show (none : Option (List Int)) = some s' from h1)
      | cons b s =>
        cases s with
        | nil => exact nomatch (show (none : Option (List Int)) = some s' from h1)
        | cons a t =>
          dsimp only at h1
          split at h1
          · cases h1
          · exact e_T_in (fun y hy => (List.mem_cons.mp hy).elim (fun c => c ▸ e_op_in) (fun c => hs y (List.mem_cons_of_mem _ (List.mem_cons_of_mem _ c)))) h1
theorem e_w_in {x : Int} {f : Nat} : -2147483648 ≤ e_w ((e_T g h e f x []).map fun s => s.getLast?.getD 0) ∧ e_w ((e_T g h e f x []).map fun s => s.getLast?.getD 0) ≤ 2147483648 := by
  cases hg : e_T g h e f x [] with
  | none => exact ⟨by show (-2147483648 : Int) ≤ 2147483648; decide, by show (2147483648 : Int) ≤ 2147483648; decide⟩
  | some s' =>
    have := e_last_in (e_T_in (fun y hy => absurd hy List.not_mem_nil) hg)
    exact ⟨this.1, by have := this.2; show s'.getLast?.getD 0 ≤ _; omega⟩
theorem c_rt0 (hf : 0 ≤ f) : ∃ z : Int, ((-2147483648) ≤ z ∧ z ≤ 2147483648) ∧ q_runt v z f m 0 ∧ q_val v f m z :=
  ⟨_, e_w_in, ⟨hf, [], e_pl_0, rfl⟩, rfl⟩
theorem c_tn (j1 : j < m) : (m - j).toNat = (m - (j + 1)).toNat + 1 := by omega
theorem c_rtP (hc : q_runt v r j m top) (j1 : j < m) (hs : v 72 j < 2) (hu : (if v 72 j = 0 then v 73 j else v 75 (v 73 j)) = u) (u0 : 0 ≤ u + 2147483648) (u1 : 0 ≤ 2147483647 - u) (hw : v 76 top = u) : q_runt v r (j + 1) m (top + 1) := by
  obtain ⟨h0, st, h1, h2⟩ := hc
  rw [c_tn j1, e_T_c, if_pos hs, hu, e_i_id u0 u1] at h2
  exact ⟨by omega, u :: st, e_pl_push h1 hw, h2⟩
theorem c_rtX (hc : q_runt v r j m top) (j1 : j < m) (hs : v 72 j = 5) (ht : 2 ≤ top) (hz : v 76 (top - 1) = 0) : r = 2147483648 := by
  obtain ⟨h0, st, h1, h2⟩ := hc
  obtain ⟨t, e1, -⟩ := e_pl_top2 h1 ht rfl hz
  rw [c_tn j1, e_T_c, if_neg (by omega), e1] at h2
  dsimp only at h2
  rw [if_pos ⟨hs, rfl⟩] at h2
  exact h2.symm
theorem c_rtO {o : Int} (hc : q_runt v r j m top) (j1 : j < m) (hs : v 72 j = o) (ho : 2 ≤ o ∧ o ≤ 5) (ht : 2 ≤ top) (hy : v 76 (top - 2) = y) (hz : v 76 (top - 1) = z) (h5 : o = 5 → z ≠ 0) (hw : e_op o y z = w) : q_runt2 v r (j + 1) m (top - 2) w := by
  obtain ⟨h0, st, h1, h2⟩ := hc
  obtain ⟨t, e1, p1⟩ := e_pl_top2 h1 ht hy hz
  rw [c_tn j1, e_T_c, if_neg (by omega), e1] at h2
  dsimp only at h2
  rw [hs, if_neg (fun c => h5 c.1 c.2), hw] at h2
  exact ⟨by omega, t, p1, h2⟩
theorem c_rtW (hc : q_runt2 v r j m top w) (hw : v 76 top = w) : q_runt v r j m (top + 1) := by
  obtain ⟨h0, st, h1, h2⟩ := hc
  exact ⟨h0, w :: st, e_pl_push h1 hw, h2⟩
theorem c_rtE (hc : q_runt v r j m top) (j1 : m ≤ j) (ht : 1 ≤ top) (hu : v 76 0 = u) : r = u := by
  obtain ⟨h0, st, h1, h2⟩ := hc
  rw [show (m - j).toNat = 0 by omega] at h2
  have h3 : st.getLast?.getD 0 = r := h2
  rw [e_pl_bot h1 ht, hu] at h3
  exact h3.symm
/-! the model's branches -/
theorem e_vs (hc : q_val v a b r) (hr : 0 ≤ 2147483647 - r) : e_V v (v 75) a b = some r := by
  unfold q_val at hc
  cases hg : e_V v (v 75) a b with
  | none =>
    rw [hg] at hc
    have : (2147483648 : Int) = r := hc
    omega
  | some u =>
    rw [hg] at hc
    have : u = r := hc
    rw [this]
theorem e_vn (hc : q_val v a b 2147483648) (h1 : ∀ u, e_V v (v 75) a b = some u → u ≤ 2147483647) : e_V v (v 75) a b = none := by
  unfold q_val at hc
  cases hg : e_V v (v 75) a b with
  | none => rfl
  | some u =>
    rw [hg] at hc
    have h2 : u = 2147483648 := hc
    have := h1 u hg
    omega
theorem e_V_in {u : Int} (hg : e_V v e a b = some u) : e_in u := by
  unfold e_V at hg
  cases ht : e_T (v 72) (v 73) e (b - a).toNat a [] with
  | none =>
    rw [ht] at hg
    exact nomatch (show (none : Option Int) = some u from hg)
  | some s' =>
    rw [ht] at hg
    have e9 : s'.getLast?.getD 0 = u := Option.some.inj hg
    rw [← e9]
    exact e_last_in (e_T_in (fun y hy => absurd hy List.not_mem_nil) ht)
theorem e_vn' (hc : q_val v a b 2147483648) : e_V v (v 75) a b = none := e_vn hc (fun u hu => (e_V_in hu).2)
theorem e_B_in : ∀ {n : Nat} {j : Int}, e_in (e_B v e n j)
  | 0, _ => e_0_in
  | n + 1, j => by
    have one : ∀ {x z : Int}, e_in ((e_V v e x z).getD 0) := fun {x z} => by
      cases hg : e_V v e x z with
      | none => exact e_0_in
      | some u => exact e_V_in hg
    unfold e_B
    split
    · split
      · split
        · exact e_B_in
        · exact one
      · exact e_0_in
    · exact one
theorem c_rbE (hf : v 65 (4 * s + k) = f) (hl : v 66 (4 * s + k) = f) : q_vlm v s k w w := by
  unfold q_vlm
  rw [if_pos (by rw [hf, hl])]
theorem c_rb0 (hf : v 65 (4 * s + k) = f) (hl : v 66 (4 * s + k) = l) (hn : f ≠ l) : ∃ z : Int, ((-2147483648) ≤ z ∧ z ≤ 2147483647) ∧ q_runb v z f l ∧ q_vlm v s k w z := by
  refine ⟨e_B v (v 75) (l - f).toNat f, e_B_in, rfl, ?_⟩
  unfold q_vlm
  rw [if_neg (by rw [hf, hl]; exact hn), hf, hl]
theorem c_rbX (hc : q_runb v r j l) (h1 : l ≤ j) : r = 0 := by
  unfold q_runb at hc
  rw [show (l - j).toNat = 0 by omega] at hc
  exact hc.symm
theorem c_bn (j1 : j < l) : (l - j).toNat = (l - (j + 1)).toNat + 1 := by omega
theorem c_rbT {t0 zz c : Int} (hc : q_runb v r j l) (j1 : j < l) (h7 : v 67 j = 1) (h8 : v 68 j = f) (h9 : v 69 j = m) (h10 : v 70 j = t0) (h11 : v 71 j = zz) (va : e_V v (v 75) f m = some a) (vb : e_V v (v 75) m t0 = some b) (hab : a < b) (vc : (e_V v (v 75) t0 zz).getD 0 = c) : r = c := by
  unfold q_runb at hc
  rw [c_bn j1, e_B, if_pos (by rw [h7]; decide), h8, h9, h10, h11, va, vb] at hc
  dsimp only at hc
  rw [if_neg (by omega), vc] at hc
  exact hc.symm
theorem c_rbF {t0 : Int} (hc : q_runb v r j l) (j1 : j < l) (h7 : v 67 j = 1) (h8 : v 68 j = f) (h9 : v 69 j = m) (h10 : v 70 j = t0) (va : e_V v (v 75) f m = some a) (vb : e_V v (v 75) m t0 = some b) (hab : b ≤ a) : q_runb v r (j + 1) l := by
  unfold q_runb at hc ⊢
  rw [c_bn j1, e_B, if_pos (by rw [h7]; decide), h8, h9, h10, va, vb] at hc
  dsimp only at hc
  rw [if_pos hab] at hc
  exact hc
theorem c_rbB1 (hc : q_runb v r j l) (j1 : j < l) (h7 : v 67 j = 1) (h8 : v 68 j = f) (h9 : v 69 j = m) (va : e_V v (v 75) f m = none) : r = 0 := by
  unfold q_runb at hc
  rw [c_bn j1, e_B, if_pos (by rw [h7]; decide), h8, h9, va] at hc
  exact hc.symm
theorem c_rbB2 {t0 : Int} (hc : q_runb v r j l) (j1 : j < l) (h7 : v 67 j = 1) (h9 : v 69 j = m) (h10 : v 70 j = t0) (vb : e_V v (v 75) m t0 = none) : r = 0 := by
  unfold q_runb at hc
  rw [c_bn j1, e_B, if_pos (by rw [h7]; decide), h9, h10, vb] at hc
  cases hg : e_V v (v 75) (v 68 j) m with
  | none =>
    rw [hg] at hc
    exact hc.symm
  | some u =>
    rw [hg] at hc
    exact hc.symm
theorem c_rbL {t0 zz c : Int} (hc : q_runb v r j l) (j1 : j < l) (h7 : v 67 j = 0) (h10 : v 70 j = t0) (h11 : v 71 j = zz) (vc : (e_V v (v 75) t0 zz).getD 0 = c) : r = c := by
  unfold q_runb at hc
  rw [c_bn j1, e_B, if_neg (by rw [h7]; decide), h10, h11, vc] at hc
  exact hc.symm
/-! codes told are not empty -/
theorem p_wf_ne {C : List (Int × Int)} (hw : p_wf C) : 1 ≤ C.length := by
  cases C with
  | nil => exact absurd (show (some 0 : Option Nat) = some 1 from hw) (by decide)
  | cons _ _ => rw [List.length_cons]; omega
theorem p_eb_wf {T : List (Int × Int)} {X : List (Int × Int × Int × Int × Int)} : ∀ {B : List (List (Int × Int) × List (Int × Int) × List (Int × Int))} {p : Int} {i : Nat} {y : Int × Int × Int × Int × Int}, p_wb B → p_wf T → (p_eb p B ++ (0, 0, 0, p + (p_mb B).length, p + (p_mb B).length + T.length) :: X)[i]? = some y → i < B.length + 1 → y.2.2.2.1 < y.2.2.2.2 ∧ (y.1 = 1 → y.2.1 < y.2.2.1 ∧ y.2.2.1 < y.2.2.2.1)
  | [], p, i, y, _, hT, hi, hl => by
    rw [List.length_nil] at hl
    have e0 : i = 0 := by omega
    subst e0
    have e9 : ((0, 0, 0, p + ((p_mb ([] : List (List (Int × Int) × List (Int × Int) × List (Int × Int)))).length : Int), p + ((p_mb ([] : List (List (Int × Int) × List (Int × Int) × List (Int × Int)))).length : Int) + T.length) : Int × Int × Int × Int × Int) = y := Option.some.inj hi
    rw [← e9]
    have n1 := p_wf_ne hT
    exact ⟨by dsimp only; omega, fun c => by dsimp only at c; omega⟩
  | (E, F, T0) :: B, p, i, y, hB, hT, hi, hl => by
    obtain ⟨w1, w2, w3⟩ := hB (E, F, T0) List.mem_cons_self
    dsimp only at w1 w2 w3
    have n1 := p_wf_ne w1
    have n2 := p_wf_ne w2
    have n3 := p_wf_ne w3
    cases i with
    | zero =>
      have e9 : ((1, p, p + (E.length : Int), p + (E.length : Int) + F.length, p + (E.length : Int) + F.length + T0.length) : Int × Int × Int × Int × Int) = y := Option.some.inj hi
      rw [← e9]
      exact ⟨by dsimp only; omega, fun _ => ⟨by dsimp only; omega, by dsimp only; omega⟩⟩
    | succ i =>
      rw [List.length_cons] at hl
      refine p_eb_wf (X := X) (B := B) (p := p + E.length + F.length + T0.length) (i := i) (fun y hy => hB y (List.mem_cons_of_mem _ hy)) hT ?_ (by omega)
      have e7 : (p_mb ((E, F, T0) :: B)).length = E.length + F.length + T0.length + (p_mb B).length := by
        rw [p_mb]
        simp only [List.length_append]
      rw [e7, show p + ((E.length + F.length + T0.length + (p_mb B).length : Nat) : Int) = p + E.length + F.length + T0.length + (p_mb B).length by push_cast; omega] at hi
      exact hi
theorem c_wf {k i n : Int} (hh : q_leq v l n q) (k0 : 0 ≤ k) (k1 : k ≤ 3) (ha : v 65 (4 * l + k) = a) (hb : v 66 (4 * l + k) = b) (i0 : a ≤ i) (i1 : i < b) : v 70 i < v 71 i ∧ (v 67 i = 1 → v 68 i < v 69 i ∧ v 69 i < v 70 i) := by
  obtain ⟨hl, hs, hls, hq, Y, k', bb, hw, hA, hS, hC, hmd, hB, hbb, hL⟩ := hh
  obtain ⟨D, kk, B0, E0, F0, O0, w0⟩ := Y
  dsimp only at hC hB hw
  have hLk := hL k k0 (by omega)
  unfold p_lw at hLk
  dsimp only at hLk
  rcases p_find k D with ⟨D1, B, T, D2, h1, h2⟩ | h
  · subst h1
    obtain ⟨hwb, hwf⟩ := hw (k, B, T) (List.mem_append_right _ List.mem_cons_self)
    dsimp only at hwb hwf
    rw [p_fl_at h2] at hLk
    obtain ⟨f1, f2⟩ := hLk
    dsimp only at f1 f2
    obtain ⟨m1, m2⟩ := p_md_at (X := (k, B, T)) (D2 := D2) (D := D1) (p := 420 * l)
    rw [m2] at hB
    obtain ⟨i', e1⟩ : ∃ i' : Nat, i = 130 * l + (p_ll D1 : Int) + i' := ⟨(i - (130 * l + (p_ll D1 : Int))).toNat, by omega⟩
    have hlt : i' < B.length + 1 := by omega
    have hlen : ∃ y, (p_eb (420 * l + (p_md D1).length) B ++ (0, 0, 0, 420 * l + (p_md D1).length + (p_mb B).length, 420 * l + (p_md D1).length + (p_mb B).length + T.length) :: p_ed (420 * l + (p_md D1).length + (p_mb B).length + T.length) D2)[i']? = some y := by
      refine ⟨_, List.getElem?_eq_getElem ?_⟩
      rw [List.length_append, List.length_cons, p_eb_len]
      omega
    obtain ⟨y, hy⟩ := hlen
    have hwy := p_eb_wf hwb hwf hy hlt
    have := hB.2 ((p_ed (420 * l) D1).length + i') y (by
      rw [List.getElem?_append_right (by omega), Nat.add_sub_cancel_left, p_ed]
      exact hy)
    rw [p_ed_len] at this
    rw [show 130 * l + ((p_ll D1 + i' : Nat) : Int) = i by push_cast; omega] at this
    obtain ⟨b1, b2, b3, b4⟩ := this
    rw [b1, b3, b4]
    refine ⟨hwy.1, fun c => ?_⟩
    obtain ⟨c1, c2⟩ := b2 c
    rw [c1, c2]
    exact hwy.2 c
  · rw [p_fl_no h] at hLk
    have z1 := hLk.1
    have z2 := hLk.2
    dsimp only at z1 z2
    omega
/-! nine things looked at -/
theorem e_C_e {e' : Int → Int} (H : ∀ i : Int, 0 ≤ i → i ≤ 8 → e i = e' i) : ∀ {f : Nat} {x : Int} {s : List Int}, e_C g h q e f x s = e_C g h q e' f x s
  | 0, _, _ => rfl
  | f + 1, x, s => by
    rw [e_C_c, e_C_c]
    by_cases c1 : 0 ≤ x ∧ x < 432 ∧ x < q
    · rw [if_pos c1, if_pos c1]
      by_cases c2 : g x = 7
      · rw [if_pos c2, if_pos c2]
      · rw [if_neg c2, if_neg c2]
        by_cases c3 : g x = 0 ∨ g x = 1
        · rw [if_pos c3, if_pos c3]
          by_cases c4 : 22 ≤ s.length ∨ h x < 0 ∨ (g x = 1 ∧ 9 ≤ h x)
          · rw [if_pos c4, if_pos c4]
          · rw [if_neg c4, if_neg c4]
            have e9 : (if g x = 0 then h x else e (h x)) = (if g x = 0 then h x else e' (h x)) := by
              split
              · rfl
              · exact H _ (by omega) (by omega)
            rw [e9]
            exact e_C_e H
        · rw [if_neg c3, if_neg c3]
          cases s with
          | nil => rfl
          | cons b s =>
            cases s with
            | nil => rfl
            | cons a t =>
              dsimp only
              by_cases c5 : g x = 5 ∧ b = 0
              · rw [if_pos c5, if_pos c5]
              · rw [if_neg c5, if_neg c5]
                by_cases c6 : g x = 6
                · rw [if_pos c6, if_pos c6]
                  by_cases c7 : b ≤ a
                  · rw [if_pos c7, if_pos c7]
                    exact e_C_e H
                  · rw [if_neg c7, if_neg c7]
                    exact e_C_e H
                · rw [if_neg c6, if_neg c6]
                  exact e_C_e H
    · rw [if_neg c1, if_neg c1]
theorem e_9_e {e0 e1 e2 e3 e4 e5 e6 e7 e8 : Int} (h0 : e 0 = e0) (h1 : e 1 = e1) (h2 : e 2 = e2) (h3 : e 3 = e3) (h4 : e 4 = e4) (h5 : e 5 = e5) (h6 : e 6 = e6) (h7 : e 7 = e7) (h8 : e 8 = e8) : ∀ i : Int, 0 ≤ i → i ≤ 8 → e i = e_9 e0 e1 e2 e3 e4 e5 e6 e7 e8 i := fun i i0 i1 => by
  have hc : i = 0 ∨ i = 1 ∨ i = 2 ∨ i = 3 ∨ i = 4 ∨ i = 5 ∨ i = 6 ∨ i = 7 ∨ i = 8 := by omega
  rcases hc with rfl | rfl | rfl | rfl | rfl | rfl | rfl | rfl | rfl
  · exact h0
  · exact h1
  · exact h2
  · exact h3
  · exact h4
  · exact h5
  · exact h6
  · exact h7
  · exact h8
theorem c_plc {e' : Int → Int} (hc : q_vlc v q k r) (H : ∀ i : Int, 0 ≤ i → i ≤ 8 → v 26 i = e' i) : q_plc v q k r e' := by
  unfold q_plc
  rw [← e_C_e H]
  exact hc
theorem c_plm {e' : Int → Int} {n : Int} (hc : q_vlm v s k w r) (hh : q_leq v s n q) (k0 : 0 ≤ k) (k1 : k ≤ 3) (hw : w = e_P k (v 75)) (H : ∀ i : Int, 0 ≤ i → i ≤ 8 → v 75 i = e' i) : q_plc v q k r e' := by
  unfold q_plc
  rw [← e_C_e H, c_leqV hh k0 (by omega)]
  unfold q_vlm at hc
  unfold e_M
  rw [← hw]
  exact hc
theorem c_plcU {e' : Int → Int} (h1 : q_plc v q k r e') (h2 : q_plc v q k u e') : r = u := h1.symm.trans h2
end ZMF
end
