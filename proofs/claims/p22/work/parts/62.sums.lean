noncomputable section
/-! ===== the reader is right: sums ===== -/
def y_in (n : Nat) (e : zL) : Prop := ∀ t ∈ e.2, t.1 < n
def y_el (σ : Nat → Int) (l : List (Nat × Int)) : Int := l.foldr (fun t a => t.2 * σ t.1 + a) 0
def y_ev (σ : Nat → Int) (e : zL) : Int := e.1 + y_el σ e.2
theorem zge_iff {a : Int} : zge a = true ↔ 0 ≤ a := by
  unfold zge
  cases a <;> simp
theorem zz_iff {a : Int} : zz a = true ↔ a = 0 := by
  unfold zz
  cases a with
  | ofNat n => cases n with
    | zero => simp
    | succ n => simp; omega
  | negSucc n => simp
theorem y_el_ins {σ : Nat → Int} {b : Nat} {c : Int} : ∀ l, y_el σ (x_ins b c l) = c * σ b + y_el σ l := by
  intro l
  induction l with
  | nil => simp [x_ins, y_el]
  | cons t r ih =>
    unfold x_ins
    split
    · simp [y_el]
    · split
      · next h =>
        have e : b = t.1 := Nat.eq_of_beq_eq_true h
        split
        · next h2 =>
          have := zz_iff.mp h2
          simp only [y_el, List.foldr_cons] at ih ⊢
          rw [← e, ← Int.add_assoc, ← Int.add_mul, this]
          simp
        · simp only [y_el, List.foldr_cons]
          rw [← e, ← Int.add_assoc, ← Int.add_mul]
      · simp only [y_el, List.foldr_cons] at ih ⊢
        rw [ih]
        omega
theorem y_ins_in {n b : Nat} {c : Int} (hb : b < n) : ∀ l : List (Nat × Int), (∀ t ∈ l, t.1 < n) → ∀ t ∈ x_ins b c l, t.1 < n := by
  intro l
  induction l with
  | nil => intro _ t ht; simp [x_ins] at ht; rw [ht]; exact hb
  | cons a r ih =>
    intro h t ht
    unfold x_ins at ht
    split at ht
    · rcases List.mem_cons.mp ht with rfl | ht
      · exact hb
      · exact h t ht
    · split at ht
      · split at ht
        · exact h t (List.mem_cons_of_mem _ ht)
        · rcases List.mem_cons.mp ht with rfl | ht
          · exact hb
          · exact h t (List.mem_cons_of_mem _ ht)
      · rcases List.mem_cons.mp ht with rfl | ht
        · exact h _ List.mem_cons_self
        · exact ih (fun t ht => h t (List.mem_cons_of_mem _ ht)) t ht
theorem y_ev_k {σ : Nat → Int} (c : Int) : y_ev σ (x_k c) = c := by simp [y_ev, x_k, y_el]
theorem y_ev_b {σ : Nat → Int} (b : Nat) : y_ev σ (x_b b) = σ b := by simp [y_ev, x_b, y_el]
theorem y_ev_inc {σ : Nat → Int} (k : Int) (e : zL) : y_ev σ (x_inc k e) = y_ev σ e + k := by simp only [y_ev, x_inc]; omega
theorem y_ev_add {σ : Nat → Int} (e f : zL) : y_ev σ (x_add e f) = y_ev σ e + y_ev σ f := by
  have : ∀ l : List (Nat × Int), y_el σ (l.foldr (fun t l => x_ins t.1 t.2 l) f.2) = y_el σ l + y_el σ f.2 := by
    intro l
    induction l with
    | nil => simp [y_el]
    | cons t r ih =>
      rw [List.foldr_cons, y_el_ins, ih]
      simp only [y_el, List.foldr_cons]
      omega
  simp only [y_ev, x_add, this]
  omega
theorem y_ev_scl {σ : Nat → Int} (k : Int) (e : zL) : y_ev σ (x_scl k e) = k * y_ev σ e := by
  unfold x_scl
  split
  · next h => rw [zz_iff.mp h]; simp [y_ev, y_el]
  · have : ∀ l : List (Nat × Int), y_el σ (l.map fun t => (t.1, k * t.2)) = k * y_el σ l := by
      intro l
      induction l with
      | nil => simp [y_el]
      | cons t r ih =>
        simp only [y_el, List.map_cons, List.foldr_cons] at ih ⊢
        rw [ih, Int.mul_add, Int.mul_assoc]
    simp only [y_ev, this, Int.mul_add]
theorem y_ev_sub {σ : Nat → Int} (e f : zL) : y_ev σ (x_sub e f) = y_ev σ e - y_ev σ f := by
  unfold x_sub
  rw [y_ev_add, y_ev_scl]
  omega
theorem y_in_k {n : Nat} (c : Int) : y_in n (x_k c) := fun t h => by simp [x_k] at h
theorem y_in_b {n b : Nat} (h : b < n) : y_in n (x_b b) := fun t ht => by simp [x_b] at ht; rw [ht]; exact h
theorem y_in_inc {n : Nat} {k : Int} {e : zL} (h : y_in n e) : y_in n (x_inc k e) := h
theorem y_in_add {n : Nat} {e f : zL} (he : y_in n e) (hf : y_in n f) : y_in n (x_add e f) := by
  have : ∀ l : List (Nat × Int), (∀ t ∈ l, t.1 < n) → ∀ t ∈ l.foldr (fun t l => x_ins t.1 t.2 l) f.2, t.1 < n := by
    intro l
    induction l with
    | nil => intro _; exact hf
    | cons a r ih =>
      intro h
      rw [List.foldr_cons]
      exact y_ins_in (h a List.mem_cons_self) _ (ih fun t ht => h t (List.mem_cons_of_mem _ ht))
  exact this e.2 he
theorem y_in_scl {n : Nat} {k : Int} {e : zL} (he : y_in n e) : y_in n (x_scl k e) := by
  unfold x_scl
  split
  · intro t h; simp at h
  · intro t h
    obtain ⟨a, ha, rfl⟩ := List.mem_map.mp h
    exact he a ha
theorem y_in_sub {n : Nat} {e f : zL} (he : y_in n e) (hf : y_in n f) : y_in n (x_sub e f) := y_in_add he (y_in_scl hf)
/-- the sum e is in range, and is z -/
def y_E (n : Nat) (σ : Nat → Int) (e : zL) (z : Int) : Prop := y_in n e ∧ y_ev σ e = z
theorem y_E.add {n : Nat} {σ : Nat → Int} {e f : zL} {x y : Int} (h : y_E n σ e x) (g : y_E n σ f y) : y_E n σ (x_add e f) (x + y) := ⟨y_in_add h.1 g.1, by rw [y_ev_add, h.2, g.2]⟩
theorem y_E.sub {n : Nat} {σ : Nat → Int} {e f : zL} {x y : Int} (h : y_E n σ e x) (g : y_E n σ f y) : y_E n σ (x_sub e f) (x - y) := ⟨y_in_sub h.1 g.1, by rw [y_ev_sub, h.2, g.2]⟩
theorem y_E.scl {n : Nat} {σ : Nat → Int} {e : zL} {x : Int} (k : Int) (h : y_E n σ e x) : y_E n σ (x_scl k e) (k * x) := ⟨y_in_scl h.1, by rw [y_ev_scl, h.2]⟩
theorem y_E.neg {n : Nat} {σ : Nat → Int} {e : zL} {x : Int} (h : y_E n σ e x) : y_E n σ (x_scl (-1) e) (-x) := ⟨y_in_scl h.1, by rw [y_ev_scl, h.2]; omega⟩
theorem y_E.inc {n : Nat} {σ : Nat → Int} {e : zL} {x : Int} (k : Int) (h : y_E n σ e x) : y_E n σ (x_inc k e) (x + k) := ⟨h.1, by rw [y_ev_inc, h.2]⟩
theorem y_E.k {n : Nat} {σ : Nat → Int} (c : Int) : y_E n σ (x_k c) c := ⟨y_in_k c, y_ev_k c⟩
theorem y_E.b {n b : Nat} {σ : Nat → Int} (h : b < n) : y_E n σ (x_b b) (σ b) := ⟨y_in_b h, y_ev_b b⟩
theorem y_E.of {n : Nat} {σ : Nat → Int} {e : zL} (h : y_in n e) : y_E n σ e (y_ev σ e) := ⟨h, rfl⟩
def y_X (n : Nat) (σ σ' : Nat → Int) : Prop := ∀ b, b < n → σ' b = σ b
theorem y_ev_ext {n : Nat} {σ σ' : Nat → Int} {e : zL} (h : y_in n e) (x : y_X n σ σ') : y_ev σ' e = y_ev σ e := by
  unfold y_ev
  congr 1
  have : ∀ l : List (Nat × Int), (∀ t ∈ l, t.1 < n) → y_el σ' l = y_el σ l := by
    intro l
    induction l with
    | nil => intro _; rfl
    | cons t r ih =>
      intro h
      simp only [y_el, List.foldr_cons] at ih ⊢
      rw [ih fun t ht => h t (List.mem_cons_of_mem _ ht), x t.1 (h t List.mem_cons_self)]
  exact this e.2 h
theorem y_in_le {n n' : Nat} {e : zL} (h : y_in n e) (l : n ≤ n') : y_in n' e := fun t ht => Nat.lt_of_lt_of_le (h t ht) l
theorem y_E.ext {n n' : Nat} {σ σ' : Nat → Int} {e : zL} {z : Int} (h : y_E n σ e z) (x : y_X n σ σ') (l : n ≤ n') : y_E n' σ' e z := ⟨y_in_le h.1 l, by rw [y_ev_ext h.1 x, h.2]⟩
theorem y_X.refl {n : Nat} {σ : Nat → Int} : y_X n σ σ := fun _ _ => rfl
theorem y_X.trans {n n' : Nat} {σ σ' σ'' : Nat → Int} (h : y_X n σ σ') (g : y_X n' σ' σ'') (l : n ≤ n') : y_X n σ σ'' := fun b hb => (g b (Nat.lt_of_lt_of_le hb l)).trans (h b hb)
/-- each unknown is in its range -/
def y_rg (is : List (Int × Int)) (σ : Nat → Int) : Prop := ∀ (b : Nat) (p : Int × Int), is[b]? = some p → p.1 ≤ σ b ∧ σ b ≤ p.2
theorem y_rg.get {is : List (Int × Int)} {σ : Nat → Int} (h : y_rg is σ) {b : Nat} (hb : b < is.length) : (is.getD b (0, 0)).1 ≤ σ b ∧ σ b ≤ (is.getD b (0, 0)).2 := by
  have := h b is[b] (List.getElem?_eq_getElem hb)
  rw [List.getD_eq_getElem?_getD, List.getElem?_eq_getElem hb]
  exact this
theorem y_lo {is : List (Int × Int)} {σ : Nat → Int} (h : y_rg is σ) {e : zL} (he : y_in is.length e) : x_lo is e ≤ y_ev σ e ∧ y_ev σ e ≤ x_hi is e := by
  unfold x_lo x_hi y_ev
  try simp only [x_nth_eq, x_gt_eq, x_sst_eq, xl_any_eq, xl_all_eq, xl_fr_eq, xl_fl_eq]
  have : ∀ l : List (Nat × Int), (∀ t ∈ l, t.1 < is.length) → ∀ c : Int, l.foldr (fun t a => x_tlo is t + a) c ≤ c + y_el σ l ∧ c + y_el σ l ≤ l.foldr (fun t a => x_thi is t + a) c := by
    intro l
    induction l with
    | nil => intro _ c; simp [y_el]
    | cons t r ih =>
      intro hl c
      have h1 := ih (fun t ht => hl t (List.mem_cons_of_mem _ ht)) c
      have h2 := h.get (hl t List.mem_cons_self)
      simp only [List.foldr_cons, y_el] at h1 ⊢
      have h4 : x_tlo is t ≤ t.2 * σ t.1 ∧ t.2 * σ t.1 ≤ x_thi is t := by
        unfold x_tlo x_thi
        try simp only [x_nth_eq, x_gt_eq, x_sst_eq, xl_any_eq, xl_all_eq, xl_fr_eq, xl_fl_eq]
        cases hz : zge t.2 with
        | true =>
          have h3 := zge_iff.mp hz
          exact ⟨Int.mul_le_mul_of_nonneg_left h2.1 h3, Int.mul_le_mul_of_nonneg_left h2.2 h3⟩
        | false =>
          have h3 : t.2 ≤ 0 := by
            have : ¬ 0 ≤ t.2 := fun q => by rw [zge_iff.mpr q] at hz; cases hz
            omega
          exact ⟨Int.mul_le_mul_of_nonpos_left h3 h2.2, Int.mul_le_mul_of_nonpos_left h3 h2.1⟩
      omega
  exact this e.2 he e.1
/-- what is known not to be negative -/
def y_cs (n : Nat) (σ : Nat → Int) (cs : List zL) : Prop := ∀ e ∈ cs, y_in n e ∧ 0 ≤ y_ev σ e
theorem y_ent {is : List (Int × Int)} {cs : List zL} {σ : Nat → Int} (h : y_rg is σ) (hc : y_cs is.length σ cs) {e : zL} {z : Int} (he : y_E is.length σ e z) (hx : x_ent is cs e = true) : 0 ≤ z := by
  obtain ⟨he1, rfl⟩ := he
  replace hx := x_ent_old hx
  unfold x_entO at hx
  simp only [Bool.or_eq_true, List.any_eq_true] at hx
  rcases hx with hx | ⟨g, hg, hx⟩
  · have := (y_lo h he1).1
    have := zge_iff.mp hx
    omega
  · obtain ⟨g1, g2⟩ := hc g hg
    have l := (y_lo h (y_in_sub he1 g1)).1
    rw [y_ev_sub] at l
    have := zge_iff.mp hx
    omega
theorem y_rg.set {is : List (Int × Int)} {σ : Nat → Int} (h : y_rg is σ) {b : Nat} {p : Int × Int} (hp : p.1 ≤ σ b ∧ σ b ≤ p.2) : y_rg (is.set b p) σ := by
  intro c q hq
  by_cases e : b = c
  · subst e
    have hlt : b < is.length := by
      have := (List.getElem?_eq_some_iff.mp hq).1
      rwa [List.length_set] at this
    rw [List.getElem?_set_self hlt] at hq
    cases hq
    exact hp
  · rw [List.getElem?_set_ne e] at hq
    exact h c q hq
theorem y_el_split {σ : Nat → Int} : ∀ (l : List (Nat × Int)) (t : Nat × Int), t ∈ l → ∃ l1 l2, l = l1 ++ t :: l2 := fun l t h => List.append_of_mem h
/-- all but one unknown are at most what they can be -/
theorem y_rest {is : List (Int × Int)} {σ : Nat → Int} (h : y_rg is σ) {e : zL} (he : y_in is.length e) {t : Nat × Int} (ht : t ∈ e.2) : y_ev σ e - t.2 * σ t.1 ≤ x_hi is e - x_thi is t := by
  obtain ⟨l1, l2, hl⟩ := List.append_of_mem ht
  have hi1 : ∀ t ∈ l1, t.1 < is.length := fun a ha => he a (by rw [hl]; exact List.mem_append_left _ ha)
  have hi2 : ∀ t ∈ l2, t.1 < is.length := fun a ha => he a (by rw [hl]; exact List.mem_append_right _ (List.mem_cons_of_mem _ ha))
  have key : ∀ (l : List (Nat × Int)) (c : Int), (∀ t ∈ l, t.1 < is.length) → c + y_el σ l ≤ l.foldr (fun t a => x_thi is t + a) c := by
    intro l c hl
    have hq := (y_lo h (e := (c, l)) hl).2
    unfold x_hi at hq
    try simp only [x_nth_eq, x_gt_eq, x_sst_eq, xl_any_eq, xl_all_eq, xl_fr_eq, xl_fl_eq] at hq
    exact hq
  have add : ∀ (l : List (Nat × Int)) (c d : Int), l.foldr (fun t a => x_thi is t + a) (c + d) = l.foldr (fun t a => x_thi is t + a) c + d := by
    intro l
    induction l with
    | nil => intro c d; rfl
    | cons a r ih => intro c d; simp only [List.foldr_cons]; rw [ih]; omega
  have eapp : ∀ (a b : List (Nat × Int)), y_el σ (a ++ b) = y_el σ a + y_el σ b := by
    intro a b
    induction a with
    | nil => simp [y_el]
    | cons x r ih => simp only [y_el, List.cons_append, List.foldr_cons] at ih ⊢; rw [ih]; omega
  have ec : y_el σ (t :: l2) = t.2 * σ t.1 + y_el σ l2 := rfl
  unfold y_ev x_hi
  try simp only [x_nth_eq, x_gt_eq, x_sst_eq, xl_any_eq, xl_all_eq, xl_fr_eq, xl_fl_eq]
  rw [hl, eapp, ec, List.foldr_append, List.foldr_cons, Int.add_comm (x_thi is t), add]
  have k1 := key l2 e.1 hi2
  have k2 := key l1 (l2.foldr (fun t a => x_thi is t + a) e.1) hi1
  omega
theorem y_tgt {is : List (Int × Int)} {σ : Nat → Int} (h : y_rg is σ) {e : zL} (he : y_in is.length e) (h0 : 0 ≤ y_ev σ e) {t : Nat × Int} (ht : t ∈ e.2) : y_rg (x_tgt e is t) σ ∧ (x_tgt e is t).length = is.length := by
  unfold x_tgt
  try simp only [x_nth_eq, x_gt_eq, x_sst_eq, xl_any_eq, xl_all_eq, xl_fr_eq, xl_fl_eq]
  split
  · exact ⟨h, rfl⟩
  · next p hp =>
    have hr := y_rest h he ht
    unfold x_thi at hr
    try simp only [x_nth_eq, x_gt_eq, x_sst_eq, xl_any_eq, xl_all_eq, xl_fr_eq, xl_fl_eq] at hr
    have hg : is.getD t.1 (0, 0) = p := by rw [List.getD_eq_getElem?_getD, hp]; rfl
    rw [hg] at hr
    have hb := h t.1 p hp
    split
    · next h1 =>
      have c1 := zge_iff.mp h1
      have hz : zge t.2 = true := zge_iff.mpr (by omega)
      rw [hz] at hr
      try dsimp only at hr
      split
      · refine ⟨h.set ⟨?_, hb.2⟩, List.length_set⟩
        have : -(x_hi is e - t.2 * p.2) ≤ t.2 * σ t.1 := by omega
        have l1 : -(σ t.1) ≤ (x_hi is e - t.2 * p.2) / t.2 := by
          apply (Int.le_ediv_iff_mul_le (by omega)).mpr
          rw [Int.neg_mul, Int.mul_comm]
          omega
        show -((x_hi is e - t.2 * p.2) / t.2) ≤ σ t.1
        omega
      · exact ⟨h, rfl⟩
    · split
      · next h1 =>
        have c1 := zge_iff.mp h1
        have hz : zge t.2 = false := by
          cases hq : zge t.2 with
          | false => rfl
          | true => have := zge_iff.mp hq; omega
        rw [hz] at hr
        try dsimp only at hr
        split
        · refine ⟨h.set ⟨hb.1, ?_⟩, List.length_set⟩
          have l1 : σ t.1 ≤ (x_hi is e - t.2 * p.1) / (-t.2) := by
            apply (Int.le_ediv_iff_mul_le (by omega)).mpr
            rw [Int.mul_comm, Int.neg_mul]
            omega
          exact l1
        · exact ⟨h, rfl⟩
      · exact ⟨h, rfl⟩
theorem y_tgts {e : zL} {σ : Nat → Int} (h0 : 0 ≤ y_ev σ e) : ∀ (l : List (Nat × Int)) (is : List (Int × Int)), (∀ t ∈ l, t ∈ e.2) → y_in is.length e → y_rg is σ → y_rg (l.foldl (x_tgt e) is) σ ∧ (l.foldl (x_tgt e) is).length = is.length := by
  intro l
  induction l with
  | nil => intro is _ _ h; exact ⟨h, rfl⟩
  | cons t r ih =>
    intro is hl he h
    obtain ⟨a, b⟩ := y_tgt h he h0 (hl t List.mem_cons_self)
    obtain ⟨c, d⟩ := ih (x_tgt e is t) (fun t ht => hl t (List.mem_cons_of_mem _ ht)) (by rw [b]; exact he) a
    exact ⟨c, d.trans b⟩
end
