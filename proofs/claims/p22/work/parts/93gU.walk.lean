noncomputable section
/-! ===== the walk over all orders ===== -/
def o_w (P : Int → Bool) (x : Int) : List Int := ([0, 1, 2, 3, 4, 5] : List Int).filter fun h => decide (x ≤ h) && P h
theorem o_w_s (P : Int → Bool) {x : Int} (x0 : 0 ≤ x) (x6 : x < 6) : o_w P x = if P x = true then x :: o_w P (x + 1) else o_w P (x + 1) := by
  have hx : x = 0 ∨ x = 1 ∨ x = 2 ∨ x = 3 ∨ x = 4 ∨ x = 5 := by omega
  rcases hx with rfl | rfl | rfl | rfl | rfl | rfl
  · cases h : P 0 <;> simp [o_w, List.filter_cons, h]
  · cases h : P 1 <;> simp [o_w, List.filter_cons, h]
  · cases h : P 2 <;> simp [o_w, List.filter_cons, h]
  · cases h : P 3 <;> simp [o_w, List.filter_cons, h]
  · cases h : P 4 <;> simp [o_w, List.filter_cons, h]
  · cases h : P 5 <;> simp [o_w, List.filter_cons, h]
theorem o_w_6 (P : Int → Bool) {x : Int} (x6 : 6 ≤ x) : o_w P x = [] := by
  unfold o_w
  rw [List.filter_eq_nil_iff]
  intro h hh
  have : h = 0 ∨ h = 1 ∨ h = 2 ∨ h = 3 ∨ h = 4 ∨ h = 5 := by simpa using hh
  simp only [Bool.and_eq_true, decide_eq_true_eq, not_and]
  intro c
  omega
theorem o_w_go (P : Int → Bool) : ∀ (n : Nat) (x : Int), 0 ≤ x → x + n ≤ 6 → (∀ j : Int, x ≤ j → j < x + n → P j = false) → o_w P x = o_w P (x + n)
  | 0, x, _, _, _ => by rw [show x + ((0 : Nat) : Int) = x by omega]
  | n + 1, x, x0, x6, h => by
    rw [o_w_s P x0 (by omega), if_neg (by rw [h x (by omega) (by omega)]; simp), o_w_go P n (x + 1) (by omega) (by omega) (fun j j0 j1 => h j (by omega) (by omega))]
    rw [show x + 1 + (n : Int) = x + ((n + 1 : Nat) : Int) by omega]
def o_p (A : Int → Int) (r : List Int) (h : Int) : Bool := decide (1 ≤ g_ha A h) && !(r.contains h)
theorem o_f_w (A : Int → Int) (r : List Int) (x : Int) : o_f (o_a A) r x = o_w (o_p A r) x := by
  unfold o_f o_a o_w o_p
  rw [List.filter_filter]
  congr 1
  funext h
  cases decide (x ≤ h) <;> cases decide (1 ≤ g_ha A h) <;> cases r.contains h <;> rfl
theorem o_p_t {A : Int → Int} {r : List Int} {h : Int} (c : 1 ≤ g_ha A h ∧ ¬ h ∈ r) : o_p A r h = true := by
  unfold o_p
  simp [c.1, c.2]
theorem o_p_f {A : Int → Int} {r : List Int} {h : Int} (c : ¬ (1 ≤ g_ha A h ∧ ¬ h ∈ r)) : o_p A r h = false := by
  cases d : o_p A r h with
  | false => rfl
  | true =>
    unfold o_p at d
    simp at d
    exact absurd d c
section ZU1
variable {A : Int → Int} {r : List Int} {x h : Int}
theorem o_f_h (x0 : 0 ≤ x) (xh : x ≤ h) (h6 : h < 6) (c : 1 ≤ g_ha A h ∧ ¬ h ∈ r) (n : ∀ j : Int, x ≤ j → j < h → ¬ (1 ≤ g_ha A j ∧ ¬ j ∈ r)) : o_f (o_a A) r x = h :: o_f (o_a A) r (h + 1) := by
  rw [o_f_w, o_f_w, o_w_go (o_p A r) (h - x).toNat x x0 (by omega) (fun j j0 j1 => o_p_f (n j j0 (by omega))), show x + ((h - x).toNat : Int) = h by omega, o_w_s _ (by omega) h6, if_pos (o_p_t c)]
theorem o_f_n (x0 : 0 ≤ x) (n : ∀ j : Int, x ≤ j → j < 6 → ¬ (1 ≤ g_ha A j ∧ ¬ j ∈ r)) : o_f (o_a A) r x = [] := by
  rw [o_f_w]
  by_cases d : 6 ≤ x
  · exact o_w_6 _ d
  · rw [o_w_go (o_p A r) (6 - x).toNat x x0 (by omega) (fun j j0 j1 => o_p_f (n j j0 (by omega)))]
    exact o_w_6 _ (by omega)
end ZU1
theorem o_b_h {a r : List Int} {x h : Int} {n : Nat} (e : o_f a r x = h :: o_f a r (h + 1)) : o_b a n r x = (h :: r) :: (o_e a n (h :: r) ++ o_b a n r (h + 1)) := by
  show (o_f a r x).flatMap _ = _
  rw [e, List.flatMap_cons]
  rfl
theorem o_b_n {a r : List Int} {x : Int} {n : Nat} (e : o_f a r x = []) : o_b a n r x = [] := by
  show (o_f a r x).flatMap _ = _
  rw [e]
  rfl
/-- the next one -/
theorem o_r_h {a : List Int} : ∀ {r : List Int} {x h : Int}, r.length ≤ 5 → o_f a r x = h :: o_f a r (h + 1) → o_r a r x = (h :: r) :: o_r a (h :: r) 0
  | [], x, h, _, e => by
    show o_b a 6 [] x = [h] :: (o_b a 5 [h] 0 ++ o_b a 6 [] (h + 1))
    rw [o_b_h e]
    rfl
  | g :: r, x, h, l, e => by
    have l9 : r.length ≤ 4 := by have : r.length + 1 ≤ 5 := l; omega
    have e5 : 5 - r.length = (5 - (r.length + 1)) + 1 := by omega
    show o_b a (5 - r.length) (g :: r) x ++ o_r a r (g + 1) = (h :: g :: r) :: (o_b a (5 - (r.length + 1)) (h :: g :: r) 0 ++ (o_b a (5 - r.length) (g :: r) (h + 1) ++ o_r a r (g + 1)))
    rw [o_b_h e, e5, List.cons_append, List.append_assoc]
    rfl
theorem o_r_u {a : List Int} {r : List Int} {x h : Int} (e : o_f a (h :: r) x = []) : o_r a (h :: r) x = o_r a r (h + 1) := by
  show o_b a (5 - r.length) (h :: r) x ++ o_r a r (h + 1) = _
  rw [o_b_n e]
  rfl
theorem o_r_n {a : List Int} {x : Int} (e : o_f a [] x = []) : o_r a [] x = [] := o_b_n e
theorem o_drop {T : Type} : ∀ (k : Nat) (l : List T) (a : T) (t : List T), l.drop k = a :: t → l[k]? = some a ∧ l.drop (k + 1) = t
  | 0, [], _, _, e => by simp at e
  | 0, b :: l, a, t, e => by
    rw [List.drop_zero] at e
    injection e with e1 e2
    subst e1 e2
    exact ⟨rfl, rfl⟩
  | k + 1, [], _, _, e => by simp at e
  | k + 1, b :: l, a, t, e => by
    have := o_drop k l a t (by simpa using e)
    exact ⟨by simpa using this.1, by simpa using this.2⟩
theorem o_l_len (f : Int → Int) : ∀ m : Nat, (o_l f m).length = m
  | 0 => rfl
  | m + 1 => by
    show (o_l f m).length + 1 = m + 1
    rw [o_l_len f m]
/-! how many there are -/
def o_EN : Nat → Nat
  | 0 => 0
  | n + 1 => 6 * (1 + o_EN n)
theorem o_fm_len {S T : Type} (f : S → List T) (c : Nat) : ∀ l : List S, (∀ x ∈ l, (f x).length ≤ c) → (l.flatMap f).length ≤ l.length * c
  | [], _ => by simp
  | x :: l, h => by
    have ih := o_fm_len f c l (fun y hy => h y (List.mem_cons_of_mem _ hy))
    have hx := h x (List.mem_cons_self ..)
    rw [List.flatMap_cons, List.length_append, List.length_cons, Nat.succ_mul]
    omega
theorem o_f_len {a r : List Int} {x : Int} (a6 : a.length ≤ 6) : (o_f a r x).length ≤ 6 := Nat.le_trans (List.length_filter_le ..) a6
theorem o_e_len {a : List Int} (a6 : a.length ≤ 6) : ∀ (n : Nat) (r : List Int), (o_e a n r).length ≤ o_EN n
  | 0, _ => Nat.le_refl _
  | n + 1, r => by
    have h := o_fm_len (fun h => (h :: r) :: o_e a n (h :: r)) (1 + o_EN n) (o_f a r 0) (fun x _ => by
      have := o_e_len a6 n (x :: r)
      show (o_e a n (x :: r)).length + 1 ≤ _
      omega)
    have h6 : (o_f a r 0).length ≤ 6 := o_f_len a6
    exact Nat.le_trans h (Nat.mul_le_mul_right _ h6)
theorem o_a_len (A : Int → Int) : (o_a A).length ≤ 6 := Nat.le_trans (List.length_filter_le ..) (by decide)
theorem o_A_len (A : Int → Int) : (o_A (o_a A)).length ≤ 335922 := by
  have h := o_e_len (o_a_len A) 7 []
  exact h
/-! who is of them -/
theorem o_a_mem {A : Int → Int} {h : Int} : h ∈ o_a A ↔ o_ab A h := by
  unfold o_a o_ab
  rw [List.mem_filter, decide_eq_true_eq]
  constructor
  · rintro ⟨a, b⟩
    have : h = 0 ∨ h = 1 ∨ h = 2 ∨ h = 3 ∨ h = 4 ∨ h = 5 := by simpa using a
    exact ⟨by omega, b⟩
  · rintro ⟨a, b⟩
    have : h = 0 ∨ h = 1 ∨ h = 2 ∨ h = 3 ∨ h = 4 ∨ h = 5 := by omega
    exact ⟨by simpa using this, b⟩
theorem o_f_mem {a r : List Int} {x h : Int} : h ∈ o_f a r x ↔ h ∈ a ∧ x ≤ h ∧ ¬ h ∈ r := by
  unfold o_f
  rw [List.mem_filter]
  simp
theorem o_ok_cons {a r : List Int} {h : Int} (k : o_ok a r) (c : h ∈ a ∧ ¬ h ∈ r) : o_ok a (h :: r) := ⟨List.nodup_cons.mpr ⟨c.2, k.1⟩, fun g hg => by
  rcases List.mem_cons.mp hg with d | d
  · rw [d]; exact c.1
  · exact k.2 g d⟩
theorem o_e_ok {a : List Int} : ∀ (n : Nat) (r0 r : List Int), o_ok a r0 → r ∈ o_e a n r0 → o_ok a r ∧ r ≠ []
  | 0, _, _, _, h => by cases h
  | n + 1, r0, r, k, h => by
    obtain ⟨g, g0, g1⟩ := List.mem_flatMap.mp (show r ∈ (o_f a r0 0).flatMap _ from h)
    have gc := o_f_mem.mp g0
    have k1 := o_ok_cons k ⟨gc.1, gc.2.2⟩
    rcases List.mem_cons.mp g1 with d | d
    · rw [d]; exact ⟨k1, by simp⟩
    · exact o_e_ok n _ r k1 d
theorem o_e_all {a : List Int} (a0 : ∀ h ∈ a, 0 ≤ h) : ∀ (n : Nat) (s r0 : List Int), s ≠ [] → s.length ≤ n → o_ok a (s ++ r0) → s ++ r0 ∈ o_e a n r0
  | 0, s, _, h, l, _ => by
    cases s with
    | nil => exact absurd rfl h
    | cons b s => exact absurd (show s.length + 1 ≤ 0 from l) (by omega)
  | n + 1, s, r0, h, l, k => by
    show s ++ r0 ∈ (o_f a r0 0).flatMap _
    rcases List.eq_nil_or_concat s with e | ⟨s', g, e⟩
    · exact absurd e h
    · have e9 : s ++ r0 = s' ++ (g :: r0) := by rw [e, List.concat_eq_append, List.append_assoc]; rfl
      have hg : g ∈ s ++ r0 := by rw [e9]; simp
      have hn : ¬ g ∈ r0 := by
        have := k.1
        rw [e9] at this
        have := (List.nodup_append.mp this).2.1
        exact (List.nodup_cons.mp this).1
      refine List.mem_flatMap.mpr ⟨g, o_f_mem.mpr ⟨k.2 g hg, a0 g (k.2 g hg), hn⟩, ?_⟩
      rw [e9]
      by_cases d : s' = []
      · rw [d]; exact List.mem_cons_self ..
      · refine List.mem_cons_of_mem _ (o_e_all a0 n s' (g :: r0) d ?_ (by rw [← e9]; exact k))
        have : s.length = s'.length + 1 := by rw [e, List.concat_eq_append, List.length_append]; rfl
        omega
theorem o_nd_len {T : Type} [BEq T] [LawfulBEq T] : ∀ (l a : List T), l.Nodup → (∀ h ∈ l, h ∈ a) → l.length ≤ a.length
  | [], _, _, _ => Nat.zero_le _
  | h :: l, a, n, s => by
    have ha : h ∈ a := s h (List.mem_cons_self ..)
    have n9 := List.nodup_cons.mp n
    have e := List.length_erase_of_mem ha
    have i := o_nd_len l (a.erase h) n9.2 (fun g hg => (List.mem_erase_of_ne (a := g) (b := h) (fun c => n9.1 (by rw [← c]; exact hg))).mpr (s g (List.mem_cons_of_mem _ hg)))
    have p : 0 < a.length := List.length_pos_of_mem ha
    show l.length + 1 ≤ a.length
    omega
theorem o_same {T : Type} [BEq T] [LawfulBEq T] {l m : List T} (a : l.Nodup) (b : m.Nodup) (e : ∀ x, x ∈ l ↔ x ∈ m) : l.length = m.length :=
  Nat.le_antisymm (o_nd_len l m a fun x h => (e x).mp h) (o_nd_len m l b fun x h => (e x).mpr h)
theorem o_A_mem {A : Int → Int} {r : List Int} : r ∈ o_A (o_a A) ↔ o_ok (o_a A) r ∧ r ≠ [] := by
  constructor
  · exact fun h => o_e_ok 7 [] r ⟨List.nodup_nil, fun h hh => by cases hh⟩ h
  · rintro ⟨k, n⟩
    have l := o_nd_len r (o_a A) k.1 k.2
    have l6 := o_a_len A
    have h := o_e_all (a := o_a A) (fun h hh => (o_a_mem.mp hh).1.1) 7 r [] n (by omega) (by rw [List.append_nil]; exact k)
    rw [List.append_nil] at h
    exact h
theorem o_e_suf {a : List Int} : ∀ (n : Nat) (r0 r : List Int), r ∈ o_e a n r0 → ∃ s : List Int, s ≠ [] ∧ r = s ++ r0
  | 0, _, _, h => by cases h
  | n + 1, r0, r, h => by
    obtain ⟨g, -, g1⟩ := List.mem_flatMap.mp (show r ∈ (o_f a r0 0).flatMap _ from h)
    rcases List.mem_cons.mp g1 with d | d
    · exact ⟨[g], by simp, d⟩
    · obtain ⟨s, s0, s1⟩ := o_e_suf n _ r d
      exact ⟨s ++ [g], by simp, by rw [s1, List.append_assoc]; rfl⟩
theorem o_e_nd {a : List Int} (an : a.Nodup) : ∀ (n : Nat) (r0 : List Int), (o_e a n r0).Nodup
  | 0, _ => List.nodup_nil
  | n + 1, r0 => by
    show ((o_f a r0 0).flatMap fun h => (h :: r0) :: o_e a n (h :: r0)).Pairwise (· ≠ ·)
    rw [List.pairwise_flatMap]
    constructor
    · intro h _
      refine List.nodup_cons.mpr ⟨fun c => ?_, o_e_nd an n _⟩
      obtain ⟨s, s0, s1⟩ := o_e_suf n _ _ c
      have : (h :: r0).length = s.length + (h :: r0).length := by rw [← List.length_append, ← s1]
      exact s0 (List.eq_nil_of_length_eq_zero (by omega))
    · have fn : (o_f a r0 0).Pairwise (· ≠ ·) := List.Pairwise.filter _ an
      refine fn.imp fun {x y} hxy => ?_
      intro u hu w hw e
      have su : ∃ s : List Int, u = s ++ (x :: r0) := by
        rcases List.mem_cons.mp hu with d | d
        · exact ⟨[], d⟩
        · obtain ⟨s, -, s1⟩ := o_e_suf n _ _ d
          exact ⟨s, s1⟩
      have sw : ∃ s : List Int, w = s ++ (y :: r0) := by
        rcases List.mem_cons.mp hw with d | d
        · exact ⟨[], d⟩
        · obtain ⟨s, -, s1⟩ := o_e_suf n _ _ d
          exact ⟨s, s1⟩
      obtain ⟨s, es⟩ := su
      obtain ⟨t, et⟩ := sw
      rw [es, et] at e
      have := (List.append_inj' e rfl).2
      injection this with e1 _
      exact hxy e1
theorem o_a_nd (A : Int → Int) : (o_a A).Nodup := List.Pairwise.filter _ (by decide)
theorem o_A_nd (A : Int → Int) : (o_A (o_a A)).Nodup := o_e_nd (o_a_nd A) 7 []
theorem o_n_len {T : Type} (P : T → Prop) : ∀ l : List T, o_n P l = ((l.filter fun x => @decide (P x) (Classical.propDecidable _)).length : Int)
  | [] => rfl
  | x :: l => by
    have ih := o_n_len P l
    show o_n P l + @ite Int (P x) (Classical.propDecidable _) 1 0 = _
    rw [List.filter_cons]
    by_cases c : P x
    · rw [if_pos c, if_pos (by simpa using c), List.length_cons, ih]; omega
    · rw [if_neg c, if_neg (by simpa using c), ih]; omega
theorem o_n_app {T : Type} (P : T → Prop) : ∀ l m : List T, o_n P (l ++ m) = o_n P l + o_n P m
  | [], m => by show o_n P m = 0 + o_n P m; omega
  | x :: l, m => by
    have ih := o_n_app P l m
    show o_n P (l ++ m) + _ = o_n P l + _ + o_n P m
    omega
theorem o_n_b {T : Type} (P : T → Prop) : ∀ l : List T, 0 ≤ o_n P l ∧ o_n P l ≤ l.length
  | [] => ⟨Int.le_refl _, Int.le_refl _⟩
  | x :: l => by
    have ih := o_n_b P l
    have e : o_n P (x :: l) = o_n P l + @ite Int (P x) (Classical.propDecidable _) 1 0 := rfl
    rw [e, List.length_cons]
    by_cases c : P x
    · rw [if_pos c]; omega
    · rw [if_neg c]; omega
theorem o_n_cg {T : Type} {P Q : T → Prop} : ∀ l : List T, (∀ x ∈ l, (P x ↔ Q x)) → o_n P l = o_n Q l
  | [], _ => rfl
  | x :: l, h => by
    have ih := o_n_cg l (fun y hy => h y (List.mem_cons_of_mem _ hy))
    show o_n P l + _ = o_n Q l + _
    rw [ih]
    by_cases c : P x
    · rw [if_pos c, if_pos ((h x (List.mem_cons_self ..)).mp c)]
    · rw [if_neg c, if_neg (fun d => c ((h x (List.mem_cons_self ..)).mpr d))]
theorem o_n_map {S T : Type} (f : S → T) (P : T → Prop) : ∀ l : List S, o_n P (l.map f) = o_n (fun x => P (f x)) l
  | [] => rfl
  | x :: l => by
    have ih := o_n_map f P l
    show o_n P (l.map f) + _ = o_n _ l + _
    rw [ih]
theorem o_l_s {f : Int → Int} {m : Int} (m0 : 0 ≤ m) : o_l f (m + 1).toNat = f m :: o_l f m.toNat := by
  rw [show (m + 1).toNat = m.toNat + 1 by omega]
  show f (m.toNat : Int) :: _ = _
  rw [show ((m.toNat : Nat) : Int) = m by omega]
theorem o_l_mem (f : Int → Int) {h : Int} : ∀ m : Nat, h ∈ o_l f m ↔ ∃ i : Int, (0 ≤ i ∧ i < m) ∧ f i = h
  | 0 => by
    constructor
    · intro c; cases c
    · rintro ⟨i, ⟨a, b⟩, -⟩
      omega
  | m + 1 => by
    show h ∈ f m :: o_l f m ↔ _
    rw [List.mem_cons, o_l_mem f m]
    constructor
    · rintro (c | ⟨i, a, b⟩)
      · exact ⟨m, ⟨by omega, by omega⟩, c.symm⟩
      · exact ⟨i, ⟨a.1, by omega⟩, b⟩
    · rintro ⟨i, a, b⟩
      by_cases d : i = m
      · rw [d] at b; exact Or.inl b.symm
      · exact Or.inr ⟨i, ⟨a.1, by omega⟩, b⟩
section ZU2
variable {f : Int → Int} {A : Int → Int} {k x m h : Int}
theorem o_nxf_h (t : q_nxf f A x m h) (h0 : 0 ≤ h) : o_f (o_a A) (o_l f m.toNat) x = h :: o_f (o_a A) (o_l f m.toNat) (h + 1) := by
  rcases t.2 with ⟨e, -⟩ | ⟨a, b, c⟩
  · omega
  · exact o_f_h t.1.1 a.1 a.2 b c
theorem o_nxf_n (t : q_nxf f A x m h) (h0 : h < 0) : o_f (o_a A) (o_l f m.toNat) x = [] := by
  rcases t.2 with ⟨-, n⟩ | ⟨a, -, -⟩
  · exact o_f_n t.1.1 n
  · have := t.1; omega
theorem o_pos_y (t : q_pos f A k x m) (n : q_nxf f A x m h) (h0 : 0 ≤ h) (m5 : m ≤ 5) (e : f m = h) : k ≤ 335921 ∧ q_pos f A (k + 1) 0 (m + 1) ∧ q_cur f A k (m + 1) := by
  obtain ⟨t1, t2, t3⟩ := t
  rw [o_r_h (by rw [o_l_len]; omega) (o_nxf_h n h0)] at t3
  have d := o_drop k.toNat _ _ _ t3.symm
  have l9 := o_A_len A
  have k9 := (List.getElem?_eq_some_iff.mp d.1).1
  have hc : 1 ≤ g_ha A h ∧ ¬ h ∈ o_l f m.toNat := by
    rcases n.2 with ⟨c, -⟩ | ⟨-, c, -⟩
    · omega
    · exact c
  have h6 : h < 6 := by
    rcases n.2 with ⟨c, -⟩ | ⟨c, -, -⟩
    · omega
    · exact c.2
  have ok := o_ok_cons t2 ⟨o_a_mem.mpr ⟨⟨h0, h6⟩, hc.1⟩, hc.2⟩
  have e9 : o_l f (m + 1).toNat = h :: o_l f m.toNat := by rw [o_l_s (by omega), e]
  refine ⟨by omega, ⟨⟨by omega, by omega, by omega⟩, by rw [e9]; exact ok, ?_⟩, ⟨by omega, by omega, by omega⟩, by rw [e9]; exact d.1⟩
  rw [e9, show (k + 1).toNat = k.toNat + 1 by omega, d.2]
theorem o_pos_u {y : Int} (t : q_pos f A k x (m + 1)) (n : q_nxf f A x (m + 1) h) (h0 : h < 0) (m0 : 0 ≤ m) (e : f m = y) : (0 ≤ y ∧ y < 6) ∧ q_pos f A k (y + 1) m := by
  obtain ⟨t1, t2, t3⟩ := t
  have f9 := o_nxf_n n h0
  rw [o_l_s m0, e] at t2 t3 f9
  rw [o_r_u f9] at t3
  have y9 := (o_a_mem.mp (t2.2 y (List.mem_cons_self ..))).1
  exact ⟨y9, ⟨by omega, by omega, by omega⟩, ⟨(List.nodup_cons.mp t2.1).2, fun g hg => t2.2 g (List.mem_cons_of_mem _ hg)⟩, t3⟩
theorem o_pos_n (t : q_pos f A k x m) (n : q_nxf f A x m h) (h0 : h < 0) (m0 : m = 0) : 0 ≤ k ∧ (o_A (o_a A)).drop k.toNat = [] := by
  have f9 := o_nxf_n n h0
  have t3 := t.2.2
  rw [m0] at t3 f9
  exact ⟨t.1.1, t3.symm.trans (o_r_n f9)⟩
end ZU2
end
