/-! ===== an order, turned ===== -/
theorem o_u_snoc (f : Int → Int) : ∀ (n : Nat) (i : Int), o_u f i (n + 1) = o_u f i n ++ [f (i + n)]
  | 0, i => by
    show [f i] = [] ++ [f (i + ((0 : Nat) : Int))]
    rw [show i + ((0 : Nat) : Int) = i by omega, List.nil_append]
  | n + 1, i => by
    have ih := o_u_snoc f n (i + 1)
    show f i :: o_u f (i + 1) (n + 1) = (f i :: o_u f (i + 1) n) ++ [f (i + ((n + 1 : Nat) : Int))]
    rw [ih, List.cons_append, show i + 1 + (n : Int) = i + ((n + 1 : Nat) : Int) by omega]
theorem o_l_rev (f : Int → Int) : ∀ m : Nat, (o_l f m).reverse = o_u f 0 m
  | 0 => rfl
  | m + 1 => by
    rw [o_u_snoc, ← o_l_rev f m]
    show (f m :: o_l f m).reverse = _
    rw [List.reverse_cons, show (0 : Int) + (m : Int) = m by omega]
theorem o_u_app (f : Int → Int) : ∀ (a b : Nat) (i : Int), o_u f i (a + b) = o_u f i a ++ o_u f (i + a) b
  | 0, b, i => by
    rw [Nat.zero_add, show i + ((0 : Nat) : Int) = i by omega]
    rfl
  | a + 1, b, i => by
    have ih := o_u_app f a b (i + 1)
    rw [show a + 1 + b = (a + b) + 1 by omega]
    show f i :: o_u f (i + 1) (a + b) = (f i :: o_u f (i + 1) a) ++ o_u f (i + ((a + 1 : Nat) : Int)) b
    rw [ih, List.cons_append, show i + 1 + (a : Int) = i + ((a + 1 : Nat) : Int) by omega]
theorem o_u_s {f : Int → Int} {i m : Int} (h : i < m) : o_u f i (m - i).toNat = f i :: o_u f (i + 1) (m - 1 - i).toNat := by
  rw [show (m - i).toNat = (m - 1 - i).toNat + 1 by omega]
  rfl
section ZY1
variable {f : Int → Int} {A : Int → Int} {k m i H : Int}
theorem o_cur (t : q_cur f A k m) : o_ok (o_a A) (o_l f m.toNat) ∧ o_l f m.toNat ≠ [] := o_A_mem.mp (List.mem_of_getElem? t.2)
theorem o_cur_ab (t : q_cur f A k m) (i0 : 0 ≤ i) (im : i < m) : o_ab A (f i) := o_a_mem.mp ((o_cur t).1.2 _ ((o_l_mem f m.toNat).mpr ⟨i, ⟨i0, by omega⟩, rfl⟩))
theorem o_ok_hl {r : List Int} (t : o_ok (o_a A) r) : o_hl r := ⟨t.1, fun h hh => (o_a_mem.mp (t.2 h hh)).1⟩
theorem o_cur_u (t : q_cur f A k m) : o_hl (o_u f 0 m.toNat) := by
  have h := o_cur t
  rw [← o_l_rev]
  refine ⟨?_, fun g hg => (o_ok_hl h.1).2 g (List.mem_reverse.mp hg)⟩
  show (o_l f m.toNat).reverse.Pairwise (· ≠ ·)
  rw [List.pairwise_reverse]
  exact List.Pairwise.imp (fun {a b} h e => h e.symm) h.1.1
theorem o_cur_s (t : q_cur f A k m) (i0 : 0 ≤ i) (im : i ≤ m) : o_hl (o_u f i (m - i).toNat) := by
  have h := o_cur_u t
  have e := o_u_app f i.toNat (m - i).toNat 0
  rw [show i.toNat + (m - i).toNat = m.toNat by omega, show (0 : Int) + (i.toNat : Int) = i by omega] at e
  rw [e] at h
  exact ⟨(List.nodup_append.mp h.1).2.1, fun g hg => h.2 g (List.mem_append.mpr (Or.inr hg))⟩
theorem o_cur_ne (t : q_cur f A k m) (i0 : 1 ≤ i) (im : i < m) : f (i - 1) ≠ f i := by
  have h := o_cur_s (i := i - 1) t (by omega) (by omega)
  rw [o_u_s (by omega), show i - 1 + 1 = i by omega, show m - 1 - (i - 1) = m - i by omega, o_u_s im] at h
  intro e
  exact (List.nodup_cons.mp h.1).1 (by rw [e]; exact List.mem_cons_self ..)
end ZY1
/-! ===== what an order bears, place by place ===== -/
section ZY2
variable {f : Int → Int} {v : zVw} {K : Int → Int → Int} {W : Int} {A : Int → Int} {k m i e b H : Int}
theorem o_spl0 (m1 : 1 ≤ m) (m6 : m ≤ 6) : q_spl f v K A m (m - 1) 999 0 := by
  refine ⟨⟨by omega, by omega, m6⟩, ?_, ?_⟩
  · rw [show (m - 1 - (m - 1)).toNat = 0 by omega]
    rfl
  · rw [if_pos (by omega), show (m - 1 - (m - 1)).toNat = 0 by omega]
    rfl
theorem o_sp {e2 h s g : Int} (w : g_wf H A) (t : q_cur f A k m) (T : q_spl f v K A m i e b) (i0 : 0 ≤ i) (hi : f i = h) (hs : s = o_S v A h) (hg : g = g_ha A h) (he : e2 = if s - b < e then s - b else e) : b + g ≤ 594 ∧ q_sp1 f v K A m i e2 (b + g) := by
  obtain ⟨t1, t2, t3⟩ := T
  rw [if_pos i0] at t3
  have u := o_u_s (f := f) t1.2.1
  have k9 := o_cur_s t i0 (by omega)
  rw [u] at k9
  have c := o_s_c (A := A) k9
  rw [← t2, hi, ← hg] at c
  have z := g_ss_b w (x := o_z (h :: o_u f (i + 1) (m - 1 - i).toNat)) 6 (Nat.le_refl _)
  have z9 : o_s (o_c A) (h :: o_u f (i + 1) (m - 1 - i).toNat) = g_ss A (o_z (h :: o_u f (i + 1) (m - 1 - i).toNat)) 6 := rfl
  rw [hi] at u
  rw [hi] at t3
  refine ⟨by omega, ⟨i0, t1.2.1, t1.2.2⟩, ?_, ?_⟩
  · rw [u, c]
  · rw [u]
    show e2 = o_m (o_j K h (o_h (o_c A) (o_S v A) K (o_u f (i + 1) (m - 1 - i).toNat)) (o_s (o_c A) (o_u f (i + 1) (m - 1 - i).toNat)) (o_u f (i + 1) (m - 1 - i).toNat)) (o_S v A h - o_s (o_c A) (o_u f (i + 1) (m - 1 - i).toNat))
    rw [← t3, ← t2, ← hs, he]
    rfl
theorem o_spE (T : q_sp1 f v K A m 0 e b) : q_spl f v K A m (-1) e b := by
  obtain ⟨t1, t2, t3⟩ := T
  refine ⟨⟨by omega, by omega, t1.2.2⟩, ?_, ?_⟩
  · rw [show (-1 : Int) + 1 = 0 by omega, show m - 1 - (-1) = m - 0 by omega]
    exact t2
  · rw [if_neg (by omega), show m.toNat = (m - 0).toNat by omega]
    exact t3
theorem o_spJ {e2 u : Int} (T : q_sp1 f v K A m i e b) (i1 : 1 ≤ i) (hu : u = K (f (i - 1)) (f i)) (he : e2 = if u - b < e then u - b else e) : q_spl f v K A m (i - 1) e2 b := by
  obtain ⟨t1, t2, t3⟩ := T
  refine ⟨⟨by omega, by omega, t1.2.2⟩, ?_, ?_⟩
  · rw [show i - 1 + 1 = i by omega, show m - 1 - (i - 1) = m - i by omega]
    exact t2
  · rw [if_pos (by omega), show i - 1 + 1 = i by omega, show m - 1 - (i - 1) = m - i by omega, ← t2, ← t3, o_u_s t1.2.1]
    show e2 = o_m e (K (f (i - 1)) (f i) - b)
    rw [← hu, he]
    rfl
theorem o_orvQ (T : q_spl f v K A m (-1) e b) : (o_Q v K A W 0 (o_l f m.toNat) ↔ W ≤ b ∧ 0 ≤ e) ∧ o_h (o_c A) (o_S v A) K (o_l f m.toNat).reverse = e := by
  obtain ⟨t1, t2, t3⟩ := T
  rw [if_neg (by omega)] at t3
  rw [show (-1 : Int) + 1 = 0 by omega, show m - 1 - (-1) = m by omega] at t2
  refine ⟨?_, by rw [o_l_rev]; exact t3.symm⟩
  show o_P _ _ _ W 0 (o_l f m.toNat).reverse ↔ _
  rw [o_l_rev]
  show W ≤ o_s (o_c A) (o_u f 0 m.toNat) ∧ 0 ≤ o_h (o_c A) (o_S v A) K (o_u f 0 m.toNat) ↔ _
  rw [← t2, ← t3]
theorem o_orvN (T : q_spl f v K A m (-1) e b) (t : q_cur f A k m) (h : b < W ∨ e < 0) : o_v v K A W k (-1) := by
  refine ⟨o_l f m.toNat, t.2, ?_⟩
  rw [if_neg (fun c => by have := (o_orvQ T).1.mp c; omega)]
theorem o_orvY (T : q_spl f v K A m (-1) e b) (t : q_cur f A k m) (h : W ≤ b) (h2 : 0 ≤ e) : o_v v K A W k e := by
  refine ⟨o_l f m.toNat, t.2, ?_⟩
  rw [if_pos ((o_orvQ T).1.mpr ⟨h, h2⟩)]
  exact (o_orvQ (W := W) T).2.symm
end ZY2
/-! ===== order by order ===== -/
theorem o_take {T : Type} : ∀ (k : Nat) (l : List T) (a : T), l[k]? = some a → l.take (k + 1) = l.take k ++ [a]
  | 0, [], _, e => by simp at e
  | 0, b :: l, a, e => by
    have : b = a := by simpa using e
    subst this
    rfl
  | k + 1, [], _, e => by simp at e
  | k + 1, b :: l, a, e => by
    have ih := o_take k l a (by simpa using e)
    rw [List.take_succ_cons, List.take_succ_cons, ih]
    rfl
theorem o_don {T : Type} {X : List T} {k : Nat} (h : X.drop k = []) : X.take k = X := by
  have := List.take_append_drop k X
  rw [h, List.append_nil] at this
  exact this
section ZY3
variable {v : zVw} {K : Int → Int → Int} {W w : Int} {A : Int → Int} {k u n p i : Int} {X : List (List Int)} {r : List Int}
theorem o_vP (T : o_v v K A W k u) (w0 : 0 ≤ w) : ∃ r : List Int, (o_A (o_a A))[k.toNat]? = some r ∧ (o_Q v K A W w r ↔ w ≤ u) ∧ (0 ≤ u → o_h (o_c A) (o_S v A) K r.reverse = u) := by
  obtain ⟨r, e, eu⟩ := T
  refine ⟨r, e, ?_⟩
  by_cases d : o_Q v K A W 0 r
  · rw [if_pos d] at eu
    refine ⟨⟨fun c => by rw [eu]; exact c.2, fun c => ⟨d.1, by rw [← eu]; exact c⟩⟩, fun _ => eu.symm⟩
  · rw [if_neg d] at eu
    refine ⟨⟨fun c => absurd (show o_Q v K A W 0 r from ⟨c.1, Int.le_trans w0 c.2⟩) d, fun c => by omega⟩, fun c => by omega⟩
theorem o_moc0 : q_moc v K A w W 0 0 := ⟨⟨by omega, by omega, by omega⟩, rfl⟩
theorem o_mocS (T : o_v v K A W k u) (M : q_moc v K A w W k n) (w0 : 0 ≤ w) : (w ≤ u → q_moc v K A w W (k + 1) (n + 1)) ∧ (u < w → q_moc v K A w W (k + 1) n) := by
  obtain ⟨r, e, h1, h2⟩ := o_vP T w0
  obtain ⟨m1, m2⟩ := M
  have e9 : (k + 1).toNat = k.toNat + 1 := by omega
  have t := o_take k.toNat _ r e
  refine ⟨fun c => ⟨by omega, ?_⟩, fun c => ⟨by omega, ?_⟩⟩
  · rw [e9, t, o_n_app, ← m2]
    show n + 1 = n + (0 + @ite Int (o_Q v K A W w r) (Classical.propDecidable _) 1 0)
    rw [if_pos (h1.mpr c)]
    rfl
  · rw [e9, t, o_n_app, ← m2]
    show n = n + (0 + @ite Int (o_Q v K A W w r) (Classical.propDecidable _) 1 0)
    rw [if_neg (fun d => by have := h1.mp d; omega)]
    omega
theorem o_mpk0 : q_mpk v K A W 0 (-2) := ⟨by omega, (fun r h => absurd (show r ∈ ([] : List (List Int)) from h) List.not_mem_nil), Or.inl rfl⟩
theorem o_x_app (h : ¬ o_Q v K A W 0 r ∨ o_h (o_c A) (o_S v A) K r.reverse ≤ p) (M : o_x v K A W p X) : o_x v K A W p (X ++ [r]) := by
  refine ⟨fun s s0 s1 => ?_, ?_⟩
  · rcases List.mem_append.mp s0 with c | c
    · exact M.1 s c s1
    · rw [List.mem_singleton.mp c] at s1 ⊢
      rcases h with d | d
      · exact absurd s1 d
      · exact d
  · rcases M.2 with c | ⟨c, s, s0, s1⟩
    · exact Or.inl c
    · exact Or.inr ⟨c, s, List.mem_append.mpr (Or.inl s0), s1⟩
theorem o_x_new (h : o_Q v K A W 0 r) (e : o_h (o_c A) (o_S v A) K r.reverse = u) (u0 : 0 ≤ u) (pu : p ≤ u) (M : o_x v K A W p X) : o_x v K A W u (X ++ [r]) := by
  refine ⟨fun s s0 s1 => ?_, Or.inr ⟨u0, r, List.mem_append.mpr (Or.inr (List.mem_singleton.mpr rfl)), h, e⟩⟩
  rcases List.mem_append.mp s0 with c | c
  · exact Int.le_trans (M.1 s c s1) pu
  · have e5 : s = r := List.mem_singleton.mp c
    subst e5
    omega
theorem o_mpkS (T : o_v v K A W k u) (M : q_mpk v K A W k p) : (0 ≤ u → p < u → q_mpk v K A W (k + 1) u) ∧ (u < 0 ∨ u ≤ p → q_mpk v K A W (k + 1) p) := by
  obtain ⟨r, e, h1, h2⟩ := o_vP (w := 0) T (Int.le_refl 0)
  obtain ⟨m1, m2⟩ := M
  have e9 : (k + 1).toNat = k.toNat + 1 := by omega
  have t := o_take k.toNat _ r e
  refine ⟨fun c d => ⟨by omega, ?_⟩, fun c => ⟨by omega, ?_⟩⟩
  · rw [e9, t]
    exact o_x_new (h1.mpr c) (h2 c) c (by omega) m2
  · rw [e9, t]
    refine o_x_app ?_ m2
    by_cases d : 0 ≤ u
    · refine Or.inr ?_
      rw [h2 d]
      omega
    · exact Or.inl (fun g => d (h1.mp g))
theorem o_t_b : ∀ l : List Int, o_hl l → (0 ≤ o_t l ∧ o_t l < 64) ∧ ∀ h : Int, 0 ≤ h → h < 6 → (r_bit (o_t l) h ↔ h ∈ l)
  | [], _ => ⟨⟨Int.le_refl _, (by decide : (0 : Int) < 64)⟩, fun h h0 h6 => (o_z_b [] ⟨List.nodup_nil, fun h hh => by cases hh⟩).2 h h0 h6⟩
  | t :: l, k => by
    obtain ⟨k1, k2, t0, t6⟩ := o_hl_tl k
    obtain ⟨b1, b2⟩ := o_t_b l k1
    have a := r_or (x := o_t l) (i := t) b1.1 b1.2 t0 t6 rfl rfl
    refine ⟨a.1, fun h h0 h6 => (a.2 h h0 h6).trans ?_⟩
    rw [b2 h h0 h6, List.mem_cons]
    exact or_comm
theorem o_mne0 : q_mne v K A w W 0 (-1) := ⟨by omega, Or.inl ⟨rfl, fun r h => absurd (show r ∈ ([] : List (List Int)) from h) List.not_mem_nil⟩⟩
theorem o_mneN (T : o_v v K A W k u) (M : q_mne v K A w W k i) (w0 : 0 ≤ w) (h : u < w) : q_mne v K A w W (k + 1) i := by
  obtain ⟨r, e, h1, h2⟩ := o_vP T w0
  obtain ⟨m1, m2⟩ := M
  have e9 : (k + 1).toNat = k.toNat + 1 := by omega
  have t := o_take k.toNat _ r e
  have nq : ¬ o_Q v K A W w r := fun c => by have := h1.mp c; omega
  refine ⟨by omega, ?_⟩
  rw [e9, t]
  rcases m2 with ⟨c1, c2⟩ | ⟨c1, ⟨s, s0, s1⟩, c3⟩
  · refine Or.inl ⟨c1, fun s s0 => ?_⟩
    rcases List.mem_append.mp s0 with d | d
    · exact c2 s d
    · rw [List.mem_singleton.mp d]; exact nq
  · refine Or.inr ⟨c1, ⟨s, List.mem_append.mpr (Or.inl s0), s1⟩, fun g g0 g6 => (c3 g g0 g6).trans ⟨fun x s s0 s1 => ?_, fun x s s0 s1 => x s (List.mem_append.mpr (Or.inl s0)) s1⟩⟩
    rcases List.mem_append.mp s0 with d | d
    · exact x s d s1
    · rw [List.mem_singleton.mp d] at s1; exact absurd s1 nq
theorem o_mneA {f : Int → Int} {m s : Int} (es : s = o_t (o_l f m.toNat)) (C : q_cur f A k m) (T : o_v v K A W k u) (M : q_mne v K A w W k i) (w0 : 0 ≤ w) (h : w ≤ u) (i0 : i < 0) : q_mne v K A w W (k + 1) s := by
  obtain ⟨r, e, h1, h2⟩ := o_vP T w0
  obtain ⟨m1, m2⟩ := M
  have e9 : (k + 1).toNat = k.toNat + 1 := by omega
  have er : r = o_l f m.toNat := Option.some.inj (e.symm.trans C.2)
  have t := o_take k.toNat _ r e
  have b := o_t_b _ (o_ok_hl (o_cur C).1)
  rw [← es, ← er] at b
  refine ⟨by omega, ?_⟩
  rw [e9, t]
  rcases m2 with ⟨c1, c2⟩ | ⟨c1, -, -⟩
  · refine Or.inr ⟨b.1, ⟨r, List.mem_append.mpr (Or.inr (List.mem_singleton.mpr rfl)), h1.mpr h⟩, fun g g0 g6 => (b.2 g g0 g6).trans ⟨fun x s s0 s1 => ?_, fun x => x r (List.mem_append.mpr (Or.inr (List.mem_singleton.mpr rfl))) (h1.mpr h)⟩⟩
    rcases List.mem_append.mp s0 with d | d
    · exact absurd s1 (c2 s d)
    · rw [List.mem_singleton.mp d]; exact x
  · omega
theorem o_mneB {f : Int → Int} {m s z : Int} (es : s = o_t (o_l f m.toNat)) (C : q_cur f A k m) (T : o_v v K A W k u) (M : q_mne v K A w W k i) (w0 : 0 ≤ w) (h : w ≤ u) (i0 : 0 ≤ i) (ez : g_op 101 i s = z) : (0 ≤ z ∧ z < 64) ∧ q_mne v K A w W (k + 1) z := by
  obtain ⟨r, e, h1, h2⟩ := o_vP T w0
  obtain ⟨m1, m2⟩ := M
  have e9 : (k + 1).toNat = k.toNat + 1 := by omega
  have er : r = o_l f m.toNat := Option.some.inj (e.symm.trans C.2)
  have t := o_take k.toNat _ r e
  have b := o_t_b _ (o_ok_hl (o_cur C).1)
  rw [← es, ← er] at b
  rcases m2 with ⟨c1, -⟩ | ⟨c1, ⟨s2, s0, s1⟩, c3⟩
  · omega
  · have a := r_and c1.1 c1.2 b.1.1 b.1.2 ez
    refine ⟨a.1, by omega, ?_⟩
    rw [e9, t]
    refine Or.inr ⟨a.1, ⟨s2, List.mem_append.mpr (Or.inl s0), s1⟩, fun g g0 g6 => (a.2 g g0 g6).trans ⟨fun x s s0 s1 => ?_, fun x => ⟨(c3 g g0 g6).mpr fun s s0 s1 => x s (List.mem_append.mpr (Or.inl s0)) s1, (b.2 g g0 g6).mpr (x r (List.mem_append.mpr (Or.inr (List.mem_singleton.mpr rfl))) (h1.mpr h))⟩⟩⟩
    rcases List.mem_append.mp s0 with d | d
    · exact (c3 g g0 g6).mp x.1 s d s1
    · rw [List.mem_singleton.mp d]; exact (b.2 g g0 g6).mp x.2
theorem o_x_u {y : Int} (a : o_x v K A W u X) (b : o_x v K A W y X) : u = y := by
  rcases a.2 with a1 | ⟨a1, s, s0, s1, s2⟩
  · rcases b.2 with b1 | ⟨b1, r, r0, r1, r2⟩
    · omega
    · have := a.1 r r0 r1
      omega
  · have h1 := b.1 s s0 s1
    rcases b.2 with b1 | ⟨b1, r, r0, r1, r2⟩
    · omega
    · have := a.1 r r0 r1
      omega
theorem o_i_u {y : Int} (a : o_i v K A w W (-2) u X) (b : o_i v K A w W (-2) y X) : u = y := by
  rcases a with ⟨a1, a2⟩ | ⟨a1, ⟨s, s0, s1⟩, a3⟩
  · rcases b with ⟨b1, -⟩ | ⟨-, ⟨s, s0, s1⟩, -⟩
    · omega
    · exact absurd s1 (a2 s s0)
  · rcases b with ⟨-, b2⟩ | ⟨b1, -, b3⟩
    · exact absurd s1 (b2 s s0)
    · exact o_ext a1.1 a1.2 b1.1 b1.2 fun h h0 h6 => (a3 h h0 h6).trans (b3 h h0 h6).symm
end ZY3
/-! ===== what is asked ===== -/
section ZY4
variable {v : zVw} {H q b s o a1 a2 a3 x1 x2 u : Int} {A : Int → Int}
theorem g_jy0 {i k : Int} (i0 : 0 ≤ i) (k0 : 0 ≤ k) : g_jy v q A 0 i k = g_jo v q A i k := by
  have e : 0 ≤ g_pc i k := by
    unfold g_pc
    split <;> omega
  unfold g_jy
  rw [if_neg (by omega)]
theorem g_jo_b {x y : Int} : 0 ≤ g_jo v q A x y ∧ g_jo v q A x y ≤ 999 := g_cl_b 999 _ (by omega)
theorem g_j9_b {x y : Int} : 0 ≤ g_j9 v q A x y ∧ g_j9 v q A x y ≤ 999 := g_cl_b 999 _ (by omega)
theorem g_jy_b {x y z : Int} : 0 ≤ g_jy v q A z x y ∧ g_jy v q A z x y ≤ 999 := by
  unfold g_jy
  split
  · exact g_j9_b
  · exact g_jo_b
theorem g_k58 (T : q_qry v 58 q b s o a1 a2 a3 x1 x2 u) : u = o_n (o_Q v (g_jy v q (g_F v q b s o a1 a2 a3 (g_nw v)) 0) (g_F v q b s o a1 a2 a3 (g_nw v)) x2 x1) (o_A (o_a (g_F v q b s o a1 a2 a3 (g_nw v)))) := T.2
theorem g_Q58 (h : u = o_n (o_Q v (g_jy v q A 0) A x2 x1) (o_A (o_a A))) : q_Q v q b s A 58 x1 x2 u := h
theorem g_k59 (T : q_qry v 59 q b s o a1 a2 a3 x1 x2 u) : o_x v (g_jy v q (g_F v q b s o a1 a2 a3 (g_nw v)) x2) (g_F v q b s o a1 a2 a3 (g_nw v)) x1 u (o_A (o_a (g_F v q b s o a1 a2 a3 (g_nw v)))) := T.2
theorem g_Q59 (h : o_x v (g_jy v q A x2) A x1 u (o_A (o_a A))) : q_Q v q b s A 59 x1 x2 u := h
theorem g_k60 (T : q_qry v 60 q b s o a1 a2 a3 x1 x2 u) : o_i v (g_jy v q (g_F v q b s o a1 a2 a3 (g_nw v)) 0) (g_F v q b s o a1 a2 a3 (g_nw v)) x1 x2 (-2) u (o_A (o_a (g_F v q b s o a1 a2 a3 (g_nw v)))) := T.2
theorem g_Q60 (h : o_i v (g_jy v q A 0) A x1 x2 (-2) u (o_A (o_a A))) : q_Q v q b s A 60 x1 x2 u := h
end ZY4
