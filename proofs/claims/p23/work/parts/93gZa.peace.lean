/-! ===== pairs that like one another most ===== -/
section ZP1
variable {v : zVw} {q c d t u w W : Int} {A : Int → Int} {K K' : Int → Int → Int}
theorem o_E_cg (h : ∀ t u : Int, o_ab A t → o_ab A u → t ≠ u → K t u = K' t u) (T : o_E v K A w W) : o_E v K' A w W := by
  obtain ⟨r, r0, r1⟩ := T
  have o := o_A_mem.mp r0
  have ab : ∀ g ∈ r.reverse, o_ab A g := fun g hg => o_a_mem.mp (o.1.2 g (List.mem_reverse.mp hg))
  have hl : o_hl r.reverse := by
    refine ⟨?_, fun g hg => (ab g hg).1⟩
    show r.reverse.Pairwise (· ≠ ·)
    rw [List.pairwise_reverse]
    exact List.Pairwise.imp (fun {a b} h e => h e.symm) o.1.1
  have e := o_h_cg (c := o_c A) (c' := o_c A) (st := o_S v A) (st' := o_S v A) (J := K) (J' := K') (P := o_ab A) (fun _ _ _ _ => rfl) (fun _ _ => rfl) h r.reverse hl ab
  exact ⟨r, r0, r1.1, by rw [← e.1]; exact r1.2⟩
theorem g_pc_0 (t0 : 0 ≤ t) (u0 : 0 ≤ u) : 0 ≤ g_pc t u := by
  unfold g_pc
  split <;> omega
theorem g_jyA (c0 : 0 ≤ c) (c1 : c ≤ 59) (h : c = g_pc t u) : g_jy v q A (c + 1) t u = g_j9 v q A t u := by
  unfold g_jy
  rw [if_pos (by omega)]
theorem g_jyN (c0 : 0 ≤ c) (c1 : c ≤ 59) (t0 : 0 ≤ t) (u0 : 0 ≤ u) (h : c ≠ g_pc t u) : g_jy v q A (c + 1) t u = g_jo v q A t u := by
  have p := g_pc_0 t0 u0
  unfold g_jy
  rw [if_neg (by omega)]
theorem g_jyB (c0 : 0 ≤ c) (c1 : c ≤ 59) (h : c = g_pc t u ∨ d = g_pc t u) : g_jy v q A (c + 100 * d + 101) t u = g_j9 v q A t u := by
  unfold g_jy
  rw [if_pos (by omega)]
theorem g_jyM (c0 : 0 ≤ c) (c1 : c ≤ 59) (h : c ≠ g_pc t u) (h2 : d ≠ g_pc t u) : g_jy v q A (c + 100 * d + 101) t u = g_jo v q A t u := by
  unfold g_jy
  rw [if_neg (by omega)]
theorem o_pr_pc (a : o_ab A t) (b : o_ab A u) (ne : t ≠ u) : o_pr A (g_pc t u) := by
  unfold g_pc
  by_cases h : t < u
  · rw [if_pos h]
    exact ⟨t, u, a, b, h, rfl⟩
  · rw [if_neg h]
    exact ⟨u, t, b, a, by omega, rfl⟩
theorem o_pr_b (p : o_pr A c) : 0 ≤ c ∧ c ≤ 45 := by
  obtain ⟨t, z, a, b, h, e⟩ := p
  have := a.1
  have := b.1
  omega
theorem o_E_n1 (c0 : 0 ≤ c) (c1 : c ≤ 59) (n : ¬ o_pr A c) (T : o_E v (g_jy v q A (c + 1)) A w W) : o_E v (g_jy v q A 0) A w W := o_E_cg (fun t u a b ne => by
  have h : c ≠ g_pc t u := fun e => n (by rw [e]; exact o_pr_pc a b ne)
  rw [g_jyN c0 c1 a.1.1 b.1.1 h, g_jy0 a.1.1 b.1.1]) T
theorem o_E_n2a (c0 : 0 ≤ c) (c1 : c ≤ 59) (d0 : 0 ≤ d) (d1 : d ≤ 59) (n : ¬ o_pr A c) (T : o_E v (g_jy v q A (c + 100 * d + 101)) A w W) : o_E v (g_jy v q A (d + 1)) A w W := o_E_cg (fun t u a b ne => by
  have h : c ≠ g_pc t u := fun e => n (by rw [e]; exact o_pr_pc a b ne)
  by_cases g : d = g_pc t u
  · rw [g_jyB c0 c1 (Or.inr g), g_jyA d0 d1 g]
  · rw [g_jyM c0 c1 h g, g_jyN d0 d1 a.1.1 b.1.1 g]) T
theorem o_E_n2b (c0 : 0 ≤ c) (c1 : c ≤ 59) (n : ¬ o_pr A d) (T : o_E v (g_jy v q A (c + 100 * d + 101)) A w W) : o_E v (g_jy v q A (c + 1)) A w W := o_E_cg (fun t u a b ne => by
  have h : d ≠ g_pc t u := fun e => n (by rw [e]; exact o_pr_pc a b ne)
  by_cases g : c = g_pc t u
  · rw [g_jyB c0 c1 (Or.inl g), g_jyA c0 c1 g]
  · rw [g_jyM c0 c1 g h, g_jyN c0 c1 a.1.1 b.1.1 g]) T
end ZP1
/-! ===== one pair behind another ===== -/
section ZP2
variable {v : zVw} {q w W k l y H x u a lo hi lo2 hi2 : Int} {A : Int → Int} {J : Int → Int → Int → Int}
theorem o_p1_0 : o_p1 v A J w W 0 := fun c p h => by
  have := o_pr_b p
  omega
theorem o_npi (w9 : g_wf H A) (n : ∀ x y : Int, 0 ≤ x → x < y → y < H → y < 6 → k ≠ 10 * x + y) : ¬ o_pr A k := by
  rintro ⟨t, z, a, b, h, e⟩
  exact n t z a.1.1 h (o_ab_H w9 b) b.1.2 e
theorem o_p1_S (T : o_p1 v A J w W k) (h : o_pr A k → ¬ o_E v (J (k + 1)) A w W) : o_p1 v A J w W (k + 1) := fun c p hc => by
  by_cases d : c = k
  · rw [d] at p ⊢
    exact h p
  · exact T c p (by omega)
theorem o_p1_n (T : o_p1 v A J w W 60) : o_n1 v A J w W := fun c p => T c p (by have := o_pr_b p; omega)
theorem o_p1_60 (T : o_p1 v A J w W k) (h : 60 ≤ k) : o_p1 v A J w W 60 := fun c p hc => T c p (by omega)
theorem o_f1_m (c0 : 0 ≤ k) (c1 : k ≤ 59) (T : o_p1 v A (g_jy v q A) w W k) (E : o_E v (g_jy v q A (k + 1)) A w W) (N : ¬ o_E v (g_jy v q A 0) A w W) : o_f1 v A (g_jy v q A) w W k := by
  refine ⟨?_, E, fun c p hc => T c p hc⟩
  by_cases d : o_pr A k
  · exact d
  · exact absurd (o_E_n1 c0 c1 d E) N
theorem o_p2_0 : o_p2 v A J w W 0 0 := fun c d p1 p2 h h2 => by
  have := o_pr_b p1
  have := o_pr_b p2
  omega
theorem o_p2_e (T : o_p2 v A J w W k 0) (h : l = k + 1) : o_p2 v A J w W k l := fun c d p1 p2 h1 h2 => T c d p1 p2 h1 (by omega)
theorem o_p2_S (T : o_p2 v A J w W k l) (h : o_pr A k → o_pr A l → ¬ o_E v (J (k + 100 * l + 101)) A w W) : o_p2 v A J w W k (l + 1) := fun c d p1 p2 h1 h2 => by
  by_cases e : c = k ∧ d = l
  · rw [e.1] at p1 ⊢
    rw [e.2] at p2 ⊢
    exact h p1 p2
  · exact T c d p1 p2 h1 (by omega)
theorem o_p2_o (T : o_p2 v A J w W k l) (h : 60 ≤ l ∨ ¬ o_pr A k) : o_p2 v A J w W (k + 1) 0 := fun c d p1 p2 h1 h2 => by
  have b2 := o_pr_b p2
  by_cases e : c = k
  · rcases h with g | g
    · exact T c d p1 p2 h1 (by omega)
    · rw [e] at p1
      exact absurd p1 g
  · exact T c d p1 p2 h1 (by omega)
theorem o_p2_n (T : o_p2 v A J w W k 0) (h : 60 ≤ k) : o_n2 v A J w W := fun c d p1 p2 h1 => T c d p1 p2 h1 (by have := o_pr_b p1; omega)
theorem o_f2_m (c0 : 0 ≤ k) (c1 : k ≤ 59) (d0 : 0 ≤ l) (d1 : l ≤ 59) (kl : k < l) (T : o_p2 v A (g_jy v q A) w W k l) (T1 : o_p1 v A (g_jy v q A) w W 60) (E : o_E v (g_jy v q A (k + 100 * l + 101)) A w W) (N : ¬ o_E v (g_jy v q A 0) A w W) : o_n1 v A (g_jy v q A) w W ∧ o_f2 v A (g_jy v q A) w W k l := by
  have n1 := o_p1_n T1
  have pk : o_pr A k := by
    by_cases d : o_pr A k
    · exact d
    · have e := o_E_n2a c0 c1 d0 d1 d E
      by_cases g : o_pr A l
      · exact absurd e (n1 l g)
      · exact absurd (o_E_n1 d0 d1 g e) N
  have pl : o_pr A l := by
    by_cases g : o_pr A l
    · exact g
    · exact absurd (o_E_n2b c0 c1 g E) (n1 k pk)
  exact ⟨n1, ⟨pk, pl, kl⟩, E, fun c d p1 p2 h1 h2 => T c d p1 p2 h1 h2⟩
/-! of the class: by 6 -/
theorem o_pak (e6 : a = g_ab A 6) (T : q_pak a k lo hi) : (o_ab A lo ∧ o_ab A hi ∧ lo < hi ∧ k = 6 * lo + hi) ∧ 0 ≤ lo ∧ hi < 6 := by
  obtain ⟨⟨⟨t1, t2, t3⟩, -⟩, t4, t5, t6⟩ := T
  exact ⟨⟨(o_ab_bit e6 t1 (by omega)).mp t5, (o_ab_bit e6 (by omega) t3).mp t6, t2, t4⟩, t1, t3⟩
theorem o_npk (e6 : a = g_ab A 6) (T : q_npk a k) {t z : Int} (p1 : o_ab A t) (p2 : o_ab A z) (h : t < z) : k ≠ 6 * t + z := T t z p1.1.1 h p2.1.2 ((o_ab_bit e6 p1.1.1 p1.1.2).mpr p1) ((o_ab_bit e6 p2.1.1 p2.1.2).mpr p2)
theorem o_k1_0 : o_k1 v A J w W 0 := fun t z p1 p2 h h2 => by
  have := p1.1
  have := p2.1
  omega
theorem o_k1_S (T : o_k1 v A J w W k) (h : ∀ t z : Int, o_ab A t → o_ab A z → t < z → k = 6 * t + z → ¬ o_E v (J (10 * t + z + 1)) A w W) : o_k1 v A J w W (k + 1) := fun t z p1 p2 g g2 => by
  by_cases d : 6 * t + z = k
  · exact h t z p1 p2 g d.symm
  · exact T t z p1 p2 g (by omega)
theorem o_k1_36 (T : o_k1 v A J w W k) (h : 36 ≤ k) : o_k1 v A J w W 36 := fun t z p1 p2 g g2 => T t z p1 p2 g (by omega)
theorem o_k1_n (T : o_k1 v A J w W 36) : o_n1 v A J w W := fun c p => by
  obtain ⟨t, z, a, b, h, e⟩ := p
  rw [e]
  exact T t z a b h (by have := a.1; have := b.1; omega)
theorem o_f1_k (e6 : a = g_ab A 6) (P : q_pak a k lo hi) (T : o_k1 v A J w W k) (ey : y = 10 * lo + hi + 1) (E : o_E v (J y) A w W) : o_f1 v A J w W (10 * lo + hi) := by
  obtain ⟨⟨p1, p2, p3, p4⟩, p5, p6⟩ := o_pak e6 P
  rw [ey] at E
  refine ⟨⟨lo, hi, p1, p2, p3, rfl⟩, E, fun c p hc => ?_⟩
  obtain ⟨t, z, a1, b1, h, e⟩ := p
  rw [e]
  exact T t z a1 b1 h (by have := a1.1; have := b1.1; omega)
theorem o_k2_0 : o_k2 v A J w W 0 0 := fun t z x y p1 p2 h p3 p4 h2 h3 h4 => by
  have := p1.1
  have := p2.1
  have := p3.1
  have := p4.1
  omega
theorem o_k2_e (T : o_k2 v A J w W k 0) : o_k2 v A J w W k (k + 1) := fun t z x y p1 p2 h p3 p4 h2 h3 h4 => T t z x y p1 p2 h p3 p4 h2 h3 (by omega)
theorem o_k2_S (T : o_k2 v A J w W k l) (g : ∀ t z x y : Int, o_ab A t → o_ab A z → t < z → o_ab A x → o_ab A y → x < y → k = 6 * t + z → l = 6 * x + y → ¬ o_E v (J (10 * t + z + 1000 * x + 100 * y + 101)) A w W) : o_k2 v A J w W k (l + 1) := fun t z x y p1 p2 h p3 p4 h2 h3 h4 => by
  by_cases d : 6 * t + z = k ∧ 6 * x + y = l
  · exact g t z x y p1 p2 h p3 p4 h2 d.1.symm d.2.symm
  · exact T t z x y p1 p2 h p3 p4 h2 h3 (by omega)
theorem o_k2_o (T : o_k2 v A J w W k l) (g : 36 ≤ l) : o_k2 v A J w W (k + 1) 0 := fun t z x y p1 p2 h p3 p4 h2 h3 h4 => T t z x y p1 p2 h p3 p4 h2 h3 (by
  have := p1.1
  have := p2.1
  have := p3.1
  have := p4.1
  omega)
theorem o_k2_n (T : o_k2 v A J w W k 0) (g : 36 ≤ k) : o_n2 v A J w W := fun c d p1 p2 h1 => by
  obtain ⟨t, z, a1, b1, h, e⟩ := p1
  obtain ⟨x, y, a2, b2, h2, e2⟩ := p2
  have a9 := a1.1
  have b9 := b1.1
  have c9 := a2.1
  have d9 := b2.1
  have k9 := T t z x y a1 b1 h a2 b2 h2 (by omega) (by omega)
  rw [e, e2, show 10 * t + z + 100 * (10 * x + y) + 101 = 10 * t + z + 1000 * x + 100 * y + 101 by omega]
  exact k9
theorem o_f2_k (e6 : a = g_ab A 6) (P : q_pak a k lo hi) (P2 : q_pak a l lo2 hi2) (kl : k < l) (T : o_k2 v A J w W k l) (ey : y = 10 * lo + hi + 1000 * lo2 + 100 * hi2 + 101) (E : o_E v (J y) A w W) : o_f2 v A J w W (10 * lo + hi) (10 * lo2 + hi2) := by
  obtain ⟨⟨p1, p2, p3, p4⟩, p5, p6⟩ := o_pak e6 P
  obtain ⟨⟨r1, r2, r3, r4⟩, r5, r6⟩ := o_pak e6 P2
  refine ⟨⟨⟨lo, hi, p1, p2, p3, rfl⟩, ⟨lo2, hi2, r1, r2, r3, rfl⟩, by omega⟩, ?_, fun c d s1 s2 h1 h2 => ?_⟩
  · rw [show 10 * lo + hi + 100 * (10 * lo2 + hi2) + 101 = y by omega]
    exact E
  · obtain ⟨t, z, a1, b1, h, e⟩ := s1
    obtain ⟨x, y9, a2, b2, h3, e2⟩ := s2
    have a9 := a1.1
    have b9 := b1.1
    have c9 := a2.1
    have d9 := b2.1
    have k9 := T t z x y9 a1 b1 h a2 b2 h3 (by omega) (by omega)
    rw [e, e2, show 10 * t + z + 100 * (10 * x + y9) + 101 = 10 * t + z + 1000 * x + 100 * y9 + 101 by omega]
    exact k9
/-! what is answered -/
theorem o_pn0 {n c d : Int} (h : x = 0) : o_pn n c d x = n := by
  unfold o_pn
  rw [if_pos h]
theorem o_pn1 {n c d : Int} (h : x = 1) : o_pn n c d x = c := by
  unfold o_pn
  rw [if_neg (by omega), if_pos h]
theorem o_pn2 {n c d : Int} (h : 2 ≤ x) : o_pn n c d x = d := by
  unfold o_pn
  rw [if_neg (by omega), if_neg (by omega)]
theorem o_f1_u {c d : Int} (a1 : o_f1 v A J w W c) (b1 : o_f1 v A J w W d) : c = d := by
  rcases Int.lt_trichotomy c d with h | h | h
  · exact absurd a1.2.1 (b1.2.2 c a1.1 h)
  · exact h
  · exact absurd b1.2.1 (a1.2.2 d b1.1 h)
theorem o_f2_u {c d e f : Int} (a1 : o_f2 v A J w W c d) (b1 : o_f2 v A J w W e f) : c = e ∧ d = f := by
  obtain ⟨⟨x1, x2, x3⟩, x4, x5⟩ := a1
  obtain ⟨⟨y1, y2, y3⟩, y4, y5⟩ := b1
  by_cases h : c < e ∨ c = e ∧ d < f
  · exact absurd x4 (y5 c d x1 x2 x3 h)
  · by_cases g : e < c ∨ e = c ∧ f < d
    · exact absurd y4 (x5 e f y1 y2 y3 g)
    · omega
theorem o_pce_u {u y : Int} (a1 : o_pce v A J w W x u) (b1 : o_pce v A J w W x y) : u = y := by
  rcases a1 with ⟨e, h⟩ | ⟨e, c, f, h⟩ | ⟨e, n, c, d, f, h⟩ | ⟨e, n, m, h⟩
  · rcases b1 with ⟨-, g⟩ | ⟨e2, -⟩ | ⟨e2, -⟩ | ⟨e2, -⟩
    · rw [h, g]
    · exact absurd e e2
    · exact absurd e e2
    · exact absurd e e2
  · rcases b1 with ⟨e2, -⟩ | ⟨-, c2, f2, g⟩ | ⟨-, n2, -⟩ | ⟨-, n2, -⟩
    · exact absurd e2 e
    · rw [h, g, o_f1_u f f2]
    · exact absurd f.2.1 (n2 c f.1)
    · exact absurd f.2.1 (n2 c f.1)
  · rcases b1 with ⟨e2, -⟩ | ⟨-, c2, f2, -⟩ | ⟨-, -, c2, d2, f2, g⟩ | ⟨-, -, m2, -⟩
    · exact absurd e2 e
    · exact absurd f2.2.1 (n c2 f2.1)
    · have k := o_f2_u f f2
      rw [h, g, k.1, k.2]
    · exact absurd f.2.1 (m2 c d f.1.1 f.1.2.1 f.1.2.2)
  · rcases b1 with ⟨e2, -⟩ | ⟨-, c2, f2, -⟩ | ⟨-, -, c2, d2, f2, -⟩ | ⟨-, -, -, g⟩
    · exact absurd e2 e
    · exact absurd f2.2.1 (n c2 f2.1)
    · exact absurd f2.2.1 (m c2 d2 f2.1.1 f2.1.2.1 f2.1.2.2)
    · omega
end ZP2
/-! ===== joins exchanged ===== -/
section ZP3
variable {j r j9 : Int → Int} {Kp Kn K : Int → Int → Int} {v : zVw} {q : Int} {A : Int → Int} {e1 e2 e3 e4 i a b H z k k2 l l2 lo hi lo2 hi2 x y : Int}
theorem o_xcv (T : q_xch j r Kp Kn A e1 e2 e3 e4) (f0 : j i = a) (f1 : r i = b) : q_xcx j r Kp Kn A e1 e2 e3 e4 i ∧ q_xvl Kp Kn A e1 e2 e3 e4 i a b := by
  refine ⟨fun t k p1 p2 ne _ => T t k p1 p2 ne, fun t k p1 p2 ne e => ?_⟩
  have h := T t k p1 p2 ne
  rw [e, f0, f1] at h
  exact h
/-- one exchanged once more -/
theorem o_xcs {e1' e2' e3' e4' : Int} (T : q_xcx j r Kp Kn A e1 e2 e3 e4 i) (V : q_xvl Kp Kn A e1 e2 e3 e4 i a b) (f0 : j i = b) (f1 : r i = a) (h : ∀ z : Int, 0 ≤ z → (z ≠ i → (o_od e1' e2' e3' e4' z ↔ o_od e1 e2 e3 e4 z)) ∧ (z = i → (o_od e1' e2' e3' e4' z ↔ ¬ o_od e1 e2 e3 e4 z))) : q_xch j r Kp Kn A e1' e2' e3' e4' := fun t k p1 p2 ne => by
  have t9 := p1.1
  have k9 := p2.1
  have hz := h (6 * t + k) (by omega)
  by_cases d : 6 * t + k = i
  · have w := V t k p1 p2 ne d
    have e := hz.2 d
    unfold o_vl at w ⊢
    rw [e]
    rw [d, f0, f1]
    rw [d] at w
    refine ⟨fun g => ?_, fun g => ?_⟩
    · have := w.2 g
      exact ⟨this.2, this.1⟩
    · by_cases s : o_od e1 e2 e3 e4 i
      · have := w.1 s
        exact ⟨this.2, this.1⟩
      · exact absurd s g
  · have w := T t k p1 p2 ne d
    have e := hz.1 d
    unfold o_vl at w ⊢
    rw [e]
    exact w
theorem o_od_all {f1 f2 f3 f4 : Int} : (o_od f1 f2 f3 f4 z ↔ ((if z = f1 then 1 else 0) + (if z = f2 then 1 else 0) + (if z = f3 then 1 else 0) + (if z = f4 then 1 else 0) : Int) % 2 = 1) := Iff.rfl
theorem o_od_A0 (i0 : 0 ≤ i) (z0 : 0 ≤ z) : (z ≠ i → (o_od i e2 e3 e4 z ↔ o_od (-1) e2 e3 e4 z)) ∧ (z = i → (o_od i e2 e3 e4 z ↔ ¬ o_od (-1) e2 e3 e4 z)) := by
  rw [o_od_all, o_od_all, if_neg (show ¬ z = -1 by omega)]
  refine ⟨fun h => by rw [if_neg h], fun h => ?_⟩
  rw [if_pos h]
  generalize (if z = e2 then (1 : Int) else 0) = p5
  generalize (if z = e3 then (1 : Int) else 0) = p6
  generalize (if z = e4 then (1 : Int) else 0) = p7
  omega
theorem o_od_A1 (i0 : 0 ≤ i) (z0 : 0 ≤ z) : (z ≠ i → (o_od e1 i e3 e4 z ↔ o_od e1 (-1) e3 e4 z)) ∧ (z = i → (o_od e1 i e3 e4 z ↔ ¬ o_od e1 (-1) e3 e4 z)) := by
  rw [o_od_all, o_od_all, if_neg (show ¬ z = -1 by omega)]
  refine ⟨fun h => by rw [if_neg h], fun h => ?_⟩
  rw [if_pos h]
  generalize (if z = e1 then (1 : Int) else 0) = p5
  generalize (if z = e3 then (1 : Int) else 0) = p6
  generalize (if z = e4 then (1 : Int) else 0) = p7
  omega
theorem o_od_A2 (i0 : 0 ≤ i) (z0 : 0 ≤ z) : (z ≠ i → (o_od e1 e2 i e4 z ↔ o_od e1 e2 (-1) e4 z)) ∧ (z = i → (o_od e1 e2 i e4 z ↔ ¬ o_od e1 e2 (-1) e4 z)) := by
  rw [o_od_all, o_od_all, if_neg (show ¬ z = -1 by omega)]
  refine ⟨fun h => by rw [if_neg h], fun h => ?_⟩
  rw [if_pos h]
  generalize (if z = e1 then (1 : Int) else 0) = p5
  generalize (if z = e2 then (1 : Int) else 0) = p6
  generalize (if z = e4 then (1 : Int) else 0) = p7
  omega
theorem o_od_A3 (i0 : 0 ≤ i) (z0 : 0 ≤ z) : (z ≠ i → (o_od e1 e2 e3 i z ↔ o_od e1 e2 e3 (-1) z)) ∧ (z = i → (o_od e1 e2 e3 i z ↔ ¬ o_od e1 e2 e3 (-1) z)) := by
  rw [o_od_all, o_od_all, if_neg (show ¬ z = -1 by omega)]
  refine ⟨fun h => by rw [if_neg h], fun h => ?_⟩
  rw [if_pos h]
  generalize (if z = e1 then (1 : Int) else 0) = p5
  generalize (if z = e2 then (1 : Int) else 0) = p6
  generalize (if z = e3 then (1 : Int) else 0) = p7
  omega
theorem o_od_R {P Q : Prop} (h : (z ≠ i → (P ↔ Q)) ∧ (z = i → (P ↔ ¬ Q))) : (z ≠ i → (Q ↔ P)) ∧ (z = i → (Q ↔ ¬ P)) := by
  refine ⟨fun d => (h.1 d).symm, fun d => ?_⟩
  have e := h.2 d
  by_cases q : Q
  · exact ⟨fun _ p => (e.mp p) q, fun _ => q⟩
  · exact ⟨fun q2 => absurd q2 q, fun np => absurd (e.mpr q) np⟩
theorem o_xc0 (T : q_jrw j K A H 0 z) (T2 : q_jrw r Kn A H 0 z) (hK : ∀ t k : Int, o_ab A t → o_ab A k → K t k = Kp t k) (hH : ∀ t : Int, o_ab A t → t < H) : q_xch j r Kp Kn A (-1) (-1) (-1) (-1) := fun t k p1 p2 ne => by
  have n : ¬ o_od (-1) (-1) (-1) (-1) (6 * t + k) := fun h => by
    have t9 := p1.1
    have k9 := p2.1
    rw [o_od_all, if_neg (show ¬ 6 * t + k = -1 by omega)] at h
    exact absurd h (by decide)
  exact ⟨fun h => absurd h n, fun _ => ⟨(T.2 t k p1 p2 ne (Or.inl (hH t p1))).trans (hK t k p1 p2), T2.2 t k p1 p2 ne (Or.inl (hH t p1))⟩⟩
theorem o_xjS (e6 : a = g_ab A 6) (P : q_pak a k lo hi) (T : q_xch j r (g_jo v q A) (g_j9 v q A) A k k2 (-1) (-1)) (e2 : k2 = 6 * hi + lo) (H0 : 0 ≤ H) : q_jrw j (g_jy v q A (10 * lo + hi + 1)) A H 0 (6 * H) := by
  obtain ⟨⟨p1, p2, p3, p4⟩, p5, p6⟩ := o_pak e6 P
  refine ⟨⟨H0, by omega, by omega, by omega⟩, fun t u a1 a2 ne _ => ?_⟩
  have t9 := a1.1
  have u9 := a2.1
  have h := T t u a1 a2 ne
  by_cases d : 10 * lo + hi = g_pc t u
  · have g : (t = lo ∧ u = hi) ∨ (t = hi ∧ u = lo) := by
      unfold g_pc at d
      split at d <;> omega
    rw [g_jyA (by omega) (by omega) d]
    refine (h.1 ?_).1
    rw [o_od_all, if_neg (show ¬ 6 * t + u = -1 by omega)]
    rcases g with ⟨g1, g2⟩ | ⟨g1, g2⟩
    · rw [if_pos (show 6 * t + u = k by omega), if_neg (show ¬ 6 * t + u = k2 by omega)]
      all_goals rfl
    · rw [if_neg (show ¬ 6 * t + u = k by omega), if_pos (show 6 * t + u = k2 by omega)]
      all_goals rfl
  · rw [g_jyN (by omega) (by omega) t9.1 u9.1 d]
    refine (h.2 fun o => ?_).1
    have g1 : ¬ 6 * t + u = k := fun e => d (by
      have g1 : t = lo := by omega
      have g2 : u = hi := by omega
      unfold g_pc
      rw [if_pos (show t < u by omega), g1, g2])
    have g2 : ¬ 6 * t + u = k2 := fun e => d (by
      have g1 : t = hi := by omega
      have g2 : u = lo := by omega
      unfold g_pc
      rw [if_neg (show ¬ t < u by omega), g1, g2])
    rw [o_od_all, if_neg (show ¬ 6 * t + u = -1 by omega), if_neg g1, if_neg g2] at o
    exact absurd o (by decide)
theorem o_xjD (e6 : a = g_ab A 6) (P : q_pak a k lo hi) (P2 : q_pak a l lo2 hi2) (T : q_xch j r (g_jo v q A) (g_j9 v q A) A k k2 l l2) (e2 : k2 = 6 * hi + lo) (e3 : l2 = 6 * hi2 + lo2) (kl : k < l) (H0 : 0 ≤ H) : q_jrw j (g_jy v q A (10 * lo + hi + 1000 * lo2 + 100 * hi2 + 101)) A H 0 (6 * H) := by
  obtain ⟨⟨p1, p2, p3, p4⟩, p5, p6⟩ := o_pak e6 P
  obtain ⟨⟨r1, r2, r3, r4⟩, r5, r6⟩ := o_pak e6 P2
  rw [show 10 * lo + hi + 1000 * lo2 + 100 * hi2 + 101 = (10 * lo + hi) + 100 * (10 * lo2 + hi2) + 101 by omega]
  refine ⟨⟨H0, by omega, by omega, by omega⟩, fun t u a1 a2 ne _ => ?_⟩
  have t9 := a1.1
  have u9 := a2.1
  have h := T t u a1 a2 ne
  have f : ∀ x y : Int, 0 ≤ x → x < y → y < 6 → (10 * x + y = g_pc t u ↔ (6 * t + u = 6 * x + y ∨ 6 * t + u = 6 * y + x)) := fun x y x0 xy y6 => by
    unfold g_pc
    split <;> omega
  have f1 := f lo hi p5 p3 p6
  have f2 := f lo2 hi2 r5 r3 r6
  by_cases d : 10 * lo + hi = g_pc t u ∨ 10 * lo2 + hi2 = g_pc t u
  · rw [g_jyB (by omega) (by omega) d]
    refine (h.1 ?_).1
    rw [o_od_all]
    have g : (6 * t + u = k ∧ 6 * t + u ≠ k2 ∧ 6 * t + u ≠ l ∧ 6 * t + u ≠ l2) ∨ (6 * t + u ≠ k ∧ 6 * t + u = k2 ∧ 6 * t + u ≠ l ∧ 6 * t + u ≠ l2) ∨ (6 * t + u ≠ k ∧ 6 * t + u ≠ k2 ∧ 6 * t + u = l ∧ 6 * t + u ≠ l2) ∨ (6 * t + u ≠ k ∧ 6 * t + u ≠ k2 ∧ 6 * t + u ≠ l ∧ 6 * t + u = l2) := by
      rcases d with d | d
      · rcases f1.mp d with g | g
        · exact Or.inl (by omega)
        · exact Or.inr (Or.inl (by omega))
      · rcases f2.mp d with g | g
        · exact Or.inr (Or.inr (Or.inl (by omega)))
        · exact Or.inr (Or.inr (Or.inr (by omega)))
    rcases g with ⟨g1, g2, g3, g4⟩ | ⟨g1, g2, g3, g4⟩ | ⟨g1, g2, g3, g4⟩ | ⟨g1, g2, g3, g4⟩
    · rw [if_pos g1, if_neg g2, if_neg g3, if_neg g4]
      all_goals rfl
    · rw [if_neg g1, if_pos g2, if_neg g3, if_neg g4]
      all_goals rfl
    · rw [if_neg g1, if_neg g2, if_pos g3, if_neg g4]
      all_goals rfl
    · rw [if_neg g1, if_neg g2, if_neg g3, if_pos g4]
      all_goals rfl
  · have d1 : ¬ 10 * lo + hi = g_pc t u := fun e => d (Or.inl e)
    have d2 : ¬ 10 * lo2 + hi2 = g_pc t u := fun e => d (Or.inr e)
    rw [g_jyM (by omega) (by omega) d1 d2]
    refine (h.2 fun o => ?_).1
    have g1 : ¬ 6 * t + u = k := fun e => d1 (f1.mpr (Or.inl (by omega)))
    have g2 : ¬ 6 * t + u = k2 := fun e => d1 (f1.mpr (Or.inr (by omega)))
    have g3 : ¬ 6 * t + u = l := fun e => d2 (f2.mpr (Or.inl (by omega)))
    have g4 : ¬ 6 * t + u = l2 := fun e => d2 (f2.mpr (Or.inr (by omega)))
    rw [o_od_all, if_neg g1, if_neg g2, if_neg g3, if_neg g4] at o
    exact absurd o (by decide)
/-- heldBy, when a pair more likes one another most -/
theorem o_lkm {g h : Int} (T : q_hly j (g_jy v q A y) A (6 * g + h) (g + 6 * h)) (N : q_hld j9 (g_j9 v q A) A 36) (g0 : 0 ≤ g) (gh : g < h) (h5 : h ≤ 5) (f0 : j (6 * g + h) = j9 (6 * g + h)) (f1 : j (g + 6 * h) = j9 (g + 6 * h)) (hy : ∀ t u : Int, 0 ≤ t → t < 6 → 0 ≤ u → u < 6 → t ≠ u → (10 * g + h = g_pc t u → g_jy v q A x t u = g_j9 v q A t u) ∧ (10 * g + h ≠ g_pc t u → g_jy v q A x t u = g_jy v q A y t u)) : q_hld j (g_jy v q A x) A 36 := fun k k0 k1 a1 a2 ne => by
  have t9 := a1.1
  have u9 := a2.1
  have hh := hy (k / 6) (k % 6) t9.1 t9.2 u9.1 u9.2 ne
  by_cases d : 10 * g + h = g_pc (k / 6) (k % 6)
  · have e : k = 6 * g + h ∨ k = g + 6 * h := by
      unfold g_pc at d
      split at d <;> omega
    rw [hh.1 d]
    rcases e with e | e
    · rw [e] at a1 a2 ne ⊢
      rw [f0]
      exact N (6 * g + h) (by omega) (by omega) a1 a2 ne
    · rw [e] at a1 a2 ne ⊢
      rw [f1]
      exact N (g + 6 * h) (by omega) (by omega) a1 a2 ne
  · rw [hh.2 d]
    have n1 : k ≠ 6 * g + h := fun e => d (by
      have x1 : k / 6 = g := by omega
      have x2 : k % 6 = h := by omega
      unfold g_pc
      rw [x1, x2, if_pos gh])
    have n2 : k ≠ g + 6 * h := fun e => d (by
      have x1 : k / 6 = h := by omega
      have x2 : k % 6 = g := by omega
      unfold g_pc
      rw [x1, x2, if_neg (show ¬ h < g by omega)])
    exact T k k0 k1 n1 n2 a1 a2 ne
theorem o_jyA {c : Int} (c0 : 0 ≤ c) (c1 : c ≤ 59) : ∀ t u : Int, 0 ≤ t → t < 6 → 0 ≤ u → u < 6 → t ≠ u → (c = g_pc t u → g_jy v q A (c + 1) t u = g_j9 v q A t u) ∧ (c ≠ g_pc t u → g_jy v q A (c + 1) t u = g_jy v q A 0 t u) := fun t u t0 t6 u0 u6 ne => ⟨fun e => g_jyA c0 c1 e, fun e => by rw [g_jyN c0 c1 t0 u0 e, g_jy0 t0 u0]⟩
theorem o_jyB {c : Int} (c0 : 0 ≤ c) (c1 : c ≤ 59) (y1 : 1 ≤ y) (y60 : y ≤ 60) : ∀ t u : Int, 0 ≤ t → t < 6 → 0 ≤ u → u < 6 → t ≠ u → (c = g_pc t u → g_jy v q A (100 * c + y + 100) t u = g_j9 v q A t u) ∧ (c ≠ g_pc t u → g_jy v q A (100 * c + y + 100) t u = g_jy v q A y t u) := fun t u t0 t6 u0 u6 ne => by
  have ey : 100 * c + y + 100 = (y - 1) + 100 * c + 101 := by omega
  have ez : y = (y - 1) + 1 := by omega
  rw [ey]
  refine ⟨fun e => g_jyB (by omega) (by omega) (Or.inr e), fun e => ?_⟩
  by_cases g : y - 1 = g_pc t u
  · rw [g_jyB (by omega) (by omega) (Or.inl g)]
    have h := g_jyA (v := v) (q := q) (A := A) (c := y - 1) (by omega) (by omega) g
    rw [← ez] at h
    exact h.symm
  · rw [g_jyM (by omega) (by omega) g e]
    have h := g_jyN (v := v) (q := q) (A := A) (c := y - 1) (by omega) (by omega) t0 u0 g
    rw [← ez] at h
    exact h.symm
end ZP3
section ZP4
variable {v : zVw} {H q b s o a1 a2 a3 x1 x2 u : Int} {A : Int → Int}
theorem g_k63 (T : q_qry v 63 q b s o a1 a2 a3 x1 x2 u) : o_pce v (g_F v q b s o a1 a2 a3 (g_nw v)) (g_jy v q (g_F v q b s o a1 a2 a3 (g_nw v))) (x1 % 1000) x2 (x1 / 1000) u := T.2
theorem g_Q63 (h : o_pce v A (g_jy v q A) (x1 % 1000) x2 (x1 / 1000) u) : q_Q v q b s A 63 x1 x2 u := h
theorem g_k64 (T : q_qry v 64 q b s o a1 a2 a3 x1 x2 u) : u = g_raw v q 2 (g_F v q b s o a1 a2 a3 (g_nw v)) x1 9 (g_sg (v 20) (g_F v q b s o a1 a2 a3 (g_nw v)) x2) := T.2
theorem g_Q64 (h : u = g_raw v q 2 A x1 9 (g_sg (v 20) A x2)) : q_Q v q b s A 64 x1 x2 u := h
theorem g_k65 (T : q_qry v 65 q b s o a1 a2 a3 x1 x2 u) : u = g_j9 v q (g_F v q b s o a1 a2 a3 (g_nw v)) x1 x2 := T.2
theorem g_Q65 (h : u = g_j9 v q A x1 x2) : q_Q v q b s A 65 x1 x2 u := h
theorem g_Qpc {w x : Int} (w0 : 0 ≤ w) (w9 : w ≤ 999) (x0 : 0 ≤ x) (h : o_pce v A (g_jy v q A) w x2 x u) : q_Q v q b s A 63 (1000 * x + w) x2 u := by
  have e1 : (1000 * x + w) % 1000 = w := by omega
  have e2 : (1000 * x + w) / 1000 = x := by omega
  refine g_Q63 ?_
  rw [e1, e2]
  exact h
end ZP4
