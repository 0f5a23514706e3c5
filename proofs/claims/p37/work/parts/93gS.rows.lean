/-! ===== ROWS that FIT ===== -/
theorem r_K_new {ok : Int → Int → Prop} {p c h : Int} (p0 : 0 ≤ p) (h0 : 0 ≤ h) (h6 : h < 6) : r_K ok (p + 1) (6 * c + h) ↔ (r_K ok p c ∧ ok p h ∧ ∀ i : Int, 0 ≤ i → i < p → r_D p c i ≠ h) := by
  have e6 : r_6 (p + 1).toNat = 6 * r_6 p.toNat := by
    rw [show (p + 1).toNat = p.toNat + 1 by omega]
    rfl
  constructor
  · intro k
    obtain ⟨⟨k1, k2⟩, k3, k4⟩ := k
    rw [e6] at k2
    refine ⟨⟨⟨by omega, by omega⟩, fun i i0 i1 => ?_, fun i j i0 i1 j1 => ?_⟩, ?_, fun i i0 i1 => ?_⟩
    · have := k3 i i0 (by omega)
      rw [r_D_old h0 h6 i1] at this
      exact this
    · have := k4 i j i0 i1 (by omega)
      rw [r_D_old h0 h6 (by omega), r_D_old h0 h6 j1] at this
      exact this
    · have := k3 p p0 (by omega)
      rw [r_D_new h0 h6] at this
      exact this
    · have := k4 i p i0 i1 (by omega)
      rw [r_D_old h0 h6 i1, r_D_new h0 h6] at this
      exact this
  · intro k
    obtain ⟨⟨⟨k1, k2⟩, k3, k4⟩, k5, k6⟩ := k
    refine ⟨⟨by omega, by rw [e6]; omega⟩, fun i i0 i1 => ?_, fun i j i0 i1 j1 => ?_⟩
    · by_cases d : i < p
      · rw [r_D_old h0 h6 d]; exact k3 i i0 d
      · rw [show i = p by omega, r_D_new h0 h6]; exact k5
    · rw [r_D_old h0 h6 (show i < p by omega)]
      by_cases d : j < p
      · rw [r_D_old h0 h6 d]; exact k4 i j i0 i1 d
      · rw [show j = p by omega, r_D_new h0 h6]; exact k6 i i0 (by omega)
theorem r_ee {c l p : Int} (h : p < l) : c * r_6 (l - p).toNat = 6 * c * r_6 (l - (p + 1)).toNat := by
  rw [r_6_up h, ← Int.mul_assoc, Int.mul_comm c 6]
theorem r_ll {c l : Int} : c * r_6 (l - l).toNat = c := by
  rw [Int.sub_self]
  show c * 1 = c
  omega
theorem r_l0 {l : Int} : 1 * r_6 (l - 0).toNat = r_6 l.toNat := by
  rw [Int.sub_zero, Int.one_mul]
theorem r_00 {l : Int} : (0 * r_6 (l - 0).toNat).toNat = 0 := by
  rw [Int.zero_mul]
  rfl
theorem r_blk {R m i : Int} (R1 : 1 ≤ R) (i0 : 0 ≤ i) (i1 : i < R) : (m * R + i) / R = m := by
  rw [Int.add_comm, Int.add_mul_ediv_right i m (by omega), Int.ediv_eq_zero_of_lt i0 i1, Int.zero_add]
theorem r_blkN {R m : Int} (R1 : 1 ≤ R) (m0 : 0 ≤ m) : ((m + 1) * R).toNat = (m * R).toNat + R.toNat := by
  have h : 0 ≤ m * R := Int.mul_nonneg m0 (by omega)
  rw [Int.add_mul, Int.one_mul]
  omega
theorem r_cs_blk {K : Int → Prop} {R m : Int} (R1 : 1 ≤ R) (m0 : 0 ≤ m) (h : ∀ n : Int, 0 ≤ n → n / R = m → ¬ K n) : r_cs K 0 ((m + 1) * R).toNat = r_cs K 0 (m * R).toNat := by
  have hp : 0 ≤ m * R := Int.mul_nonneg m0 (by omega)
  rw [r_blkN R1 m0]
  refine r_cs_skip _ _ fun i hi => h _ (by omega) ?_
  rw [show 0 + (((m * R).toNat : Nat) : Int) + (i : Int) = m * R + (i : Int) by omega]
  exact r_blk R1 (by omega) (by omega)
theorem r_fr_blk {K : Int → Prop} {R m : Int} (R1 : 1 ≤ R) (m0 : 0 ≤ m) (h : ∀ n : Int, 0 ≤ n → n / R = m → ¬ K n) : r_fr K 0 ((m + 1) * R).toNat = r_fr K 0 (m * R).toNat := by
  have hp : 0 ≤ m * R := Int.mul_nonneg m0 (by omega)
  rw [r_blkN R1 m0]
  refine r_fr_skip (by omega) _ _ fun i hi => h _ (by omega) ?_
  rw [show 0 + (((m * R).toNat : Nat) : Int) + (i : Int) = m * R + (i : Int) by omega]
  exact r_blk R1 (by omega) (by omega)
section ZS1
variable {K : Int → Prop} {c : Int}
theorem r_cs_1Y (c0 : 0 ≤ c) (h : K c) : r_cs K 0 (c + 1).toNat = r_cs K 0 c.toNat + 1 := by
  rw [show (c + 1).toNat = c.toNat + 1 by omega, r_cs_Y (by rw [show 0 + ((c.toNat : Nat) : Int) = c by omega]; exact h)]
theorem r_cs_1N (c0 : 0 ≤ c) (h : ¬ K c) : r_cs K 0 (c + 1).toNat = r_cs K 0 c.toNat := by
  rw [show (c + 1).toNat = c.toNat + 1 by omega, r_cs_N (by rw [show 0 + ((c.toNat : Nat) : Int) = c by omega]; exact h)]
theorem r_cs_1b (c0 : 0 ≤ c) : 0 ≤ r_cs K 0 c.toNat ∧ r_cs K 0 c.toNat ≤ c := by
  have := r_cs_b (K := K) (a := 0) c.toNat
  omega
theorem r_cs_no (h : ∀ x : Int, ¬ K x) (n : Nat) : r_cs K 0 n = 0 ∧ r_fr K 0 n = -2 := by
  have a := r_cs_skip (K := K) (a := 0) 0 n (fun i _ => h _)
  have b := r_fr_skip (K := K) (a := 0) (by omega) 0 n (fun i _ => h _)
  rw [Nat.zero_add] at a b
  exact ⟨a, b⟩
end ZS1
/-! the class's count -/
section ZS2
variable {f s w47 : Int → Int} {l p c g r u so t x i h z n m : Int}
theorem r_prx_b (T : q_prx f p c u) (p5 : p ≤ 5) : 0 ≤ c ∧ c ≤ 7775 ∧ 0 ≤ u ∧ u < 64 := by
  have h1 := T.2.1.1
  have h2 := r_6_b5 p5
  have h3 := T.1.2.2
  omega
theorem r_prx_6 (T : q_prx f p c u) : 0 ≤ c ∧ c ≤ 46655 := by
  have h1 := T.2.1.1
  have h2 := r_6_b (l := p) T.1.2.1.2
  omega
theorem r_nctS (T0 : q_prx f l c u) (T1 : q_nct f l l c g r) : (0 ≤ g ∧ g ≤ c) ∧ q_nct f l l (c + 1) (g + 1) (if g ≤ 0 then c else r) := by
  obtain ⟨⟨p0, p1, p2, c0⟩, e1, e2⟩ := T1
  rw [r_ll] at e1 e2
  have hK := T0.2.1
  have b := r_cs_1b (K := r_K (r_okc f) l) c0
  rw [← e1] at b
  refine ⟨b, ⟨p0, p1, p2, by omega⟩, ?_, ?_⟩
  · rw [r_ll, r_cs_1Y c0 hK, ← e1]
  · rw [r_ll]
    have cf := r_cf (K := r_K (r_okc f) l) (a := 0) (by omega) c.toNat
    rw [← e1, ← e2] at cf
    rw [show (c + 1).toNat = c.toNat + 1 by omega]
    have h9 : r_K (r_okc f) l (0 + ((c.toNat : Nat) : Int)) := by
      rw [show 0 + ((c.toNat : Nat) : Int) = c by omega]
      exact hK
    rcases cf with ⟨d1, d2⟩ | ⟨d1, d2⟩
    · rw [if_pos (by omega), r_fr_Y0 h9 (by rw [← e2]; omega)]
      omega
    · rw [if_neg (by omega), r_fr_Y1 (by rw [← e2]; exact d2), ← e2]
theorem r_nctD (T1 : q_nct f l p c g r) (h1 : p < l) : q_nct f l (p + 1) (6 * c) g r := by
  obtain ⟨⟨p0, p1, p2, c0⟩, e1, e2⟩ := T1
  rw [r_ee h1] at e1 e2
  exact ⟨⟨by omega, by omega, p2, by omega⟩, e1, e2⟩
theorem r_srcD (T1 : q_src s f l p c so) (h1 : p < l) : q_src s f l (p + 1) (6 * c) so := by
  obtain ⟨⟨p0, p1, p2, c0⟩, e1⟩ := T1
  refine ⟨⟨by omega, by omega, p2, by omega⟩, fun t t0 t1 => ?_⟩
  rw [e1 t t0 t1, r_ee h1]
theorem r_nctU (T1 : q_nct f l (p + 1) (6 * c + 6) g r) (p0 : 0 ≤ p) (c0 : 0 ≤ c) (h1 : p < l) : q_nct f l p (c + 1) g r := by
  obtain ⟨⟨q0, q1, q2, -⟩, e1, e2⟩ := T1
  rw [show 6 * c + 6 = 6 * (c + 1) by omega, ← r_ee h1] at e1 e2
  exact ⟨⟨p0, by omega, q2, by omega⟩, e1, e2⟩
theorem r_srcU (T1 : q_src s f l (p + 1) (6 * c + 6) so) (p0 : 0 ≤ p) (c0 : 0 ≤ c) (h1 : p < l) : q_src s f l p (c + 1) so := by
  obtain ⟨⟨q0, q1, q2, -⟩, e1⟩ := T1
  refine ⟨⟨p0, by omega, q2, by omega⟩, fun t t0 t1 => ?_⟩
  rw [e1 t t0 t1, show 6 * c + 6 = 6 * (c + 1) by omega, ← r_ee h1]
/-- the bit that is looked at -/
theorem r_fz {gg a nn rr : Int} (T : q_prx f p c u) (p5 : p ≤ 5) (F : f p = gg) (h0 : 0 ≤ h) (h5 : h ≤ 5) (er : g_op 103 u (-1) = rr) (ea : g_op 101 gg rr = a) (en : g_op 104 1 h = nn) (ez : g_op 101 a nn = z) : 0 ≤ z ∧ (1 ≤ z ↔ (r_okc f p h ∧ ∀ i : Int, 0 ≤ i → i < p → r_D p c i ≠ h)) := by
  have fb := T.1.1 p T.1.2.1.1 (by omega)
  rw [F] at fb
  have ub := T.1.2.2
  obtain ⟨ab, h9⟩ := r_andn fb.1 fb.2 ub.1 ub.2 er ea
  have zb := g_and_b (a := a) ab.1 (by omega) ez
  refine ⟨zb.1, ?_⟩
  rw [r_bt1 ab.1 ab.2 h0 (by omega) en ez, h9 h h0 (by omega), T.2.2 h h0 (by omega)]
  unfold r_okc
  rw [F]
  constructor
  · intro k
    exact ⟨k.1, fun i i0 i1 e => k.2 ⟨i, ⟨i0, i1⟩, e⟩⟩
  · intro k
    refine ⟨k.1, fun e => ?_⟩
    obtain ⟨i, ⟨i0, i1⟩, e⟩ := e
    exact k.2 i i0 i1 e
theorem r_noK (p0 : 0 ≤ p) (p1 : p < l) (h0 : 0 ≤ h) (h5 : h ≤ 5) (hz : ¬ (r_okc f p h ∧ ∀ i : Int, 0 ≤ i → i < p → r_D p c i ≠ h)) : ∀ n : Int, 0 ≤ n → n / r_6 (l - (p + 1)).toNat = 6 * c + h → ¬ r_K (r_okc f) l n := fun n n0 e k => by
  have k2 := r_K_pre (p := p + 1) (by omega) (by omega) k
  rw [e, r_K_new p0 h0 (by omega)] at k2
  exact hz k2.2
theorem r_nctN (T1 : q_nct f l (p + 1) (6 * c + h) g r) (p0 : 0 ≤ p) (p1 : p < l) (h0 : 0 ≤ h) (h5 : h ≤ 5) (hz : ¬ (r_okc f p h ∧ ∀ i : Int, 0 ≤ i → i < p → r_D p c i ≠ h)) : q_nct f l (p + 1) (6 * c + h + 1) g r := by
  obtain ⟨⟨q0, q1, q2, q3⟩, e1, e2⟩ := T1
  have R1 := r_6_pos (l - (p + 1)).toNat
  have hn := r_noK p0 p1 h0 h5 hz
  exact ⟨⟨q0, q1, q2, by omega⟩, by rw [r_cs_blk R1 q3 hn]; exact e1, by rw [r_fr_blk R1 q3 hn]; exact e2⟩
theorem r_srcN (T1 : q_src s f l (p + 1) (6 * c + h) so) (p0 : 0 ≤ p) (p1 : p < l) (h0 : 0 ≤ h) (h5 : h ≤ 5) (hz : ¬ (r_okc f p h ∧ ∀ i : Int, 0 ≤ i → i < p → r_D p c i ≠ h)) : q_src s f l (p + 1) (6 * c + h + 1) so := by
  obtain ⟨⟨q0, q1, q2, q3⟩, e1⟩ := T1
  have R1 := r_6_pos (l - (p + 1)).toNat
  have hn := r_noK p0 p1 h0 h5 hz
  refine ⟨⟨q0, q1, q2, by omega⟩, fun t t0 t1 => ?_⟩
  rw [e1 t t0 t1]
  unfold r_cc
  rw [r_cs_blk R1 q3 (fun n n0 e k => hn n n0 e k.1)]
theorem r_prxY {nn u2 : Int} (T : q_prx f p c u) (p5 : p ≤ 5) (h0 : 0 ≤ h) (h5 : h ≤ 5) (hz : r_okc f p h ∧ ∀ i : Int, 0 ≤ i → i < p → r_D p c i ≠ h) (en : g_op 104 1 h = nn) (eu : g_op 102 u nn = u2) : q_prx f (p + 1) (6 * c + h) u2 := by
  obtain ⟨⟨t1, ⟨t2, t3⟩, t4⟩, t5, t6⟩ := T
  obtain ⟨ub, h9⟩ := r_or t4.1 t4.2 h0 (by omega) en eu
  refine ⟨⟨t1, ⟨by omega, by omega⟩, ub⟩, (r_K_new t2 h0 (by omega)).mpr ⟨t5, hz.1, hz.2⟩, fun h' a0 a6 => ?_⟩
  rw [h9 h' a0 a6, t6 h' a0 a6]
  constructor
  · rintro (⟨i, ⟨i0, i1⟩, e⟩ | e)
    · exact ⟨i, ⟨i0, by omega⟩, by rw [r_D_old h0 (by omega) i1]; exact e⟩
    · exact ⟨p, ⟨t2, by omega⟩, by rw [r_D_new h0 (by omega)]; exact e.symm⟩
  · rintro ⟨i, ⟨i0, i1⟩, e⟩
    by_cases d : i < p
    · exact Or.inl ⟨i, ⟨i0, d⟩, by rw [r_D_old h0 (by omega) d] at e; exact e⟩
    · right
      rw [show i = p by omega, r_D_new h0 (by omega)] at e
      exact e.symm
theorem r_rwdY (T : q_rwd w47 p c) (h0 : 0 ≤ h) (h5 : h ≤ 5) (F : w47 p = h) : q_rwd w47 (p + 1) (6 * c + h) := fun t t0 t1 => by
  by_cases d : t < p
  · rw [r_D_old h0 (by omega) d]; exact T t t0 d
  · rw [show t = p by omega, r_D_new h0 (by omega)]; exact F
theorem r_rwdP (T : q_rwd w47 (p + 1) (6 * c + h)) (h0 : 0 ≤ h) (h5 : h ≤ 5) : q_rwd w47 p c := fun t t0 t1 => by
  have := T t t0 (by omega)
  rw [r_D_old h0 (by omega) t1] at this
  exact this
theorem r_cc_b (x0 : 0 ≤ x) : 0 ≤ r_cc f l so t x ∧ r_cc f l so t x ≤ x := r_cs_1b x0
theorem r_ccY (c0 : 0 ≤ c) (k : r_K (r_okc f) l c) (b : r_bit so (r_D l c t)) : r_cc f l so t (c + 1) = r_cc f l so t c + 1 := r_cs_1Y (K := fun n => r_K (r_okc f) l n ∧ r_bit so (r_D l n t)) c0 ⟨k, b⟩
theorem r_ccN (c0 : 0 ≤ c) (b : ¬ r_bit so (r_D l c t)) : r_cc f l so t (c + 1) = r_cc f l so t c := r_cs_1N (K := fun n => r_K (r_okc f) l n ∧ r_bit so (r_D l n t)) c0 (fun k => b k.2)
theorem r_srA (T : q_sry s f l c so i x) (k : r_K (r_okc f) l c) (b : r_bit so (r_D l c i)) (i0 : 0 ≤ i) (i1 : i < l) (F : s i = x + 1) : q_srx s f l c so (i + 1) := by
  obtain ⟨⟨l6, c0⟩, h1, h2⟩ := T
  refine ⟨⟨l6, c0⟩, fun t t0 t1 => ?_⟩
  by_cases d : t = i
  · rw [d, F, if_pos (by omega), h2, r_ccY c0 k b]
  · rw [h1 t t0 t1 d]
    by_cases d2 : t < i
    · rw [if_pos d2, if_pos (by omega)]
    · rw [if_neg d2, if_neg (by omega)]
theorem r_srB (T : q_srx s f l c so i) (b : ¬ r_bit so (r_D l c i)) (i0 : 0 ≤ i) (i1 : i < l) : q_srx s f l c so (i + 1) := by
  obtain ⟨⟨l6, c0⟩, h1⟩ := T
  refine ⟨⟨l6, c0⟩, fun t t0 t1 => ?_⟩
  rw [h1 t t0 t1]
  by_cases d : t = i
  · rw [if_neg (by omega), if_pos (by omega), d, r_ccN c0 b]
  · by_cases d2 : t < i
    · rw [if_pos d2, if_pos (by omega)]
    · rw [if_neg d2, if_neg (by omega)]
theorem r_srE (T : q_srx s f l c so l) (l0 : 0 ≤ l) : q_src s f l l (c + 1) so := by
  obtain ⟨⟨l6, c0⟩, h1⟩ := T
  refine ⟨⟨l0, Int.le_refl _, l6, by omega⟩, fun t t0 t1 => ?_⟩
  rw [h1 t t0 t1, if_pos t1, r_ll]
theorem r_srx0 (T : q_src s f l l c so) : q_srx s f l c so 0 := by
  obtain ⟨⟨l0, -, l6, c0⟩, h1⟩ := T
  refine ⟨⟨l6, c0⟩, fun t t0 t1 => ?_⟩
  rw [h1 t t0 t1, if_neg (by omega), r_ll]
end ZS2
/-! what is learnt is what is told -/
section ZS3
variable {pl le so st f s : Int → Int} {H k l p i j g r w n x y z u h t d m : Int}
theorem r_K_cg {ok ok' : Int → Int → Prop} (l6 : l ≤ 6) (e : ∀ a b : Int, 0 ≤ a → a < 6 → 0 ≤ b → b < 6 → (ok a b ↔ ok' a b)) : r_K ok l n ↔ r_K ok' l n := by
  constructor
  · intro q
    exact ⟨q.1, fun a a0 a1 => (e a _ a0 (by omega) r_D_b.1 r_D_b.2).mp (q.2.1 a a0 a1), q.2.2⟩
  · intro q
    exact ⟨q.1, fun a a0 a1 => (e a _ a0 (by omega) r_D_b.1 r_D_b.2).mpr (q.2.1 a a0 a1), q.2.2⟩
theorem r_lrn_K (T : q_lrn pl le so st f H l k) (l6 : l ≤ 6) (n : Int) : r_K (r_okc f) l n ↔ r_Kt pl le so st H k l n := by
  obtain ⟨h1, h2⟩ := T
  have e := r_K_cg (n := n) (ok := r_okc f) (ok' := r_okt pl le so st H k) l6 (fun a b a0 a6 b0 b6 => (h2 a a0 a6).2 b b0 b6)
  exact ⟨fun q => ⟨h1, e.mp q⟩, fun q => e.mpr q.2⟩
theorem r_hob {A : Int → Int} {v : zVw} {q b s' : Int} {z1 z2 z3 z4 x1 x2 : Int} (T : q_qry v 57 q b s' z1 z2 z3 z4 x1 x2 u) : u = g_bt (fun h => if x1 ≤ g_sg (v 20) (g_F v q b s' z1 z2 z3 z4 (g_nw v)) h then 1 else 0) x2.toNat := T.2
theorem r_hob_b (H0 : 0 ≤ H) (H6 : H ≤ 6) (e : u = g_bt (fun h => if w ≤ st h then 1 else 0) H.toNat) : 0 ≤ u ∧ u < 64 := by
  have b := g_bt_b (f := fun h => if w ≤ st h then 1 else 0) H.toNat
  rw [← e] at b
  have h0 : H.toNat = 0 ∨ H.toNat = 1 ∨ H.toNat = 2 ∨ H.toNat = 3 ∨ H.toNat = 4 ∨ H.toNat = 5 ∨ H.toNat = 6 := by omega
  have h6 : g_2 6 = 64 := rfl
  rcases h0 with c | c | c | c | c | c | c <;> rw [c] at b <;> simp only [r_g0, r_g1, r_g2, r_g3, r_g4, r_g5, h6] at b <;> omega
theorem r_hob_bit (H0 : 0 ≤ H) (H6 : H ≤ 6) (e : u = g_bt (fun h => if w ≤ st h then 1 else 0) H.toNat) (h0 : 0 ≤ h) (h6 : h < 6) : r_bit u h ↔ (h < H ∧ w ≤ st h) := by
  unfold r_bit
  rw [e, r_bt_f H.toNat (by omega) h.toNat (by omega), show ((h.toNat : Nat) : Int) = h by omega]
  constructor
  · rintro ⟨a, b⟩
    refine ⟨by omega, ?_⟩
    by_cases c : w ≤ st h
    · exact c
    · rw [if_neg c] at b; omega
  · rintro ⟨a, b⟩
    exact ⟨by omega, by rw [if_pos b]⟩
theorem r_lrn0 {nn : Int} (H0 : 0 ≤ H) (H6 : H ≤ 6) (en : g_op 104 1 H = nn) (T : ∀ t : Int, 0 ≤ t → t < 6 → f t = nn - 1) : q_lrn pl le so st f H l 0 := by
  have e := g_sh H0 H6
  rw [en] at e
  have hH : H = 0 ∨ H = 1 ∨ H = 2 ∨ H = 3 ∨ H = 4 ∨ H = 5 ∨ H = 6 := by omega
  have h6 : g_2 6 = 64 := rfl
  refine ⟨fun j j0 j1 => by omega, fun p p0 p1 => ?_⟩
  rw [T p p0 p1]
  have hb : 0 ≤ nn - 1 ∧ nn - 1 < 64 := by
    rcases hH with rfl | rfl | rfl | rfl | rfl | rfl | rfl <;> simp only [show (0 : Int).toNat = 0 from rfl, show (1 : Int).toNat = 1 from rfl, show (2 : Int).toNat = 2 from rfl, show (3 : Int).toNat = 3 from rfl, show (4 : Int).toNat = 4 from rfl, show (5 : Int).toNat = 5 from rfl, show (6 : Int).toNat = 6 from rfl, r_g0, r_g1, r_g2, r_g3, r_g4, r_g5, h6] at e <;> omega
  refine ⟨hb, fun h h0 h6' => ?_⟩
  have a : r_bit (nn - 1) h ↔ h < H := by
    unfold r_bit
    have hh : h = 0 ∨ h = 1 ∨ h = 2 ∨ h = 3 ∨ h = 4 ∨ h = 5 := by omega
    rcases hH with rfl | rfl | rfl | rfl | rfl | rfl | rfl <;> rcases hh with rfl | rfl | rfl | rfl | rfl | rfl <;> simp only [show (0 : Int).toNat = 0 from rfl, show (1 : Int).toNat = 1 from rfl, show (2 : Int).toNat = 2 from rfl, show (3 : Int).toNat = 3 from rfl, show (4 : Int).toNat = 4 from rfl, show (5 : Int).toNat = 5 from rfl, show (6 : Int).toNat = 6 from rfl, r_g0, r_g1, r_g2, r_g3, r_g4, r_g5, h6] at e ⊢ <;> subst e <;> decide
  rw [a]
  exact ⟨fun c => ⟨⟨h0, c⟩, fun j j0 j1 => absurd j1 (by omega)⟩, fun c => c.1.2⟩
theorem r_okt_s (i0 : 0 ≤ i) : r_okt pl le so st H (i + 1) p h ↔ (r_okt pl le so st H i p h ∧ (pl i = p → (le i ≤ st h ↔ so i ≠ 0))) := by
  constructor
  · intro q
    exact ⟨⟨q.1, fun j j0 j1 e => q.2 j j0 (by omega) e⟩, q.2 i i0 (by omega)⟩
  · intro q
    refine ⟨q.1.1, fun j j0 j1 e => ?_⟩
    by_cases c : j < i
    · exact q.1.2 j j0 c e
    · rw [show j = i by omega] at e ⊢
      exact q.2 e
theorem r_lrnS (T : q_lrx pl le so st f H l i p x) (i0 : 0 ≤ i) (p0 : 0 ≤ p) (pp : pl i = p) (pl1 : p < l) (l6 : l ≤ 6) (F : f p = y) (yb : 0 ≤ y ∧ y < 64) (hy : ∀ h : Int, 0 ≤ h → h < 6 → (r_bit y h ↔ (r_bit x h ∧ (h < H → (le i ≤ st h ↔ so i ≠ 0))))) : q_lrn pl le so st f H l (i + 1) := by
  obtain ⟨h1, h2, h3⟩ := T
  refine ⟨fun j j0 j1 => ?_, fun p' a0 a1 => ?_⟩
  · by_cases c : j < i
    · exact h1 j j0 c
    · rw [show j = i by omega, pp]; exact ⟨p0, pl1⟩
  · by_cases c : p' = p
    · subst c
      rw [F]
      refine ⟨yb, fun h b0 b6 => ?_⟩
      rw [hy h b0 b6, h3.2 h b0 b6, r_okt_s i0]
      constructor
      · intro q
        exact ⟨q.1, fun _ => q.2 q.1.1.2⟩
      · intro q
        exact ⟨q.1, fun _ => q.2 pp⟩
    · have h4 := h2 p' a0 a1 c
      refine ⟨h4.1, fun h b0 b6 => ?_⟩
      rw [h4.2 h b0 b6, r_okt_s i0]
      exact ⟨fun q => ⟨q, fun e => absurd (pp.symm.trans e).symm c⟩, fun q => q.1⟩
theorem r_lrnY (T : q_lrx pl le so st f H l i p x) (H0 : 0 ≤ H) (H6 : H ≤ 6) (i0 : 0 ≤ i) (p0 : 0 ≤ p) (pp : pl i = p) (pl1 : p < l) (l6 : l ≤ 6) (F : f p = y) (eb : u = g_bt (fun h => if le i ≤ st h then 1 else 0) H.toNat) (sb : so i ≠ 0) (ey : g_op 101 x u = y) : q_lrn pl le so st f H l (i + 1) := by
  have xb := T.2.2.1
  have ub := r_hob_b H0 H6 eb
  obtain ⟨yb, h9⟩ := r_and xb.1 xb.2 ub.1 ub.2 ey
  refine r_lrnS T i0 p0 pp pl1 l6 F yb fun h h0 h6 => ?_
  rw [h9 h h0 h6, r_hob_bit H0 H6 eb h0 h6]
  have hx := T.2.2.2 h h0 h6
  constructor
  · rintro ⟨a, b, c⟩
    exact ⟨a, fun _ => ⟨fun _ => sb, fun _ => c⟩⟩
  · rintro ⟨a, b⟩
    have c := (hx.mp a).1.2
    exact ⟨a, c, (b c).mpr sb⟩
theorem r_lrnN {nn : Int} (T : q_lrx pl le so st f H l i p x) (H0 : 0 ≤ H) (H6 : H ≤ 6) (i0 : 0 ≤ i) (p0 : 0 ≤ p) (pp : pl i = p) (pl1 : p < l) (l6 : l ≤ 6) (F : f p = y) (eb : u = g_bt (fun h => if le i ≤ st h then 1 else 0) H.toNat) (sb : so i = 0) (en : g_op 103 u (-1) = nn) (ey : g_op 101 x nn = y) : q_lrn pl le so st f H l (i + 1) := by
  have xb := T.2.2.1
  have ub := r_hob_b H0 H6 eb
  obtain ⟨yb, h9⟩ := r_andn xb.1 xb.2 ub.1 ub.2 en ey
  refine r_lrnS T i0 p0 pp pl1 l6 F yb fun h h0 h6 => ?_
  rw [h9 h h0 h6, r_hob_bit H0 H6 eb h0 h6]
  have hx := T.2.2.2 h h0 h6
  constructor
  · rintro ⟨a, b⟩
    exact ⟨a, fun c => ⟨fun d => absurd ⟨c, d⟩ b, fun d => absurd sb d⟩⟩
  · rintro ⟨a, b⟩
    refine ⟨a, fun c => ?_⟩
    exact ((b c.1).mp c.2) sb
theorem r_frY {so1 : Int} (T0 : q_lrn pl le so st f H l k) (H0 : 0 ≤ H) (H6 : H ≤ 6) (l1 : 1 ≤ l) (l6 : l ≤ 6) (eb : so1 = g_bt (fun h => if w ≤ st h then 1 else 0) H.toNat) (T2 : q_nct f l 0 1 g r) (T3 : q_src s f l 0 1 so1) : (0 ≤ g ∧ g ≤ 46656) ∧ q_rws pl le so st H k l g r ∧ q_sor pl le so st s H k l w := by
  have hK := r_lrn_K T0 l6
  obtain ⟨-, e1, e2⟩ := T2
  obtain ⟨-, e3⟩ := T3
  rw [r_l0] at e1 e2
  have b := r_cs_b (K := r_K (r_okc f) l) (a := 0) (r_6 l.toNat).toNat
  have b6 := r_6_b l6
  have b1 := r_6_pos l.toNat
  rw [← e1] at b
  refine ⟨⟨by omega, by omega⟩, ⟨by rw [e1]; exact r_cs_cg hK _, by rw [e2]; exact r_fr_cg hK _⟩, fun t t0 t1 => ?_⟩
  rw [e3 t t0 t1, r_l0]
  refine r_cs_cg (fun n => ?_) _
  constructor
  · rintro ⟨c1, c2⟩
    rw [r_hob_bit H0 H6 eb r_D_b.1 r_D_b.2] at c2
    exact ⟨(hK n).mp c1, c2.2⟩
  · rintro ⟨c1, c2⟩
    refine ⟨(hK n).mpr c1, ?_⟩
    rw [r_hob_bit H0 H6 eb r_D_b.1 r_D_b.2]
    exact ⟨(c1.2.2.1 t t0 t1).1.2, c2⟩
theorem r_lrf_no (T : q_lrf pl k l) (n : Int) : ¬ r_Kt pl le so st H k l n := fun c => by
  obtain ⟨j, ⟨j0, j1⟩, h⟩ := T
  exact h (c.1 j j0 j1)
theorem r_frN (T0 : q_lrf pl k l) (l6 : l ≤ 6) (T1 : ∀ t : Int, 0 ≤ t → t < 6 → s t = 0) : q_rws pl le so st H k l 0 (-2) ∧ q_sor pl le so st s H k l w := by
  have a := r_cs_no (fun n => r_lrf_no (le := le) (so := so) (st := st) (H := H) T0 n) (r_6 l.toNat).toNat
  refine ⟨⟨a.1.symm, a.2.symm⟩, fun t t0 t1 => ?_⟩
  rw [T1 t t0 (by omega)]
  exact (r_cs_no (K := r_Ka pl le so st H k l w t) (fun n c => r_lrf_no T0 n c.1) _).1.symm
end ZS3
