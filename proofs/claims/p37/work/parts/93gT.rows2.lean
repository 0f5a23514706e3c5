/-! ===== ROWS that FIT, gone through number by number ===== -/
section ZT9
variable {pl le so st dg s ab : Int → Int} {H k l p i j g r w n x y z u h t d m a b c f e : Int}
theorem r_dgs0 (l1 : 1 ≤ l) (l6 : l ≤ 6) (H0 : 0 ≤ H) (H6 : H ≤ 6) (n0 : 0 ≤ n) (n1 : n < r_6 l.toNat) : q_dgs dg H l n (l - 1) n 0 := by
  refine ⟨⟨⟨⟨n0, n1⟩, ⟨l1, l6⟩, ⟨H0, H6⟩, by omega, by omega⟩, fun t t0 t1 => by omega, fun t t' a1 a2 a3 => by omega⟩, ?_, ⟨by omega, by omega⟩, fun h h0 h6 => ?_⟩
  · rw [show (l - 1 - (l - 1)).toNat = 0 by omega]
    show n = n / 1
    rw [Int.ediv_one]
  · constructor
    · intro c
      unfold r_bit at c
      rw [Int.zero_ediv] at c
      omega
    · rintro ⟨t, ⟨t0, t1⟩, -⟩
      omega
theorem r_dgs_n (T : q_dgs dg H l n i a b) : 0 ≤ a ∧ a ≤ 46656 := by
  obtain ⟨⟨⟨⟨n0, n1⟩, ⟨l1, l6⟩, -⟩, -⟩, e1, -⟩ := T
  have h1 := r_6_pos (l - 1 - i).toNat
  have h2 := r_6_b l6
  have h3 : 0 ≤ n / r_6 (l - 1 - i).toNat := Int.ediv_nonneg n0 (by omega)
  have h4 : n / r_6 (l - 1 - i).toNat ≤ n := Int.ediv_le_self _ n0
  rw [← e1] at h3 h4
  omega
theorem r_dgs_d (T : q_dgs dg H l n i a b) (ed : g_op 108 a 6 = d) : d = r_D l n i := by
  have h1 := r_dgs_n T
  have h2 := g_op_rem (a := a) (b := 6) (by omega) (by omega) (by omega) (by omega)
  rw [← ed, h2, T.2.1]
  rfl
theorem r_ftrH (T : q_dgs dg H l n i a b) (ed : g_op 108 a 6 = d) (i0 : 0 ≤ i) (i1 : i < l) (hd : H ≤ d) : q_ftr pl le so st H k l n 0 := by
  refine Or.inr ⟨rfl, fun c => ?_⟩
  have h1 := (c.2.2.1 i i0 i1).1.2
  rw [← r_dgs_d T ed] at h1
  omega
theorem r_ftrD (T : q_dgs dg H l n i a b) (ed : g_op 108 a 6 = d) (i0 : 0 ≤ i) (hb : r_bit b d) : q_ftr pl le so st H k l n 0 := by
  refine Or.inr ⟨rfl, fun c => ?_⟩
  have e1 := r_dgs_d T ed
  have d6 := r_D_b (l := l) (n := n) (i := i)
  rw [← e1] at d6
  obtain ⟨t, ⟨t0, t1⟩, e2⟩ := (T.2.2.2 d d6.1 d6.2).mp hb
  exact c.2.2.2 i t i0 t0 t1 (by rw [e2]; exact e1.symm)
theorem r_dgsS {n1 b2 a2 : Int} (T : q_dgs dg H l n i a b) (ed : g_op 108 a 6 = d) (ea : g_op 107 a 6 = a2) (i0 : 0 ≤ i) (i1 : i < l) (hd : d < H) (hb : ¬ r_bit b d) (en : g_op 104 1 d = n1) (eb : g_op 102 b n1 = b2) (F : dg i = d) : (0 ≤ b2 ∧ b2 < 64) ∧ q_dgs dg H l n (i - 1) a2 b2 := by
  have e1 := r_dgs_d T ed
  have an := r_dgs_n T
  have d6 := r_D_b (l := l) (n := n) (i := i)
  rw [← e1] at d6
  obtain ⟨⟨⟨q1, q2, q3, q4, q5⟩, q6, q7⟩, q8, q9, q10⟩ := T
  obtain ⟨bb, h9⟩ := r_or q9.1 q9.2 d6.1 d6.2 en eb
  have h2 := g_op_div (a := a) (b := 6) (by omega) (by omega) (by omega) (by omega)
  refine ⟨bb, ⟨⟨q1, q2, q3, by omega, by omega⟩, fun t t0 t1 => ?_, fun t t' a1 a3 a4 => ?_⟩, ?_, bb, fun h h0 h6 => ?_⟩
  · by_cases c : t = i
    · rw [c, F, ← e1]; exact ⟨rfl, hd⟩
    · exact q6 t (by omega) t1
  · by_cases c : t = i
    · rw [c, ← e1]
      intro e2
      exact hb ((q10 d d6.1 d6.2).mpr ⟨t', ⟨by omega, a4⟩, e2.symm⟩)
    · exact q7 t t' (by omega) a3 a4
  · rw [← ea, h2, q8, show (l - 1 - (i - 1)).toNat = (l - 1 - i).toNat + 1 by omega]
    have h3 := r_6_pos (l - 1 - i).toNat
    rw [r_dd (by omega)]
    show n / (r_6 (l - 1 - i).toNat * 6) = n / (6 * r_6 (l - 1 - i).toNat)
    rw [Int.mul_comm]
  · rw [h9 h h0 h6, q10 h h0 h6]
    constructor
    · rintro (⟨t, ⟨t0, t1⟩, e2⟩ | e2)
      · exact ⟨t, ⟨by omega, t1⟩, e2⟩
      · exact ⟨i, ⟨by omega, i1⟩, by rw [← e1]; exact e2.symm⟩
    · rintro ⟨t, ⟨t0, t1⟩, e2⟩
      by_cases c : t = i
      · right
        rw [c, ← e1] at e2
        exact e2.symm
      · exact Or.inl ⟨t, ⟨by omega, t1⟩, e2⟩
theorem r_dga (T : q_dgs dg H l n i a b) (hi : i ≤ -1) : q_dgd dg H l n (-1) ∧ q_ft2 pl le so st H l n 0 := by
  have T1 := T.1
  rw [show i = -1 by have := T1.1.2.2.2.1; omega] at T1
  refine ⟨T1, ⟨T1.1.2.1, ⟨T1.1.1, fun t t0 t1 => ⟨r_D_b.1, (T1.2.1 t (by omega) t1).2⟩, fun t t' t0 t1 t2 => T1.2.2 t t' (by omega) t1 t2⟩⟩, fun j j0 j1 => by omega⟩
theorem r_ftrP (T : q_ft2 pl le so st H l n j) (j0 : 0 ≤ j) (j1 : j < k) (P : pl j = p) (hp : l ≤ p) : q_ftr pl le so st H k l n 0 := by
  refine Or.inr ⟨rfl, fun c => ?_⟩
  have := (c.1 j j0 j1).2
  omega
theorem r_ftN (j0 : 0 ≤ j) (j1 : j < k) (P : pl j = p) (p0 : 0 ≤ p) (hp : p < l) (hne : ¬ (le j ≤ st (r_D l n p) ↔ so j ≠ 0)) : q_ftr pl le so st H k l n 0 := by
  refine Or.inr ⟨rfl, fun c => ?_⟩
  exact hne ((c.2.2.1 p p0 hp).2 j j0 j1 P)
theorem r_ftS (T : q_ft2 pl le so st H l n j) (j0 : 0 ≤ j) (P : pl j = p) (p0 : 0 ≤ p) (hp : p < l) (he : le j ≤ st (r_D l n p) ↔ so j ≠ 0) : q_ft2 pl le so st H l n (j + 1) := by
  refine ⟨T.1, fun i i0 i1 => ?_⟩
  by_cases c : i < j
  · exact T.2 i i0 c
  · rw [show i = j by omega, P]
    exact ⟨⟨p0, hp⟩, he⟩
theorem r_ftrY (T : q_ft2 pl le so st H l n k) : q_ftr pl le so st H k l n 1 := by
  obtain ⟨⟨-, q1, q2, q3⟩, q4⟩ := T
  refine Or.inl ⟨rfl, fun j j0 j1 => (q4 j j0 j1).1, q1, fun i i0 i1 => ⟨q2 i i0 i1, fun j j0 j1 e1 => ?_⟩, q3⟩
  have := (q4 j j0 j1).2
  rw [e1] at this
  exact this
/-- what the digits and who is how STRONG come to -/
theorem r_dgst {sb : Int → Int} (T : q_dgd dg H l n (-1)) (S : q_stb sb st 6 H) (p0 : 0 ≤ p) (hp : p < l) (F : dg p = d) (G : sb d = x) : d = r_D l n p ∧ x = st d := by
  have h1 := T.2.1 p (by omega) hp
  have h2 := r_D_b (l := l) (n := n) (i := p)
  rw [← h1.1, F] at h2
  rw [F] at h1
  refine ⟨h1.1, ?_⟩
  rw [← G]
  refine S d h2.1 h2.2 ?_
  rw [h1.1]
  exact h1.2
/-! counted -/
theorem r_mct0 : q_mct pl le so st H k l (r_6 l.toNat) 0 (-2) := by
  have h := r_6_pos l.toNat
  refine ⟨⟨by omega, Int.le_refl _⟩, ?_, ?_⟩
  · rw [Int.sub_self]; rfl
  · rw [Int.sub_self]; rfl
theorem r_mctY (T0 : r_Kt pl le so st H k l n) (T1 : q_mct pl le so st H k l (n + 1) m r) (n0 : 0 ≤ n) (l6 : l ≤ 6) : (0 ≤ m ∧ m ≤ 46655) ∧ q_mct pl le so st H k l n (m + 1) n := by
  obtain ⟨⟨x0, x1⟩, e1, e2⟩ := T1
  have h6 := r_6_b l6
  have b9 := r_cs_b (K := r_Kt pl le so st H k l) (a := n + 1) (r_6 l.toNat - (n + 1)).toNat
  rw [← e1] at b9
  refine ⟨⟨by omega, by omega⟩, ⟨n0, by omega⟩, ?_, ?_⟩
  · rw [show (r_6 l.toNat - n).toNat = (r_6 l.toNat - (n + 1)).toNat + 1 by omega, r_cs_fY T0, ← e1]
  · rw [show (r_6 l.toNat - n).toNat = (r_6 l.toNat - (n + 1)).toNat + 1 by omega, r_fr_fY n0 T0]
theorem r_mctN (T0 : ¬ r_Kt pl le so st H k l n) (T1 : q_mct pl le so st H k l (n + 1) m r) (n0 : 0 ≤ n) : q_mct pl le so st H k l n m r := by
  obtain ⟨⟨x0, x1⟩, e1, e2⟩ := T1
  refine ⟨⟨n0, by omega⟩, ?_, ?_⟩
  · rw [show (r_6 l.toNat - n).toNat = (r_6 l.toNat - (n + 1)).toNat + 1 by omega, r_cs_fN T0, ← e1]
  · rw [show (r_6 l.toNat - n).toNat = (r_6 l.toNat - (n + 1)).toNat + 1 by omega, r_fr_fN n0 T0, ← e2]
theorem r_mctE (T : q_mct pl le so st H k l 0 m r) : q_rwc pl le so st H k l 0 m ∧ q_rwc pl le so st H k l 1 r := by
  obtain ⟨-, e1, e2⟩ := T
  rw [Int.sub_zero] at e1 e2
  exact ⟨by unfold q_rwc; rw [if_pos rfl]; exact e1, by unfold q_rwc; rw [if_neg (by decide)]; exact e2⟩
theorem r_ftr1 (T : q_ftr pl le so st H k l n 1) : r_Kt pl le so st H k l n := by
  rcases T with h | h
  · exact h.2
  · exact absurd h.1 (by decide)
theorem r_ftr0 (T : q_ftr pl le so st H k l n 0) : ¬ r_Kt pl le so st H k l n := by
  rcases T with h | h
  · exact absurd h.1 (by decide)
  · exact h.2
theorem r_ca_b (x0 : 0 ≤ x) : 0 ≤ r_ca pl le so st H k l w t x ∧ r_ca pl le so st H k l w t x ≤ x := r_cs_1b x0
theorem r_ca_le : r_ca pl le so st H k l w t x ≤ r_cs (r_Kt pl le so st H k l) 0 x.toNat := r_cs_le (fun _ c => c.1) _
theorem r_caY (x0 : 0 ≤ x) (k1 : r_Kt pl le so st H k l x) (c : w ≤ st (r_D l x t)) : r_ca pl le so st H k l w t (x + 1) = r_ca pl le so st H k l w t x + 1 := r_cs_1Y (K := r_Ka pl le so st H k l w t) x0 ⟨k1, c⟩
theorem r_caN (x0 : 0 ≤ x) (c : ¬ r_Ka pl le so st H k l w t x) : r_ca pl le so st H k l w t (x + 1) = r_ca pl le so st H k l w t x := r_cs_1N (K := r_Ka pl le so st H k l w t) x0 c
theorem r_abv0 (l6 : l ≤ 6) (T : ∀ t : Int, 0 ≤ t → t < 6 → ab t = 0) : q_abv pl le so st ab H k l w 0 ∧ q_pct pl le so st H k l 0 0 := by
  have h := r_6_pos l.toNat
  exact ⟨⟨⟨by omega, by omega⟩, fun t t0 t1 => by rw [T t t0 (by omega)]; rfl⟩, ⟨by omega, by omega⟩, rfl⟩
theorem r_abN (T0 : ¬ r_Kt pl le so st H k l x) (T1 : q_abv pl le so st ab H k l w x) (T2 : q_pct pl le so st H k l x f) (h : x < r_6 l.toNat) : q_abv pl le so st ab H k l w (x + 1) ∧ q_pct pl le so st H k l (x + 1) f := by
  have x0 := T1.1.1
  refine ⟨⟨⟨by omega, by omega⟩, fun t t0 t1 => ?_⟩, ⟨by omega, by omega⟩, ?_⟩
  · rw [T1.2 t t0 t1, r_caN x0 (fun c => T0 c.1)]
  · rw [r_cs_1N x0 T0]; exact T2.2
theorem r_abX (T0 : r_Kt pl le so st H k l x) (T1 : q_abv pl le so st ab H k l w x) (T2 : q_pct pl le so st H k l x f) (h : x < r_6 l.toNat) : (0 ≤ f ∧ f ≤ x) ∧ q_abx pl le so st ab H k l w x 0 ∧ q_pct pl le so st H k l (x + 1) (f + 1) := by
  have x0 := T1.1.1
  have b9 := r_cs_1b (K := r_Kt pl le so st H k l) x0
  rw [← T2.2] at b9
  refine ⟨b9, ⟨⟨⟨x0, h⟩, T0⟩, fun t t0 t1 => ?_⟩, ⟨by omega, by omega⟩, ?_⟩
  · rw [T1.2 t t0 t1, if_neg (by omega)]
  · rw [r_cs_1Y x0 T0, ← T2.2]
theorem r_abA (T : q_aby pl le so st ab H k l w x i y) (i0 : 0 ≤ i) (F : ab i = y + 1) (c : w ≤ st (r_D l x i)) : q_abx pl le so st ab H k l w x (i + 1) := by
  obtain ⟨h0, h1, h2⟩ := T
  refine ⟨h0, fun t t0 t1 => ?_⟩
  by_cases d : t = i
  · rw [d, F, if_pos (by omega), h2, r_caY h0.1.1 h0.2 c]
  · rw [h1 t t0 t1 d]
    by_cases d2 : t < i
    · rw [if_pos d2, if_pos (by omega)]
    · rw [if_neg d2, if_neg (by omega)]
theorem r_abB (T : q_abx pl le so st ab H k l w x i) (c : ¬ w ≤ st (r_D l x i)) : q_abx pl le so st ab H k l w x (i + 1) := by
  obtain ⟨h0, h1⟩ := T
  refine ⟨h0, fun t t0 t1 => ?_⟩
  rw [h1 t t0 t1]
  by_cases d : t = i
  · rw [if_neg (by omega), if_pos (by omega), d, r_caN h0.1.1 (fun e => c e.2)]
  · by_cases d2 : t < i
    · rw [if_pos d2, if_pos (by omega)]
    · rw [if_neg d2, if_neg (by omega)]
theorem r_abE (T : q_abx pl le so st ab H k l w x l) : q_abv pl le so st ab H k l w (x + 1) := by
  obtain ⟨h0, h1⟩ := T
  have := h0.1
  refine ⟨⟨by omega, by omega⟩, fun t t0 t1 => ?_⟩
  rw [h1 t t0 t1, if_pos t1]
/-! the place to feel -/
theorem r_bp_s {q : Int → Int} (i0 : 0 ≤ i) (e : r_bp f q i.toNat = (b, w)) : r_bp f q (i + 1).toNat = if (if f ≤ 2 * q i then q i else f - q i) < w then (i, if f ≤ 2 * q i then q i else f - q i) else (b, w) := by
  rw [show (i + 1).toNat = i.toNat + 1 by omega]
  show (if (if f ≤ 2 * q ((i.toNat : Nat) : Int) then q ((i.toNat : Nat) : Int) else f - q ((i.toNat : Nat) : Int)) < (r_bp f q i.toNat).2 then (((i.toNat : Nat) : Int), if f ≤ 2 * q ((i.toNat : Nat) : Int) then q ((i.toNat : Nat) : Int) else f - q ((i.toNat : Nat) : Int)) else r_bp f q i.toNat) = _
  rw [e, show ((i.toNat : Nat) : Int) = i by omega]
  first
    | done
    | rfl
theorem r_bp_z {q : Int → Int} (F : q i = x) (hz : (f ≤ 2 * x ∧ z = x) ∨ (2 * x ≤ f ∧ z = f - x)) : (if f ≤ 2 * q i then q i else f - q i) = z := by
  rw [F]
  split <;> omega
theorem r_bpY {q : Int → Int} (T : q_bpc q f i b w) (F : q i = x) (hz : (f ≤ 2 * x ∧ z = x) ∨ (2 * x ≤ f ∧ z = f - x)) (f1 : 1 ≤ f) (c : z < w) : q_bpc q f (i + 1) i z := by
  obtain ⟨⟨i0, e⟩, -⟩ := T
  refine ⟨⟨by omega, ?_⟩, fun d => by omega⟩
  rw [r_bp_s i0 e, r_bp_z F hz, if_pos c]
theorem r_bpN {q : Int → Int} (T : q_bpc q f i b w) (F : q i = x) (hz : (f ≤ 2 * x ∧ z = x) ∨ (2 * x ≤ f ∧ z = f - x)) (f1 : 1 ≤ f) (c : w ≤ z) : q_bpc q f (i + 1) b w := by
  obtain ⟨⟨i0, e⟩, -⟩ := T
  refine ⟨⟨by omega, ?_⟩, fun d => by omega⟩
  rw [r_bp_s i0 e, r_bp_z F hz, if_neg (by omega)]
theorem r_bp_cg {q q' : Int → Int} : ∀ n : Nat, (∀ t : Int, 0 ≤ t → t < n → q t = q' t) → r_bp f q n = r_bp f q' n
  | 0, _ => rfl
  | n + 1, h => by
    have e := r_bp_cg n (fun t t0 t1 => h t t0 (by omega))
    have e1 := h n (by omega) (by omega)
    show (if (if f ≤ 2 * q n then q n else f - q n) < (r_bp f q n).2 then ((n : Int), if f ≤ 2 * q n then q n else f - q n) else r_bp f q n) = (if (if f ≤ 2 * q' n then q' n else f - q' n) < (r_bp f q' n).2 then ((n : Int), if f ≤ 2 * q' n then q' n else f - q' n) else r_bp f q' n)
    rw [e, e1]
theorem r_fec {q : Int → Int} (l0 : 0 ≤ l) (e : r_bp f q l.toNat = (y, w) ∨ f ≤ 0) (e0 : f ≤ 0 → y = -2) (ef : f = r_cs (r_Kt pl le so st H k l) 0 (r_6 l.toNat).toNat) (es : ∀ t : Int, 0 ≤ t → t < l → q t = r_ca pl le so st H k l c t (r_6 l.toNat)) : q_fec pl le so st H k l c y := by
  unfold q_fec
  rw [← ef]
  by_cases h : 1 ≤ f
  · rw [if_pos h]
    have e9 := e.resolve_right (by omega)
    rw [← r_bp_cg (q := q) l.toNat (fun t t0 t1 => es t t0 (by omega)), e9]
    first
      | done
      | rfl
  · rw [if_neg h]
    exact e0 (by omega)
theorem r_bmY {q : Int → Int} (T : q_bpm q f i b w) (F : q i = x) (xb : 0 ≤ x ∧ x ≤ f) (hz : (f ≤ 2 * x ∧ z = x) ∨ (2 * x ≤ f ∧ z = f - x)) (f1 : 1 ≤ f) (c : b ≤ -1 ∨ z < w) : q_bpm q f (i + 1) i z := by
  obtain ⟨⟨i0, e⟩, -⟩ := T
  refine ⟨⟨by omega, Or.inr ⟨i0, ?_⟩⟩, fun d => by omega⟩
  rcases e with ⟨e1, e2⟩ | ⟨e1, e2⟩
  · subst e1
    have e3 : r_bp f q (0 : Int).toNat = (-2, f + 1) := rfl
    rw [r_bp_s (Int.le_refl _) e3, r_bp_z F hz, if_pos (by omega)]
  · rw [r_bp_s i0 e2, r_bp_z F hz, if_pos (by omega)]
theorem r_bmN {q : Int → Int} (T : q_bpm q f i b w) (F : q i = x) (hz : (f ≤ 2 * x ∧ z = x) ∨ (2 * x ≤ f ∧ z = f - x)) (f1 : 1 ≤ f) (b0 : 0 ≤ b) (c : w ≤ z) : q_bpm q f (i + 1) b w := by
  obtain ⟨⟨i0, e⟩, -⟩ := T
  refine ⟨⟨by omega, Or.inr ⟨b0, ?_⟩⟩, fun d => by omega⟩
  rcases e with ⟨e1, e2⟩ | ⟨e1, e2⟩
  · omega
  · rw [r_bp_s i0 e2, r_bp_z F hz, if_neg (by omega)]
end ZT9
