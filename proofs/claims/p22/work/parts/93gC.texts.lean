/-! ===== what a text tells: how many statements; numbers; HAIR and STRONG ===== -/
section ZMD
variable {b : Int → Int} {v : zVw} {n c d st mo op H L W WP S kd s x k u w j : Int}
theorem c_S0 (hs : S = a_S b n (d - 1).toNat) (h : q_run b n d 0 mo op H L W WP) (h0 : 0 ≤ d - 1) : S + 1 = a_S b n d.toNat := by
  obtain ⟨-, Q, e, e1, -⟩ := h
  have z : Q.1 = 0 := a_efq0 e1 (by omega)
  have ed : d.toNat = (d - 1).toNat + 1 := by omega
  rw [ed] at e ⊢
  rw [a_S_s e, if_pos z, hs]
theorem c_S1 (hs : S = a_S b n (d - 1).toNat) (h : q_run b n d st mo op H L W WP) (h1 : st ≠ 0) (h0 : 0 ≤ d - 1) : S = a_S b n d.toNat := by
  obtain ⟨-, Q, e, e1, -⟩ := h
  have z : Q.1 ≠ 0 := by
    intro z
    rw [z, a_ef_s (by omega)] at e1
    unfold a_ef at e1
    split at e1 <;> omega
  have ed : d.toNat = (d - 1).toNat + 1 := by omega
  rw [ed] at e ⊢
  rw [a_S_s e, if_neg z, hs]
/-- one TOKEN back -/
theorem a_bk {t : Int} {i : Nat} {Q : zQ} (h : a_run b n (i + 1) = some Q) (ht : Q.1 = t) (h2 : 2 ≤ t ∧ t ≤ 4) : ∃ Q0, a_run b n i = some Q0 ∧ Q0.1 = t - 1 ∧ tk b n i = a_one (t - 1) := by
  obtain ⟨Q0, h0, -, ha, e⟩ := a_run_pre h
  have e1 : Q.1 = a_st (a_ef Q0.1 (tk b n i)) Q0.2.1 Q0.2.2.1 (tk b n i) := by rw [e, a_nx_1]
  have hv := (a_vs_e (kd := tk b n i) (a_vs_ok h0)).1
  rw [ht] at e1
  unfold a_at at ha
  have hE : a_ef Q0.1 (tk b n i) = t - 1 := by
    generalize a_ef Q0.1 (tk b n i) = E at e1 hv
    generalize tk b n i = kd at e1
    generalize Q0.2.1 = mo at e1
    generalize Q0.2.2.1 = op at e1
    unfold a_vs at hv
    unfold a_st at e1
    by_cases s0 : E = 0
    · rw [if_pos s0] at e1
      exfalso
      have : ∀ z : Int, z = (if kd = 256 then 1 else if kd = 257 then 5 else if kd = 258 then 9 else if kd = 259 then 10 else if kd = 264 then 11 else if kd = 265 then 12 else 20 : Int) → z < 2 ∨ 4 < z := fun z hz => by
        rw [hz]
        repeat (first | omega | split)
      have := this t e1
      omega
    · rw [if_neg s0] at e1
      by_cases s1 : E < 20
      · rw [if_pos s1] at e1
        by_cases s2 : E = 4 ∨ E = 8 ∨ E = 13
        · rw [if_pos s2] at e1
          omega
        · rw [if_neg s2] at e1
          by_cases s3 : 9 ≤ E
          · rw [if_pos s3] at e1
            omega
          · rw [if_neg s3] at e1
            omega
      · rw [if_neg s1] at e1
        exfalso
        have : ∀ z : Int, z = (if E = 20 then 30 else if E < 200 then E + 171 else if mo = 0 then E else if a_p kd = true then E else if 1 ≤ op then E else if E ≤ 304 then E + 100 else if E ≤ 404 then E - 370 else 0 : Int) → z < 2 ∨ 4 < z := fun z hz => by
          rw [hz]
          repeat (first | omega | split)
        have := this t e1
        omega
  have hq : Q0.1 = t - 1 := by
    have := a_ef_lt (st := Q0.1) (kd := tk b n i) (by omega)
    omega
  refine ⟨Q0, h0, hq, ?_⟩
  rw [hq, a_cl_1 (by omega) (by omega)] at ha
  split at ha
  · assumption
  · cases ha
theorem a_nm4 (h : q_run b n (d - 1) 4 0 0 H L W WP) : tk b n (d - 4).toNat = 2 ∧ 3 ≤ d - 1 := by
  obtain ⟨c0, Q, e, e1, -⟩ := h
  have z : Q.1 = 4 := a_efq0 e1 (by omega)
  have h3 : 3 ≤ (d - 1).toNat := by
    rcases Nat.lt_or_ge (d - 1).toNat 3 with g | g
    · exfalso
      have h012 : (d - 1).toNat = 0 ∨ (d - 1).toNat = 1 ∨ (d - 1).toNat = 2 := by omega
      have z0 : ∀ Q0, a_run b n 0 = some Q0 → Q0.1 = 0 := fun Q0 h => by cases h; rfl
      rcases h012 with g1 | g1 | g1
      · rw [g1] at e
        have := z0 Q e
        omega
      · rw [g1] at e
        obtain ⟨Q1, f1, f2, -⟩ := a_bk (i := 0) e z (by omega)
        have := z0 Q1 f1
        omega
      · rw [g1] at e
        obtain ⟨Q1, f1, f2, -⟩ := a_bk (i := 1) e z (by omega)
        obtain ⟨Q2, f3, f4, -⟩ := a_bk (i := 0) f1 f2 (by omega)
        have := z0 Q2 f3
        omega
    · exact g
  rw [show (d - 1).toNat = (d - 4).toNat + 2 + 1 by omega] at e
  obtain ⟨Q1, f1, f2, -⟩ := a_bk e z (by omega)
  obtain ⟨Q2, f3, f4, -⟩ := a_bk (i := (d - 4).toNat + 1) f1 f2 (by omega)
  obtain ⟨Q3, f5, f6, f7⟩ := a_bk (i := (d - 4).toNat) f3 f4 (by omega)
  refine ⟨?_, by omega⟩
  rw [f7]
  rfl
theorem c_hsM {f g : Int → Int} {st2 mo2 op2 L2 W2 P2 : Int} (h : q_hs b n c H f g) (h1 : q_run b n d st mo op H L W WP) (h2 : q_run b n c st2 mo2 op2 H L2 W2 P2) (hc : c ≤ d) : q_hs b n d H f g := ⟨c_nmsM h.1 h1 h2 hc, c_nmsM h.2 h1 h2 hc⟩
theorem c_hsH {f g : Int → Int} {st2 mo2 op2 L2 W2 P2 y z : Int} (h : q_hs b n c H f g) (h1 : q_run b n (d - 1) 4 0 0 H L W WP) (hk : tk b n (d - 1).toNat = 59) (h2 : q_run b n c st2 mo2 op2 H L2 W2 P2) (hc : c ≤ d - 1) (h4 : d ≤ 400) (hy : y = tx b n (d - 3).toNat) (hz : z = tx b n (d - 2).toNat) (hf : f H = y) (hg : g H = z) : q_hs b n d (H + 1) f g := by
  obtain ⟨t2, t3⟩ := a_nm4 h1
  refine ⟨c_nmsH (c_nmsM h.1 h1 h2 hc) h1 hk h4 t2 ?_, c_nmsH (c_nmsM h.2 h1 h2 hc) h1 hk h4 t2 ?_⟩
  · rw [hf, hy, show (d - 3).toNat = (d - 4).toNat + 1 by omega]
  · rw [hg, hz, show (d - 2).toNat = (d - 4).toNat + 2 by omega]
theorem c_hs0 {f g : Int → Int} (h : q_run b n c 0 0 0 0 L W WP) : q_hs b n c 0 f g := by
  obtain ⟨-, q, e9, -, -, -, e8, -⟩ := h
  have hl := a_run_H e9
  refine ⟨⟨q, e9, e8, fun i m hm => ?_⟩, ⟨q, e9, e8, fun i m hm => ?_⟩⟩
  · have := (List.getElem?_eq_some_iff.mp hm).1
    omega
  · have := (List.getElem?_eq_some_iff.mp hm).1
    omega
theorem c_fhs {f g : Int → Int} (h : q_hs b n c H f g) (hr : q_run b n c st mo op H L W WP) (hk : tk b n c.toNat = 0) : q_fhs b n H f g := by
  obtain ⟨c0, Q, e, -⟩ := hr
  refine ⟨c.toNat, ⟨⟨Q, e⟩, hk⟩, ?_⟩
  rw [show ((c.toNat : Nat) : Int) = c by omega]
  exact h
/-- two rows that hold the same -/
theorem c_fhsU {f g f' g' : Int → Int} (h : q_fhs b n H f g) (h' : q_fhs b n H f' g') (i : Int) (i0 : 0 ≤ i) (i1 : i < H) : f i = f' i ∧ g i = g' i := by
  obtain ⟨c, he, ⟨Q, e, hH, h1⟩, ⟨Q2, f2, -, h2⟩⟩ := h
  obtain ⟨c', he', ⟨Q', e', -, h1'⟩, ⟨Q2', f2', -, h2'⟩⟩ := h'
  have hc := q_end_u he he'
  subst hc
  rw [e] at e' f2 f2'
  cases e'
  cases f2
  cases f2'
  have hl := a_run_H e
  have hlt : i.toNat < Q.2.2.2.2.2.2.2.length := by omega
  have g1 := (h1 i.toNat _ (List.getElem?_eq_getElem hlt)).2
  have g2 := (h2 i.toNat _ (List.getElem?_eq_getElem hlt)).2
  have g3 := (h1' i.toNat _ (List.getElem?_eq_getElem hlt)).2
  have g4 := (h2' i.toNat _ (List.getElem?_eq_getElem hlt)).2
  rw [show ((i.toNat : Nat) : Int) = i by omega] at g1 g2 g3 g4
  exact ⟨by rw [g1, g3], by rw [g2, g4]⟩
/-! numbers -/
theorem a_nu_s {i : Nat} {Q : zQ} (h : a_run b n i = some Q) : a_nu b n (i + 1) = if a_ef Q.1 (tk b n i) = 13 then fun k => if a_sn (tk b n (i - 2)) = k then tx b n (i - 1) else a_nu b n i k else a_nu b n i := by
  show (match a_run b n i with
    | none => a_nu b n i
    | some q => if a_ef q.1 (tk b n i) = 13 then fun k => if a_sn (tk b n (i - 2)) = k then tx b n (i - 1) else a_nu b n i k else a_nu b n i) = _
  rw [h]
theorem c_nuS (h : q_run b n (d - 1) 13 0 0 H L W WP) (hk : tk b n (d - 3).toNat = kd) (hs : a_sn kd = k) (hu : u = tx b n (d - 2).toNat) (hd : 3 ≤ d) : u = a_nu b n d.toNat k := by
  obtain ⟨c0, Q, e, e1, -⟩ := h
  rw [show d.toNat = (d - 1).toNat + 1 by omega, a_nu_s e, e1, a_ef_s (by omega), if_pos rfl]
  try dsimp only
  rw [show (d - 1).toNat - 2 = (d - 3).toNat by omega, hk, if_pos hs, show (d - 1).toNat - 1 = (d - 2).toNat by omega]
  exact hu
/-- no place 14 .. 19 -/
theorem a_v13 : ∀ {c : Nat} {q : zQ}, a_run b n c = some q → q.1 ≤ 13 ∨ 20 ≤ q.1
  | 0, q, h => by
    cases h
    exact Or.inl (by decide)
  | c + 1, q, h => by
    obtain ⟨Q0, h0, -, -, e⟩ := a_run_pre h
    have e1 : q.1 = a_st (a_ef Q0.1 (tk b n c)) Q0.2.1 Q0.2.2.1 (tk b n c) := by rw [e, a_nx_1]
    have ih := a_v13 h0
    have hE : a_ef Q0.1 (tk b n c) ≤ 13 ∨ 20 ≤ a_ef Q0.1 (tk b n c) := by
      unfold a_ef
      split <;> omega
    rw [e1]
    have hv := (a_vs_e (kd := tk b n c) (a_vs_ok h0)).1
    unfold a_vs at hv
    generalize a_ef Q0.1 (tk b n c) = E at hE hv ⊢
    unfold a_st
    repeat (first | omega | split)
/-- a number's end: its statement began two TOKENS ahead -/
theorem a_13 {i : Nat} {Q : zQ} (h : a_run b n i = some Q) (hq : Q.1 = 13) : ∃ i0 Q0 Q1, i = i0 + 2 ∧ a_run b n i0 = some Q0 ∧ Q0.1 = 0 ∧ a_run b n (i0 + 1) = some Q1 ∧ Q1.1 ≠ 0 := by
  cases i with
  | zero => cases h; cases hq
  | succ i =>
    obtain ⟨Q1, h1, -, -, e⟩ := a_run_pre h
    have e1 : Q.1 = a_st (a_ef Q1.1 (tk b n i)) Q1.2.1 Q1.2.2.1 (tk b n i) := by rw [e, a_nx_1]
    have hv := (a_vs_e (kd := tk b n i) (a_vs_ok h1)).1
    have hE : 9 ≤ a_ef Q1.1 (tk b n i) ∧ a_ef Q1.1 (tk b n i) ≤ 12 := by
      rw [hq] at e1
      have hx : a_ef Q1.1 (tk b n i) ≤ 13 ∨ 20 ≤ a_ef Q1.1 (tk b n i) := by
        have := a_v13 h1
        unfold a_ef
        split <;> omega
      generalize a_ef Q1.1 (tk b n i) = E at e1 hv hx
      generalize tk b n i = kd at e1
      generalize Q1.2.1 = mo at e1
      generalize Q1.2.2.1 = op at e1
      unfold a_vs at hv
      unfold a_st at e1
      by_cases s0 : E = 0
      · rw [if_pos s0] at e1
        exfalso
        have : ∀ z : Int, z = (if kd = 256 then 1 else if kd = 257 then 5 else if kd = 258 then 9 else if kd = 259 then 10 else if kd = 264 then 11 else if kd = 265 then 12 else 20 : Int) → z < 13 ∨ 13 < z := fun z hz => by
          rw [hz]
          repeat (first | omega | split)
        have := this 13 e1
        omega
      · rw [if_neg s0] at e1
        by_cases s1 : E < 20
        · rw [if_pos s1] at e1
          by_cases s2 : E = 4 ∨ E = 8 ∨ E = 13
          · rw [if_pos s2] at e1
            omega
          · rw [if_neg s2] at e1
            by_cases s3 : 9 ≤ E
            · omega
            · rw [if_neg s3] at e1
              omega
        · rw [if_neg s1] at e1
          exfalso
          have : ∀ z : Int, z = (if E = 20 then 30 else if E < 200 then E + 171 else if mo = 0 then E else if a_p kd = true then E else if 1 ≤ op then E else if E ≤ 304 then E + 100 else if E ≤ 404 then E - 370 else 0 : Int) → z < 13 ∨ 13 < z := fun z hz => by
            rw [hz]
            repeat (first | omega | split)
          have := this 13 e1
          omega
    have hq1 : 9 ≤ Q1.1 ∧ Q1.1 ≤ 12 := by
      have := a_ef_lt (st := Q1.1) (kd := tk b n i) (by omega)
      omega
    cases i with
    | zero =>
      cases h1
      exact absurd hq1.1 (by decide)
    | succ i =>
      obtain ⟨Q0, h0, -, -, e'⟩ := a_run_pre h1
      have e2 : Q1.1 = a_st (a_ef Q0.1 (tk b n i)) Q0.2.1 Q0.2.2.1 (tk b n i) := by rw [e', a_nx_1]
      have hv0 := (a_vs_e (kd := tk b n i) (a_vs_ok h0)).1
      have hE0 : a_ef Q0.1 (tk b n i) = 0 := by
        generalize a_ef Q0.1 (tk b n i) = E at e2 hv0
        generalize tk b n i = kd at e2
        generalize Q0.2.1 = mo at e2
        generalize Q0.2.2.1 = op at e2
        generalize Q1.1 = t at e2 hq1
        unfold a_vs at hv0
        unfold a_st at e2
        by_cases s0 : E = 0
        · exact s0
        · rw [if_neg s0] at e2
          by_cases s1 : E < 20
          · rw [if_pos s1] at e2
            by_cases s2 : E = 4 ∨ E = 8 ∨ E = 13
            · rw [if_pos s2] at e2
              omega
            · rw [if_neg s2] at e2
              by_cases s3 : 9 ≤ E
              · rw [if_pos s3] at e2
                omega
              · rw [if_neg s3] at e2
                omega
          · rw [if_neg s1] at e2
            exfalso
            have : ∀ z : Int, z = (if E = 20 then 30 else if E < 200 then E + 171 else if mo = 0 then E else if a_p kd = true then E else if 1 ≤ op then E else if E ≤ 304 then E + 100 else if E ≤ 404 then E - 370 else 0 : Int) → z < 9 ∨ 12 < z := fun z hz => by
              rw [hz]
              repeat (first | omega | split)
            have := this t e2
            omega
      have hq0 : Q0.1 = 0 := by
        have := a_ef_lt (st := Q0.1) (kd := tk b n i) (by omega)
        omega
      exact ⟨i, Q0, Q1, rfl, h0, hq0, h1, by omega⟩
theorem c_nuM {H2 L2 W2 P2 S2 : Int} (hw : w = a_nu b n c.toNat k) (hr : q_run b n c 0 0 0 H L W WP) (hs : S = a_S b n c.toNat) (hr2 : q_run b n d 0 0 0 H2 L2 W2 P2) (hs2 : S2 = a_S b n d.toNat) (hk : tk b n c.toNat = kd) (hd : c ≤ d) (h2 : S2 = S + 1) (h3 : a_sn kd ≠ k) : w = a_nu b n d.toNat k := by
  obtain ⟨c0, Q, e0, e1, -⟩ := hr
  obtain ⟨d0, Q', g0, g1, -⟩ := hr2
  have z1 : Q.1 = 0 := a_efq0 e1 (by omega)
  have z2 : Q'.1 = 0 := a_efq0 g1 (by omega)
  obtain ⟨i, hi⟩ : ∃ i, d.toNat = c.toNat + i := ⟨d.toNat - c.toNat, by omega⟩
  rw [hi] at g0 hs2
  rw [hw, hi]
  generalize c.toNat = m at *
  have key : ∀ r : Nat, r ≤ i → a_nu b n (m + r) k = a_nu b n m k := by
    intro r
    induction r with
    | zero => intro _; rfl
    | succ r ih =>
      intro hr
      have ih := ih (by omega)
      have hrun : ∃ Qr, a_run b n (m + r) = some Qr := by
        rw [show m + i = m + r + (i - r) by omega] at g0
        exact a_run_down g0
      obtain ⟨Qr, hq⟩ := hrun
      show a_nu b n (m + r + 1) k = _
      rw [a_nu_s hq]
      split
      · next h13 =>
        have hq13 : Qr.1 = 13 := by
          have := a_ef_lt (st := Qr.1) (kd := tk b n (m + r)) (by omega)
          omega
        obtain ⟨i0, Q0, Q1, f1, f2, f3, f4, f5⟩ := a_13 hq hq13
        have hm : i0 = m := by
          rcases Nat.lt_trichotomy i0 m with l | l | l
          · exfalso
            have hc2 : i0 + 1 = m ∨ i0 + 2 = m := by omega
            rcases hc2 with l2 | l2
            · rw [l2, e0] at f4
              cases f4
              exact f5 z1
            · have : m + r = m := by omega
              rw [this, e0] at hq
              cases hq
              omega
          · exact l
          · exfalso
            obtain ⟨i1, rfl⟩ : ∃ i1, i0 = i1 + 1 := ⟨i0 - 1, by omega⟩
            have s1 := a_S_s f2
            rw [if_pos f3] at s1
            have s2 : a_S b n m ≤ a_S b n i1 := by
              obtain ⟨Q3, f6, -⟩ := a_run_pre f2
              rw [show i1 = m + (i1 - m) by omega] at f6 ⊢
              exact a_S_le f6
            have s3 : a_S b n (i1 + 1) ≤ a_S b n (m + i - 1) := by
              have g0' := g0
              rw [show m + i = (m + i - 1) + 1 by omega] at g0'
              obtain ⟨Q3, f6, -⟩ := a_run_pre g0'
              rw [show m + i - 1 = i1 + 1 + (m + i - 1 - (i1 + 1)) by omega] at f6 ⊢
              exact a_S_le f6
            have s4 : a_S b n (m + i) = a_S b n (m + i - 1) + 1 := by
              have g0' := g0
              rw [show m + i = (m + i - 1) + 1 by omega] at g0' ⊢
              rw [a_S_s g0', if_pos z2]
              rfl
            omega
        dsimp only
        rw [if_neg, ih]
        rw [show m + r - 2 = m by omega, hk]
        exact h3
      · exact ih
  exact (key i (Nat.le_refl _)).symm
theorem c_nuE {kk : Int} (h : ∃ c : Nat, q_end b n c ∧ w = a_nu b n c kk) (h' : ∃ c : Nat, q_end b n c ∧ u = a_nu b n c kk) : w = u := by
  obtain ⟨c, he, hw⟩ := h
  obtain ⟨c', he', hu⟩ := h'
  have hc := q_end_u he he'
  subst hc
  rw [hw, hu]
end ZMD
