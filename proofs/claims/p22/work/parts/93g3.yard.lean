noncomputable section
/-! ===== the LAWS told: a fold over TOKENS ===== -/
section ZM4
variable {b : Int → Int} {v : zVw} {n c d st mo op H L W WP kd s x k : Int}
theorem a_nx_1 {Q : zQ} {j : Nat} : (a_nx b n Q j).1 = a_st (a_ef Q.1 (tk b n j)) Q.2.1 Q.2.2.1 (tk b n j) := by
  obtain ⟨st0, mo0, op0, H0, L0, W0, WP0, ns⟩ := Q
  rfl
theorem a_nx_2 {Q : zQ} {j : Nat} : (a_nx b n Q j).2.1 = a_mo (a_ef Q.1 (tk b n j)) Q.2.1 Q.2.2.1 (tk b n j) := by
  obtain ⟨st0, mo0, op0, H0, L0, W0, WP0, ns⟩ := Q
  rfl
theorem a_nx_3 {Q : zQ} {j : Nat} : (a_nx b n Q j).2.2.1 = a_op (a_ef Q.1 (tk b n j)) Q.2.1 Q.2.2.1 (tk b n j) := by
  obtain ⟨st0, mo0, op0, H0, L0, W0, WP0, ns⟩ := Q
  rfl
theorem a_S_s {j : Nat} {Q : zQ} (h : a_run b n (j + 1) = some Q) : a_S b n (j + 1) = if Q.1 = 0 then a_S b n j + 1 else a_S b n j := by
  show (match a_run b n (j + 1) with
    | none => a_S b n j
    | some q => if q.1 = 0 then a_S b n j + 1 else a_S b n j) = _
  rw [h]
theorem p_y_s {j : Nat} {Q : zQ} (h : a_run b n j = some Q) : p_y b n (j + 1) = p_nx (p_y b n j) (a_ef Q.1 (tk b n j)) Q.2.1 Q.2.2.1 (tk b n j) (tx b n j) := by
  show (match a_run b n j with
    | none => p_y b n j
    | some q => p_nx (p_y b n j) (a_ef q.1 (tk b n j)) q.2.1 q.2.2.1 (tk b n j) (tx b n j)) = _
  rw [h]
/-- one TOKEN on -/
theorem p_go (h : q_run b n (d - 1) st mo op H L W WP) (hk : tk b n (d - 1).toNat = kd) (ha : a_cl (a_ef st kd) mo op H L kd = 0) (h4 : d ≤ 400) : ∃ Q Q', a_run b n (d - 1).toNat = some Q ∧ a_run b n d.toNat = some Q' ∧ a_ef Q.1 kd = a_ef st kd ∧ Q'.1 = a_st (a_ef st kd) mo op kd ∧ Q'.2.1 = a_mo (a_ef st kd) mo op kd ∧ Q'.2.2.1 = a_op (a_ef st kd) mo op kd ∧ p_y b n d.toNat = p_nx (p_y b n (d - 1).toNat) (a_ef st kd) mo op kd (tx b n (d - 1).toNat) ∧ d.toNat = (d - 1).toNat + 1 := by
  obtain ⟨c0, Q, e0, e1, e2, e3, e4, e5, -⟩ := h
  have ed : d.toNat = (d - 1).toNat + 1 := by omega
  have hrun : a_run b n ((d - 1).toNat + 1) = some (a_nx b n Q (d - 1).toNat) := by
    rw [a_run, e0]
    dsimp only
    rw [if_pos]
    refine ⟨by omega, ?_⟩
    unfold a_at
    rw [e1, e2, e3, e4, e5, hk]
    exact ha
  refine ⟨Q, _, e0, by rw [ed]; exact hrun, by rw [← hk]; exact e1, ?_, ?_, ?_, ?_, ed⟩
  · rw [a_nx_1, e1, e2, e3, hk]
  · rw [a_nx_2, e1, e2, e3, hk]
  · rw [a_nx_3, e1, e2, e3, hk]
  · rw [ed, p_y_s e0, e1, e2, e3, hk]
theorem a_efq {z : Int} (h : a_ef z kd = a_ef st kd) (hs : 200 ≤ st) : z = st ∨ (30 ≤ z ∧ z ≤ 34 ∧ 500 ≤ st) := by
  unfold a_ef at h
  split at h <;> split at h <;> omega
theorem a_efq0 {z : Int} (h : a_ef z kd = a_ef st kd) (hs : st < 30) : z = st := by
  unfold a_ef at h
  split at h <;> split at h <;> omega
theorem p_phq {z : Int} (h : a_ef z kd = a_ef st kd) (hs : 200 ≤ st) : p_ph z = p_ph st := by
  rcases a_efq h hs with rfl | ⟨h1, h2, h3⟩
  · rfl
  · unfold p_ph
    by_cases g : 400 ≤ st ∧ st ≤ 404
    · omega
    · rw [if_neg g, if_neg (by omega)]
theorem p_ph0 (h : st < 400 ∨ 404 < st) : p_ph st = [] := by
  unfold p_ph
  rw [if_neg (by omega)]
theorem p_ph1 (h : 400 ≤ st ∧ st ≤ 404) : p_ph st = [(6, 0)] := by
  unfold p_ph
  rw [if_pos h]
/-! the fold's steps -/
section ZM4a
variable {D : List (Int × List (List (Int × Int) × List (Int × Int) × List (Int × Int)) × List (Int × Int))} {B : List (List (Int × Int) × List (Int × Int) × List (Int × Int))} {E F O : List (Int × Int)} {w : List Int} {k : Int}
theorem p_nx_o (h : 200 ≤ st) : p_nx (D, k, B, E, F, O, w) st 0 op 40 x = (D, k, B, E, F, O, 40 :: w) := by
  unfold p_nx
  dsimp only
  rw [if_neg (by omega), if_neg (by omega), if_neg (by omega), if_pos rfl, if_pos rfl]
theorem p_nx_i (h : 200 ≤ st) (hk : kd ≠ 40) : p_nx (D, k, B, E, F, O, w) st 0 op kd x = (D, k, B, E, F, O ++ [p_it kd x], w) := by
  unfold p_nx
  dsimp only
  rw [if_neg (by omega), if_neg (by omega), if_neg (by omega), if_pos rfl, if_neg hk]
theorem p_nx_s (h : 200 ≤ st) (hk : kd = 42 ∨ kd = 47) : p_nx (D, k, B, E, F, O, w) st 1 op kd x = (D, k, B, E, F, O ++ p_S w, kd :: p_Sr w) := by
  unfold p_nx
  dsimp only
  rw [if_neg (by omega), if_neg (by omega), if_neg (by omega), if_neg (by decide), if_pos (a_p_iff.mpr (by omega)), if_pos (by unfold p_sg; rw [decide_eq_true_eq]; omega)]
theorem p_nx_a (h : 200 ≤ st) (hk : kd = 43 ∨ kd = 45) : p_nx (D, k, B, E, F, O, w) st 1 op kd x = (D, k, B, E, F, O ++ p_A w, kd :: p_Ar w) := by
  unfold p_nx
  dsimp only
  rw [if_neg (by omega), if_neg (by omega), if_neg (by omega), if_neg (by decide), if_pos (a_p_iff.mpr (by omega)), if_neg (by unfold p_sg; rw [decide_eq_true_eq]; omega)]
theorem p_nx_c (h : 200 ≤ st) (ho : 1 ≤ op) (hk : a_p kd = false) : p_nx (D, k, B, E, F, O, w) st 1 op kd x = (D, k, B, E, F, O ++ p_A w, (p_Ar w).tail) := by
  unfold p_nx
  dsimp only
  rw [if_neg (by omega), if_neg (by omega), if_neg (by omega), if_neg (by decide), if_neg (by rw [hk]; decide), if_pos ho]
theorem p_nx_1 (h : 200 ≤ st) (h2 : st ≤ 204) (hk : a_p kd = false) : p_nx (D, k, B, E, F, O, w) st 1 0 kd x = (D, k, B, O ++ p_A w, [], [], []) := by
  unfold p_nx
  dsimp only
  rw [if_neg (by omega), if_neg (by omega), if_neg (by omega), if_neg (by decide), if_neg (by rw [hk]; decide), if_neg (by decide), if_pos h2]
theorem p_nx_2 (h : 300 ≤ st) (h2 : st ≤ 304) (hk : a_p kd = false) : p_nx (D, k, B, E, F, O, w) st 1 0 kd x = (D, k, B, E, O ++ p_A w, [], []) := by
  unfold p_nx
  dsimp only
  rw [if_neg (by omega), if_neg (by omega), if_neg (by omega), if_neg (by decide), if_neg (by rw [hk]; decide), if_neg (by decide), if_neg (by omega), if_pos h2]
theorem p_nx_3 (h : 400 ≤ st) (h2 : st ≤ 404) (hk : a_p kd = false) : p_nx (D, k, B, E, F, O, w) st 1 0 kd x = (D, k, B ++ [(E, F, O ++ p_A w)], [], [], [], []) := by
  unfold p_nx
  dsimp only
  rw [if_neg (by omega), if_neg (by omega), if_neg (by omega), if_neg (by decide), if_neg (by rw [hk]; decide), if_neg (by decide), if_neg (by omega), if_neg (by omega), if_pos h2]
theorem p_nx_4 (h : 500 ≤ st) (hk : a_p kd = false) : p_nx (D, k, B, E, F, O, w) st 1 0 kd x = (D ++ [(k, B, O ++ p_A w)], k, [], [], [], [], []) := by
  unfold p_nx
  dsimp only
  rw [if_neg (by omega), if_neg (by omega), if_neg (by omega), if_neg (by decide), if_neg (by rw [hk]; decide), if_neg (by decide), if_neg (by omega), if_neg (by omega), if_neg (by omega)]
theorem p_nx_f (h : 30 ≤ st) (h2 : st < 200) : p_nx (D, k, B, E, F, O, w) st mo op kd x = (D, k, B, [], [], [], []) := by
  unfold p_nx
  dsimp only
  rw [if_neg (by omega), if_neg (by omega), if_pos h2]
theorem p_nx_l (hk : 260 ≤ kd ∧ kd ≤ 263) : p_nx (D, k, B, E, F, O, w) 0 mo op kd x = (D, kd - 260, [], [], [], [], []) := by
  unfold p_nx
  dsimp only
  rw [if_pos rfl, if_pos hk]
/-! codes -/
theorem p_cc_O {X : List (Int × Int)} {w' : List Int} : p_cc (D, k, B, E, F, O ++ X, w') st = p_cc (D, k, B, E, F, O, w) st ++ X := by
  unfold p_cc p_c2 p_c0
  simp only [List.append_assoc]
theorem p_cc_w {w' : List Int} {k' : Int} : p_cc (D, k', B, E, F, O, w') st = p_cc (D, k, B, E, F, O, w) st := rfl
end ZM4a
theorem p_nx_0 {y : zYd} (h : st < 30) (hn : st = 0 → kd < 260 ∨ 263 < kd) : p_nx y st mo op kd x = y := by
  obtain ⟨D, k, B, E, F, O, w⟩ := y
  unfold p_nx
  dsimp only
  by_cases h0 : st = 0
  · rw [if_pos h0, if_neg (by have := hn h0; omega)]
  · rw [if_neg h0, if_pos h]
theorem p_cb_app {E F T : List (Int × Int)} : ∀ {B : List (List (Int × Int) × List (Int × Int) × List (Int × Int))} {p : Int}, p_cb p (B ++ [(E, F, T)]) = p_cb p B ++ (E ++ F ++ (6, p + (p_cb p B).length + E.length + F.length + T.length + 2) :: T ++ [(7, 0)])
  | [], p => by
    show p_cb p [(E, F, T)] = _
    unfold p_cb
    show _ = [] ++ _
    rw [List.nil_append]
    unfold p_cb
    simp
  | (E0, F0, T0) :: B, p => by
    show p_cb p ((E0, F0, T0) :: (B ++ [(E, F, T)])) = _
    have e : p + ((p_cb p ((E0, F0, T0) :: B)).length : Int) = p + E0.length + F0.length + T0.length + 2 + (p_cb (p + E0.length + F0.length + T0.length + 2) B).length := by
      rw [p_cb]
      simp only [List.length_append, List.length_cons]
      push_cast
      omega
    rw [e, p_cb, p_cb, p_cb_app (B := B)]
    simp only [List.append_assoc, List.cons_append]
theorem p_cd_app {j : Int} {B : List (List (Int × Int) × List (Int × Int) × List (Int × Int))} {T : List (Int × Int)} : ∀ {D : List (Int × List (List (Int × Int) × List (Int × Int) × List (Int × Int)) × List (Int × Int))} {p : Int}, p_cd p (D ++ [(j, B, T)]) = p_cd p D ++ (p_cb (p + (p_cd p D).length) B ++ T ++ [(7, 0)])
  | [], p => by
    show p_cd p [(j, B, T)] = _
    unfold p_cd
    show _ = [] ++ _
    rw [List.nil_append]
    unfold p_cd
    simp
  | (j0, B0, T0) :: D, p => by
    show p_cd p ((j0, B0, T0) :: (D ++ [(j, B, T)])) = _
    have e : p + ((p_cd p ((j0, B0, T0) :: D)).length : Int) = p + (p_cb p B0).length + T0.length + 1 + (p_cd (p + (p_cb p B0).length + T0.length + 1) D).length := by
      rw [p_cd]
      simp only [List.length_append, List.length_cons]
      push_cast
      omega
    rw [e, p_cd, p_cd, p_cd_app (D := D)]
    simp only [List.append_assoc, List.cons_append]
theorem p_sD_app {j : Int} {B : List (List (Int × Int) × List (Int × Int) × List (Int × Int))} {T : List (Int × Int)} : ∀ {D : List (Int × List (List (Int × Int) × List (Int × Int) × List (Int × Int)) × List (Int × Int))} {p k d : Int}, p_sD p (D ++ [(j, B, T)]) k d = if j = k then p + (p_cd p D).length else p_sD p D k d
  | [], p, k, d => by
    show p_sD p [(j, B, T)] k d = _
    unfold p_sD p_sD p_cd
    simp
  | (j0, B0, T0) :: D, p, k, d => by
    show p_sD p ((j0, B0, T0) :: (D ++ [(j, B, T)])) k d = _
    rw [p_sD, p_sD_app (D := D), p_sD, p_cd]
    split
    · simp only [List.length_append, List.length_cons]
      push_cast
      omega
    · rfl
/-! what comes out, what waits on -/
theorem p_S_Sr : ∀ {w : List Int}, p_S (p_Sr w) = []
  | [] => rfl
  | o :: t => by
    unfold p_Sr
    split
    · exact p_S_Sr
    · next h =>
      unfold p_S
      rw [if_neg h]
theorem p_Sr_id : ∀ {w : List Int}, p_S w = [] → p_Sr w = w
  | [], _ => rfl
  | o :: t, h => by
    unfold p_S at h
    split at h
    · cases h
    · next hn =>
      unfold p_Sr
      rw [if_neg hn]
theorem p_Ar_id : ∀ {w : List Int}, p_A w = [] → p_Ar w = w
  | [], _ => rfl
  | o :: t, h => by
    unfold p_A at h
    split at h
    · next hn =>
      unfold p_Ar
      rw [if_pos hn]
    · cases h
theorem p_A_Ar : ∀ {w : List Int}, p_A (p_Ar w) = []
  | [] => rfl
  | o :: t => by
    unfold p_Ar
    split
    · next h =>
      unfold p_A
      rw [if_pos h]
    · exact p_A_Ar
theorem p_A_S : ∀ {w : List Int}, p_A w = p_S w ++ p_A (p_Sr w) ∧ p_Ar w = p_Ar (p_Sr w)
  | [] => ⟨rfl, rfl⟩
  | o :: t => by
    by_cases h : p_sg o = true
    · have h40 : o ≠ 40 := by
        unfold p_sg at h
        rw [decide_eq_true_eq] at h
        exact h.1
      have ih := p_A_S (w := t)
      rw [p_A, p_S, p_Sr, p_Ar, if_neg h40, if_pos h, if_pos h, if_neg h40]
      exact ⟨by rw [ih.1]; rfl, ih.2⟩
    · rw [p_S, p_Sr, if_neg h, if_neg h]
      exact ⟨rfl, rfl⟩
theorem p_S_of_A : ∀ {w : List Int}, p_A w = [] → p_S w = []
  | [], _ => rfl
  | o :: t, h => by
    unfold p_A at h
    split at h
    · next h40 =>
      unfold p_S p_sg
      rw [h40]
      rfl
    · cases h
/-- the states that there are -/
def a_vs (st : Int) : Prop := (0 ≤ st ∧ st ≤ 20) ∨ (30 ≤ st ∧ st ≤ 34) ∨ (200 ≤ st ∧ st ≤ 204) ∨ (300 ≤ st ∧ st ≤ 304) ∨ (400 ≤ st ∧ st ≤ 404) ∨ (500 ≤ st ∧ st ≤ 504)
theorem a_vs_e (h : a_vs st) : a_vs (a_ef st kd) ∧ (30 ≤ a_ef st kd ∧ a_ef st kd < 200 → kd = 266) := by
  unfold a_vs at h ⊢
  unfold a_ef
  split <;> omega
theorem a_vs_s (h : a_vs st) (h2 : 30 ≤ st ∧ st < 200 → kd = 266) (ha : a_cl st mo op H L kd = 0) : a_vs (a_st st mo op kd) := by
  unfold a_vs at h ⊢
  unfold a_st
  by_cases s0 : st = 0
  · rw [if_pos s0]
    repeat (first | omega | split)
  · rw [if_neg s0]
    by_cases s1 : st < 20
    · rw [if_pos s1]
      repeat (first | omega | split)
    · rw [if_neg s1]
      by_cases s2 : st = 20
      · rw [if_pos s2]
        omega
      · rw [if_neg s2]
        by_cases s3 : st < 200
        · rw [if_pos s3]
          have hk := h2 (by omega)
          unfold a_cl at ha
          rw [if_neg s0, if_neg (by omega), if_pos s3, if_pos hk] at ha
          split at ha
          · omega
          · cases ha
        · rw [if_neg s3]
          repeat (first | omega | split)
theorem a_vs_ok : ∀ {j : Nat} {Q : zQ}, a_run b n j = some Q → a_vs Q.1
  | 0, Q, h => by
    cases h
    exact Or.inl ⟨Int.le_refl _, by decide⟩
  | j + 1, Q, h => by
    obtain ⟨Q0, h0, -, ha, e⟩ := a_run_pre h
    have ih := a_vs_e (kd := tk b n j) (a_vs_ok h0)
    rw [e, a_nx_1]
    exact a_vs_s ih.1 ih.2 ha
/-! what holds of the fold at a state -/
def p_iv (y : zYd) (st : Int) : Prop := (st < 300 ∨ 404 < st → y.2.2.2.1 = []) ∧ (st < 400 ∨ 404 < st → y.2.2.2.2.1 = []) ∧ (st < 200 → y.2.2.2.2.2.1 = [] ∧ y.2.2.2.2.2.2 = []) ∧ (st < 30 → y.2.2.1 = [])
theorem p_iv_ok : ∀ {j : Nat} {Q : zQ}, a_run b n j = some Q → p_iv (p_y b n j) Q.1
  | 0, Q, h => by
    cases h
    exact ⟨fun _ => rfl, fun _ => rfl, fun _ => ⟨rfl, rfl⟩, fun _ => rfl⟩
  | j + 1, Q, h => by
    obtain ⟨Q0, h0, -, ha, e⟩ := a_run_pre h
    have ih := p_iv_ok h0
    have hv := (a_vs_e (kd := tk b n j) (a_vs_ok h0)).1
    rw [p_y_s h0]
    have e1 : Q.1 = a_st (a_ef Q0.1 (tk b n j)) Q0.2.1 Q0.2.2.1 (tk b n j) := by rw [e, a_nx_1]
    rw [e1]
    have hE : p_iv (p_y b n j) (a_ef Q0.1 (tk b n j)) := by
      unfold p_iv at ih ⊢
      obtain ⟨i1, i2, i3, i4⟩ := ih
      unfold a_ef
      split
      · exact ⟨fun _ => i1 (by omega), fun _ => i2 (by omega), fun g => by omega, fun g => by omega⟩
      · exact ⟨i1, i2, i3, i4⟩
    unfold a_at at ha
    generalize a_ef Q0.1 (tk b n j) = S at hE ha hv ⊢
    generalize tk b n j = kd at ha ⊢
    generalize tx b n j = x
    generalize p_y b n j = y at hE ⊢
    generalize Q0.2.1 = mo at ha ⊢
    generalize Q0.2.2.1 = op at ha ⊢
    obtain ⟨D, k, B, E, F, O, w⟩ := y
    unfold p_iv at hE ⊢
    obtain ⟨i1, i2, i3, i4⟩ := hE
    dsimp only at i1 i2 i3 i4
    unfold a_vs at hv
    unfold p_nx a_st
    dsimp only
    by_cases s0 : S = 0
    · rw [if_pos s0, if_pos s0]
      have hr : ∀ z : Int, z = (if kd = 256 then 1 else if kd = 257 then 5 else if kd = 258 then 9 else if kd = 259 then 10 else if kd = 264 then 11 else if kd = 265 then 12 else 20 : Int) → z < 30 := fun z hz => by
        rw [hz]
        repeat (first | omega | split)
      generalize hz : (if kd = 256 then 1 else if kd = 257 then 5 else if kd = 258 then 9 else if kd = 259 then 10 else if kd = 264 then 11 else if kd = 265 then 12 else 20 : Int) = z
      have hz2 := hr z hz.symm
      split
      · exact ⟨fun _ => rfl, fun _ => rfl, fun _ => ⟨rfl, rfl⟩, fun _ => rfl⟩
      · exact ⟨fun _ => i1 (by omega), fun _ => i2 (by omega), fun _ => i3 (by omega), fun _ => i4 (by omega)⟩
    · rw [if_neg s0, if_neg s0]
      by_cases s1 : S < 30
      · rw [if_pos s1]
        exact ⟨fun _ => i1 (by omega), fun _ => i2 (by omega), fun _ => i3 (by omega), fun _ => i4 (by omega)⟩
      · rw [if_neg s1, if_neg (show ¬ S < 20 by omega), if_neg (show ¬ S = 20 by omega)]
        by_cases s2 : S < 200
        · rw [if_pos s2, if_pos s2]
          exact ⟨fun _ => rfl, fun _ => rfl, fun _ => ⟨rfl, rfl⟩, fun g => by omega⟩
        · rw [if_neg s2, if_neg s2]
          by_cases m0 : mo = 0
          · rw [if_pos m0, if_pos m0]
            split
            · exact ⟨i1, i2, fun g => by omega, fun g => by omega⟩
            · exact ⟨i1, i2, fun g => by omega, fun g => by omega⟩
          · rw [if_neg m0, if_neg m0]
            by_cases pk : a_p kd = true
            · rw [if_pos pk, if_pos pk]
              split
              · exact ⟨i1, i2, fun g => by omega, fun g => by omega⟩
              · exact ⟨i1, i2, fun g => by omega, fun g => by omega⟩
            · rw [if_neg pk, if_neg pk]
              by_cases o1 : 1 ≤ op
              · rw [if_pos o1, if_pos o1]
                exact ⟨i1, i2, fun g => by omega, fun g => by omega⟩
              · rw [if_neg o1, if_neg o1]
                by_cases s3 : S ≤ 204
                · rw [if_pos s3, if_pos (show S ≤ 304 by omega)]
                  exact ⟨fun g => by omega, fun _ => rfl, fun g => by omega, fun g => by omega⟩
                · rw [if_neg s3]
                  by_cases s4 : S ≤ 304
                  · rw [if_pos s4, if_pos s4]
                    exact ⟨fun g => by omega, fun g => by omega, fun g => by omega, fun g => by omega⟩
                  · rw [if_neg s4, if_neg s4]
                    by_cases s5 : S ≤ 404
                    · rw [if_pos s5, if_pos s5]
                      exact ⟨fun _ => rfl, fun _ => rfl, fun _ => ⟨rfl, rfl⟩, fun g => by omega⟩
                    · rw [if_neg s5, if_neg s5]
                      exact ⟨fun _ => rfl, fun _ => rfl, fun _ => ⟨rfl, rfl⟩, fun _ => rfl⟩
end ZM4
end
