noncomputable section
/-! ===== what LAWS come to: the texts are well made ===== -/
section ZMB
variable {b : Int → Int} {n st mo op H L kd x : Int}
theorem p_dp_app {K : Nat} : ∀ {C C' : List (Int × Int)} {m m' : Nat}, p_dp K C m = some m' → p_dp K (C ++ C') m = p_dp K C' m'
  | [], C', m, m', h => by
    cases h
    rfl
  | (a, z) :: C, C', m, m', h => by
    rw [List.cons_append]
    rw [p_dp] at h ⊢
    split
    · next h1 =>
      rw [if_pos h1] at h
      split
      · next h2 =>
        rw [if_pos h2] at h
        exact p_dp_app h
      · next h2 =>
        rw [if_neg h2] at h
        cases h
    · next h1 =>
      rw [if_neg h1] at h
      split
      · next h2 =>
        rw [if_pos h2] at h
        exact p_dp_app h
      · next h2 =>
        rw [if_neg h2] at h
        cases h
theorem p_dp_up {K : Nat} : ∀ {C : List (Int × Int)} {m m' : Nat}, p_dp K C m = some m' → p_dp (K + 1) C (m + 1) = some (m' + 1)
  | [], m, m', h => by
    cases h
    rfl
  | (a, z) :: C, m, m', h => by
    unfold p_dp at h ⊢
    split
    · next h1 =>
      rw [if_pos h1] at h
      split at h
      · next h2 =>
        rw [if_pos ⟨h2.1, h2.2.1, by omega⟩]
        exact p_dp_up h
      · cases h
    · next h1 =>
      rw [if_neg h1] at h
      split at h
      · next h2 =>
        rw [if_pos ⟨h2.1, h2.2.1, by omega⟩]
        have := p_dp_up h
        rw [show m - 1 + 1 = m by omega] at this
        rw [show m + 1 - 1 = m by omega]
        exact this
      · cases h
/-- operations that wait; opens -/
def p_nb : List Int → Nat
  | [] => 0
  | o :: t => if o = 40 then p_nb t else p_nb t + 1
def p_no : List Int → Nat
  | [] => 0
  | o :: t => if o = 40 then p_no t + 1 else p_no t
def p_tp : List Int → Nat
  | [] => 0
  | o :: _ => if o = 40 then 0 else if p_sg o = true then 2 else 1
def p_ok : List Int → Prop
  | [] => True
  | o :: t => p_ok t ∧ (o = 40 ∨ (o ≠ 40 ∧ p_sg o = true ∧ p_tp t ≤ 1) ∨ (o ≠ 40 ∧ p_sg o ≠ true ∧ p_tp t = 0))
theorem p_ok_nb : ∀ {w : List Int}, p_ok w → p_nb w ≤ 2 * p_no w + p_tp w
  | [], _ => Nat.zero_le _
  | o :: t, h => by
    obtain ⟨h1, h2⟩ := h
    have ih := p_ok_nb h1
    have h3 : p_tp t ≤ 2 := by
      cases t with
      | nil => decide
      | cons a r =>
        show (if a = 40 then 0 else if p_sg a = true then 2 else 1) ≤ 2
        split
        · omega
        · split <;> omega
    unfold p_nb p_no p_tp
    dsimp only
    rcases h2 with h2 | ⟨h2, h4, h5⟩ | ⟨h2, h4, h5⟩
    · rw [if_pos h2, if_pos h2, if_pos h2]
      omega
    · rw [if_neg h2, if_neg h2, if_neg h2, if_pos h4]
      omega
    · rw [if_neg h2, if_neg h2, if_neg h2, if_neg h4]
      omega
theorem p_ok_Sr : ∀ {w : List Int}, p_ok w → p_ok (p_Sr w) ∧ p_tp (p_Sr w) ≤ 1 ∧ p_no (p_Sr w) = p_no w ∧ p_nb w = (p_S w).length + p_nb (p_Sr w)
  | [], _ => ⟨trivial, Nat.zero_le _, rfl, rfl⟩
  | o :: t, h => by
    unfold p_Sr p_S
    split
    · next hs =>
      have h40 : o ≠ 40 := by
        unfold p_sg at hs
        rw [decide_eq_true_eq] at hs
        exact hs.1
      obtain ⟨i1, i2, i3, i4⟩ := p_ok_Sr h.1
      refine ⟨i1, i2, ?_, ?_⟩
      · rw [p_no, if_neg h40]
        exact i3
      · rw [p_nb, if_neg h40, List.length_cons]
        omega
    · next hs =>
      refine ⟨h, ?_, rfl, by simp⟩
      show (if o = 40 then 0 else if p_sg o = true then 2 else 1) ≤ 1
      rw [if_neg hs]
      split <;> omega
theorem p_ok_Ar : ∀ {w : List Int}, p_ok w → p_ok (p_Ar w) ∧ p_tp (p_Ar w) = 0 ∧ p_no (p_Ar w) = p_no w ∧ p_nb w = (p_A w).length + p_nb (p_Ar w) ∧ (p_no w = 0 → p_Ar w = []) ∧ (1 ≤ p_no w → ∃ t, p_Ar w = 40 :: t ∧ p_ok t ∧ p_no t + 1 = p_no w ∧ p_nb t = p_nb (p_Ar w))
  | [], _ => ⟨trivial, rfl, rfl, rfl, fun _ => rfl, fun h => by unfold p_no at h; omega⟩
  | o :: t, h => by
    unfold p_Ar p_A
    split
    · next h40 =>
      refine ⟨h, by unfold p_tp; dsimp only; rw [if_pos h40], rfl, by simp, fun g => ?_, fun g => ⟨t, by rw [h40], h.1, ?_, ?_⟩⟩
      · rw [p_no, if_pos h40] at g
        omega
      · rw [p_no, if_pos h40]
      · rw [p_nb, if_pos h40]
    · next h40 =>
      obtain ⟨i1, i2, i3, i4, i5, i6⟩ := p_ok_Ar h.1
      refine ⟨i1, i2, ?_, ?_, fun g => ?_, fun g => ?_⟩
      · rw [p_no, if_neg h40]
        exact i3
      · rw [p_nb, if_neg h40, List.length_cons]
        omega
      · rw [p_no, if_neg h40] at g
        exact i5 g
      · rw [p_no, if_neg h40] at g ⊢
        exact i6 g
theorem p_em_r (o : Int) : 2 ≤ (p_em o).1 ∧ (p_em o).1 ≤ 5 := by
  unfold p_em
  dsimp only
  repeat (first | omega | split)
/-- operations alone: each takes one off -/
theorem p_dp_ops {K : Nat} : ∀ {C : List (Int × Int)} {m : Nat}, (∀ y ∈ C, 2 ≤ y.1 ∧ y.1 ≤ 5) → C.length + 1 ≤ m → p_dp K C m = some (m - C.length)
  | [], m, _, _ => by simp [p_dp]
  | (a, z) :: C, m, h, hm => by
    have h1 := h (a, z) List.mem_cons_self
    dsimp only at h1
    rw [List.length_cons] at hm
    unfold p_dp
    rw [if_neg (by omega), if_pos ⟨h1.1, h1.2, by omega⟩, p_dp_ops (fun y hy => h y (List.mem_cons_of_mem _ hy)) (by omega), List.length_cons]
    congr 1
    omega
theorem p_S_ops : ∀ {w : List Int}, ∀ y ∈ p_S w, 2 ≤ y.1 ∧ y.1 ≤ 5
  | [], y, h => absurd h List.not_mem_nil
  | o :: t, y, h => by
    unfold p_S at h
    split at h
    · rcases List.mem_cons.mp h with rfl | h
      · exact p_em_r o
      · exact p_S_ops y h
    · exact absurd h List.not_mem_nil
theorem p_A_ops : ∀ {w : List Int}, ∀ y ∈ p_A w, 2 ≤ y.1 ∧ y.1 ≤ 5
  | [], y, h => absurd h List.not_mem_nil
  | o :: t, y, h => by
    unfold p_A at h
    split at h
    · exact absurd h List.not_mem_nil
    · rcases List.mem_cons.mp h with rfl | h
      · exact p_em_r o
      · exact p_A_ops y h
/-- what holds of the fold -/
def p_i2 (y : zYd) (st mo op : Int) : Prop := p_wd y.1 ∧ p_wb y.2.2.1 ∧ (300 ≤ st ∧ st ≤ 404 → p_wf y.2.2.2.1) ∧ (400 ≤ st ∧ st ≤ 404 → p_wf y.2.2.2.2.1) ∧ (st < 200 → mo = 0 ∧ op = 0) ∧ (mo = 0 ∨ mo = 1) ∧ p_ok y.2.2.2.2.2.2 ∧ op = p_no y.2.2.2.2.2.2 ∧ op ≤ 6 ∧ p_dp 20 y.2.2.2.2.2.1 0 = some (p_nb y.2.2.2.2.2.2 + mo.toNat)
theorem p_i2_ok (hn : 0 ≤ n) : ∀ {j : Nat} {Q : zQ}, a_run b n j = some Q → p_i2 (p_y b n j) Q.1 Q.2.1 Q.2.2.1
  | 0, Q, h => by
    cases h
    exact ⟨fun y h => absurd h List.not_mem_nil, fun y h => absurd h List.not_mem_nil, fun g => by dsimp only at g; omega, fun g => by dsimp only at g; omega, fun _ => ⟨rfl, rfl⟩, Or.inl rfl, trivial, rfl, by decide, rfl⟩
  | j + 1, Q, h => by
    obtain ⟨Q0, h0, -, ha, e⟩ := a_run_pre h
    have ih := p_i2_ok hn h0
    have hv := a_vs_e (kd := tk b n j) (a_vs_ok h0)
    have hiv := p_iv_e (kd := tk b n j) (p_iv_ok h0)
    have e1 : Q.1 = a_st (a_ef Q0.1 (tk b n j)) Q0.2.1 Q0.2.2.1 (tk b n j) := by rw [e, a_nx_1]
    have e2 : Q.2.1 = a_mo (a_ef Q0.1 (tk b n j)) Q0.2.1 Q0.2.2.1 (tk b n j) := by rw [e, a_nx_2]
    have e3 : Q.2.2.1 = a_op (a_ef Q0.1 (tk b n j)) Q0.2.1 Q0.2.2.1 (tk b n j) := by rw [e, a_nx_3]
    have hE : p_i2 (p_y b n j) (a_ef Q0.1 (tk b n j)) Q0.2.1 Q0.2.2.1 := by
      obtain ⟨i1, i2, i3, i4, i5, i6⟩ := ih
      unfold a_ef
      split
      · exact ⟨i1, i2, fun g => by omega, fun g => by omega, fun g => by omega, i6⟩
      · exact ⟨i1, i2, i3, i4, i5, i6⟩
    have hx3 : tk b n j = 3 → 0 ≤ tx b n j := fun g => (tx_3 g).1
    rw [p_y_s h0, e1, e2, e3]
    unfold a_at at ha
    generalize a_ef Q0.1 (tk b n j) = E at ha hv hE hiv ⊢
    generalize tk b n j = kd at ha hv hx3 ⊢
    generalize tx b n j = x at hx3 ⊢
    generalize p_y b n j = Y at hE hiv ⊢
    generalize Q0.2.1 = mo at ha hE ⊢
    generalize Q0.2.2.1 = op at ha hE ⊢
    obtain ⟨D, k, B, A, F, O, w⟩ := Y
    obtain ⟨i1, i2, i3, i4, i5, i6, i7, i8, i9, i10⟩ := hE
    obtain ⟨v1, v2, v3, v4⟩ := hiv
    obtain ⟨hv, hif⟩ := hv
    unfold a_vs at hv
    dsimp only at i1 i2 i3 i4 i7 i8 i10 v1 v2 v3 v4
    by_cases s1 : E < 30
    · have hz : a_st E mo op kd < 200 ∧ a_mo E mo op kd = 0 ∧ a_op E mo op kd = op := by
        refine ⟨?_, by unfold a_mo; rw [if_pos (by omega)], by unfold a_op; rw [if_pos (by omega)]⟩
        unfold a_st
        repeat (first | omega | split)
      obtain ⟨z1, z2, z3⟩ := hz
      obtain ⟨m0, o0⟩ := i5 (by omega)
      rw [z2, z3]
      by_cases hl : E = 0 ∧ 260 ≤ kd ∧ kd ≤ 263
      · obtain ⟨rfl, hl⟩ := hl
        rw [p_nx_l hl]
        exact ⟨i1, fun y h => absurd h List.not_mem_nil, fun g => by omega, fun g => by omega, fun _ => ⟨rfl, o0⟩, Or.inl rfl, trivial, by rw [o0]; rfl, i9, rfl⟩
      · rw [p_nx_0 s1 (fun g => by omega)]
        refine ⟨i1, i2, fun g => by omega, fun g => by omega, fun _ => ⟨rfl, o0⟩, Or.inl rfl, i7, i8, i9, ?_⟩
        rw [m0] at i10
        exact i10
    · by_cases s2 : E < 200
      · have hz : a_st E mo op kd = E + 171 ∧ a_mo E mo op kd = 0 ∧ a_op E mo op kd = op := by
          refine ⟨?_, by unfold a_mo; rw [if_pos (by omega)], by unfold a_op; rw [if_pos (by omega)]⟩
          unfold a_st
          rw [if_neg (by omega), if_neg (by omega), if_neg (by omega), if_pos s2]
        obtain ⟨z1, z2, z3⟩ := hz
        obtain ⟨m0, o0⟩ := i5 s2
        rw [z1, z2, z3, p_nx_f (by omega) s2]
        exact ⟨i1, i2, fun g => by omega, fun g => by omega, fun g => by omega, Or.inl rfl, trivial, by rw [o0]; rfl, i9, rfl⟩
      · have h200 : 200 ≤ E := by omega
        have hnb := p_ok_nb i7
        have htp : p_tp w ≤ 2 := by
          cases w with
          | nil => decide
          | cons a r =>
            show (if a = 40 then 0 else if p_sg a = true then 2 else 1) ≤ 2
            split
            · omega
            · split <;> omega
        rcases i6 with rfl | rfl
        · -- an operand, or (
          rw [a_st_e h200]
          by_cases k40 : kd = 40
          · subst k40
            have ho : op ≤ 5 := by
              unfold a_cl at ha
              rw [if_neg (by omega), if_neg (by omega), if_neg (by omega), if_pos rfl, if_pos rfl] at ha
              split at ha
              · assumption
              · cases ha
            have hz : a_mo E 0 op 40 = 0 ∧ a_op E 0 op 40 = op + 1 := by
              unfold a_mo a_op
              rw [if_neg (by omega), if_pos rfl, if_pos rfl, if_neg (by omega), if_pos rfl, if_pos rfl]
              exact ⟨rfl, rfl⟩
            rw [hz.1, hz.2, p_nx_o h200]
            refine ⟨i1, i2, i3, i4, fun g => by omega, Or.inl rfl, ⟨i7, Or.inl rfl⟩, ?_, by omega, ?_⟩
            · dsimp only
              rw [p_no, if_pos rfl]
              push_cast
              omega
            · dsimp only
              rw [p_nb, if_pos rfl]
              exact i10
          · have hk : kd = 3 ∨ (269 ≤ kd ∧ kd ≤ 277) := by
              unfold a_cl at ha
              rw [if_neg (by omega), if_neg (by omega), if_neg (by omega), if_pos rfl, if_neg k40] at ha
              split at ha
              · assumption
              · cases ha
            have hz : a_mo E 0 op kd = 1 ∧ a_op E 0 op kd = op := by
              unfold a_mo a_op
              rw [if_neg (by omega), if_pos rfl, if_neg k40, if_neg (by omega), if_pos rfl, if_neg k40]
              exact ⟨rfl, rfl⟩
            rw [hz.1, hz.2, p_nx_i h200 k40]
            refine ⟨i1, i2, i3, i4, fun g => by omega, Or.inr rfl, i7, i8, i9, ?_⟩
            dsimp only
            have i10' : p_dp 20 O 0 = some (p_nb w) := i10
            rw [p_dp_app i10']
            unfold p_it p_dp
            by_cases h3 : kd = 3
            · rw [if_pos h3]
              dsimp only
              rw [if_pos (Or.inl rfl), if_pos ⟨hx3 h3, (fun g => absurd g (by decide)), by omega⟩]
              rfl
            · rw [if_neg h3]
              dsimp only
              rw [if_pos (Or.inr rfl), if_pos ⟨by omega, fun _ => by omega, by omega⟩]
              rfl
        · have i10' : p_dp 20 O 0 = some (p_nb w + 1) := i10
          by_cases pk : a_p kd = true
          · rw [a_st_p h200 (Or.inl pk)]
            have hz : a_mo E 1 op kd = 0 ∧ a_op E 1 op kd = op := by
              unfold a_mo a_op
              rw [if_neg (by omega), if_neg (by decide), if_pos pk, if_neg (by omega), if_neg (by decide), if_pos pk]
              exact ⟨rfl, rfl⟩
            rw [hz.1, hz.2]
            have hk := a_p_iff.mp pk
            by_cases hs : kd = 42 ∨ kd = 47
            · have hsg : p_sg kd = true := by unfold p_sg; rw [decide_eq_true_eq]; omega
              obtain ⟨t1, t2, t3, t4⟩ := p_ok_Sr i7
              rw [p_nx_s h200 hs]
              refine ⟨i1, i2, i3, i4, fun g => by omega, Or.inl rfl, ⟨t1, Or.inr (Or.inl ⟨by omega, hsg, t2⟩)⟩, ?_, i9, ?_⟩
              · dsimp only
                rw [p_no, if_neg (by omega), t3]
                exact i8
              · dsimp only
                rw [p_dp_app i10', p_dp_ops p_S_ops (by omega), p_nb, if_neg (by omega)]
                congr 1
                show _ = p_nb (p_Sr w) + 1 + 0
                omega
            · have hs2 : kd = 43 ∨ kd = 45 := by omega
              have hsg : p_sg kd ≠ true := by intro c; unfold p_sg at c; rw [decide_eq_true_eq] at c; omega
              obtain ⟨t1, t2, t3, t4, -, -⟩ := p_ok_Ar i7
              rw [p_nx_a h200 hs2]
              refine ⟨i1, i2, i3, i4, fun g => by omega, Or.inl rfl, ⟨t1, Or.inr (Or.inr ⟨by omega, hsg, t2⟩)⟩, ?_, i9, ?_⟩
              · dsimp only
                rw [p_no, if_neg (by omega), t3]
                exact i8
              · dsimp only
                rw [p_dp_app i10', p_dp_ops p_A_ops (by omega), p_nb, if_neg (by omega)]
                congr 1
                show _ = p_nb (p_Ar w) + 1 + 0
                omega
          · have pk2 : a_p kd = false := by
              cases h9 : a_p kd with
              | false => rfl
              | true => exact absurd h9 pk
            obtain ⟨t1, t2, t3, t4, t5, t6⟩ := p_ok_Ar i7
            by_cases o1 : 1 ≤ op
            · rw [a_st_p h200 (Or.inr o1)]
              have hz : a_mo E 1 op kd = 1 ∧ a_op E 1 op kd = op - 1 := by
                unfold a_mo a_op
                rw [if_neg (by omega), if_neg (by decide), if_neg pk, if_pos o1, if_neg (by omega), if_neg (by decide), if_neg pk, if_pos o1]
                exact ⟨rfl, rfl⟩
              rw [hz.1, hz.2, p_nx_c h200 o1 pk2]
              obtain ⟨t, u1, u2, u3, u4⟩ := t6 (by omega)
              refine ⟨i1, i2, i3, i4, fun g => by omega, Or.inr rfl, by dsimp only; rw [u1]; exact u2, ?_, by omega, ?_⟩
              · dsimp only
                rw [u1]
                show op - 1 = p_no t
                omega
              · dsimp only
                rw [p_dp_app i10', p_dp_ops p_A_ops (by omega), u1]
                congr 1
                show _ = p_nb t + 1
                omega
            · have o0 : op = 0 := by omega
              subst o0
              have hAr := t5 (by omega)
              have hwf : p_wf (O ++ p_A w) := by
                unfold p_wf
                rw [p_dp_app i10', p_dp_ops p_A_ops (by omega)]
                congr 1
                rw [hAr] at t4
                have : p_nb ([] : List Int) = 0 := rfl
                omega
              have hz : a_mo E 1 0 kd = 0 ∧ a_op E 1 0 kd = 0 := by
                unfold a_mo a_op
                rw [if_neg (by omega), if_neg (by decide), if_neg pk, if_neg (by decide), if_neg (by omega), if_neg (by decide), if_neg pk, if_neg (by decide)]
                exact ⟨rfl, rfl⟩
              rw [hz.1, hz.2, a_st_x h200 pk2]
              by_cases s3 : E ≤ 204
              · rw [if_pos (by omega), p_nx_1 h200 s3 pk2]
                exact ⟨i1, i2, fun _ => hwf, fun g => by omega, fun g => by omega, Or.inl rfl, trivial, rfl, by decide, rfl⟩
              · by_cases s4 : E ≤ 304
                · rw [if_pos s4, p_nx_2 (by omega) s4 pk2]
                  exact ⟨i1, i2, fun _ => i3 (by omega), fun _ => hwf, fun g => by omega, Or.inl rfl, trivial, rfl, by decide, rfl⟩
                · rw [if_neg s4]
                  by_cases s5 : E ≤ 404
                  · rw [if_pos s5, p_nx_3 (by omega) s5 pk2]
                    refine ⟨i1, fun y hy => ?_, fun g => by omega, fun g => by omega, fun _ => ⟨rfl, rfl⟩, Or.inl rfl, trivial, rfl, by decide, rfl⟩
                    rcases List.mem_append.mp hy with g | g
                    · exact i2 y g
                    · rw [List.mem_singleton.mp g]
                      exact ⟨i3 (by omega), i4 (by omega), hwf⟩
                  · rw [if_neg s5, p_nx_4 (by omega) pk2]
                    refine ⟨fun y hy => ?_, fun y h => absurd h List.not_mem_nil, fun g => by omega, fun g => by omega, fun _ => ⟨rfl, rfl⟩, Or.inl rfl, trivial, rfl, by decide, rfl⟩
                    rcases List.mem_append.mp hy with g | g
                    · exact i1 y g
                    · rw [List.mem_singleton.mp g]
                      exact ⟨i2, hwf⟩
end ZMB
end
