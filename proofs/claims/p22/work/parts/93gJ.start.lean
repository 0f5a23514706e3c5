noncomputable section
/-! ===== at the beginning: HAIR and STRONG are as they may ===== -/
section ZMJ
variable {b : Int → Int} {n : Int}
def a_bd (b : Int → Int) (n : Int) (m : Nat) : Prop := (0 ≤ tx b n (m + 1) ∧ tx b n (m + 1) ≤ 20) ∧ 1 ≤ tx b n (m + 2) ∧ tx b n (m + 2) ≤ 99
theorem a_st_3 {st mo op kd : Int} (hv : a_vs st) (h2 : 30 ≤ st ∧ st < 200 → kd = 266) (h : a_st st mo op kd = 3) : st = 2 := by
  unfold a_vs at hv
  unfold a_st at h
  by_cases s0 : st = 0
  · rw [if_pos s0] at h
    exfalso
    repeat (first | omega | split at h)
  · rw [if_neg s0] at h
    repeat (first | omega | split at h)
theorem a_st_4 {st mo op kd : Int} (hv : a_vs st) (h2 : 30 ≤ st ∧ st < 200 → kd = 266) (h : a_st st mo op kd = 4) : st = 3 := by
  unfold a_vs at hv
  unfold a_st at h
  by_cases s0 : st = 0
  · rw [if_pos s0] at h
    exfalso
    repeat (first | omega | split at h)
  · rw [if_neg s0] at h
    repeat (first | omega | split at h)
theorem a_ck_2 {x r rq : Int} (h : a_ck 2 x r rq = 0) : 0 ≤ x ∧ x ≤ 20 := by
  unfold a_ck at h
  rw [if_neg (by decide), if_neg (by decide), if_neg (by decide), if_pos (by decide)] at h
  have e1 : a_lo 2 = 0 := by decide
  have e2 : a_hi 2 = 20 := by decide
  rw [e1, e2] at h
  split at h
  · assumption
  · cases h
theorem a_ck_3 {x r rq : Int} (h : a_ck 3 x r rq = 0) : 1 ≤ x ∧ x ≤ 99 := by
  unfold a_ck at h
  rw [if_neg (by decide), if_neg (by decide), if_neg (by decide), if_pos (by decide)] at h
  have e1 : a_lo 3 = 1 := by decide
  have e2 : a_hi 3 = 99 := by decide
  rw [e1, e2] at h
  split at h
  · assumption
  · cases h
theorem a_ef_sm {st kd : Int} (h : a_ef st kd < 20) : a_ef st kd = st := by
  unfold a_ef at h ⊢
  split at h
  · omega
  · next c => rw [if_neg c]
/-- what is told of HOUSES is as it may, while there is no fault -/
theorem a_run_bd : ∀ {c : Nat} {q : zQ}, a_run b n c = some q → q.2.2.2.2.2.1 = 0 → (q.1 = 3 → ∃ d : Nat, c = d + 1 ∧ 0 ≤ tx b n d ∧ tx b n d ≤ 20) ∧ (q.1 = 4 → ∃ d : Nat, c = d + 2 ∧ (0 ≤ tx b n d ∧ tx b n d ≤ 20) ∧ 1 ≤ tx b n (d + 1) ∧ tx b n (d + 1) ≤ 99) ∧ ∀ m ∈ q.2.2.2.2.2.2.2, a_bd b n m
  | 0, q, h, _ => by
    cases h
    refine ⟨fun h => absurd (show (0 : Int) = 3 from h) (by decide), fun h => absurd (show (0 : Int) = 4 from h) (by decide), fun m hm => absurd hm List.not_mem_nil⟩
  | c + 1, q, h, hW => by
    obtain ⟨q0, h0, -, -, e⟩ := a_run_pre h
    have hv := a_vs_e (kd := tk b n c) (a_vs_ok h0)
    have hs := a_nx_1 (b := b) (n := n) (Q := q0) (j := c)
    rw [← e] at hs
    obtain ⟨st, mo, op, H, L, W, WP, ns⟩ := q0
    have hW' : (if W = 0 then a_ck (a_ef st (tk b n c)) (tx b n c) (a_fd b n (tx b n c) ns 0) (a_fd b n (tx b n (c - 1)) ns 0) else W) = 0 := by rw [e] at hW; exact hW
    have hN : q.2.2.2.2.2.2.2 = if a_ef st (tk b n c) = 4 then ns ++ [c - 3] else ns := by rw [e]; rfl
    by_cases w0 : W = 0
    · rw [if_pos w0] at hW'
      obtain ⟨i3, i4, im⟩ := a_run_bd h0 w0
      dsimp only at i3 i4 im hs hv
      refine ⟨fun h3 => ?_, fun h4 => ?_, fun m hm => ?_⟩
      · have s2 := a_st_3 hv.1 hv.2 (hs.symm.trans h3)
        rw [s2] at hW'
        exact ⟨c, rfl, a_ck_2 hW'⟩
      · have s3 := a_st_4 hv.1 hv.2 (hs.symm.trans h4)
        have s3' := a_ef_sm (st := st) (kd := tk b n c) (by omega)
        rw [s3] at hW'
        obtain ⟨d, hd, hx⟩ := i3 (by omega)
        subst hd
        exact ⟨d, rfl, hx, a_ck_3 hW'⟩
      · rw [hN] at hm
        split at hm
        · next c4 =>
          rcases List.mem_append.mp hm with hm | hm
          · exact im m hm
          · have s4' := a_ef_sm (st := st) (kd := tk b n c) (by omega)
            obtain ⟨d, hd, hx⟩ := i4 (by omega)
            subst hd
            have em := List.mem_singleton.mp hm
            by_cases d0 : d = 0
            · subst d0
              exfalso
              -- the second TOKEN cannot be STRONG's end
              have hr1 := h0
              obtain ⟨Q1, k1, -, -, f1⟩ := a_run_pre hr1
              obtain ⟨Q2, k2, -, -, f2⟩ := a_run_pre k1
              have k2' := Option.some.inj (k2 : some _ = some Q2)
              have t1 := a_nx_1 (b := b) (n := n) (Q := Q1) (j := 1)
              have t2 := a_nx_1 (b := b) (n := n) (Q := Q2) (j := 0)
              rw [← f1] at t1
              rw [← f2] at t2
              have v1 := a_vs_e (kd := tk b n 1) (a_vs_ok k1)
              have v2 := a_vs_e (kd := tk b n 0) (a_vs_ok k2)
              have u1 := a_st_4 v1.1 v1.2 (t1.symm.trans (show st = 4 by omega))
              have u1' := a_ef_sm (st := Q1.1) (kd := tk b n 1) (by omega)
              have u2 := a_st_3 v2.1 v2.2 (t2.symm.trans (by omega))
              have u2' := a_ef_sm (st := Q2.1) (kd := tk b n 0) (by omega)
              rw [← k2'] at u2' u2
              dsimp only at u2' u2
              omega
            · rw [em, show d + 2 - 3 = d - 1 by omega]
              unfold a_bd
              rw [show d - 1 + 1 = d by omega, show d - 1 + 2 = d + 1 by omega]
              exact hx
        · exact im m hm
    · rw [if_neg w0] at hW'
      exact absurd hW' w0
/-- HAIR and STRONG of a text without a fault -/
theorem c_fhs_bd {H q i : Int} {f g : Int → Int} (h : q_fhs b n H f g) (hf : q_fin b n 0 q) (i0 : 0 ≤ i) (i1 : i < H) : (0 ≤ f i ∧ f i ≤ 20) ∧ 1 ≤ g i ∧ g i ≤ 99 := by
  obtain ⟨c, he, ⟨Q, e, hH, h1⟩, ⟨Q2, f2, -, h2⟩⟩ := h
  rw [e] at f2
  cases f2
  obtain ⟨p, ⟨c2, Q2, e2, hr⟩, -⟩ := hf
  have hl := a_run_H e
  have hlt : i.toNat < Q.2.2.2.2.2.2.2.length := by omega
  have g1 := (h1 i.toNat _ (List.getElem?_eq_getElem hlt)).2
  have g2 := (h2 i.toNat _ (List.getElem?_eq_getElem hlt)).2
  rw [show ((i.toNat : Nat) : Int) = i by omega] at g1 g2
  have hm := List.getElem_mem hlt
  have hc : c2 = c ∧ Q2.2.2.2.2.2.1 = 0 := by
    obtain ⟨-, r2, -⟩ := hr
    by_cases a3 : a_at b n Q2 c2 = 3
    · rw [if_pos a3] at r2
      refine ⟨q_end_u ⟨⟨Q2, e2⟩, ?_⟩ he, r2.symm⟩
      unfold a_at a_cl at a3
      generalize tk b n c2 = kd at a3 ⊢
      repeat (first | omega | split at a3)
    · rw [if_neg a3] at r2
      split at r2
      · cases r2
      · omega
  obtain ⟨rfl, hW⟩ := hc
  rw [show ((c2 : Nat) : Int).toNat = c2 by omega] at e
  rw [e] at e2
  cases e2
  have hb := (a_run_bd e hW).2.2 _ hm
  unfold a_bd at hb
  rw [g1, g2]
  exact hb
end ZMJ
/-! the heap as it is at first -/
theorem g_sb0 {v : zVw} : g_sb v 0 := fun h h0 h1 => by omega
theorem g_sto0 {v : zVw} (z : ∀ i : Int, 0 ≤ i → i < 33 → v 77 i = 0) : q_sto v 0 0 0 0 0 0 0 0 0 0 0 0 := by
  have e : ∀ i : Int, 0 ≤ i → i < 33 → g_nw v i = 0 := fun i i0 i1 => (g_b0 i0 i1).trans (z i i0 i1)
  have w : g_wf 0 (g_nw v) := g_wf0 (by decide) (by decide) (fun i i0 i1 => by omega) (fun i i0 i1 => e i i0 i1)
  exact ⟨⟨w, w, g_sb0⟩, g_pt_rv w g_nw_sup ⟨⟨(e 24 (by decide) (by decide)).symm, (e 31 (by decide) (by decide)).symm, (e 32 (by decide) (by decide)).symm⟩, fun k k0 k1 => by omega, fun i i0 i1 => by omega⟩⟩
theorem g_hx0 {v : zVw} : q_hx v (-1) 0 0 0 0 := ⟨⟨by decide, by decide, by decide⟩, g_sb0, fun i i0 i1 => by omega⟩
theorem g_sl0 {v : zVw} : q_sl v (-1) 0 0 0 0 := ⟨g_sb0, fun h => absurd h (by decide), fun h => absurd h (by decide), fun h => absurd h (by decide)⟩
end
