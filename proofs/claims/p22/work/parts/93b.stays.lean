noncomputable section
/-! ===== the sentences of TOKENS and parsers: which stay ===== -/
/-- what a write must keep from: a place and all behind it; but one place; but a block -/
def j_gu (g : Nat) (z i : Int) : Prop := match Nat.blt g 100 with
  | true => i < z
  | false => match Nat.blt g 1000 with
    | true => i ≠ z
    | false => ¬ (((g / 1000 : Nat) : Int) * z ≤ i ∧ i < ((g / 1000 : Nat) : Int) * z + ((g / 1000 : Nat) : Int))
def j_gz (g : Nat) (zs : List Int) (i : Int) : Prop := match Nat.blt g 1000000 with
  | true => j_gu g (zs.getD (g % 100) 0) i
  | false => ∀ t : Nat, t < (g - 1000000) / 100 → i ≠ zs.getD (g % 100 + t) 0
/-- families of States: the past ones, those but one, the slots, those but one, one, all -/
def j_fm (m : Nat) (a : Int) (lb : Nat) : Bool := Nat.ble 106 lb && Nat.ble lb 369 && (match m with
  | 1 => Nat.ble 5 ((lb - 100) / 6)
  | 2 => Nat.ble 5 ((lb - 100) / 6) && !(zz (a + 5 - (((lb - 100) / 6 : Nat) : Int)))
  | 3 => Nat.ble 2 ((lb - 100) / 6) && Nat.ble ((lb - 100) / 6) 4
  | 4 => Nat.ble 2 ((lb - 100) / 6) && Nat.ble ((lb - 100) / 6) 4 && !(zz (a + 2 - (((lb - 100) / 6 : Nat) : Int)))
  | 5 => zz (a - (((lb - 100) / 6 : Nat) : Int))
  | _ => true)
def j_alk (v v' : zVw) (zs : List Int) (d : Nat × Option Nat) : Prop := match Nat.blt d.1 1000 with
  | true => (match d.2 with
    | none => v' d.1 = v d.1
    | some g => ∀ i : Int, 0 ≤ i → j_gz g zs i → v' d.1 i = v d.1 i)
  | false => ∀ lb : Nat, j_fm (d.1 - 1000) (zs.getD 0 0) lb = true → v' lb = v lb
def j_loc (e : zSy) : Prop := ∀ (v v' : zVw) (zs : List Int), (∀ d ∈ e.1, j_alk v v' zs d) → e.2 v zs → e.2 v' zs
section ZT2
variable {v v' : zVw}
theorem q_ar_c {n : Int} {j : Nat} (hb : v' 13 = v 13) (h14 : v' 14 j = v 14 j) (h15 : v' 15 j = v 15 j) (h16 : v' 16 j = v 16 j) (q : q_ar v n j) : q_ar v' n j := by
  have e : t_b v' = t_b v := by unfold t_b; rw [hb]
  unfold q_ar at q ⊢
  rw [e, h14, h15, h16]
  exact q
theorem q_mr_c {n : Int} {j : Nat} (hb : v' 13 = v 13) (h0 : v' 50 j = v 50 j) (h1 : v' 51 j = v 51 j) (h2 : v' 52 j = v 52 j) (h3 : v' 53 j = v 53 j) (q : q_mr v n j) : q_mr v' n j := by
  have e : t_b v' = t_b v := by unfold t_b; rw [hb]
  unfold q_mr at q ⊢
  rw [e, h0, h1, h2, h3]
  exact q
theorem q_all_c {b : Int → Int} {n : Int} {R R' : Nat → Prop} (h : ∀ j, R j → R' j) (q : q_all b n R) : q_all b n R' := ⟨q.1, fun j hj hz => h j (q.2 j hj hz)⟩
theorem q_upto_c {b : Int → Int} {n c : Int} {R R' : Nat → Prop} (h : ∀ j, R j → R' j) (q : q_upto b n c R) : q_upto b n c R' := ⟨q.1, q.2.1, q_all_c h q.2.2.1, q.2.2.2⟩
theorem a_run_H {b : Int → Int} {n : Int} : ∀ {c : Nat} {q : zQ}, a_run b n c = some q → q.2.2.2.1 = q.2.2.2.2.2.2.2.length
  | 0, q, h => by cases h; rfl
  | c + 1, q, h => by
    unfold a_run at h
    split at h
    · cases h
    · next q0 h0 =>
      split at h
      · cases h
        have := a_run_H h0
        obtain ⟨st, mo, op, H, L, W, WP, ns⟩ := q0
        dsimp only at this
        unfold a_nx
        dsimp only
        split
        · rw [List.length_append, this]; simp
        · exact this
      · cases h
theorem q_nms_c {b : Int → Int} {n c H : Int} {f : Nat → Int} {g g' : Int → Int} (h : ∀ i : Int, 0 ≤ i → i < H → g' i = g i) (q : q_nms b n c H f g) : q_nms b n c H f g' := by
  obtain ⟨q, h1, h2, h3⟩ := q
  refine ⟨q, h1, h2, fun i m hm => ?_⟩
  obtain ⟨a, e⟩ := h3 i m hm
  have l := (List.getElem?_eq_some_iff.mp hm).1
  rw [← Int.ofNat_lt, ← a_run_H h1, h2] at l
  exact ⟨a, by rw [h i (by omega) l]; exact e⟩
theorem q_66_c {P P' : Int → Int → Prop} (h : ∀ a b : Int, 0 ≤ a → a < 6 → 0 ≤ b → b < 6 → P a b → P' a b) (q : q_66 P) : q_66 P' := fun a b a0 a1 b0 b1 => h a b a0 a1 b0 b1 (q a b a0 a1 b0 b1)
theorem p_ar_c {f g f' g' : Int → Int} {l : Int} {C : List (Int × Int)} (hf : ∀ i : Int, 0 ≤ i → i < l → f' i = f i) (hg : ∀ i : Int, 0 ≤ i → i < l → g' i = g i) (h : p_ar f g l C) : p_ar f' g' l C := by
  obtain ⟨h1, h2⟩ := h
  refine ⟨h1, fun i x hi => ?_⟩
  have hl := (List.getElem?_eq_some_iff.mp hi).1
  rw [hf i (by omega) (by omega), hg i (by omega) (by omega)]
  exact h2 i x hi
theorem p_ao_c {v v' : zVw} {s k : Int} {C : List (Int × Int)} (hs : 0 ≤ s) (hf : ∀ i : Int, 0 ≤ i → i < k → v' 72 i = v 72 i) (hg : ∀ i : Int, 0 ≤ i → i < k → v' 73 i = v 73 i) (h : p_ao v s k C) : p_ao v' s k C := by
  obtain ⟨h1, h2⟩ := h
  refine ⟨h1, fun i x hi => ?_⟩
  have hl := (List.getElem?_eq_some_iff.mp hi).1
  rw [hf _ (by omega) (by omega), hg _ (by omega) (by omega)]
  exact h2 i x hi
theorem p_wt_c {v v' : zVw} {w : Int} {X : List Int} (hf : ∀ i : Int, 0 ≤ i → i < w → v' 74 i = v 74 i) (h : p_wt v w X) : p_wt v' w X := by
  obtain ⟨h1, h2⟩ := h
  refine ⟨h1, fun i o hi => ?_⟩
  have hl := (List.getElem?_eq_some_iff.mp hi).1
  rw [List.length_reverse] at hl
  rw [hf i (by omega) (by omega)]
  exact h2 i o hi
theorem p_b1_c {v v' : zVw} {j : Int} {y : Int × Int × Int × Int × Int} (h0 : v' 67 j = v 67 j) (h1 : v' 68 j = v 68 j) (h2 : v' 69 j = v 69 j) (h3 : v' 70 j = v 70 j) (h4 : v' 71 j = v 71 j) (h : p_b1 v j y) : p_b1 v' j y := by
  unfold p_b1 at h ⊢
  rw [h0, h1, h2, h3, h4]
  exact h
theorem p_bt_c {v v' : zVw} {s bb : Int} {E : List (Int × Int × Int × Int × Int)} (h : p_bt v s bb E) (hf : ∀ i : Nat, i < E.length → v' 67 (130 * s + i) = v 67 (130 * s + i) ∧ v' 68 (130 * s + i) = v 68 (130 * s + i) ∧ v' 69 (130 * s + i) = v 69 (130 * s + i) ∧ v' 70 (130 * s + i) = v 70 (130 * s + i) ∧ v' 71 (130 * s + i) = v 71 (130 * s + i)) : p_bt v' s bb E := by
  obtain ⟨h1, h2⟩ := h
  refine ⟨h1, fun i e hi => ?_⟩
  obtain ⟨a0, a1, a2, a3, a4⟩ := hf i (List.getElem?_eq_some_iff.mp hi).1
  exact p_b1_c a0 a1 a2 a3 a4 (h2 i e hi)
theorem p_lw_c {v v' : zVw} {s j : Int} {y : zYd} (h0 : v' 65 (4 * s + j) = v 65 (4 * s + j)) (h1 : v' 66 (4 * s + j) = v 66 (4 * s + j)) (h : p_lw v s y j) : p_lw v' s y j := by
  unfold p_lw at h ⊢
  rw [h0, h1]
  exact h
theorem e_pl_c {v v' : zVw} {l : Nat} {top : Int} {s : List Int} (hf : ∀ i : Int, 0 ≤ i → i < top → v' l i = v l i) (h : e_pl v l top s) : e_pl v' l top s := by
  obtain ⟨h1, h2⟩ := h
  refine ⟨h1, fun i x hi => ?_⟩
  have hl := (List.getElem?_eq_some_iff.mp hi).1
  rw [List.length_reverse] at hl
  rw [hf i (by omega) (by omega)]
  exact h2 i x hi
theorem e_B_c {v v' : zVw} {e : Int → Int} (h0 : v' 67 = v 67) (h1 : v' 68 = v 68) (h2 : v' 69 = v 69) (h3 : v' 70 = v 70) (h4 : v' 71 = v 71) (h5 : v' 72 = v 72) (h6 : v' 73 = v 73) : ∀ {n : Nat} {j : Int}, e_B v' e n j = e_B v e n j
  | 0, _ => rfl
  | n + 1, j => by
    have e9 : e_V v' e = e_V v e := by
      funext x z
      unfold e_V
      rw [h5, h6]
    rw [e_B, e_B, h0, h1, h2, h3, h4, e9, e_B_c h0 h1 h2 h3 h4 h5 h6]
theorem q_hs_c {b : Int → Int} {n c H : Int} {f g f' g' : Int → Int} (hf : ∀ i : Int, 0 ≤ i → i < H → f' i = f i) (hg : ∀ i : Int, 0 ≤ i → i < H → g' i = g i) (h : q_hs b n c H f g) : q_hs b n c H f' g' := ⟨q_nms_c hf h.1, q_nms_c hg h.2⟩
end ZT2
/-! rows: what they depend on -/
theorem j_fm_L {f j : Nat} (f1 : 1 ≤ f) (f2 : f ≤ 44) (hj : j ≤ 5) : (Nat.ble 106 (g_l f j) && Nat.ble (g_l f j) 369) = true ∧ (g_l f j - 100) / 6 = f := by
  unfold g_l
  rw [if_neg (by omega)]
  refine ⟨?_, by omega⟩
  rw [Bool.and_eq_true]
  exact ⟨Nat.ble_eq.mpr (by omega), Nat.ble_eq.mpr (by omega)⟩
theorem j_fm_1 {a : Int} {f j : Nat} (f1 : 5 ≤ f) (f2 : f ≤ 44) (hj : j ≤ 5) : j_fm 1 a (g_l f j) = true := by
  obtain ⟨h1, h2⟩ := j_fm_L (f := f) (j := j) (by omega) f2 hj
  unfold j_fm
  rw [h1, h2]
  show (true && Nat.ble 5 f) = true
  rw [Bool.true_and]
  exact Nat.ble_eq.mpr f1
theorem zz_ne {a : Int} (h : a ≠ 0) : zz a = false := by
  cases hz : zz a with
  | false => rfl
  | true => exact absurd (zz_iff.mp hz) h
theorem j_fm_2 {a : Int} {f j : Nat} (f1 : 5 ≤ f) (f2 : f ≤ 44) (hj : j ≤ 5) (ha : (f : Int) ≠ a + 5) : j_fm 2 a (g_l f j) = true := by
  obtain ⟨h1, h2⟩ := j_fm_L (f := f) (j := j) (by omega) f2 hj
  unfold j_fm
  rw [h1, h2]
  show (true && (Nat.ble 5 f && !(zz (a + 5 - (f : Int))))) = true
  rw [Bool.true_and, Nat.ble_eq.mpr f1, zz_ne (by omega)]
  rfl
theorem j_fm_3 {a : Int} {f j : Nat} (f1 : 2 ≤ f) (f2 : f ≤ 4) (hj : j ≤ 5) : j_fm 3 a (g_l f j) = true := by
  obtain ⟨h1, h2⟩ := j_fm_L (f := f) (j := j) (by omega) (by omega) hj
  unfold j_fm
  rw [h1, h2]
  show (true && (Nat.ble 2 f && Nat.ble f 4)) = true
  rw [Bool.true_and, Nat.ble_eq.mpr f1, Nat.ble_eq.mpr f2]
  rfl
theorem j_fm_4 {a : Int} {f j : Nat} (f1 : 2 ≤ f) (f2 : f ≤ 4) (hj : j ≤ 5) (ha : (f : Int) ≠ a + 2) : j_fm 4 a (g_l f j) = true := by
  obtain ⟨h1, h2⟩ := j_fm_L (f := f) (j := j) (by omega) (by omega) hj
  unfold j_fm
  rw [h1, h2]
  show (true && (Nat.ble 2 f && Nat.ble f 4 && !(zz (a + 2 - (f : Int))))) = true
  rw [Bool.true_and, Nat.ble_eq.mpr f1, Nat.ble_eq.mpr f2, zz_ne (by omega)]
  rfl
theorem j_fm_5 {a : Int} {j : Nat} (f1 : 1 ≤ a) (f2 : a ≤ 44) (hj : j ≤ 5) : j_fm 5 a (g_l a.toNat j) = true := by
  obtain ⟨h1, h2⟩ := j_fm_L (f := a.toNat) (j := j) (by omega) (by omega) hj
  unfold j_fm
  rw [h1, h2]
  show (true && zz (a - (a.toNat : Int))) = true
  rw [Bool.true_and]
  exact zz_iff.mpr (by omega)
section ZT5
variable {v v' : zVw}
theorem g_raw_c (h20 : v' 20 = v 20) (h21 : v' 21 = v 21) (h22 : v' 22 = v 22) (h23 : v' 23 = v 23) : g_raw v' = g_raw v := by
  funext q k A h l o
  unfold g_raw
  rw [h20, h21, h22, h23]
theorem g_lw_c (h20 : v' 20 = v 20) (h21 : v' 21 = v 21) (h22 : v' 22 = v 22) (h23 : v' 23 = v 23) : g_lw v' = g_lw v := by
  funext q k A h
  unfold g_lw
  rw [g_raw_c h20 h21 h22 h23]
theorem g_jo_c (h20 : v' 20 = v 20) (h21 : v' 21 = v 21) (h22 : v' 22 = v 22) (h23 : v' 23 = v 23) (h18 : v' 18 = v 18) : g_jo v' = g_jo v := by
  funext q A a b
  unfold g_jo g_rj
  rw [g_raw_c h20 h21 h22 h23, h20, h18]
theorem g_rj_c (h20 : v' 20 = v 20) (h21 : v' 21 = v 21) (h22 : v' 22 = v 22) (h23 : v' 23 = v 23) (h18 : v' 18 = v 18) : g_rj v' = g_rj v := by
  funext q A a b
  unfold g_rj
  rw [g_raw_c h20 h21 h22 h23, h20, h18]
theorem g_nha_c (h20 : v' 20 = v 20) (h21 : v' 21 = v 21) (h22 : v' 22 = v 22) (h23 : v' 23 = v 23) : g_nha v' = g_nha v := by
  funext q b s A h
  unfold g_nha
  rw [g_lw_c h20 h21 h22 h23]
theorem g_nst_c (h20 : v' 20 = v 20) (h21 : v' 21 = v 21) (h22 : v' 22 = v 22) (h23 : v' 23 = v 23) : g_nst v' = g_nst v := by
  funext q A h
  unfold g_nst
  rw [g_lw_c h20 h21 h22 h23]
theorem g_y1_c (h20 : v' 20 = v 20) (h21 : v' 21 = v 21) (h22 : v' 22 = v 22) (h23 : v' 23 = v 23) : g_y1 v' = g_y1 v := by
  funext q b s A h i
  unfold g_y1
  rw [g_nha_c h20 h21 h22 h23, g_nst_c h20 h21 h22 h23]
theorem g_ya_c (h20 : v' 20 = v 20) (h21 : v' 21 = v 21) (h22 : v' 22 = v 22) (h23 : v' 23 = v 23) : g_ya v' = g_ya v := by
  funext q b s A n
  induction n with
  | zero => rfl
  | succ n ih => rw [g_ya, g_ya, ih, g_y1_c h20 h21 h22 h23]
theorem g_yr_c (h20 : v' 20 = v 20) (h21 : v' 21 = v 21) (h22 : v' 22 = v 22) (h23 : v' 23 = v 23) : g_yr v' = g_yr v := by
  funext q b s H A n
  induction n with
  | zero => rfl
  | succ n ih => rw [g_yr, g_yr, ih, g_ya_c h20 h21 h22 h23]
theorem g_ys_c (h20 : v' 20 = v 20) (h21 : v' 21 = v 21) (h22 : v' 22 = v 22) (h23 : v' 23 = v 23) : g_ys v' = g_ys v := by
  funext q b s h A n
  induction n with
  | zero => rfl
  | succ n ih => rw [g_ys, g_ys, ih, g_y1_c h20 h21 h22 h23]
theorem g_h7_c (h20 : v' 20 = v 20) (h21 : v' 21 = v 21) (h22 : v' 22 = v 22) (h23 : v' 23 = v 23) : g_h7 v' = g_h7 v := by
  funext q b s h e N A n
  induction n with
  | zero => rfl
  | succ n ih => rw [g_h7, g_h7, ih, g_y1_c h20 h21 h22 h23]
theorem g_h8_c (h20 : v' 20 = v 20) (h21 : v' 21 = v 21) (h22 : v' 22 = v 22) (h23 : v' 23 = v 23) : g_h8 v' = g_h8 v := by
  funext q b s H h e N A n
  induction n with
  | zero => rfl
  | succ n ih => rw [g_h8, g_h8, ih, g_ya_c h20 h21 h22 h23]
theorem g_hv_c (h20 : v' 20 = v 20) (h21 : v' 21 = v 21) (h22 : v' 22 = v 22) (h23 : v' 23 = v 23) : g_hv v' = g_hv v := by
  funext q h e N A n
  induction n with
  | zero => rfl
  | succ n ih => rw [g_hv, g_hv, ih, g_y1_c h20 h21 h22 h23, g_h7_c h20 h21 h22 h23]
theorem g_hb_c (h20 : v' 20 = v 20) (h21 : v' 21 = v 21) (h22 : v' 22 = v 22) (h23 : v' 23 = v 23) : g_hb v' = g_hb v := by
  funext q h N A n
  induction n with
  | zero => rfl
  | succ n ih => rw [g_hb, g_hb, ih, g_hv_c h20 h21 h22 h23]
theorem g_F_c (h20 : v' 20 = v 20) (h21 : v' 21 = v 21) (h22 : v' 22 = v 22) (h23 : v' 23 = v 23) : g_F v' = g_F v := by
  funext q b s o a1 a2 a3 A
  unfold g_F
  rw [g_ya_c h20 h21 h22 h23, g_yr_c h20 h21 h22 h23, g_ys_c h20 h21 h22 h23, g_y1_c h20 h21 h22 h23, g_h7_c h20 h21 h22 h23, g_h8_c h20 h21 h22 h23]
  have e : g_spl v' = g_spl v := by
    funext h A i
    unfold g_spl
    rw [h20]
  rw [e]
theorem g_sp_c (h20 : v' 20 = v 20) (h21 : v' 21 = v 21) (h22 : v' 22 = v 22) (h23 : v' 23 = v 23) (h18 : v' 18 = v 18) : g_sp v' = g_sp v := by
  funext q A k
  unfold g_sp
  rw [g_jo_c h20 h21 h22 h23 h18]
theorem g_br_c (h20 : v' 20 = v 20) (h21 : v' 21 = v 21) (h22 : v' 22 = v 22) (h23 : v' 23 = v 23) (h18 : v' 18 = v 18) : g_br v' = g_br v := by
  funext q A w u
  unfold g_br
  rw [g_sp_c h20 h21 h22 h23 h18]
theorem g_co_c (h20 : v' 20 = v 20) (h21 : v' 21 = v 21) (h22 : v' 22 = v 22) (h23 : v' 23 = v 23) : g_co v' = g_co v := by
  funext q A h
  unfold g_co
  rw [g_lw_c h20 h21 h22 h23]
theorem g_gn_c (h20 : v' 20 = v 20) (h21 : v' 21 = v 21) (h22 : v' 22 = v 22) (h23 : v' 23 = v 23) : g_gn v' = g_gn v := by
  funext q A w z x h
  unfold g_gn
  rw [g_co_c h20 h21 h22 h23]
theorem g_ri_c (h20 : v' 20 = v 20) (h21 : v' 21 = v 21) (h22 : v' 22 = v 22) (h23 : v' 23 = v 23) : g_ri v' = g_ri v := by
  funext q A w z x n
  induction n with
  | zero => rfl
  | succ n ih => rw [g_ri, g_ri, ih, g_gn_c h20 h21 h22 h23]
theorem g_rr_c (h20 : v' 20 = v 20) (h21 : v' 21 = v 21) (h22 : v' 22 = v 22) (h23 : v' 23 = v 23) : g_rr v' = g_rr v := by
  funext q A w z n
  induction n with
  | zero => rfl
  | succ n ih => rw [g_rr, g_rr, ih, g_ri_c h20 h21 h22 h23]
theorem o_l_c {f f' : Int → Int} {m : Int} (h : ∀ i : Int, 0 ≤ i → i < m → f' i = f i) : o_l f' m.toNat = o_l f m.toNat := by
  have : ∀ n : Nat, (n : Int) ≤ m ∨ n = 0 → o_l f' n = o_l f n := by
    intro n
    induction n with
    | zero => exact fun _ => rfl
    | succ n ih =>
      intro d
      show f' n :: o_l f' n = f n :: o_l f n
      rw [h n (by omega) (by omega), ih (by omega)]
  exact this _ (by omega)
theorem o_u_c {f f' : Int → Int} {i : Int} {n : Nat} (h : ∀ t : Int, i ≤ t → t < i + n → f' t = f t) : o_u f' i n = o_u f i n := by
  induction n generalizing i with
  | zero => rfl
  | succ n ih =>
    show f' i :: o_u f' (i + 1) n = f i :: o_u f (i + 1) n
    rw [h i (by omega) (by omega), ih (fun t t0 t1 => h t (by omega) (by omega))]
theorem o_S_c (h20 : v' 20 = v 20) : o_S v' = o_S v := by
  funext A i
  unfold o_S
  rw [h20]
theorem g_j9_c (h20 : v' 20 = v 20) (h21 : v' 21 = v 21) (h22 : v' 22 = v 22) (h23 : v' 23 = v 23) : g_j9 v' = g_j9 v := by
  funext q A a b
  unfold g_j9
  rw [g_raw_c h20 h21 h22 h23, h20]
theorem g_jy_c (h20 : v' 20 = v 20) (h21 : v' 21 = v 21) (h22 : v' 22 = v 22) (h23 : v' 23 = v 23) (h18 : v' 18 = v 18) : g_jy v' = g_jy v := by
  funext q A y i k
  unfold g_jy
  rw [g_jo_c h20 h21 h22 h23 h18, g_j9_c h20 h21 h22 h23]
theorem o_Q_c (h20 : v' 20 = v 20) : o_Q v' = o_Q v := by
  funext K A w x r
  unfold o_Q
  rw [o_S_c h20]
theorem o_x_c (h20 : v' 20 = v 20) : o_x v' = o_x v := by
  funext K A W u X
  unfold o_x
  rw [o_S_c h20, o_Q_c h20]
theorem o_i_c (h20 : v' 20 = v 20) : o_i v' = o_i v := by
  funext K A w W e u X
  unfold o_i
  rw [o_Q_c h20]
theorem o_E_c (h20 : v' 20 = v 20) : o_E v' = o_E v := by
  funext K A w W
  unfold o_E
  rw [o_Q_c h20]
theorem o_v_c (h20 : v' 20 = v 20) : o_v v' = o_v v := by
  funext K A W k u
  unfold o_v
  rw [o_S_c h20, o_Q_c h20]
theorem o_f1_c (h20 : v' 20 = v 20) : o_f1 v' = o_f1 v := by
  funext A J w W c
  unfold o_f1
  rw [o_E_c h20]
theorem o_n1_c (h20 : v' 20 = v 20) : o_n1 v' = o_n1 v := by
  funext A J w W
  unfold o_n1
  rw [o_E_c h20]
theorem o_f2_c (h20 : v' 20 = v 20) : o_f2 v' = o_f2 v := by
  funext A J w W c d
  unfold o_f2
  rw [o_E_c h20]
theorem o_n2_c (h20 : v' 20 = v 20) : o_n2 v' = o_n2 v := by
  funext A J w W
  unfold o_n2
  rw [o_E_c h20]
theorem o_pce_c (h20 : v' 20 = v 20) : o_pce v' = o_pce v := by
  funext A J w W x u
  unfold o_pce
  rw [o_E_c h20, o_f1_c h20, o_n1_c h20, o_f2_c h20, o_n2_c h20]
theorem o_p1_c (h20 : v' 20 = v 20) : o_p1 v' = o_p1 v := by
  funext A J w W k
  unfold o_p1
  rw [o_E_c h20]
theorem o_p2_c (h20 : v' 20 = v 20) : o_p2 v' = o_p2 v := by
  funext A J w W k l
  unfold o_p2
  rw [o_E_c h20]
theorem o_k1_c (h20 : v' 20 = v 20) : o_k1 v' = o_k1 v := by
  funext A J w W k
  unfold o_k1
  rw [o_E_c h20]
theorem o_k2_c (h20 : v' 20 = v 20) : o_k2 v' = o_k2 v := by
  funext A J w W k l
  unfold o_k2
  rw [o_E_c h20]
theorem q_Q_c (h20 : v' 20 = v 20) (h21 : v' 21 = v 21) (h22 : v' 22 = v 22) (h23 : v' 23 = v 23) (h18 : v' 18 = v 18) : q_Q v' = q_Q v := by
  funext q b s A c x1 x2 u
  unfold q_Q
  rw [g_sp_c h20 h21 h22 h23 h18, g_br_c h20 h21 h22 h23 h18, g_lw_c h20 h21 h22 h23, g_jo_c h20 h21 h22 h23 h18, g_rj_c h20 h21 h22 h23 h18, g_raw_c h20 h21 h22 h23, g_nha_c h20 h21 h22 h23, g_nst_c h20 h21 h22 h23, g_ys_c h20 h21 h22 h23, g_yr_c h20 h21 h22 h23, g_co_c h20 h21 h22 h23, g_gn_c h20 h21 h22 h23, g_ri_c h20 h21 h22 h23, g_rr_c h20 h21 h22 h23, h20, g_hv_c h20 h21 h22 h23, g_hb_c h20 h21 h22 h23, g_jy_c h20 h21 h22 h23 h18, g_j9_c h20 h21 h22 h23, o_Q_c h20, o_x_c h20, o_i_c h20, o_E_c h20, o_pce_c h20]
theorem g_nw_c (h : v' 77 = v 77) : g_nw v' = g_nw v := by
  unfold g_nw
  rw [h]
theorem g_sb_c {H : Int} (h : v' 20 = v 20) (q : g_sb v H) : g_sb v' H := by
  unfold g_sb
  rw [h]
  exact q
theorem g_sv_c {f : Nat} (h : ∀ j : Nat, 1 ≤ j → j ≤ 5 → v' (g_l f j) = v (g_l f j)) : g_sv v' f = g_sv v f := by
  funext H p y d
  unfold g_sv
  rw [h 1 (by omega) (by omega), h 2 (by omega) (by omega), h 3 (by omega) (by omega), h 4 (by omega) (by omega), h 5 (by omega) (by omega)]
theorem g_sv0_c (h1 : v' 27 = v 27) (h2 : v' 28 = v 28) (h3 : v' 29 = v 29) (h4 : v' 30 = v 30) (h5 : v' 31 = v 31) : g_sv v' 0 = g_sv v 0 := by
  funext H p y d
  show g_rv (v' 27) (v' 28) (v' 29) (v' 30) (v' 31) H p y d = g_rv (v 27) (v 28) (v 29) (v 30) (v 31) H p y d
  rw [h1, h2, h3, h4, h5]
theorem g_sv1_c (h1 : v' 107 = v 107) (h2 : v' 108 = v 108) (h3 : v' 109 = v 109) (h4 : v' 110 = v 110) (h5 : v' 111 = v 111) : g_sv v' 1 = g_sv v 1 := by
  funext H p y d
  show g_rv (v' 107) (v' 108) (v' 109) (v' 110) (v' 111) H p y d = g_rv (v 107) (v 108) (v 109) (v 110) (v 111) H p y d
  rw [h1, h2, h3, h4, h5]
theorem q_kp_c {f : Nat} {H : Int} {A A' : Int → Int} (h : ∀ j : Nat, j ≤ 5 → v' (g_l f j) = v (g_l f j)) (e : A' = A) (q : q_kp v f H A) : q_kp v' f H A' := by
  subst e
  obtain ⟨q1, q2, q3⟩ := q
  refine ⟨q1, by rw [h 0 (by omega)]; exact q2, ?_⟩
  unfold g_fv at q3 ⊢
  rw [g_sv_c (fun j _ hj => h j hj), h 0 (by omega)]
  exact q3
theorem g_rv_c {ha gi wh le sr ha' gi' wh' le' sr' : Int → Int} {H p y d : Int} (h1 : ∀ i : Int, 0 ≤ i → ha' i = ha i) (h2 : ∀ i : Int, 0 ≤ i → gi' i = gi i) (h3 : ∀ i : Int, 0 ≤ i → wh' i = wh i) (h4 : ∀ i : Int, 0 ≤ i → le' i = le i) (h5 : ∀ i : Int, 0 ≤ i → sr' i = sr i) : g_rv ha' gi' wh' le' sr' H p y d = g_rv ha gi wh le sr H p y d := by
  have hp : ∀ (h : Int) (n : Nat), g_pl wh' h n = g_pl wh h n := by
    intro h n
    induction n with
    | zero => rfl
    | succ n ih => rw [g_pl, g_pl, ih, h3 n (by omega)]
  funext i
  unfold g_rv
  rw [hp, hp]
  by_cases c0 : i < 0
  · rw [if_pos c0, if_pos c0]
  · rw [if_neg c0, if_neg c0, h1 i (by omega)]
    by_cases c1 : i < 6
    · rw [if_pos c1, if_pos c1]
    · rw [if_neg c1, if_neg c1]
      by_cases c2 : i < 12
      · rw [if_pos c2, if_pos c2]
        split
        · next c => rw [h4 _ c]
        · rfl
      · rw [if_neg c2, if_neg c2]
        by_cases c3 : i < 18
        · rw [if_pos c3, if_pos c3]
          split
          · next c => rw [h5 _ c]
          · rfl
        · rw [if_neg c3, if_neg c3, h2 _ (by omega)]
          by_cases c4 : i < 24
          · rw [if_pos c4, if_pos c4]
          · rw [if_neg c4, if_neg c4]
            by_cases c5 : i = 24
            · rw [if_pos c5, if_pos c5]
            · rw [if_neg c5, if_neg c5, h3 _ (by omega)]
theorem g_b_c {f f' : Int → Int} {o a : Int} (o0 : 0 ≤ o) (ho : o + 33 ≤ a) (h : ∀ i : Int, 0 ≤ i → i < a → f' i = f i) : g_b f' o = g_b f o := by
  funext i
  unfold g_b
  split
  · exact h _ (by omega) (by omega)
  · rfl
theorem q_but_c {f f' g : Int → Int} {P : Int → Prop} (h : ∀ i : Int, 0 ≤ i → ¬ P i → f' i = f i) (q : q_but f g P) : q_but f' g P := fun i i0 i1 hn => by rw [h i i0 hn]; exact q i i0 i1 hn
end ZT5
theorem j_loc0 : j_loc j_s := fun _ _ _ _ _ => trivial
theorem j_loc20 : j_loc j_s20 := by
  intro v v' zs hd q
  unfold j_s20 at hd q ⊢
  dsimp only at hd q ⊢
  split
  case h_2 => trivial
  rename_i p c
  dsimp only at q
  have hb : v' 13 = v 13 := hd (13, none) (by decide)
  have eb : t_b v' = t_b v := by unfold t_b; rw [hb]
  rw [eb]
  exact q
theorem j_loc21 : j_loc j_s21 := fun _ _ _ _ q => q
theorem j_loc22 : j_loc j_s22 := by
  intro v v' zs hd q
  unfold j_s22 at hd q ⊢
  dsimp only at hd q ⊢
  split
  case h_2 => trivial
  rename_i f n a p
  dsimp only at q
  have hb : v' 13 = v 13 := hd (13, none) (by decide)
  have eb : t_b v' = t_b v := by unfold t_b; rw [hb]
  rw [eb]
  exact q
theorem j_loc23 : j_loc j_s23 := by
  intro v v' zs hd q
  unfold j_s23 at hd q ⊢
  dsimp only at hd q ⊢
  split
  case h_2 => trivial
  rename_i f n a p
  dsimp only at q
  have hb : v' 13 = v 13 := hd (13, none) (by decide)
  have eb : t_b v' = t_b v := by unfold t_b; rw [hb]
  rw [eb]
  exact q
theorem j_loc24 : j_loc j_s24 := by
  intro v v' zs hd q
  unfold j_s24 at hd q ⊢
  dsimp only at hd q ⊢
  split
  case h_2 => trivial
  rename_i a e x
  dsimp only at q
  have hb : v' 13 = v 13 := hd (13, none) (by decide)
  have eb : t_b v' = t_b v := by unfold t_b; rw [hb]
  rw [eb]
  exact q
theorem j_loc25 : j_loc j_s25 := by
  intro v v' zs hd q
  unfold j_s25 at hd q ⊢
  dsimp only at hd q ⊢
  split
  case h_2 => trivial
  rename_i a e x
  dsimp only at q
  have hb : v' 13 = v 13 := hd (13, none) (by decide)
  have eb : t_b v' = t_b v := by unfold t_b; rw [hb]
  rw [eb]
  exact q
theorem j_loc26 : j_loc j_s26 := by
  intro v v' zs hd q
  unfold j_s26 at hd q ⊢
  dsimp only at hd q ⊢
  split
  case h_2 => trivial
  rename_i a e x
  dsimp only at q
  have hb : v' 13 = v 13 := hd (13, none) (by decide)
  have eb : t_b v' = t_b v := by unfold t_b; rw [hb]
  rw [eb]
  exact q
theorem j_loc27 : j_loc j_s27 := by
  intro v v' zs hd q
  unfold j_s27 at hd q ⊢
  dsimp only at hd q ⊢
  split
  case h_2 => trivial
  rename_i x a w i
  dsimp only at q
  have hb : v' 13 = v 13 := hd (13, none) (by decide)
  have eb : t_b v' = t_b v := by unfold t_b; rw [hb]
  rw [eb]
  exact q
theorem j_loc28 : j_loc j_s28 := by
  intro v v' zs hd q
  unfold j_s28 at hd q ⊢
  dsimp only at hd q ⊢
  split
  case h_2 => trivial
  rename_i x a w r
  dsimp only at q
  have hb : v' 13 = v 13 := hd (13, none) (by decide)
  have eb : t_b v' = t_b v := by unfold t_b; rw [hb]
  rw [eb]
  exact q
theorem j_loc29 : j_loc j_s29 := by
  intro v v' zs hd q
  unfold j_s29 at hd q ⊢
  dsimp only at hd q ⊢
  split
  case h_2 => trivial
  rename_i a w x
  dsimp only at q
  have hb : v' 13 = v 13 := hd (13, none) (by decide)
  have eb : t_b v' = t_b v := by unfold t_b; rw [hb]
  rw [eb]
  exact q
theorem j_loc30 : j_loc j_s30 := by
  intro v v' zs hd q
  unfold j_s30 at hd q ⊢
  dsimp only at hd q ⊢
  split
  case h_2 => trivial
  rename_i a w r
  dsimp only at q
  have hb : v' 13 = v 13 := hd (13, none) (by decide)
  have eb : t_b v' = t_b v := by unfold t_b; rw [hb]
  rw [eb]
  exact q
theorem j_loc31 : j_loc j_s31 := by
  intro v v' zs hd q
  unfold j_s31 at hd q ⊢
  dsimp only at hd q ⊢
  split
  case h_2 => trivial
  rename_i n k p
  dsimp only at q
  have hb : v' 13 = v 13 := hd (13, none) (by decide)
  have eb : t_b v' = t_b v := by unfold t_b; rw [hb]
  rw [eb]
  obtain ⟨a, b, c, d⟩ := q
  have h4 := hd (14, some 1) (by decide)
  have h5 := hd (15, some 1) (by decide)
  have h6 := hd (16, some 1) (by decide)
  exact ⟨a, b, c, fun j hj => q_ar_c hb (h4 j (by omega) hj) (h5 j (by omega) hj) (h6 j (by omega) hj) (d j hj)⟩
theorem j_loc32 : j_loc j_s32 := by
  intro v v' zs hd q
  unfold j_s32 at hd q ⊢
  dsimp only at hd q ⊢
  split
  case h_2 => trivial
  rename_i n k s
  dsimp only at q
  have hb : v' 13 = v 13 := hd (13, none) (by decide)
  have eb : t_b v' = t_b v := by unfold t_b; rw [hb]
  rw [eb]
  exact q
theorem j_loc33 : j_loc j_s33 := by
  intro v v' zs hd q
  unfold j_s33 at hd q ⊢
  dsimp only at hd q ⊢
  split
  case h_2 => trivial
  rename_i i
  dsimp only at q
  have h := hd (98, some 0) (by decide)
  intro k k0 k1
  rw [h k k0 k1]
  exact q k k0 k1
theorem j_loc34 : j_loc j_s34 := by
  intro v v' zs hd q
  unfold j_s34 at hd q ⊢
  dsimp only at hd q ⊢
  split
  case h_2 => trivial
  rename_i n c
  dsimp only at q
  have hb : v' 13 = v 13 := hd (13, none) (by decide)
  have eb : t_b v' = t_b v := by unfold t_b; rw [hb]
  rw [eb, show v' 98 = v 98 from hd (98, none) (by decide)]
  exact q
theorem j_loc35 : j_loc j_s35 := by
  intro v v' zs hd q
  unfold j_s35 at hd q ⊢
  dsimp only at hd q ⊢
  split
  case h_2 => trivial
  rename_i n c
  dsimp only at q
  have hb : v' 13 = v 13 := hd (13, none) (by decide)
  have eb : t_b v' = t_b v := by unfold t_b; rw [hb]
  rw [eb]
  exact q_upto_c (fun j => q_ar_c hb (congrFun (hd (14, none) (by decide)) j) (congrFun (hd (15, none) (by decide)) j) (congrFun (hd (16, none) (by decide)) j)) q
theorem j_loc36 : j_loc j_s36 := by
  intro v v' zs hd q
  unfold j_s36 at hd q ⊢
  dsimp only at hd q ⊢
  split
  case h_2 => trivial
  rename_i n c kd s x
  dsimp only at q
  have hb : v' 13 = v 13 := hd (13, none) (by decide)
  have eb : t_b v' = t_b v := by unfold t_b; rw [hb]
  rw [eb]
  exact q
theorem j_loc37 : j_loc j_s37 := by
  intro v v' zs hd q
  unfold j_s37 at hd q ⊢
  dsimp only at hd q ⊢
  split
  case h_2 => trivial
  rename_i n
  dsimp only at q
  have hb : v' 13 = v 13 := hd (13, none) (by decide)
  have eb : t_b v' = t_b v := by unfold t_b; rw [hb]
  rw [eb]
  exact q_all_c (fun j => q_ar_c hb (congrFun (hd (14, none) (by decide)) j) (congrFun (hd (15, none) (by decide)) j) (congrFun (hd (16, none) (by decide)) j)) q
theorem j_loc38 : j_loc j_s38 := by
  intro v v' zs hd q
  unfold j_s38 at hd q ⊢
  dsimp only at hd q ⊢
  split
  case h_2 => trivial
  rename_i n c j
  dsimp only at q
  have hb : v' 13 = v 13 := hd (13, none) (by decide)
  have eb : t_b v' = t_b v := by unfold t_b; rw [hb]
  rw [eb]
  have h := hd (98, some 102) (by decide)
  exact ⟨q.1, q_66_c (fun a b a0 a1 b0 b1 g hn => by rw [h _ (by omega) hn]; exact g hn) q.2⟩
theorem j_loc39 : j_loc j_s39 := by
  intro v v' zs hd q
  unfold j_s39 at hd q ⊢
  dsimp only at hd q ⊢
  split
  case h_2 => trivial
  rename_i n c j x k
  dsimp only at q
  have hb : v' 13 = v 13 := hd (13, none) (by decide)
  have eb : t_b v' = t_b v := by unfold t_b; rw [hb]
  rw [eb]
  have h := hd (98, some 104) (by decide)
  exact ⟨q.1, q_66_c (fun a b a0 a1 b0 b1 g hn hk => by rw [h _ (by omega) hk]; exact g hn hk) q.2.1, fun j0 hj => by rw [h _ j0 hj]; exact q.2.2 j0 hj⟩
theorem j_loc40 : j_loc j_s40 := by
  intro v v' zs hd q
  unfold j_s40 at hd q ⊢
  dsimp only at hd q ⊢
  split
  case h_2 => trivial
  rename_i n c st mo op H L W WP S
  dsimp only at q
  have hb : v' 13 = v 13 := hd (13, none) (by decide)
  have eb : t_b v' = t_b v := by unfold t_b; rw [hb]
  rw [eb]
  exact q
theorem j_loc41 : j_loc j_s41 := by
  intro v v' zs hd q
  unfold j_s41 at hd q ⊢
  dsimp only at hd q ⊢
  split
  case h_2 => trivial
  rename_i n f p
  dsimp only at q
  have hb : v' 13 = v 13 := hd (13, none) (by decide)
  have eb : t_b v' = t_b v := by unfold t_b; rw [hb]
  rw [eb]
  exact q
theorem j_loc42 : j_loc j_s42 := by
  intro v v' zs hd q
  unfold j_s42 at hd q ⊢
  dsimp only at hd q ⊢
  split
  case h_2 => trivial
  rename_i n c K kd s
  dsimp only at q
  have hb : v' 13 = v 13 := hd (13, none) (by decide)
  have eb : t_b v' = t_b v := by unfold t_b; rw [hb]
  rw [eb]
  exact q
theorem j_loc43 : j_loc j_s43 := by
  intro v v' zs hd q
  unfold j_s43 at hd q ⊢
  dsimp only at hd q ⊢
  split
  case h_2 => trivial
  rename_i n c H
  dsimp only at q
  have hb : v' 13 = v 13 := hd (13, none) (by decide)
  have eb : t_b v' = t_b v := by unfold t_b; rw [hb]
  rw [eb]
  exact q_nms_c (hd (97, some 2) (by decide)) q
theorem j_loc44 : j_loc j_s44 := by
  intro v v' zs hd q
  unfold j_s44 at hd q ⊢
  dsimp only at hd q ⊢
  split
  case h_2 => trivial
  rename_i n c r
  dsimp only at q
  have hb : v' 13 = v 13 := hd (13, none) (by decide)
  have eb : t_b v' = t_b v := by unfold t_b; rw [hb]
  rw [eb]
  exact q
theorem j_loc45 : j_loc j_s45 := by
  intro v v' zs hd q
  unfold j_s45 at hd q ⊢
  dsimp only at hd q ⊢
  split
  case h_2 => trivial
  rename_i n c j
  dsimp only at q
  have hb : v' 13 = v 13 := hd (13, none) (by decide)
  have eb : t_b v' = t_b v := by unfold t_b; rw [hb]
  rw [eb]
  exact q
theorem j_loc46 : j_loc j_s46 := by
  intro v v' zs hd q
  unfold j_s46 at hd q ⊢
  dsimp only at hd q ⊢
  split
  case h_2 => trivial
  rename_i n c r q x
  dsimp only at q
  have hb : v' 13 = v 13 := hd (13, none) (by decide)
  have eb : t_b v' = t_b v := by unfold t_b; rw [hb]
  rw [eb, show v' 98 = v 98 from hd (98, none) (by decide)]
  exact q
theorem j_loc47 : j_loc j_s47 := by
  intro v v' zs hd q
  unfold j_s47 at hd q ⊢
  dsimp only at hd q ⊢
  split
  case h_2 => trivial
  rename_i n f q
  dsimp only at q
  have hb : v' 13 = v 13 := hd (13, none) (by decide)
  have eb : t_b v' = t_b v := by unfold t_b; rw [hb]
  rw [eb]
  exact q
theorem j_loc48 : j_loc j_s48 := fun _ _ _ _ q => q
theorem j_loc49 : j_loc j_s49 := fun _ _ _ _ q => q
theorem j_loc50 : j_loc j_s50 := fun _ _ _ _ q => q
theorem j_loc51 : j_loc j_s51 := fun _ _ _ _ q => q
theorem j_loc52 : j_loc j_s52 := by
  intro v v' zs hd q
  unfold j_s52 at hd q ⊢
  dsimp only at hd q ⊢
  split
  case h_2 => trivial
  rename_i n
  dsimp only at q
  have hb : v' 13 = v 13 := hd (13, none) (by decide)
  have eb : t_b v' = t_b v := by unfold t_b; rw [hb]
  rw [hb, show v' 49 = v 49 from hd (49, none) (by decide)]
  exact q
theorem j_loc53 : j_loc j_s53 := by
  intro v v' zs hd q
  unfold j_s53 at hd q ⊢
  dsimp only at hd q ⊢
  split
  case h_2 => trivial
  rename_i n
  dsimp only at q
  have h4 := hd (13, some 0) (by decide)
  have h5 := hd (48, some 0) (by decide)
  intro i h0 h1
  rw [h4 i h0 h1, h5 i h0 h1]
  exact q i h0 h1
theorem j_loc54 : j_loc j_s54 := by
  intro v v' zs hd q
  unfold j_s54 at hd q ⊢
  dsimp only at hd q ⊢
  split
  case h_2 => trivial
  rename_i n
  dsimp only at q
  have h4 := hd (49, some 0) (by decide)
  intro i h0 h1
  rw [h4 i h0 h1, show v' 48 = v 48 from hd (48, none) (by decide)]
  exact q i h0 h1
theorem j_loc55 : j_loc j_s55 := by
  intro v v' zs hd q
  unfold j_s55 at hd q ⊢
  dsimp only at hd q ⊢
  split
  case h_2 => trivial
  dsimp only at q
  rw [show v' 54 = v 54 from hd (54, none) (by decide)]
  exact q
theorem j_loc56 : j_loc j_s56 := by
  intro v v' zs hd q
  unfold j_s56 at hd q ⊢
  dsimp only at hd q ⊢
  split
  case h_2 => trivial
  rename_i n k i
  dsimp only at q
  have hb : v' 13 = v 13 := hd (13, none) (by decide)
  have eb : t_b v' = t_b v := by unfold t_b; rw [hb]
  rw [eb]
  obtain ⟨a, b, c, d, e⟩ := q
  have h4 := hd (50, some 1) (by decide)
  have h5 := hd (51, some 1) (by decide)
  have h6 := hd (52, some 1) (by decide)
  have h7 := hd (53, some 1) (by decide)
  exact ⟨a, b, c, d, fun j hj => q_mr_c hb (h4 j (by omega) hj) (h5 j (by omega) hj) (h6 j (by omega) hj) (h7 j (by omega) hj) (e j hj)⟩
theorem j_loc57 : j_loc j_s57 := by
  intro v v' zs hd q
  unfold j_s57 at hd q ⊢
  dsimp only at hd q ⊢
  split
  case h_2 => trivial
  rename_i n
  dsimp only at q
  have hb : v' 13 = v 13 := hd (13, none) (by decide)
  have eb : t_b v' = t_b v := by unfold t_b; rw [hb]
  rw [eb]
  exact q_all_c (fun j => q_mr_c hb (congrFun (hd (50, none) (by decide)) j) (congrFun (hd (51, none) (by decide)) j) (congrFun (hd (52, none) (by decide)) j) (congrFun (hd (53, none) (by decide)) j)) q
theorem j_loc58 : j_loc j_s58 := by
  intro v v' zs hd q
  unfold j_s58 at hd q ⊢
  dsimp only at hd q ⊢
  split
  case h_2 => trivial
  rename_i n c
  dsimp only at q
  have hb : v' 13 = v 13 := hd (13, none) (by decide)
  have eb : t_b v' = t_b v := by unfold t_b; rw [hb]
  rw [eb]
  exact q_upto_c (fun j => q_mr_c hb (congrFun (hd (50, none) (by decide)) j) (congrFun (hd (51, none) (by decide)) j) (congrFun (hd (52, none) (by decide)) j) (congrFun (hd (53, none) (by decide)) j)) q
theorem j_loc59 : j_loc j_s59 := by
  intro v v' zs hd q
  unfold j_s59 at hd q ⊢
  dsimp only at hd q ⊢
  split
  case h_2 => trivial
  rename_i n c u s
  dsimp only at q
  have hb : v' 13 = v 13 := hd (13, none) (by decide)
  have eb : t_b v' = t_b v := by unfold t_b; rw [hb]
  rw [eb]
  exact q
theorem j_loc60 : j_loc j_s60 := fun _ _ _ _ q => q
theorem j_loc61 : j_loc j_s61 := by
  intro v v' zs hd q
  unfold j_s61 at hd q ⊢
  dsimp only at hd q ⊢
  split
  case h_2 => trivial
  rename_i n c i
  dsimp only at q
  have hb : v' 13 = v 13 := hd (13, none) (by decide)
  have eb : t_b v' = t_b v := by unfold t_b; rw [hb]
  rw [eb]
  exact q
theorem j_loc62 : j_loc j_s62 := by
  intro v v' zs hd q
  unfold j_s62 at hd q ⊢
  dsimp only at hd q ⊢
  split
  case h_2 => trivial
  rename_i n c K u s
  dsimp only at q
  have hb : v' 13 = v 13 := hd (13, none) (by decide)
  have eb : t_b v' = t_b v := by unfold t_b; rw [hb]
  rw [eb]
  exact q
theorem j_loc64 : j_loc j_s64 := by
  intro v v' zs hd q
  unfold j_s64 at hd q ⊢
  dsimp only at hd q ⊢
  split
  case h_2 => trivial
  rename_i n c H
  dsimp only at q
  have hb : v' 13 = v 13 := hd (13, none) (by decide)
  have eb : t_b v' = t_b v := by unfold t_b; rw [hb]
  rw [eb]
  exact q_nms_c (hd (55, some 2) (by decide)) q
theorem j_loc65 : j_loc j_s65 := by
  intro v v' zs hd q
  unfold j_s65 at hd q ⊢
  dsimp only at hd q ⊢
  split
  case h_2 => trivial
  rename_i n c w
  dsimp only at q
  have hb : v' 13 = v 13 := hd (13, none) (by decide)
  have eb : t_b v' = t_b v := by unfold t_b; rw [hb]
  rw [eb]
  exact q
theorem j_loc66 : j_loc j_s66 := by
  intro v v' zs hd q
  unfold j_s66 at hd q ⊢
  dsimp only at hd q ⊢
  split
  case h_2 => trivial
  rename_i n c j
  dsimp only at q
  have hb : v' 13 = v 13 := hd (13, none) (by decide)
  have eb : t_b v' = t_b v := by unfold t_b; rw [hb]
  rw [eb]
  exact q
theorem j_loc67 : j_loc j_s67 := by
  intro v v' zs hd q
  unfold j_s67 at hd q ⊢
  dsimp only at hd q ⊢
  split
  case h_2 => trivial
  rename_i n c
  dsimp only at q
  have hb : v' 13 = v 13 := hd (13, none) (by decide)
  have eb : t_b v' = t_b v := by unfold t_b; rw [hb]
  rw [eb]
  exact q
theorem j_loc68 : j_loc j_s68 := by
  intro v v' zs hd q
  unfold j_s68 at hd q ⊢
  dsimp only at hd q ⊢
  split
  case h_2 => trivial
  rename_i n c s
  dsimp only at q
  have hb : v' 13 = v 13 := hd (13, none) (by decide)
  have eb : t_b v' = t_b v := by unfold t_b; rw [hb]
  rw [eb]
  exact q
theorem j_loc69 : j_loc j_s69 := by
  intro v v' zs hd q
  unfold j_s69 at hd q ⊢
  dsimp only at hd q ⊢
  split
  case h_2 => trivial
  rename_i n c h K s
  dsimp only at q
  have hb : v' 13 = v 13 := hd (13, none) (by decide)
  have eb : t_b v' = t_b v := by unfold t_b; rw [hb]
  rw [eb]
  exact q
theorem j_loc70 : j_loc j_s70 := fun _ _ _ _ q => q
theorem j_loc71 : j_loc j_s71 := by
  intro v v' zs hd q
  unfold j_s71 at hd q ⊢
  dsimp only at hd q ⊢
  split
  case h_2 => trivial
  rename_i n c
  dsimp only at q
  have hb : v' 13 = v 13 := hd (13, none) (by decide)
  have eb : t_b v' = t_b v := by unfold t_b; rw [hb]
  rw [eb]
  exact q
theorem j_loc72 : j_loc j_s72 := by
  intro v v' zs hd q
  unfold j_s72 at hd q ⊢
  dsimp only at hd q ⊢
  split
  case h_2 => trivial
  rename_i a w d
  dsimp only at q
  have h4 := hd (13, some 2) (by decide)
  obtain ⟨a0, a1, a2⟩ := q
  refine ⟨a0, a1, fun i hi => ?_⟩
  rw [h4 _ (by omega) (show a + (i : Int) < d by omega)]
  exact a2 i hi
theorem j_loc73 : j_loc j_s73 := by
  intro v v' zs hd q
  unfold j_s73 at hd q ⊢
  dsimp only at hd q ⊢
  split
  case h_2 => trivial
  rename_i a w d
  dsimp only at q
  have h4 := hd (48, some 2) (by decide)
  obtain ⟨a0, a1, a2⟩ := q
  refine ⟨a0, a1, fun i hi => ?_⟩
  rw [h4 _ (by omega) (show a + (i : Int) < d by omega)]
  exact a2 i hi
theorem j_loc74 : j_loc j_s74 := by
  intro v v' zs hd q
  unfold j_s74 at hd q ⊢
  dsimp only at hd q ⊢
  split
  case h_2 => trivial
  rename_i n
  dsimp only at q
  have hb : v' 13 = v 13 := hd (13, none) (by decide)
  have eb : t_b v' = t_b v := by unfold t_b; rw [hb]
  rw [eb, show v' 98 = v 98 from hd (98, none) (by decide)]
  exact q
theorem j_loc75 : j_loc j_s75 := by
  intro v v' zs hd q
  unfold j_s75 at hd q ⊢
  dsimp only at hd q ⊢
  split
  case h_2 => trivial
  rename_i n
  dsimp only at q
  have hb : v' 13 = v 13 := hd (13, none) (by decide)
  have eb : t_b v' = t_b v := by unfold t_b; rw [hb]
  rw [eb, show v' 18 = v 18 from hd (18, none) (by decide)]
  exact q
theorem j_loc76 : j_loc j_s76 := by
  intro v v' zs hd q
  unfold j_s76 at hd q ⊢
  dsimp only at hd q ⊢
  split
  case h_2 => trivial
  rename_i n H
  dsimp only at q
  have hb : v' 13 = v 13 := hd (13, none) (by decide)
  have eb : t_b v' = t_b v := by unfold t_b; rw [hb]
  rw [eb]
  exact q
theorem j_loc77 : j_loc j_s77 := by
  intro v v' zs hd q
  unfold j_s77 at hd q ⊢
  dsimp only at hd q ⊢
  split
  case h_2 => trivial
  rename_i s j
  dsimp only at q
  have h := hd (60, some 1) (by decide)
  intro k k0 k1 k2
  rw [h k k0 k2]
  exact q k k0 k1 k2
theorem j_loc78 : j_loc j_s78 := by
  intro v v' zs hd q
  unfold j_s78 at hd q ⊢
  dsimp only at hd q ⊢
  split
  case h_2 => trivial
  rename_i n c s
  dsimp only at q
  have hb : v' 13 = v 13 := hd (13, none) (by decide)
  have eb : t_b v' = t_b v := by unfold t_b; rw [hb]
  rw [eb, show v' 60 = v 60 from hd (60, none) (by decide)]
  exact q
theorem j_loc79 : j_loc j_s79 := by
  intro v v' zs hd q
  unfold j_s79 at hd q ⊢
  dsimp only at hd q ⊢
  split
  case h_2 => trivial
  rename_i n c s j
  dsimp only at q
  have hb : v' 13 = v 13 := hd (13, none) (by decide)
  have eb : t_b v' = t_b v := by unfold t_b; rw [hb]
  rw [eb]
  have h := hd (60, some 103) (by decide)
  obtain ⟨q1, q2, q3⟩ := q
  exact ⟨q1, q2, q_66_c (fun a b a0 a1 b0 b1 g hn => by rw [h _ (by omega) hn]; exact g hn) q3⟩
theorem j_loc80 : j_loc j_s80 := by
  intro v v' zs hd q
  unfold j_s80 at hd q ⊢
  dsimp only at hd q ⊢
  split
  case h_2 => trivial
  rename_i n c s j x k
  dsimp only at q
  have hb : v' 13 = v 13 := hd (13, none) (by decide)
  have eb : t_b v' = t_b v := by unfold t_b; rw [hb]
  rw [eb]
  have h := hd (60, some 105) (by decide)
  obtain ⟨q1, q2, q3, q4⟩ := q
  exact ⟨q1, q2, q_66_c (fun a b a0 a1 b0 b1 g hn hk => by rw [h _ (by omega) hk]; exact g hn hk) q3, fun j0 hj => by rw [h _ j0 hj]; exact q4 j0 hj⟩
theorem j_loc81 : j_loc j_s81 := by
  intro v v' zs hd q
  unfold j_s81 at hd q ⊢
  dsimp only at hd q ⊢
  split
  case h_2 => trivial
  rename_i n s
  dsimp only at q
  have hb : v' 13 = v 13 := hd (13, none) (by decide)
  have eb : t_b v' = t_b v := by unfold t_b; rw [hb]
  rw [eb, show v' 60 = v 60 from hd (60, none) (by decide)]
  exact q
theorem j_loc82 : j_loc j_s82 := by
  intro v v' zs hd q
  unfold j_s82 at hd q ⊢
  dsimp only at hd q ⊢
  split
  case h_2 => trivial
  rename_i l s z
  dsimp only at q
  have h := hd (60, some 36001) (by decide)
  rw [show v' 18 = v 18 from hd (18, none) (by decide)]
  intro hz
  obtain ⟨q1, q2, q3, q4⟩ := q hz
  refine ⟨q1, q2, q3, q_66_c (fun a b a0 a1 b0 b1 g => ?_) q4⟩
  rw [h (36 * l + (6 * a + b)) (by omega) (show ¬ (((36001 / 1000 : Nat) : Int) * s ≤ 36 * l + (6 * a + b) ∧ 36 * l + (6 * a + b) < ((36001 / 1000 : Nat) : Int) * s + ((36001 / 1000 : Nat) : Int)) by omega)]
  exact g
theorem j_loc83 : j_loc j_s83 := by
  intro v v' zs hd q
  unfold j_s83 at hd q ⊢
  dsimp only at hd q ⊢
  split
  case h_2 => trivial
  rename_i j u
  dsimp only at q
  rw [show v' 18 = v 18 from hd (18, none) (by decide)]
  exact q
theorem j_loc84 : j_loc j_s84 := by
  intro v v' zs hd q
  unfold j_s84 at hd q ⊢
  dsimp only at hd q ⊢
  split
  case h_2 => trivial
  rename_i j u
  dsimp only at q
  rw [show v' 60 = v 60 from hd (60, none) (by decide)]
  exact q
theorem j_loc85 : j_loc j_s85 := by
  intro v v' zs hd q
  unfold j_s85 at hd q ⊢
  dsimp only at hd q ⊢
  split
  case h_2 => trivial
  rename_i l H s
  dsimp only at q
  have h := hd (56, some 102) (by decide)
  obtain ⟨q1, q2, q3⟩ := q
  exact ⟨q1, q2, by rw [h _ q1 q2]; exact q3⟩
theorem j_loc86 : j_loc j_s86 := by
  intro v v' zs hd q
  unfold j_s86 at hd q ⊢
  dsimp only at hd q ⊢
  split
  case h_2 => trivial
  rename_i n c k w
  dsimp only at q
  have hb : v' 13 = v 13 := hd (13, none) (by decide)
  have eb : t_b v' = t_b v := by unfold t_b; rw [hb]
  rw [eb]
  exact q
theorem j_loc87 : j_loc j_s87 := by
  intro v v' zs hd q
  unfold j_s87 at hd q ⊢
  dsimp only at hd q ⊢
  split
  case h_2 => trivial
  rename_i n k w
  dsimp only at q
  have hb : v' 13 = v 13 := hd (13, none) (by decide)
  have eb : t_b v' = t_b v := by unfold t_b; rw [hb]
  rw [eb]
  exact q
theorem j_loc88 : j_loc j_s88 := by
  intro v v' zs hd q
  unfold j_s88 at hd q ⊢
  dsimp only at hd q ⊢
  split
  case h_2 => trivial
  rename_i l w s
  dsimp only at q
  have h := hd (61, some 102) (by decide)
  obtain ⟨q1, q2, q3⟩ := q
  exact ⟨q1, q2, by rw [h _ q1 q2]; exact q3⟩
theorem j_loc89 : j_loc j_s89 := by
  intro v v' zs hd q
  unfold j_s89 at hd q ⊢
  dsimp only at hd q ⊢
  split
  case h_2 => trivial
  rename_i l w s
  dsimp only at q
  have h := hd (62, some 102) (by decide)
  obtain ⟨q1, q2, q3⟩ := q
  exact ⟨q1, q2, by rw [h _ q1 q2]; exact q3⟩
theorem j_loc90 : j_loc j_s90 := by
  intro v v' zs hd q
  unfold j_s90 at hd q ⊢
  dsimp only at hd q ⊢
  split
  case h_2 => trivial
  rename_i l w s
  dsimp only at q
  have h := hd (63, some 102) (by decide)
  obtain ⟨q1, q2, q3⟩ := q
  exact ⟨q1, q2, by rw [h _ q1 q2]; exact q3⟩
theorem j_loc91 : j_loc j_s91 := by
  intro v v' zs hd q
  unfold j_s91 at hd q ⊢
  dsimp only at hd q ⊢
  split
  case h_2 => trivial
  rename_i l w s
  dsimp only at q
  have h := hd (64, some 102) (by decide)
  obtain ⟨q1, q2, q3⟩ := q
  exact ⟨q1, q2, by rw [h _ q1 q2]; exact q3⟩
theorem j_loc92 : j_loc j_s92 := by
  intro v v' zs hd q
  unfold j_s92 at hd q ⊢
  dsimp only at hd q ⊢
  split
  case h_2 => trivial
  rename_i n c H
  dsimp only at q
  have hb : v' 13 = v 13 := hd (13, none) (by decide)
  have eb : t_b v' = t_b v := by unfold t_b; rw [hb]
  rw [eb]
  have h1 := hd (99, some 2) (by decide)
  have h2 := hd (100, some 2) (by decide)
  exact q_hs_c (fun i a b => h1 i a b) (fun i a b => h2 i a b) q
theorem j_loc93 : j_loc j_s93 := by
  intro v v' zs hd q
  unfold j_s93 at hd q ⊢
  dsimp only at hd q ⊢
  split
  case h_2 => trivial
  rename_i n H
  dsimp only at q
  have hb : v' 13 = v 13 := hd (13, none) (by decide)
  have eb : t_b v' = t_b v := by unfold t_b; rw [hb]
  rw [eb, show v' 99 = v 99 from hd (99, none) (by decide), show v' 100 = v 100 from hd (100, none) (by decide)]
  exact q
theorem j_loc94 : j_loc j_s94 := by
  intro v v' zs hd q
  unfold j_s94 at hd q ⊢
  dsimp only at hd q ⊢
  split
  case h_2 => trivial
  rename_i n H
  dsimp only at q
  have hb : v' 13 = v 13 := hd (13, none) (by decide)
  have eb : t_b v' = t_b v := by unfold t_b; rw [hb]
  rw [eb, show v' 19 = v 19 from hd (19, none) (by decide), show v' 20 = v 20 from hd (20, none) (by decide)]
  exact q
theorem j_loc95 : j_loc j_s95 := by
  intro v v' zs hd q
  unfold j_s95 at hd q ⊢
  dsimp only at hd q ⊢
  split
  case h_2 => trivial
  rename_i n c H s j
  dsimp only at q
  have hb : v' 13 = v 13 := hd (13, none) (by decide)
  have eb : t_b v' = t_b v := by unfold t_b; rw [hb]
  rw [eb]
  have h1 := hd (57, some 4) (by decide)
  have h2 := hd (58, some 4) (by decide)
  obtain ⟨q1, q2, q3⟩ := q
  exact ⟨q1, q2, q_hs_c (fun i a b => h1 _ (by omega) (show 6 * s + i < j by omega)) (fun i a b => h2 _ (by omega) (show 6 * s + i < j by omega)) q3⟩
theorem j_loc96 : j_loc j_s96 := by
  intro v v' zs hd q
  unfold j_s96 at hd q ⊢
  dsimp only at hd q ⊢
  split
  case h_2 => trivial
  rename_i n H s
  dsimp only at q
  have hb : v' 13 = v 13 := hd (13, none) (by decide)
  have eb : t_b v' = t_b v := by unfold t_b; rw [hb]
  rw [eb, show v' 57 = v 57 from hd (57, none) (by decide), show v' 58 = v 58 from hd (58, none) (by decide)]
  exact q
theorem j_loc97 : j_loc j_s97 := fun _ _ _ _ q => q
theorem j_loc98 : j_loc j_s98 := fun _ _ _ _ q => q
theorem j_loc100 : j_loc j_s100 := fun _ _ _ _ q => q
theorem j_loc101 : j_loc j_s101 := fun _ _ _ _ q => q
theorem j_loc102 : j_loc j_s102 := fun _ _ _ _ q => q
theorem j_loc103 : j_loc j_s103 := fun _ _ _ _ q => q
theorem j_loc104 : j_loc j_s104 := fun _ _ _ _ q => q
theorem j_loc105 : j_loc j_s105 := fun _ _ _ _ q => q
theorem j_loc106 : j_loc j_s106 := fun _ _ _ _ q => q
theorem j_loc107 : j_loc j_s107 := fun _ _ _ _ q => q
theorem j_loc108 : j_loc j_s108 := fun _ _ _ _ q => q
theorem j_loc109 : j_loc j_s109 := fun _ _ _ _ q => q
theorem j_loc110 : j_loc j_s110 := fun _ _ _ _ q => q
theorem j_loc111 : j_loc j_s111 := fun _ _ _ _ q => q
theorem j_loc200 : j_loc j_s200 := by
  intro v v' zs hd q
  unfold j_s200 at hd q ⊢
  dsimp only at hd q ⊢
  split
  case h_2 => trivial
  rename_i l s z H
  dsimp only at q
  have h1 := hd (57, some 6001) (by decide)
  have h2 := hd (58, some 6001) (by decide)
  rw [show v' 19 = v 19 from hd (19, none) (by decide), show v' 20 = v 20 from hd (20, none) (by decide)]
  intro hz
  obtain ⟨q1, q2, q3, q4, q5⟩ := q hz
  refine ⟨q1, q2, q3, q4, fun i i0 i1 => ?_⟩
  rw [h1 (6 * l + i) (by omega) (show ¬ (((6001 / 1000 : Nat) : Int) * s ≤ 6 * l + i ∧ 6 * l + i < ((6001 / 1000 : Nat) : Int) * s + ((6001 / 1000 : Nat) : Int)) by omega), h2 (6 * l + i) (by omega) (show ¬ (((6001 / 1000 : Nat) : Int) * s ≤ 6 * l + i ∧ 6 * l + i < ((6001 / 1000 : Nat) : Int) * s + ((6001 / 1000 : Nat) : Int)) by omega)]
  exact q5 i i0 i1
theorem j_loc201 : j_loc j_s201 := by
  intro v v' zs hd q
  unfold j_s201 at hd q ⊢
  dsimp only at hd q ⊢
  split
  case h_2 => trivial
  rename_i n c l u
  dsimp only at q
  have hb : v' 13 = v 13 := hd (13, none) (by decide)
  have eb : t_b v' = t_b v := by unfold t_b; rw [hb]
  rw [eb]
  have h1 := hd (102, some 2) (by decide)
  have h2 := hd (103, some 2) (by decide)
  rw [show v' 104 = v 104 from hd (104, none) (by decide)]
  obtain ⟨q1, Q, q2, q3, q4, q5⟩ := q
  exact ⟨q1, Q, q2, q3, p_ar_c (fun i a b => h1 i a b) (fun i a b => h2 i a b) q4, q5⟩
theorem j_loc202 : j_loc j_s202 := by
  intro v v' zs hd q
  unfold j_s202 at hd q ⊢
  dsimp only at hd q ⊢
  split
  case h_2 => trivial
  rename_i n c l j
  dsimp only at q
  have hb : v' 13 = v 13 := hd (13, none) (by decide)
  have eb : t_b v' = t_b v := by unfold t_b; rw [hb]
  rw [eb]
  have h1 := hd (102, some 2) (by decide)
  have h2 := hd (103, some 103) (by decide)
  rw [show v' 104 = v 104 from hd (104, none) (by decide)]
  obtain ⟨q1, q2, Q, C, q3, q4, q5, q6, q7, q8⟩ := q
  refine ⟨q1, q2, Q, C, q3, q4, q5, q6, fun i x hi => ?_, q8⟩
  have hl := (List.getElem?_eq_some_iff.mp hi).1
  obtain ⟨a1, a2⟩ := q7 i x hi
  exact ⟨by rw [h1 i (by omega) (show (i : Int) < l by omega)]; exact a1, fun hn => by rw [h2 i (by omega) hn]; exact a2 hn⟩
theorem j_loc203 : j_loc j_s203 := by
  intro v v' zs hd q
  unfold j_s203 at hd q ⊢
  dsimp only at hd q ⊢
  split
  case h_2 => trivial
  rename_i n c l k p
  dsimp only at q
  have hb : v' 13 = v 13 := hd (13, none) (by decide)
  have eb : t_b v' = t_b v := by unfold t_b; rw [hb]
  rw [eb]
  have h1 := hd (102, some 2) (by decide)
  have h2 := hd (103, some 2) (by decide)
  have h3 := hd (104, some 103) (by decide)
  obtain ⟨q1, Q, q2, q3, q4, q5⟩ := q
  exact ⟨q1, Q, q2, p_ar_c (fun i a b => h1 i a b) (fun i a b => h2 i a b) q3, q4, fun j j0 j1 hn => by rw [h3 j j0 hn]; exact q5 j j0 j1 hn⟩
theorem j_loc204 : j_loc j_s204 := by
  intro v v' zs hd q
  unfold j_s204 at hd q ⊢
  dsimp only at hd q ⊢
  split
  case h_2 => trivial
  rename_i l
  dsimp only at q
  have h1 := hd (102, some 0) (by decide)
  have h2 := hd (103, some 0) (by decide)
  intro i x hi hl
  rw [h1 i (by omega) hl, h2 i (by omega) hl]
  exact q i x hi hl
theorem j_loc205 : j_loc j_s205 := by
  intro v v' zs hd q
  unfold j_s205 at hd q ⊢
  dsimp only at hd q ⊢
  split
  case h_2 => trivial
  rename_i k
  dsimp only at q
  have h1 := hd (104, some 0) (by decide)
  intro j j0 j1
  rw [h1 j j0 j1]
  exact q j j0 j1
theorem j_loc206 : j_loc j_s206 := by
  intro v v' zs hd q
  unfold j_s206 at hd q ⊢
  dsimp only at hd q ⊢
  split
  case h_2 => trivial
  rename_i n c d
  dsimp only at q
  have hb : v' 13 = v 13 := hd (13, none) (by decide)
  have eb : t_b v' = t_b v := by unfold t_b; rw [hb]
  rw [eb]
  exact q
theorem j_loc207 : j_loc j_s207 := by
  intro v v' zs hd q
  unfold j_s207 at hd q ⊢
  dsimp only at hd q ⊢
  split
  case h_2 => trivial
  rename_i n c d
  dsimp only at q
  have hb : v' 13 = v 13 := hd (13, none) (by decide)
  have eb : t_b v' = t_b v := by unfold t_b; rw [hb]
  rw [eb]
  exact q
theorem j_loc208 : j_loc j_s208 := by
  intro v v' zs hd q
  unfold j_s208 at hd q ⊢
  dsimp only at hd q ⊢
  split
  case h_2 => trivial
  rename_i n c d
  dsimp only at q
  have hb : v' 13 = v 13 := hd (13, none) (by decide)
  have eb : t_b v' = t_b v := by unfold t_b; rw [hb]
  rw [eb]
  exact q
theorem j_loc209 : j_loc j_s209 := by
  intro v v' zs hd q
  unfold j_s209 at hd q ⊢
  dsimp only at hd q ⊢
  split
  case h_2 => trivial
  rename_i n c
  dsimp only at q
  have hb : v' 13 = v 13 := hd (13, none) (by decide)
  have eb : t_b v' = t_b v := by unfold t_b; rw [hb]
  rw [eb]
  exact q
theorem j_loc210 : j_loc j_s210 := by
  intro v v' zs hd q
  unfold j_s210 at hd q ⊢
  dsimp only at hd q ⊢
  split
  case h_2 => trivial
  rename_i n c
  dsimp only at q
  have hb : v' 13 = v 13 := hd (13, none) (by decide)
  have eb : t_b v' = t_b v := by unfold t_b; rw [hb]
  rw [eb]
  exact q
theorem j_loc211 : j_loc j_s211 := by
  intro v v' zs hd q
  unfold j_s211 at hd q ⊢
  dsimp only at hd q ⊢
  split
  case h_2 => trivial
  rename_i n c l k
  dsimp only at q
  have hb : v' 13 = v 13 := hd (13, none) (by decide)
  have eb : t_b v' = t_b v := by unfold t_b; rw [hb]
  rw [eb]
  exact q
theorem j_loc212 : j_loc j_s212 := by
  intro v v' zs hd q
  unfold j_s212 at hd q ⊢
  dsimp only at hd q ⊢
  split
  case h_2 => trivial
  rename_i n c j
  dsimp only at q
  have hb : v' 13 = v 13 := hd (13, none) (by decide)
  have eb : t_b v' = t_b v := by unfold t_b; rw [hb]
  rw [eb]
  exact q
theorem j_loc213 : j_loc j_s213 := by
  intro v v' zs hd q
  unfold j_s213 at hd q ⊢
  dsimp only at hd q ⊢
  split
  case h_2 => trivial
  rename_i n l
  dsimp only at q
  have hb : v' 13 = v 13 := hd (13, none) (by decide)
  have eb : t_b v' = t_b v := by unfold t_b; rw [hb]
  rw [eb, show v' 102 = v 102 from hd (102, none) (by decide), show v' 103 = v 103 from hd (103, none) (by decide), show v' 104 = v 104 from hd (104, none) (by decide)]
  exact q
theorem j_loc214 : j_loc j_s214 := by
  intro v v' zs hd q
  unfold j_s214 at hd q ⊢
  dsimp only at hd q ⊢
  split
  case h_2 => trivial
  rename_i n l
  dsimp only at q
  have hb : v' 13 = v 13 := hd (13, none) (by decide)
  have eb : t_b v' = t_b v := by unfold t_b; rw [hb]
  rw [eb, show v' 21 = v 21 from hd (21, none) (by decide), show v' 22 = v 22 from hd (22, none) (by decide), show v' 23 = v 23 from hd (23, none) (by decide)]
  exact q
theorem j_loc216 : j_loc j_s216 := by
  intro v v' zs hd q
  unfold j_s216 at hd q ⊢
  dsimp only at hd q ⊢
  split
  case h_2 => trivial
  rename_i n c s k w bb u
  dsimp only at q
  have hb : v' 13 = v 13 := hd (13, none) (by decide)
  have eb : t_b v' = t_b v := by unfold t_b; rw [hb]
  have h1 := hd (72, some 3) (by decide)
  have h2 := hd (73, some 3) (by decide)
  have h3 := hd (74, some 4) (by decide)
  have b67 := hd (67, some 5) (by decide)
  have b68 := hd (68, some 5) (by decide)
  have b69 := hd (69, some 5) (by decide)
  have b70 := hd (70, some 5) (by decide)
  have b71 := hd (71, some 5) (by decide)
  unfold q_my at q ⊢
  rw [eb]
  obtain ⟨q1, q2, Q, u1, X, q3, q4, q5, q6, q7, q8, q9, q10⟩ := q
  have hb1 := q9.1
  refine ⟨q1, q2, Q, u1, X, q3, q4, q5, q6, p_ao_c q2 (fun i a b => h1 i a b) (fun i a b => h2 i a b) q7, p_wt_c (fun i a b => h3 i a b) q8, p_bt_c q9 (fun i hi => ⟨b67 _ (by omega) (show 130 * s + (i : Int) < bb by omega), b68 _ (by omega) (show 130 * s + (i : Int) < bb by omega), b69 _ (by omega) (show 130 * s + (i : Int) < bb by omega), b70 _ (by omega) (show 130 * s + (i : Int) < bb by omega), b71 _ (by omega) (show 130 * s + (i : Int) < bb by omega)⟩), fun j j0 j1 => p_lw_c (by rw [show v' 65 = v 65 from hd (65, none) (by decide)]) (by rw [show v' 66 = v 66 from hd (66, none) (by decide)]) (q10 j j0 j1)⟩
theorem j_loc217 : j_loc j_s217 := by
  intro v v' zs hd q
  unfold j_s217 at hd q ⊢
  dsimp only at hd q ⊢
  split
  case h_2 => trivial
  rename_i n c s k w bb kk p f
  dsimp only at q
  have hb : v' 13 = v 13 := hd (13, none) (by decide)
  have eb : t_b v' = t_b v := by unfold t_b; rw [hb]
  have h1 := hd (72, some 3) (by decide)
  have h2 := hd (73, some 3) (by decide)
  have h3 := hd (74, some 4) (by decide)
  have b67 := hd (67, some 5) (by decide)
  have b68 := hd (68, some 5) (by decide)
  have b69 := hd (69, some 5) (by decide)
  have b70 := hd (70, some 5) (by decide)
  have b71 := hd (71, some 5) (by decide)
  have l5 := hd (65, some 107) (by decide)
  have l6 := hd (66, some 107) (by decide)
  unfold q_myb at q ⊢
  rw [eb]
  obtain ⟨q1, q2, Q, q3, q4, q5, q6, q7, q8, q9, q10, q11, q12⟩ := q
  have hb1 := q10.1
  exact ⟨q1, q2, Q, q3, q4, q5, q6, q7, q8, p_ao_c q2 (fun i a b => h1 i a b) (fun i a b => h2 i a b) q9, p_bt_c q10 (fun i hi => ⟨b67 _ (by omega) (show 130 * s + (i : Int) < bb by omega), b68 _ (by omega) (show 130 * s + (i : Int) < bb by omega), b69 _ (by omega) (show 130 * s + (i : Int) < bb by omega), b70 _ (by omega) (show 130 * s + (i : Int) < bb by omega), b71 _ (by omega) (show 130 * s + (i : Int) < bb by omega)⟩), fun j j0 j1 hn => p_lw_c (l5 _ (by omega) (show 4 * s + j ≠ p by omega)) (l6 _ (by omega) (show 4 * s + j ≠ p by omega)) (q11 j j0 j1 hn), fun g => by cases g⟩
theorem j_loc218 : j_loc j_s218 := by
  intro v v' zs hd q
  unfold j_s218 at hd q ⊢
  dsimp only at hd q ⊢
  split
  case h_2 => trivial
  rename_i n c s k w bb kk p f
  dsimp only at q
  have hb : v' 13 = v 13 := hd (13, none) (by decide)
  have eb : t_b v' = t_b v := by unfold t_b; rw [hb]
  have h1 := hd (72, some 3) (by decide)
  have h2 := hd (73, some 3) (by decide)
  have h3 := hd (74, some 4) (by decide)
  have b67 := hd (67, some 5) (by decide)
  have b68 := hd (68, some 5) (by decide)
  have b69 := hd (69, some 5) (by decide)
  have b70 := hd (70, some 5) (by decide)
  have b71 := hd (71, some 5) (by decide)
  have l6 := hd (66, some 107) (by decide)
  unfold q_myb at q ⊢
  rw [eb]
  obtain ⟨q1, q2, Q, q3, q4, q5, q6, q7, q8, q9, q10, q11, q12⟩ := q
  have hb1 := q10.1
  exact ⟨q1, q2, Q, q3, q4, q5, q6, q7, q8, p_ao_c q2 (fun i a b => h1 i a b) (fun i a b => h2 i a b) q9, p_bt_c q10 (fun i hi => ⟨b67 _ (by omega) (show 130 * s + (i : Int) < bb by omega), b68 _ (by omega) (show 130 * s + (i : Int) < bb by omega), b69 _ (by omega) (show 130 * s + (i : Int) < bb by omega), b70 _ (by omega) (show 130 * s + (i : Int) < bb by omega), b71 _ (by omega) (show 130 * s + (i : Int) < bb by omega)⟩), fun j j0 j1 hn => p_lw_c (by rw [show v' 65 = v 65 from hd (65, none) (by decide)]) (l6 _ (by omega) (show 4 * s + j ≠ p by omega)) (q11 j j0 j1 hn), fun g => by rw [show v' 65 = v 65 from hd (65, none) (by decide)]; exact q12 g⟩
theorem j_loc219 : j_loc j_s219 := by
  intro v v' zs hd q
  unfold j_s219 at hd q ⊢
  dsimp only at hd q ⊢
  split
  case h_2 => trivial
  rename_i n c s k
  dsimp only at q
  have hb : v' 13 = v 13 := hd (13, none) (by decide)
  have eb : t_b v' = t_b v := by unfold t_b; rw [hb]
  rw [eb]
  exact q
theorem j_loc220 : j_loc j_s220 := by
  intro v v' zs hd q
  unfold j_s220 at hd q ⊢
  dsimp only at hd q ⊢
  split
  case h_2 => trivial
  rename_i n c s k
  dsimp only at q
  have hb : v' 13 = v 13 := hd (13, none) (by decide)
  have eb : t_b v' = t_b v := by unfold t_b; rw [hb]
  rw [eb]
  exact q
theorem j_loc221 : j_loc j_s221 := by
  intro v v' zs hd q
  unfold j_s221 at hd q ⊢
  dsimp only at hd q ⊢
  split
  case h_2 => trivial
  rename_i n c s k
  dsimp only at q
  have hb : v' 13 = v 13 := hd (13, none) (by decide)
  have eb : t_b v' = t_b v := by unfold t_b; rw [hb]
  rw [eb]
  exact q
theorem j_loc222 : j_loc j_s222 := by
  intro v v' zs hd q
  unfold j_s222 at hd q ⊢
  dsimp only at hd q ⊢
  split
  case h_2 => trivial
  rename_i n c s k f
  dsimp only at q
  have hb : v' 13 = v 13 := hd (13, none) (by decide)
  have eb : t_b v' = t_b v := by unfold t_b; rw [hb]
  rw [eb]
  exact q
theorem j_loc223 : j_loc j_s223 := by
  intro v v' zs hd q
  unfold j_s223 at hd q ⊢
  dsimp only at hd q ⊢
  split
  case h_2 => trivial
  rename_i n s
  dsimp only at q
  have hb : v' 13 = v 13 := hd (13, none) (by decide)
  have eb : t_b v' = t_b v := by unfold t_b; rw [hb]
  have e72 : v' 72 = v 72 := hd (72, none) (by decide)
  have e73 : v' 73 = v 73 := hd (73, none) (by decide)
  have e65 : v' 65 = v 65 := hd (65, none) (by decide)
  have e66 : v' 66 = v 66 := hd (66, none) (by decide)
  have e67 : v' 67 = v 67 := hd (67, none) (by decide)
  have e68 : v' 68 = v 68 := hd (68, none) (by decide)
  have e69 : v' 69 = v 69 := hd (69, none) (by decide)
  have e70 : v' 70 = v 70 := hd (70, none) (by decide)
  have e71 : v' 71 = v 71 := hd (71, none) (by decide)
  unfold q_mflw p_ao p_bt p_b1 p_lw at q ⊢
  rw [eb, e72, e73, e65, e66, e67, e68, e69, e70, e71]
  exact q
theorem j_loc224 : j_loc j_s224 := by
  intro v v' zs hd q
  unfold j_s224 at hd q ⊢
  dsimp only at hd q ⊢
  split
  case h_2 => trivial
  rename_i l s z qn
  dsimp only at q
  have h1 := hd (72, some 420001) (by decide)
  have h2 := hd (73, some 420001) (by decide)
  have b67 := hd (67, some 130001) (by decide)
  have b68 := hd (68, some 130001) (by decide)
  have b69 := hd (69, some 130001) (by decide)
  have b70 := hd (70, some 130001) (by decide)
  have b71 := hd (71, some 130001) (by decide)
  have l65 := hd (65, some 4001) (by decide)
  have l66 := hd (66, some 4001) (by decide)
  intro hz
  obtain ⟨q1, q2, q3, q4, Y, k, bb, q5, q6, q7, q8, q9, q10, q11, q12⟩ := q hz
  have hb1 := q10.1
  refine ⟨q1, q2, q3, q4, Y, k, bb, q5, ?_, ?_, ?_, q9, p_bt_c q10 (fun i hi => ⟨b67 (130 * l + i) (by omega) (show ¬ (((130001 / 1000 : Nat) : Int) * s ≤ 130 * l + (i : Int) ∧ 130 * l + (i : Int) < ((130001 / 1000 : Nat) : Int) * s + ((130001 / 1000 : Nat) : Int)) by omega), b68 (130 * l + i) (by omega) (show ¬ (((130001 / 1000 : Nat) : Int) * s ≤ 130 * l + (i : Int) ∧ 130 * l + (i : Int) < ((130001 / 1000 : Nat) : Int) * s + ((130001 / 1000 : Nat) : Int)) by omega), b69 (130 * l + i) (by omega) (show ¬ (((130001 / 1000 : Nat) : Int) * s ≤ 130 * l + (i : Int) ∧ 130 * l + (i : Int) < ((130001 / 1000 : Nat) : Int) * s + ((130001 / 1000 : Nat) : Int)) by omega), b70 (130 * l + i) (by omega) (show ¬ (((130001 / 1000 : Nat) : Int) * s ≤ 130 * l + (i : Int) ∧ 130 * l + (i : Int) < ((130001 / 1000 : Nat) : Int) * s + ((130001 / 1000 : Nat) : Int)) by omega), b71 (130 * l + i) (by omega) (show ¬ (((130001 / 1000 : Nat) : Int) * s ≤ 130 * l + (i : Int) ∧ 130 * l + (i : Int) < ((130001 / 1000 : Nat) : Int) * s + ((130001 / 1000 : Nat) : Int)) by omega)⟩), q11, fun j j0 j1 => p_lw_c (l65 (4 * l + j) (by omega) (show ¬ (((4001 / 1000 : Nat) : Int) * s ≤ 4 * l + j ∧ 4 * l + j < ((4001 / 1000 : Nat) : Int) * s + ((4001 / 1000 : Nat) : Int)) by omega)) (l66 (4 * l + j) (by omega) (show ¬ (((4001 / 1000 : Nat) : Int) * s ≤ 4 * l + j ∧ 4 * l + j < ((4001 / 1000 : Nat) : Int) * s + ((4001 / 1000 : Nat) : Int)) by omega)) (q12 j j0 j1)⟩
  · rw [show v' 21 = v 21 from hd (21, none) (by decide), show v' 22 = v 22 from hd (22, none) (by decide)]
    exact q6
  · rw [show v' 23 = v 23 from hd (23, none) (by decide)]
    exact q7
  · refine ⟨q8.1, fun i x hi => ?_⟩
    have hl := (List.getElem?_eq_some_iff.mp hi).1
    rw [h1 (420 * l + i) (by omega) (show ¬ (((420001 / 1000 : Nat) : Int) * s ≤ 420 * l + (i : Int) ∧ 420 * l + (i : Int) < ((420001 / 1000 : Nat) : Int) * s + ((420001 / 1000 : Nat) : Int)) by omega), h2 (420 * l + i) (by omega) (show ¬ (((420001 / 1000 : Nat) : Int) * s ≤ 420 * l + (i : Int) ∧ 420 * l + (i : Int) < ((420001 / 1000 : Nat) : Int) * s + ((420001 / 1000 : Nat) : Int)) by omega)]
    exact q8.2 i x hi
theorem j_loc225 : j_loc j_s225 := fun _ _ _ _ q => q
theorem j_loc226 : j_loc j_s226 := by
  intro v v' zs hd q
  unfold j_s226 at hd q ⊢
  dsimp only at hd q ⊢
  split
  case h_2 => trivial
  rename_i qn r i x top
  dsimp only at q
  have h1 := hd (24, some 4) (by decide)
  have e21 : v' 21 = v 21 := hd (21, none) (by decide)
  have e22 : v' 22 = v 22 := hd (22, none) (by decide)
  have e26 : v' 26 = v 26 := hd (26, none) (by decide)
  unfold q_runc at q ⊢
  rw [e21, e22, e26]
  obtain ⟨q1, s, q2, q3⟩ := q
  exact ⟨q1, s, e_pl_c (fun i a b => h1 i a b) q2, q3⟩
theorem j_loc227 : j_loc j_s227 := by
  intro v v' zs hd q
  unfold j_s227 at hd q ⊢
  dsimp only at hd q ⊢
  split
  case h_2 => trivial
  rename_i qn r i x top z
  dsimp only at q
  have h1 := hd (24, some 4) (by decide)
  have e21 : v' 21 = v 21 := hd (21, none) (by decide)
  have e22 : v' 22 = v 22 := hd (22, none) (by decide)
  have e26 : v' 26 = v 26 := hd (26, none) (by decide)
  unfold q_run2c at q ⊢
  rw [e21, e22, e26]
  obtain ⟨q1, s, q2, q3⟩ := q
  exact ⟨q1, s, e_pl_c (fun i a b => h1 i a b) q2, q3⟩
theorem j_loc228 : j_loc j_s228 := by
  intro v v' zs hd q
  unfold j_s228 at hd q ⊢
  dsimp only at hd q ⊢
  split
  case h_2 => trivial
  rename_i qn k r
  dsimp only at q
  have e21 : v' 21 = v 21 := hd (21, none) (by decide)
  have e22 : v' 22 = v 22 := hd (22, none) (by decide)
  have e26 : v' 26 = v 26 := hd (26, none) (by decide)
  have e23 : v' 23 = v 23 := hd (23, none) (by decide)
  unfold q_vlc at q ⊢
  rw [e21, e22, e26, e23]
  exact q
theorem j_loc229 : j_loc j_s229 := by
  intro v v' zs hd q
  unfold j_s229 at hd q ⊢
  dsimp only at hd q ⊢
  split
  case h_2 => trivial
  rename_i r j m top
  dsimp only at q
  have h1 := hd (76, some 3) (by decide)
  have e72 : v' 72 = v 72 := hd (72, none) (by decide)
  have e73 : v' 73 = v 73 := hd (73, none) (by decide)
  have e75 : v' 75 = v 75 := hd (75, none) (by decide)
  unfold q_runt at q ⊢
  rw [e72, e73, e75]
  obtain ⟨q1, s, q2, q3⟩ := q
  exact ⟨q1, s, e_pl_c (fun i a b => h1 i a b) q2, q3⟩
theorem j_loc230 : j_loc j_s230 := by
  intro v v' zs hd q
  unfold j_s230 at hd q ⊢
  dsimp only at hd q ⊢
  split
  case h_2 => trivial
  rename_i r j m top z
  dsimp only at q
  have h1 := hd (76, some 3) (by decide)
  have e72 : v' 72 = v 72 := hd (72, none) (by decide)
  have e73 : v' 73 = v 73 := hd (73, none) (by decide)
  have e75 : v' 75 = v 75 := hd (75, none) (by decide)
  unfold q_runt2 at q ⊢
  rw [e72, e73, e75]
  obtain ⟨q1, s, q2, q3⟩ := q
  exact ⟨q1, s, e_pl_c (fun i a b => h1 i a b) q2, q3⟩
theorem j_loc231 : j_loc j_s231 := by
  intro v v' zs hd q
  unfold j_s231 at hd q ⊢
  dsimp only at hd q ⊢
  split
  case h_2 => trivial
  rename_i a b r
  dsimp only at q
  have e72 : v' 72 = v 72 := hd (72, none) (by decide)
  have e73 : v' 73 = v 73 := hd (73, none) (by decide)
  have e75 : v' 75 = v 75 := hd (75, none) (by decide)
  unfold q_val e_V at q ⊢
  rw [e72, e73, e75]
  exact q
theorem j_loc232 : j_loc j_s232 := by
  intro v v' zs hd q
  unfold j_s232 at hd q ⊢
  dsimp only at hd q ⊢
  split
  case h_2 => trivial
  rename_i r j l
  dsimp only at q
  have e67 : v' 67 = v 67 := hd (67, none) (by decide)
  have e68 : v' 68 = v 68 := hd (68, none) (by decide)
  have e69 : v' 69 = v 69 := hd (69, none) (by decide)
  have e70 : v' 70 = v 70 := hd (70, none) (by decide)
  have e71 : v' 71 = v 71 := hd (71, none) (by decide)
  have e72 : v' 72 = v 72 := hd (72, none) (by decide)
  have e73 : v' 73 = v 73 := hd (73, none) (by decide)
  have e75 : v' 75 = v 75 := hd (75, none) (by decide)
  unfold q_runb at q ⊢
  rw [e75, e_B_c e67 e68 e69 e70 e71 e72 e73]
  exact q
theorem j_loc233 : j_loc j_s233 := by
  intro v v' zs hd q
  unfold j_s233 at hd q ⊢
  dsimp only at hd q ⊢
  split
  case h_2 => trivial
  rename_i s k p r
  dsimp only at q
  have e67 : v' 67 = v 67 := hd (67, none) (by decide)
  have e68 : v' 68 = v 68 := hd (68, none) (by decide)
  have e69 : v' 69 = v 69 := hd (69, none) (by decide)
  have e70 : v' 70 = v 70 := hd (70, none) (by decide)
  have e71 : v' 71 = v 71 := hd (71, none) (by decide)
  have e72 : v' 72 = v 72 := hd (72, none) (by decide)
  have e73 : v' 73 = v 73 := hd (73, none) (by decide)
  have e75 : v' 75 = v 75 := hd (75, none) (by decide)
  have e65 : v' 65 = v 65 := hd (65, none) (by decide)
  have e66 : v' 66 = v 66 := hd (66, none) (by decide)
  unfold q_vlm at q ⊢
  rw [e65, e66, e75, e_B_c e67 e68 e69 e70 e71 e72 e73]
  exact q
theorem j_loc234 : j_loc j_s234 := by
  intro v v' zs hd q
  unfold j_s234 at hd q ⊢
  dsimp only at hd q ⊢
  split
  case h_2 => trivial
  rename_i qn k r e0 e1 e2 e3 e4 e5 e6 e7 e8
  dsimp only at q
  have e21 : v' 21 = v 21 := hd (21, none) (by decide)
  have e22 : v' 22 = v 22 := hd (22, none) (by decide)
  have e23 : v' 23 = v 23 := hd (23, none) (by decide)
  unfold q_plc at q ⊢
  rw [e21, e22, e23]
  exact q
theorem j_loc235 : j_loc j_s235 := by
  intro v v' zs hd q
  unfold j_s235 at hd q ⊢
  dsimp only at hd q ⊢
  split
  case h_2 => trivial
  rename_i H p y d qn b s o a1 a2 a3
  dsimp only at q
  have e27 : v' 27 = v 27 := hd (27, none) (by decide)
  have e28 : v' 28 = v 28 := hd (28, none) (by decide)
  have e29 : v' 29 = v 29 := hd (29, none) (by decide)
  have e30 : v' 30 = v 30 := hd (30, none) (by decide)
  have e31 : v' 31 = v 31 := hd (31, none) (by decide)
  have e77 : v' 77 = v 77 := hd (77, none) (by decide)
  have e20 : v' 20 = v 20 := hd (20, none) (by decide)
  have e21 : v' 21 = v 21 := hd (21, none) (by decide)
  have e22 : v' 22 = v 22 := hd (22, none) (by decide)
  have e23 : v' 23 = v 23 := hd (23, none) (by decide)
  unfold q_sto q_fr g_sb at q ⊢
  rw [g_F_c e20 e21 e22 e23, g_nw_c e77, g_sv0_c e27 e28 e29 e30 e31, e20]
  exact q
theorem j_loc236 : j_loc j_s236 := by
  intro v v' zs hd q
  unfold j_s236 at hd q ⊢
  dsimp only at hd q ⊢
  split
  case h_2 => trivial
  rename_i H p y d qn b s o a1 a2 a3
  dsimp only at q
  have e107 : v' 107 = v 107 := hd (107, none) (by decide)
  have e108 : v' 108 = v 108 := hd (108, none) (by decide)
  have e109 : v' 109 = v 109 := hd (109, none) (by decide)
  have e110 : v' 110 = v 110 := hd (110, none) (by decide)
  have e111 : v' 111 = v 111 := hd (111, none) (by decide)
  have e77 : v' 77 = v 77 := hd (77, none) (by decide)
  have e20 : v' 20 = v 20 := hd (20, none) (by decide)
  have e21 : v' 21 = v 21 := hd (21, none) (by decide)
  have e22 : v' 22 = v 22 := hd (22, none) (by decide)
  have e23 : v' 23 = v 23 := hd (23, none) (by decide)
  unfold q_sto q_fr g_sb at q ⊢
  rw [g_F_c e20 e21 e22 e23, g_nw_c e77, g_sv1_c e107 e108 e109 e110 e111, e20]
  exact q
theorem j_loc237 : j_loc j_s237 := by
  intro v v' zs hd q
  unfold j_s237 at hd q ⊢
  dsimp only at hd q ⊢
  split
  case h_2 => trivial
  rename_i H qn b s o a1 a2 a3
  dsimp only at q
  have e78 : v' 78 = v 78 := hd (78, none) (by decide)
  have e77 : v' 77 = v 77 := hd (77, none) (by decide)
  have e20 : v' 20 = v 20 := hd (20, none) (by decide)
  have e21 : v' 21 = v 21 := hd (21, none) (by decide)
  have e22 : v' 22 = v 22 := hd (22, none) (by decide)
  have e23 : v' 23 = v 23 := hd (23, none) (by decide)
  unfold q_rwo q_fr g_sb at q ⊢
  rw [g_F_c e20 e21 e22 e23, g_nw_c e77, e20, e78]
  exact q
theorem j_loc238 : j_loc j_s238 := by
  intro v v' zs hd q
  unfold j_s238 at hd q ⊢
  dsimp only at hd q ⊢
  split
  case h_2 => trivial
  rename_i c qn b s o a1 a2 a3 x1 x2 u
  dsimp only at q
  have e18 : v' 18 = v 18 := hd (18, none) (by decide)
  have e77 : v' 77 = v 77 := hd (77, none) (by decide)
  have e20 : v' 20 = v 20 := hd (20, none) (by decide)
  have e21 : v' 21 = v 21 := hd (21, none) (by decide)
  have e22 : v' 22 = v 22 := hd (22, none) (by decide)
  have e23 : v' 23 = v 23 := hd (23, none) (by decide)
  unfold q_qry at q ⊢
  rw [q_Q_c e20 e21 e22 e23 e18, g_F_c e20 e21 e22 e23, g_nw_c e77]
  exact q
theorem j_loc239 : j_loc j_s239 := by
  intro v v' zs hd q
  unfold j_s239 at hd q ⊢
  dsimp only at hd q ⊢
  split
  case h_2 => trivial
  dsimp only at q
  have e78 : v' 78 = v 78 := hd (78, none) (by decide)
  have e77 : v' 77 = v 77 := hd (77, none) (by decide)
  unfold q_ner at q ⊢
  rw [g_nw_c e77, e78]
  exact q
theorem j_loc240 : j_loc j_s240 := by
  intro v v' zs hd q
  unfold j_s240 at hd q ⊢
  dsimp only at hd q ⊢
  split
  case h_2 => trivial
  rename_i H p y d
  dsimp only at q
  have e27 : v' 27 = v 27 := hd (27, none) (by decide)
  have e28 : v' 28 = v 28 := hd (28, none) (by decide)
  have e29 : v' 29 = v 29 := hd (29, none) (by decide)
  have e30 : v' 30 = v 30 := hd (30, none) (by decide)
  have e31 : v' 31 = v 31 := hd (31, none) (by decide)
  have e78 : v' 78 = v 78 := hd (78, none) (by decide)
  have e20 : v' 20 = v 20 := hd (20, none) (by decide)
  unfold q_str g_sb at q ⊢
  rw [g_sv0_c e27 e28 e29 e30 e31, e78, e20]
  exact q
theorem j_loc241 : j_loc j_s241 := by
  intro v v' zs hd q
  unfold j_s241 at hd q ⊢
  dsimp only at hd q ⊢
  split
  case h_2 => trivial
  rename_i f H p y d
  dsimp only at q
  have e27 : v' 27 = v 27 := hd (27, none) (by decide)
  have e28 : v' 28 = v 28 := hd (28, none) (by decide)
  have e29 : v' 29 = v 29 := hd (29, none) (by decide)
  have e30 : v' 30 = v 30 := hd (30, none) (by decide)
  have e31 : v' 31 = v 31 := hd (31, none) (by decide)
  have hf := hd (1005, none) (by decide)
  obtain ⟨⟨f1, f2⟩, q1, q2, q3⟩ := q
  have hL : ∀ j : Nat, j ≤ 5 → v' (g_l f.toNat j) = v (g_l f.toNat j) := fun j hj => hf _ (j_fm_5 f1 f2 hj)
  refine ⟨⟨f1, f2⟩, q1, by rw [hL 0 (by omega)]; exact q2, fun j j1 j5 i i0 i6 => ?_⟩
  rw [hL j j5, q3 j j1 j5 i i0 i6]
  have hj : j = 1 ∨ j = 2 ∨ j = 3 ∨ j = 4 ∨ j = 5 := by omega
  rcases hj with rfl | rfl | rfl | rfl | rfl
  · show v 27 i = v' 27 i; rw [e27]
  · show v 28 i = v' 28 i; rw [e28]
  · show v 29 i = v' 29 i; rw [e29]
  · show v 30 i = v' 30 i; rw [e30]
  · show v 31 i = v' 31 i; rw [e31]
theorem j_loc242 : j_loc j_s242 := by
  intro v v' zs hd q
  unfold j_s242 at hd q ⊢
  dsimp only at hd q ⊢
  split
  case h_2 => trivial
  rename_i H o u e
  dsimp only at q
  have e81 : v' 81 = v 81 := hd (81, none) (by decide)
  have e20 : v' 20 = v 20 := hd (20, none) (by decide)
  have hf := hd (1001, none) (by decide)
  obtain ⟨q1, q2, q3⟩ := q
  exact ⟨q1, g_sb_c e20 q2, fun i i0 i1 i2 => q_kp_c (fun j hj => hf _ (j_fm_1 (by omega) (by omega) hj)) (by rw [e81]) (q3 i i0 i1 i2)⟩
theorem j_loc243 : j_loc j_s243 := by
  intro v v' zs hd q
  unfold j_s243 at hd q ⊢
  dsimp only at hd q ⊢
  split
  case h_2 => trivial
  rename_i c H o u e
  dsimp only at q
  have e81 : v' 81 = v 81 := hd (81, none) (by decide)
  have e20 : v' 20 = v 20 := hd (20, none) (by decide)
  have hf := hd (1002, none) (by decide)
  obtain ⟨q1, q2, q3⟩ := q
  exact ⟨q1, g_sb_c e20 q2, fun i i0 i1 i2 => q_kp_c (fun j hj => hf _ (j_fm_2 (by omega) (by omega) hj (show ((5 + ((o + i) % 40).toNat : Nat) : Int) ≠ c + 5 by omega))) (by rw [e81]) (q3 i i0 i1 i2)⟩
theorem j_loc244 : j_loc j_s244 := by
  intro v v' zs hd q
  unfold j_s244 at hd q ⊢
  dsimp only at hd q ⊢
  split
  case h_2 => trivial
  rename_i H o u e p
  dsimp only at q
  have h81 := hd (81, some 4) (by decide)
  have e77 : v' 77 = v 77 := hd (77, none) (by decide)
  have e20 : v' 20 = v 20 := hd (20, none) (by decide)
  have hf := hd (1001, none) (by decide)
  obtain ⟨q0, ⟨q1, q2, q3⟩, q4⟩ := q
  exact ⟨q0, ⟨q1, g_sb_c e20 q2, fun i i0 i1 i2 => q_kp_c (fun j hj => hf _ (j_fm_1 (by omega) (by omega) hj)) (g_b_c (a := p) (by omega) (by omega) (fun t t0 t1 => h81 t t0 t1)) (q3 i i0 i1 i2)⟩, q_kp_c (fun j hj => hf _ (j_fm_1 (by omega) (by omega) hj)) (g_nw_c e77) q4⟩
theorem j_loc245 : j_loc j_s245 := by
  intro v v' zs hd q
  unfold j_s245 at hd q ⊢
  dsimp only at hd q ⊢
  split
  case h_2 => trivial
  rename_i H p y d z
  dsimp only at q
  have e27 : v' 27 = v 27 := hd (27, none) (by decide)
  have e28 : v' 28 = v 28 := hd (28, none) (by decide)
  have e29 : v' 29 = v 29 := hd (29, none) (by decide)
  have e30 : v' 30 = v 30 := hd (30, none) (by decide)
  have e31 : v' 31 = v 31 := hd (31, none) (by decide)
  have e81 : v' 81 = v 81 := hd (81, none) (by decide)
  have e20 : v' 20 = v 20 := hd (20, none) (by decide)
  unfold q_sh g_sb at q ⊢
  rw [e81, e20, g_sv0_c e27 e28 e29 e30 e31]
  exact q
theorem j_loc246 : j_loc j_s246 := by
  intro v v' zs hd q
  unfold j_s246 at hd q ⊢
  dsimp only at hd q ⊢
  split
  case h_2 => trivial
  rename_i H z0 z1 z2
  dsimp only at q
  have e95 : v' 95 = v 95 := hd (95, none) (by decide)
  have e20 : v' 20 = v 20 := hd (20, none) (by decide)
  have hf := hd (1003, none) (by decide)
  obtain ⟨q0, q1, q2, q3⟩ := q
  exact ⟨g_sb_c e20 q0, fun a b => q_kp_c (fun j hj => hf _ (j_fm_3 (by omega) (by omega) hj)) (by rw [e95]) (q1 a b), fun a b => q_kp_c (fun j hj => hf _ (j_fm_3 (by omega) (by omega) hj)) (by rw [e95]) (q2 a b), fun a b => q_kp_c (fun j hj => hf _ (j_fm_3 (by omega) (by omega) hj)) (by rw [e95]) (q3 a b)⟩
theorem j_loc247 : j_loc j_s247 := by
  intro v v' zs hd q
  unfold j_s247 at hd q ⊢
  dsimp only at hd q ⊢
  split
  case h_2 => trivial
  rename_i c H z0 z1 z2
  dsimp only at q
  have h95 := hd (95, some 33000) (by decide)
  have e20 : v' 20 = v 20 := hd (20, none) (by decide)
  have hf := hd (1004, none) (by decide)
  obtain ⟨c0, q0, q1, q2, q3⟩ := q
  exact ⟨c0, g_sb_c e20 q0, fun a b => (q_kp_c (fun j hj => hf _ (j_fm_4 (by omega) (by omega) hj (show ((2 : Nat) : Int) ≠ c + 2 by omega))) (by
    funext t
    unfold g_b
    split
    · exact h95 _ (by omega) (show ¬ (((33000 / 1000 : Nat) : Int) * c ≤ 0 + t ∧ 0 + t < ((33000 / 1000 : Nat) : Int) * c + ((33000 / 1000 : Nat) : Int)) by omega)
    · rfl) (q1 a b)), fun a b => (q_kp_c (fun j hj => hf _ (j_fm_4 (by omega) (by omega) hj (show ((3 : Nat) : Int) ≠ c + 2 by omega))) (by
    funext t
    unfold g_b
    split
    · exact h95 _ (by omega) (show ¬ (((33000 / 1000 : Nat) : Int) * c ≤ 33 + t ∧ 33 + t < ((33000 / 1000 : Nat) : Int) * c + ((33000 / 1000 : Nat) : Int)) by omega)
    · rfl) (q2 a b)), fun a b => (q_kp_c (fun j hj => hf _ (j_fm_4 (by omega) (by omega) hj (show ((4 : Nat) : Int) ≠ c + 2 by omega))) (by
    funext t
    unfold g_b
    split
    · exact h95 _ (by omega) (show ¬ (((33000 / 1000 : Nat) : Int) * c ≤ 66 + t ∧ 66 + t < ((33000 / 1000 : Nat) : Int) * c + ((33000 / 1000 : Nat) : Int)) by omega)
    · rfl) (q3 a b))⟩
theorem j_loc248 : j_loc j_s248 := by
  intro v v' zs hd q
  unfold j_s248 at hd q ⊢
  dsimp only at hd q ⊢
  split
  case h_2 => trivial
  rename_i f H
  dsimp only at q
  have e77 : v' 77 = v 77 := hd (77, none) (by decide)
  have e20 : v' 20 = v 20 := hd (20, none) (by decide)
  have hf := hd (1005, none) (by decide)
  obtain ⟨⟨f1, f2⟩, q1, q2⟩ := q
  exact ⟨⟨f1, f2⟩, g_sb_c e20 q1, q_kp_c (fun j hj => hf _ (j_fm_5 f1 f2 hj)) (g_nw_c e77) q2⟩
theorem j_loc249 : j_loc j_s249 := by
  intro v v' zs hd q
  unfold j_s249 at hd q ⊢
  dsimp only at hd q ⊢
  split
  case h_2 => trivial
  rename_i H p y d k
  dsimp only at q
  have e27 : v' 27 = v 27 := hd (27, none) (by decide)
  have e28 : v' 28 = v 28 := hd (28, none) (by decide)
  have e29 : v' 29 = v 29 := hd (29, none) (by decide)
  have e30 : v' 30 = v 30 := hd (30, none) (by decide)
  have e31 : v' 31 = v 31 := hd (31, none) (by decide)
  have e95 : v' 95 = v 95 := hd (95, none) (by decide)
  have e20 : v' 20 = v 20 := hd (20, none) (by decide)
  unfold q_sh g_sb at q ⊢
  rw [e95, e20, g_sv0_c e27 e28 e29 e30 e31]
  exact q
theorem j_loc250 : j_loc j_s250 := by
  intro v v' zs hd q
  unfold j_s250 at hd q ⊢
  dsimp only at hd q ⊢
  split
  case h_2 => trivial
  rename_i H o k
  dsimp only at q
  have e81 : v' 81 = v 81 := hd (81, none) (by decide)
  have e77 : v' 77 = v 77 := hd (77, none) (by decide)
  have e20 : v' 20 = v 20 := hd (20, none) (by decide)
  have hf := hd (1001, none) (by decide)
  obtain ⟨q0, q1, q2, q3⟩ := q
  exact ⟨q0, g_sb_c e20 q1, fun i i0 i1 => q_kp_c (fun j hj => hf _ (j_fm_1 (by omega) (by omega) hj)) (by unfold q_hrow; rw [e81]) (q2 i i0 i1), q_kp_c (fun j hj => hf _ (j_fm_1 (by omega) (by omega) hj)) (g_nw_c e77) q3⟩
theorem j_loc251 : j_loc j_s251 := by
  intro v v' zs hd q
  unfold j_s251 at hd q ⊢
  dsimp only at hd q ⊢
  split
  case h_2 => trivial
  rename_i H o k x
  dsimp only at q
  have h81 := hd (81, some 102) (by decide)
  have e77 : v' 77 = v 77 := hd (77, none) (by decide)
  have e20 : v' 20 = v 20 := hd (20, none) (by decide)
  have hf := hd (1001, none) (by decide)
  obtain ⟨q0, q1, q2, q3⟩ := q
  refine ⟨q0, g_sb_c e20 q1, fun i i0 i1 => q_kp_c (fun j hj => hf _ (j_fm_1 (by omega) (by omega) hj)) ?_ (q2 i i0 i1), q_kp_c (fun j hj => hf _ (j_fm_1 (by omega) (by omega) hj)) (g_nw_c e77) q3⟩
  funext t
  unfold q_hrx
  split
  · split
    · rfl
    · next hn =>
      split
      · exact h81 _ (by omega) hn
      · exact h81 _ (by omega) (show 33 * i + t + 33 ≠ k by omega)
  · rfl
theorem j_loc252 : j_loc j_s252 := by
  intro v v' zs hd q
  unfold j_s252 at hd q ⊢
  dsimp only at hd q ⊢
  split
  case h_2 => trivial
  rename_i qn b s o a1 a2 a3 j m
  dsimp only at q
  have h25 := hd (25, some 107) (by decide)
  have e18 : v' 18 = v 18 := hd (18, none) (by decide)
  have e77 : v' 77 = v 77 := hd (77, none) (by decide)
  have e20 : v' 20 = v 20 := hd (20, none) (by decide)
  have e21 : v' 21 = v 21 := hd (21, none) (by decide)
  have e22 : v' 22 = v 22 := hd (22, none) (by decide)
  have e23 : v' 23 = v 23 := hd (23, none) (by decide)
  unfold q_mgn at q ⊢
  rw [g_F_c e20 e21 e22 e23, g_nw_c e77, g_sp_c e20 e21 e22 e23 e18]
  exact ⟨q.1, q.2.1, fun t t0 t1 t2 => by rw [h25 t t0 (show t ≠ j by omega)]; exact q.2.2 t t0 t1 t2⟩
theorem j_loc253 : j_loc j_s253 := by
  intro v v' zs hd q
  unfold j_s253 at hd q ⊢
  dsimp only at hd q ⊢
  split
  case h_2 => trivial
  rename_i w i
  dsimp only at q
  have e25 : v' 25 = v 25 := hd (25, none) (by decide)
  rw [e25]
  exact q
theorem j_loc254 : j_loc j_s254 := by
  intro v v' zs hd q
  unfold j_s254 at hd q ⊢
  dsimp only at hd q ⊢
  split
  case h_2 => trivial
  rename_i w m r
  dsimp only at q
  have e25 : v' 25 = v 25 := hd (25, none) (by decide)
  rw [e25]
  exact q
theorem j_loc255 : j_loc j_s255 := fun _ _ _ _ q => q
theorem j_loc256 : j_loc j_s256 := fun _ _ _ _ q => q
theorem j_loc257 : j_loc j_s257 := by
  intro v v' zs hd q
  unfold j_s257 at hd q ⊢
  dsimp only at hd q ⊢
  split
  case h_2 => trivial
  rename_i H p y d qn b s o a1 a2 a3 h pl x z
  dsimp only at q
  have h27 := hd (27, some 111) (by decide)
  have h31 := hd (31, some 112) (by decide)
  have e28 : v' 28 = v 28 := hd (28, none) (by decide)
  have e29 : v' 29 = v 29 := hd (29, none) (by decide)
  have e30 : v' 30 = v 30 := hd (30, none) (by decide)
  have e77 : v' 77 = v 77 := hd (77, none) (by decide)
  have e20 : v' 20 = v 20 := hd (20, none) (by decide)
  have e21 : v' 21 = v 21 := hd (21, none) (by decide)
  have e22 : v' 22 = v 22 := hd (22, none) (by decide)
  have e23 : v' 23 = v 23 := hd (23, none) (by decide)
  unfold q_sax q_fr g_sb at q ⊢
  rw [g_F_c e20 e21 e22 e23, g_nw_c e77, e20]
  refine ⟨q.1, ?_⟩
  rw [← q.2]
  refine g_rv_c (fun i i0 => ?_) (fun i _ => congrFun e28 i) (fun i _ => congrFun e29 i) (fun i _ => congrFun e30 i) (fun i i0 => ?_)
  · unfold q_up
    split
    · rfl
    · next hn => exact h27 i i0 hn
  · unfold q_up
    split
    · rfl
    · next hn => exact h31 i i0 hn
theorem j_loc258 : j_loc j_s258 := by
  intro v v' zs hd q
  unfold j_s258 at hd q ⊢
  dsimp only at hd q ⊢
  split
  case h_2 => trivial
  rename_i H p y d qn b s o a1 a2 a3 h pl x z
  dsimp only at q
  have h107 := hd (107, some 111) (by decide)
  have h111 := hd (111, some 112) (by decide)
  have e108 : v' 108 = v 108 := hd (108, none) (by decide)
  have e109 : v' 109 = v 109 := hd (109, none) (by decide)
  have e110 : v' 110 = v 110 := hd (110, none) (by decide)
  have e77 : v' 77 = v 77 := hd (77, none) (by decide)
  have e20 : v' 20 = v 20 := hd (20, none) (by decide)
  have e21 : v' 21 = v 21 := hd (21, none) (by decide)
  have e22 : v' 22 = v 22 := hd (22, none) (by decide)
  have e23 : v' 23 = v 23 := hd (23, none) (by decide)
  unfold q_sax q_fr g_sb at q ⊢
  rw [g_F_c e20 e21 e22 e23, g_nw_c e77, e20]
  refine ⟨q.1, ?_⟩
  rw [← q.2]
  refine g_rv_c (fun i i0 => ?_) (fun i _ => congrFun e108 i) (fun i _ => congrFun e109 i) (fun i _ => congrFun e110 i) (fun i i0 => ?_)
  · unfold q_up
    split
    · rfl
    · next hn => exact h107 i i0 hn
  · unfold q_up
    split
    · rfl
    · next hn => exact h111 i i0 hn
theorem j_loc259 : j_loc j_s259 := by
  intro v v' zs hd q
  unfold j_s259 at hd q ⊢
  dsimp only at hd q ⊢
  split
  case h_2 => trivial
  rename_i H p y d h x g
  dsimp only at q
  have h27 := hd (27, some 104) (by decide)
  have h28 := hd (28, some 104) (by decide)
  have h29 := hd (29, some 101) (by decide)
  have h30 := hd (30, some 101) (by decide)
  have h31 := hd (31, some 101) (by decide)
  have e77 : v' 77 = v 77 := hd (77, none) (by decide)
  have e20 : v' 20 = v 20 := hd (20, none) (by decide)
  have e21 : v' 21 = v 21 := hd (21, none) (by decide)
  have e22 : v' 22 = v 22 := hd (22, none) (by decide)
  have e23 : v' 23 = v 23 := hd (23, none) (by decide)
  unfold q_spx g_sb at q ⊢
  rw [g_nw_c e77, e20]
  obtain ⟨q1, q2, q3, q4, q5, q6⟩ := q
  refine ⟨q1, q2, q3, q4, fun i i0 i1 i2 => by rw [h27 i i0 i2, h28 i i0 i2]; exact q5 i i0 i1 i2, fun i i0 i1 => ?_⟩
  rw [h29 i i0 (show i ≠ p by omega), h30 i i0 (show i ≠ p by omega), h31 i i0 (show i ≠ p by omega)]
  exact q6 i i0 i1
theorem j_loc260 : j_loc j_s260 := by
  intro v v' zs hd q
  unfold j_s260 at hd q ⊢
  dsimp only at hd q ⊢
  split
  case h_2 => trivial
  rename_i c qn b s o a1 a2 a3 x1 x2 u
  dsimp only at q
  have e18 : v' 18 = v 18 := hd (18, none) (by decide)
  have e77 : v' 77 = v 77 := hd (77, none) (by decide)
  have e20 : v' 20 = v 20 := hd (20, none) (by decide)
  have e21 : v' 21 = v 21 := hd (21, none) (by decide)
  have e22 : v' 22 = v 22 := hd (22, none) (by decide)
  have e23 : v' 23 = v 23 := hd (23, none) (by decide)
  unfold q_qry at q ⊢
  rw [q_Q_c e20 e21 e22 e23 e18, g_F_c e20 e21 e22 e23, g_nw_c e77]
  exact q
theorem j_loc261 : j_loc j_s261 := fun _ _ _ _ q => q
theorem j_loc262 : j_loc j_s262 := by
  intro v v' zs hd q
  unfold j_s262 at hd q ⊢
  dsimp only at hd q ⊢
  split
  case h_2 => trivial
  rename_i h u
  dsimp only at q
  have e20 : v' 20 = v 20 := hd (20, none) (by decide)
  rw [e20]
  exact q
theorem j_loc263 : j_loc j_s263 := by
  intro v v' zs hd q
  unfold j_s263 at hd q ⊢
  dsimp only at hd q ⊢
  split
  case h_2 => trivial
  rename_i H e1 e2 e3 e4 e5 e6
  dsimp only at q
  have h78 := hd (78, some 1000601) (by decide)
  have e77 : v' 77 = v 77 := hd (77, none) (by decide)
  have e20 : v' 20 = v 20 := hd (20, none) (by decide)
  unfold q_rnx q_fr g_sb at q ⊢
  rw [g_nw_c e77, e20]
  refine ⟨q.1, q_but_c (P := fun i => i = e1 ∨ i = e2 ∨ i = e3 ∨ i = e4 ∨ i = e5 ∨ i = e6) (fun i i0 hn => h78 i i0 (fun t ht => ?_)) q.2⟩
  have ht' : t = 0 ∨ t = 1 ∨ t = 2 ∨ t = 3 ∨ t = 4 ∨ t = 5 := by
    have h9 : t < 6 := ht
    omega
  rcases ht' with rfl | rfl | rfl | rfl | rfl | rfl
  · exact fun c => hn (Or.inl c)
  · exact fun c => hn (Or.inr (Or.inl c))
  · exact fun c => hn (Or.inr (Or.inr (Or.inl c)))
  · exact fun c => hn (Or.inr (Or.inr (Or.inr (Or.inl c))))
  · exact fun c => hn (Or.inr (Or.inr (Or.inr (Or.inr (Or.inl c)))))
  · exact fun c => hn (Or.inr (Or.inr (Or.inr (Or.inr (Or.inr (c))))))
theorem j_loc264 : j_loc j_s264 := by
  intro v v' zs hd q
  unfold j_s264 at hd q ⊢
  dsimp only at hd q ⊢
  split
  case h_2 => trivial
  rename_i H j e1 e2 e3 e4
  dsimp only at q
  have h78 := hd (78, some 1000402) (by decide)
  have e77 : v' 77 = v 77 := hd (77, none) (by decide)
  have e20 : v' 20 = v 20 := hd (20, none) (by decide)
  unfold q_rlx q_fr g_sb at q ⊢
  rw [g_nw_c e77, e20]
  refine ⟨q.1, q_but_c (P := fun i => i = e1 ∨ i = e2 ∨ i = e3 ∨ i = e4) (fun i i0 hn => h78 i i0 (fun t ht => ?_)) q.2⟩
  have ht' : t = 0 ∨ t = 1 ∨ t = 2 ∨ t = 3 := by
    have h9 : t < 4 := ht
    omega
  rcases ht' with rfl | rfl | rfl | rfl
  · exact fun c => hn (Or.inl c)
  · exact fun c => hn (Or.inr (Or.inl c))
  · exact fun c => hn (Or.inr (Or.inr (Or.inl c)))
  · exact fun c => hn (Or.inr (Or.inr (Or.inr (c))))
theorem j_loc265 : j_loc j_s265 := by
  intro v v' zs hd q
  unfold j_s265 at hd q ⊢
  dsimp only at hd q ⊢
  split
  case h_2 => trivial
  rename_i H qn b s o a1 a2 a3 e1 e2
  dsimp only at q
  have h78 := hd (78, some 1000208) (by decide)
  have e77 : v' 77 = v 77 := hd (77, none) (by decide)
  have e20 : v' 20 = v 20 := hd (20, none) (by decide)
  have e21 : v' 21 = v 21 := hd (21, none) (by decide)
  have e22 : v' 22 = v 22 := hd (22, none) (by decide)
  have e23 : v' 23 = v 23 := hd (23, none) (by decide)
  unfold q_ryx q_fr g_sb at q ⊢
  rw [g_F_c e20 e21 e22 e23, g_nw_c e77, e20]
  refine ⟨q.1, q_but_c (P := fun i => i = e1 ∨ i = e2) (fun i i0 hn => h78 i i0 (fun t ht => ?_)) q.2⟩
  have ht' : t = 0 ∨ t = 1 := by
    have h9 : t < 2 := ht
    omega
  rcases ht' with rfl | rfl
  · exact fun c => hn (Or.inl c)
  · exact fun c => hn (Or.inr (c))
theorem j_loc266 : j_loc j_s266 := by
  intro v v' zs hd q
  unfold j_s266 at hd q ⊢
  dsimp only at hd q ⊢
  split
  case h_2 => trivial
  rename_i qn b s o a1 a2 a3 n
  dsimp only at q
  have h79 := hd (79, some 7) (by decide)
  have h80 := hd (80, some 7) (by decide)
  have e77 : v' 77 = v 77 := hd (77, none) (by decide)
  have e20 : v' 20 = v 20 := hd (20, none) (by decide)
  have e21 : v' 21 = v 21 := hd (21, none) (by decide)
  have e22 : v' 22 = v 22 := hd (22, none) (by decide)
  have e23 : v' 23 = v 23 := hd (23, none) (by decide)
  unfold q_grn at q ⊢
  rw [g_F_c e20 e21 e22 e23, g_nw_c e77, g_lw_c e20 e21 e22 e23]
  intro i i0 i1
  rw [h79 i i0 i1, h80 i i0 i1]
  exact q i i0 i1
theorem j_loc270 : j_loc j_s270 := by
  intro v v' zs hd q
  unfold j_s270 at hd q ⊢
  dsimp only at hd q ⊢
  split
  case h_2 => trivial
  rename_i i
  dsimp only at q
  have h28 := hd (28, some 0) (by decide)
  intro t t0 t1
  rw [h28 t t0 t1]
  exact q t t0 t1
theorem j_loc271 : j_loc j_s271 := by
  intro v v' zs hd q
  unfold j_s271 at hd q ⊢
  dsimp only at hd q ⊢
  split
  case h_2 => trivial
  dsimp only at q
  have e27 : v' 27 = v 27 := hd (27, none) (by decide)
  have e28 : v' 28 = v 28 := hd (28, none) (by decide)
  have e99 : v' 99 = v 99 := hd (99, none) (by decide)
  rw [e27, e28, e99]
  exact q
theorem j_loc272 : j_loc j_s272 := by
  intro v v' zs hd q
  unfold j_s272 at hd q ⊢
  dsimp only at hd q ⊢
  split
  case h_2 => trivial
  dsimp only at q
  have e27 : v' 27 = v 27 := hd (27, none) (by decide)
  have e28 : v' 28 = v 28 := hd (28, none) (by decide)
  have e19 : v' 19 = v 19 := hd (19, none) (by decide)
  rw [e27, e28, e19]
  exact q
theorem j_loc273 : j_loc j_s273 := by
  intro v v' zs hd q
  unfold j_s273 at hd q ⊢
  dsimp only at hd q ⊢
  split
  case h_2 => trivial
  rename_i l h
  dsimp only at q
  have e78 : v' 78 = v 78 := hd (78, none) (by decide)
  have e57 : v' 57 = v 57 := hd (57, none) (by decide)
  unfold q_bgm at q ⊢
  rw [e78, e57]
  exact q
theorem j_loc274 : j_loc j_s274 := by
  intro v v' zs hd q
  unfold j_s274 at hd q ⊢
  dsimp only at hd q ⊢
  split
  case h_2 => trivial
  rename_i l h
  dsimp only at q
  have h78 := hd (78, some 101) (by decide)
  have e57 : v' 57 = v 57 := hd (57, none) (by decide)
  unfold q_bgm at q ⊢
  rw [e57]
  exact ⟨q.1, fun i i0 i1 hi => by rw [h78 i i0 (hi rfl)]; exact q.2 i i0 i1 hi⟩
theorem j_loc275 : j_loc j_s275 := by
  intro v v' zs hd q
  unfold j_s275 at hd q ⊢
  dsimp only at hd q ⊢
  split
  case h_2 => trivial
  rename_i l h
  dsimp only at q
  have e77 : v' 77 = v 77 := hd (77, none) (by decide)
  have e57 : v' 57 = v 57 := hd (57, none) (by decide)
  unfold q_nbg at q ⊢
  rw [g_nw_c e77, e57]
  exact q
theorem j_loc276 : j_loc j_s276 := fun _ _ _ _ q => q
theorem j_loc277 : j_loc j_s277 := by
  intro v v' zs hd q
  unfold j_s277 at hd q ⊢
  dsimp only at hd q ⊢
  split
  case h_2 => trivial
  rename_i qn b s o a1 a2 a3 n
  dsimp only at q
  have h40 := hd (40, some 7) (by decide)
  have e77 : v' 77 = v 77 := hd (77, none) (by decide)
  have e20 : v' 20 = v 20 := hd (20, none) (by decide)
  have e21 : v' 21 = v 21 := hd (21, none) (by decide)
  have e22 : v' 22 = v 22 := hd (22, none) (by decide)
  have e23 : v' 23 = v 23 := hd (23, none) (by decide)
  unfold q_smp at q ⊢
  rw [g_F_c e20 e21 e22 e23, g_nw_c e77]
  exact ⟨q.1, q.2.1, fun t t0 t1 => by rw [h40 t t0 t1]; exact q.2.2 t t0 t1⟩
theorem j_loc278 : j_loc j_s278 := by
  intro v v' zs hd q
  unfold j_s278 at hd q ⊢
  dsimp only at hd q ⊢
  split
  case h_2 => trivial
  rename_i qn b s o a1 a2 a3 n
  dsimp only at q
  have h82 := hd (82, some 7) (by decide)
  have e77 : v' 77 = v 77 := hd (77, none) (by decide)
  have e20 : v' 20 = v 20 := hd (20, none) (by decide)
  have e21 : v' 21 = v 21 := hd (21, none) (by decide)
  have e22 : v' 22 = v 22 := hd (22, none) (by decide)
  have e23 : v' 23 = v 23 := hd (23, none) (by decide)
  unfold q_lng at q ⊢
  rw [g_F_c e20 e21 e22 e23, g_nw_c e77]
  exact ⟨q.1, fun i i0 i1 => by rw [h82 i i0 i1]; exact q.2 i i0 i1⟩
theorem j_loc279 : j_loc j_s279 := by
  intro v v' zs hd q
  unfold j_s279 at hd q ⊢
  dsimp only at hd q ⊢
  split
  case h_2 => trivial
  rename_i qn b s o a1 a2 a3 n
  dsimp only at q
  have h41 := hd (41, some 7) (by decide)
  have e77 : v' 77 = v 77 := hd (77, none) (by decide)
  have e20 : v' 20 = v 20 := hd (20, none) (by decide)
  have e21 : v' 21 = v 21 := hd (21, none) (by decide)
  have e22 : v' 22 = v 22 := hd (22, none) (by decide)
  have e23 : v' 23 = v 23 := hd (23, none) (by decide)
  unfold q_cst at q ⊢
  rw [g_F_c e20 e21 e22 e23, g_nw_c e77, g_co_c e20 e21 e22 e23]
  exact ⟨q.1, fun i i0 i1 => by rw [h41 i i0 i1]; exact q.2 i i0 i1⟩
theorem j_loc280 : j_loc j_s280 := fun _ _ _ _ q => q
theorem j_loc281 : j_loc j_s281 := by
  intro v v' zs hd q
  unfold j_s281 at hd q ⊢
  dsimp only at hd q ⊢
  split
  case h_2 => trivial
  dsimp only at q
  have e42 : v' 42 = v 42 := hd (42, none) (by decide)
  have e43 : v' 43 = v 43 := hd (43, none) (by decide)
  have e44 : v' 44 = v 44 := hd (44, none) (by decide)
  have e89 : v' 89 = v 89 := hd (89, none) (by decide)
  have e90 : v' 90 = v 90 := hd (90, none) (by decide)
  have e91 : v' 91 = v 91 := hd (91, none) (by decide)
  rw [e42, e43, e44, e89, e90, e91]
  exact q
theorem j_loc282 : j_loc j_s282 := by
  intro v v' zs hd q
  unfold j_s282 at hd q ⊢
  dsimp only at hd q ⊢
  split
  case h_2 => trivial
  rename_i n
  dsimp only at q
  have h42 := hd (42, some 100) (by decide)
  have h43 := hd (43, some 100) (by decide)
  have h44 := hd (44, some 100) (by decide)
  have h89 := hd (89, some 100) (by decide)
  have h90 := hd (90, some 100) (by decide)
  have h91 := hd (91, some 100) (by decide)
  intro j j0 j1
  rw [h42 j j0 j1, h43 j j0 j1, h44 j j0 j1, h89 j j0 j1, h90 j j0 j1, h91 j j0 j1]
  exact q j j0 j1
theorem j_loc283 : j_loc j_s283 := by
  intro v v' zs hd q
  unfold j_s283 at hd q ⊢
  dsimp only at hd q ⊢
  split
  case h_2 => trivial
  rename_i n i w s
  dsimp only at q
  have e42 : v' 42 = v 42 := hd (42, none) (by decide)
  have e43 : v' 43 = v 43 := hd (43, none) (by decide)
  have e44 : v' 44 = v 44 := hd (44, none) (by decide)
  have h89 := hd (89, some 100) (by decide)
  have h90 := hd (90, some 100) (by decide)
  have h91 := hd (91, some 100) (by decide)
  rw [e42, e43, e44]
  refine ⟨fun j j0 j1 => ?_, q.2⟩
  rw [h89 j j0 j1, h90 j j0 j1, h91 j j0 j1]
  exact q.1 j j0 j1
theorem j_loc284 : j_loc j_s284 := by
  intro v v' zs hd q
  unfold j_s284 at hd q ⊢
  dsimp only at hd q ⊢
  split
  case h_2 => trivial
  rename_i H l i
  dsimp only at q
  have e42 : v' 42 = v 42 := hd (42, none) (by decide)
  have e43 : v' 43 = v 43 := hd (43, none) (by decide)
  have e44 : v' 44 = v 44 := hd (44, none) (by decide)
  have e20 : v' 20 = v 20 := hd (20, none) (by decide)
  have e77 : v' 77 = v 77 := hd (77, none) (by decide)
  have e45 : v' 45 = v 45 := hd (45, none) (by decide)
  rw [e42, e43, e44, e20, e77, e45]
  exact q
theorem j_loc285 : j_loc j_s285 := by
  intro v v' zs hd q
  unfold j_s285 at hd q ⊢
  dsimp only at hd q ⊢
  split
  case h_2 => trivial
  rename_i H l i p x
  dsimp only at q
  have e42 : v' 42 = v 42 := hd (42, none) (by decide)
  have e43 : v' 43 = v 43 := hd (43, none) (by decide)
  have e44 : v' 44 = v 44 := hd (44, none) (by decide)
  have e20 : v' 20 = v 20 := hd (20, none) (by decide)
  have e77 : v' 77 = v 77 := hd (77, none) (by decide)
  have h45 := hd (45, some 103) (by decide)
  rw [e42, e43, e44, e20, e77]
  refine ⟨q.1, fun p' p0 p1 p2 => ?_, q.2.2⟩
  rw [h45 p' p0 p2]
  exact q.2.1 p' p0 p1 p2
theorem j_loc286 : j_loc j_s286 := by
  intro v v' zs hd q
  unfold j_s286 at hd q ⊢
  dsimp only at hd q ⊢
  split
  case h_2 => trivial
  rename_i k l
  dsimp only at q
  have e42 : v' 42 = v 42 := hd (42, none) (by decide)
  rw [e42]
  exact q
theorem j_loc287 : j_loc j_s287 := by
  intro v v' zs hd q
  unfold j_s287 at hd q ⊢
  dsimp only at hd q ⊢
  split
  case h_2 => trivial
  rename_i l p c g r
  dsimp only at q
  have e45 : v' 45 = v 45 := hd (45, none) (by decide)
  rw [e45]
  exact q
theorem j_loc288 : j_loc j_s288 := by
  intro v v' zs hd q
  unfold j_s288 at hd q ⊢
  dsimp only at hd q ⊢
  split
  case h_2 => trivial
  rename_i p c u
  dsimp only at q
  have e45 : v' 45 = v 45 := hd (45, none) (by decide)
  rw [e45]
  exact q
theorem j_loc289 : j_loc j_s289 := by
  intro v v' zs hd q
  unfold j_s289 at hd q ⊢
  dsimp only at hd q ⊢
  split
  case h_2 => trivial
  rename_i p c
  dsimp only at q
  have h47 := hd (47, some 0) (by decide)
  intro t t0 t1
  rw [h47 t t0 t1]
  exact q t t0 t1
theorem j_loc290 : j_loc j_s290 := by
  intro v v' zs hd q
  unfold j_s290 at hd q ⊢
  dsimp only at hd q ⊢
  split
  case h_2 => trivial
  rename_i l p c so
  dsimp only at q
  have e46 : v' 46 = v 46 := hd (46, none) (by decide)
  have e45 : v' 45 = v 45 := hd (45, none) (by decide)
  rw [e46, e45]
  exact q
theorem j_loc291 : j_loc j_s291 := by
  intro v v' zs hd q
  unfold j_s291 at hd q ⊢
  dsimp only at hd q ⊢
  split
  case h_2 => trivial
  rename_i l c so i
  dsimp only at q
  have e46 : v' 46 = v 46 := hd (46, none) (by decide)
  have e45 : v' 45 = v 45 := hd (45, none) (by decide)
  rw [e46, e45]
  exact q
theorem j_loc292 : j_loc j_s292 := by
  intro v v' zs hd q
  unfold j_s292 at hd q ⊢
  dsimp only at hd q ⊢
  split
  case h_2 => trivial
  rename_i l c so i x
  dsimp only at q
  have e45 : v' 45 = v 45 := hd (45, none) (by decide)
  have h46 := hd (46, some 103) (by decide)
  rw [e45]
  refine ⟨q.1, fun t t0 t1 t2 => ?_, q.2.2⟩
  rw [h46 t t0 t2]
  exact q.2.1 t t0 t1 t2
theorem j_loc293 : j_loc j_s293 := by
  intro v v' zs hd q
  unfold j_s293 at hd q ⊢
  dsimp only at hd q ⊢
  split
  case h_2 => trivial
  rename_i H k l g r
  dsimp only at q
  have e42 : v' 42 = v 42 := hd (42, none) (by decide)
  have e43 : v' 43 = v 43 := hd (43, none) (by decide)
  have e44 : v' 44 = v 44 := hd (44, none) (by decide)
  have e20 : v' 20 = v 20 := hd (20, none) (by decide)
  have e77 : v' 77 = v 77 := hd (77, none) (by decide)
  rw [e42, e43, e44, e20, e77]
  exact q
theorem j_loc294 : j_loc j_s294 := by
  intro v v' zs hd q
  unfold j_s294 at hd q ⊢
  dsimp only at hd q ⊢
  split
  case h_2 => trivial
  rename_i H k l w
  dsimp only at q
  have e42 : v' 42 = v 42 := hd (42, none) (by decide)
  have e43 : v' 43 = v 43 := hd (43, none) (by decide)
  have e44 : v' 44 = v 44 := hd (44, none) (by decide)
  have e20 : v' 20 = v 20 := hd (20, none) (by decide)
  have e77 : v' 77 = v 77 := hd (77, none) (by decide)
  have e46 : v' 46 = v 46 := hd (46, none) (by decide)
  rw [e42, e43, e44, e20, e77, e46]
  exact q
theorem j_loc295 : j_loc j_s295 := by
  intro v v' zs hd q
  unfold j_s295 at hd q ⊢
  dsimp only at hd q ⊢
  split
  case h_2 => trivial
  rename_i H k l w u
  dsimp only at q
  have e42 : v' 42 = v 42 := hd (42, none) (by decide)
  have e43 : v' 43 = v 43 := hd (43, none) (by decide)
  have e44 : v' 44 = v 44 := hd (44, none) (by decide)
  have e20 : v' 20 = v 20 := hd (20, none) (by decide)
  have e77 : v' 77 = v 77 := hd (77, none) (by decide)
  rw [e42, e43, e44, e20, e77]
  exact q
theorem j_loc296 : j_loc j_s296 := by
  intro v v' zs hd q
  unfold j_s296 at hd q ⊢
  dsimp only at hd q ⊢
  split
  case h_2 => trivial
  rename_i H k l w u
  dsimp only at q
  have e42 : v' 42 = v 42 := hd (42, none) (by decide)
  have e43 : v' 43 = v 43 := hd (43, none) (by decide)
  have e44 : v' 44 = v 44 := hd (44, none) (by decide)
  have e20 : v' 20 = v 20 := hd (20, none) (by decide)
  have e77 : v' 77 = v 77 := hd (77, none) (by decide)
  rw [e42, e43, e44, e20, e77]
  exact q
theorem j_loc297 : j_loc j_s297 := by
  intro v v' zs hd q
  unfold j_s297 at hd q ⊢
  dsimp only at hd q ⊢
  split
  case h_2 => trivial
  rename_i H k l w u
  dsimp only at q
  have e42 : v' 42 = v 42 := hd (42, none) (by decide)
  have e43 : v' 43 = v 43 := hd (43, none) (by decide)
  have e44 : v' 44 = v 44 := hd (44, none) (by decide)
  have e20 : v' 20 = v 20 := hd (20, none) (by decide)
  have e77 : v' 77 = v 77 := hd (77, none) (by decide)
  rw [e42, e43, e44, e20, e77]
  exact q
theorem j_loc298 : j_loc j_s298 := by
  intro v v' zs hd q
  unfold j_s298 at hd q ⊢
  dsimp only at hd q ⊢
  split
  case h_2 => trivial
  rename_i H k l w u
  dsimp only at q
  have e42 : v' 42 = v 42 := hd (42, none) (by decide)
  have e43 : v' 43 = v 43 := hd (43, none) (by decide)
  have e44 : v' 44 = v 44 := hd (44, none) (by decide)
  have e20 : v' 20 = v 20 := hd (20, none) (by decide)
  have e77 : v' 77 = v 77 := hd (77, none) (by decide)
  rw [e42, e43, e44, e20, e77]
  exact q
theorem j_loc299 : j_loc j_s299 := by
  intro v v' zs hd q
  unfold j_s299 at hd q ⊢
  dsimp only at hd q ⊢
  split
  case h_2 => trivial
  rename_i qn b s o a1 a2 a3 n H
  dsimp only at q
  have h83 := hd (83, some 7) (by decide)
  have e77 : v' 77 = v 77 := hd (77, none) (by decide)
  have e20 : v' 20 = v 20 := hd (20, none) (by decide)
  have e21 : v' 21 = v 21 := hd (21, none) (by decide)
  have e22 : v' 22 = v 22 := hd (22, none) (by decide)
  have e23 : v' 23 = v 23 := hd (23, none) (by decide)
  rw [g_F_c e20 e21 e22 e23, g_nw_c e77, e20]
  intro i i0 i1 i2
  rw [h83 i i0 i1]
  exact q i i0 i1 i2
theorem j_loc300 : j_loc j_s300 := by
  intro v v' zs hd q
  unfold j_s300 at hd q ⊢
  dsimp only at hd q ⊢
  split
  case h_2 => trivial
  rename_i H l n i x y
  dsimp only at q
  have h92 := hd (92, some 103) (by decide)
  obtain ⟨⟨q1, q2, q3⟩, q4⟩ := q
  refine ⟨⟨q1, fun t t0 t1 => ?_, q3⟩, q4⟩
  rw [h92 t (by omega) (show t ≠ i by omega)]
  exact q2 t t0 t1
theorem j_loc301 : j_loc j_s301 := by
  intro v v' zs hd q
  unfold j_s301 at hd q ⊢
  dsimp only at hd q ⊢
  split
  case h_2 => trivial
  rename_i H l n
  dsimp only at q
  have e92 : v' 92 = v 92 := hd (92, none) (by decide)
  rw [e92]
  exact q
theorem j_loc302 : j_loc j_s302 := by
  intro v v' zs hd q
  unfold j_s302 at hd q ⊢
  dsimp only at hd q ⊢
  split
  case h_2 => trivial
  rename_i H k l n r
  dsimp only at q
  have e42 : v' 42 = v 42 := hd (42, none) (by decide)
  have e43 : v' 43 = v 43 := hd (43, none) (by decide)
  have e44 : v' 44 = v 44 := hd (44, none) (by decide)
  have e20 : v' 20 = v 20 := hd (20, none) (by decide)
  have e77 : v' 77 = v 77 := hd (77, none) (by decide)
  rw [e42, e43, e44, e20, e77]
  exact q
theorem j_loc303 : j_loc j_s303 := by
  intro v v' zs hd q
  unfold j_s303 at hd q ⊢
  dsimp only at hd q ⊢
  split
  case h_2 => trivial
  rename_i H k l n j
  dsimp only at q
  have e42 : v' 42 = v 42 := hd (42, none) (by decide)
  have e43 : v' 43 = v 43 := hd (43, none) (by decide)
  have e44 : v' 44 = v 44 := hd (44, none) (by decide)
  have e20 : v' 20 = v 20 := hd (20, none) (by decide)
  have e77 : v' 77 = v 77 := hd (77, none) (by decide)
  rw [e42, e43, e44, e20, e77]
  exact q
theorem j_loc304 : j_loc j_s304 := fun _ _ _ _ q => q
theorem j_loc305 : j_loc j_s305 := by
  intro v v' zs hd q
  unfold j_s305 at hd q ⊢
  dsimp only at hd q ⊢
  split
  case h_2 => trivial
  rename_i H k l x m r
  dsimp only at q
  have e42 : v' 42 = v 42 := hd (42, none) (by decide)
  have e43 : v' 43 = v 43 := hd (43, none) (by decide)
  have e44 : v' 44 = v 44 := hd (44, none) (by decide)
  have e20 : v' 20 = v 20 := hd (20, none) (by decide)
  have e77 : v' 77 = v 77 := hd (77, none) (by decide)
  rw [e42, e43, e44, e20, e77]
  exact q
theorem j_loc306 : j_loc j_s306 := by
  intro v v' zs hd q
  unfold j_s306 at hd q ⊢
  dsimp only at hd q ⊢
  split
  case h_2 => trivial
  rename_i H k l w x
  dsimp only at q
  have e42 : v' 42 = v 42 := hd (42, none) (by decide)
  have e43 : v' 43 = v 43 := hd (43, none) (by decide)
  have e44 : v' 44 = v 44 := hd (44, none) (by decide)
  have e20 : v' 20 = v 20 := hd (20, none) (by decide)
  have e77 : v' 77 = v 77 := hd (77, none) (by decide)
  have e93 : v' 93 = v 93 := hd (93, none) (by decide)
  rw [e42, e43, e44, e20, e77, e93]
  exact q
theorem j_loc307 : j_loc j_s307 := by
  intro v v' zs hd q
  unfold j_s307 at hd q ⊢
  dsimp only at hd q ⊢
  split
  case h_2 => trivial
  rename_i H k l w x i
  dsimp only at q
  have e42 : v' 42 = v 42 := hd (42, none) (by decide)
  have e43 : v' 43 = v 43 := hd (43, none) (by decide)
  have e44 : v' 44 = v 44 := hd (44, none) (by decide)
  have e20 : v' 20 = v 20 := hd (20, none) (by decide)
  have e77 : v' 77 = v 77 := hd (77, none) (by decide)
  have e93 : v' 93 = v 93 := hd (93, none) (by decide)
  rw [e42, e43, e44, e20, e77, e93]
  exact q
theorem j_loc308 : j_loc j_s308 := by
  intro v v' zs hd q
  unfold j_s308 at hd q ⊢
  dsimp only at hd q ⊢
  split
  case h_2 => trivial
  rename_i H k l w x i y
  dsimp only at q
  have e42 : v' 42 = v 42 := hd (42, none) (by decide)
  have e43 : v' 43 = v 43 := hd (43, none) (by decide)
  have e44 : v' 44 = v 44 := hd (44, none) (by decide)
  have e20 : v' 20 = v 20 := hd (20, none) (by decide)
  have e77 : v' 77 = v 77 := hd (77, none) (by decide)
  have h93 := hd (93, some 105) (by decide)
  rw [e42, e43, e44, e20, e77]
  refine ⟨q.1, fun t t0 t1 t2 => ?_, q.2.2⟩
  rw [h93 t t0 t2]
  exact q.2.1 t t0 t1 t2
theorem j_loc309 : j_loc j_s309 := by
  intro v v' zs hd q
  unfold j_s309 at hd q ⊢
  dsimp only at hd q ⊢
  split
  case h_2 => trivial
  rename_i H k l x g
  dsimp only at q
  have e42 : v' 42 = v 42 := hd (42, none) (by decide)
  have e43 : v' 43 = v 43 := hd (43, none) (by decide)
  have e44 : v' 44 = v 44 := hd (44, none) (by decide)
  have e20 : v' 20 = v 20 := hd (20, none) (by decide)
  have e77 : v' 77 = v 77 := hd (77, none) (by decide)
  rw [e42, e43, e44, e20, e77]
  exact q
theorem j_loc310 : j_loc j_s310 := by
  intro v v' zs hd q
  unfold j_s310 at hd q ⊢
  dsimp only at hd q ⊢
  split
  case h_2 => trivial
  rename_i f i x w
  dsimp only at q
  have e46 : v' 46 = v 46 := hd (46, none) (by decide)
  rw [e46]
  exact q
theorem j_loc311 : j_loc j_s311 := by
  intro v v' zs hd q
  unfold j_s311 at hd q ⊢
  dsimp only at hd q ⊢
  split
  case h_2 => trivial
  rename_i f i x w
  dsimp only at q
  have e93 : v' 93 = v 93 := hd (93, none) (by decide)
  rw [e93]
  exact q
theorem j_loc312 : j_loc j_s312 := by
  intro v v' zs hd q
  unfold j_s312 at hd q ⊢
  dsimp only at hd q ⊢
  split
  case h_2 => trivial
  rename_i i x
  dsimp only at q
  have h45 := hd (45, some 0) (by decide)
  intro t t0 t1
  rw [h45 t t0 t1]
  exact q t t0 t1
theorem j_loc313 : j_loc j_s313 := by
  intro v v' zs hd q
  unfold j_s313 at hd q ⊢
  dsimp only at hd q ⊢
  split
  case h_2 => trivial
  rename_i i x
  dsimp only at q
  have h46 := hd (46, some 0) (by decide)
  intro t t0 t1
  rw [h46 t t0 t1]
  exact q t t0 t1
theorem j_loc314 : j_loc j_s314 := by
  intro v v' zs hd q
  unfold j_s314 at hd q ⊢
  dsimp only at hd q ⊢
  split
  case h_2 => trivial
  rename_i i
  dsimp only at q
  have h93 := hd (93, some 0) (by decide)
  intro t t0 t1
  rw [h93 t t0 t1]
  exact q t t0 t1
theorem j_loc315 : j_loc j_s315 := by
  intro v v' zs hd q
  unfold j_s315 at hd q ⊢
  dsimp only at hd q ⊢
  split
  case h_2 => trivial
  rename_i qn b s o a1 a2 a3 n
  dsimp only at q
  have h34 := hd (34, some 7) (by decide)
  have e77 : v' 77 = v 77 := hd (77, none) (by decide)
  have e20 : v' 20 = v 20 := hd (20, none) (by decide)
  have e21 : v' 21 = v 21 := hd (21, none) (by decide)
  have e22 : v' 22 = v 22 := hd (22, none) (by decide)
  have e23 : v' 23 = v 23 := hd (23, none) (by decide)
  unfold q_sts at q ⊢
  rw [g_F_c e20 e21 e22 e23, g_nw_c e77, e20]
  intro i i0 i1
  rw [h34 i i0 i1]
  exact q i i0 i1
theorem j_loc316 : j_loc j_s316 := by
  intro v v' zs hd q
  unfold j_s316 at hd q ⊢
  dsimp only at hd q ⊢
  split
  case h_2 => trivial
  rename_i qn b s o a1 a2 a3 x y z yy
  dsimp only at q
  have h35 := hd (35, some 9) (by decide)
  have e77 : v' 77 = v 77 := hd (77, none) (by decide)
  have e20 : v' 20 = v 20 := hd (20, none) (by decide)
  have e21 : v' 21 = v 21 := hd (21, none) (by decide)
  have e22 : v' 22 = v 22 := hd (22, none) (by decide)
  have e23 : v' 23 = v 23 := hd (23, none) (by decide)
  have e18 : v' 18 = v 18 := hd (18, none) (by decide)
  unfold q_jrw at q ⊢
  rw [g_F_c e20 e21 e22 e23, g_nw_c e77, g_jy_c e20 e21 e22 e23 e18]
  refine ⟨q.1, fun i k a1 a2 a3 a4 => ?_⟩
  have b1 := a1.1
  have b2 := a2.1
  have b3 := q.1
  rw [h35 (6 * i + k) (by omega) (show 6 * i + k < z by omega)]
  exact q.2 i k a1 a2 a3 a4
theorem j_loc317 : j_loc j_s317 := by
  intro v v' zs hd q
  unfold j_s317 at hd q ⊢
  dsimp only at hd q ⊢
  split
  case h_2 => trivial
  rename_i w x z
  dsimp only at q
  have h37 := hd (37, some 2) (by decide)
  have h38 := hd (38, some 2) (by decide)
  have e34 : v' 34 = v 34 := hd (34, none) (by decide)
  have e35 : v' 35 = v 35 := hd (35, none) (by decide)
  have e40 : v' 40 = v 40 := hd (40, none) (by decide)
  unfold q_dpt at q ⊢
  rw [e34, e35, e40]
  refine ⟨q.1, fun s t a1 a2 a3 => ?_⟩
  have b1 := a1.1
  have b2 := a1.2.1
  rw [h37 (6 * s + t) (by omega) a3, h38 (6 * s + t) (by omega) a3]
  exact q.2 s t a1 a2 a3
theorem j_loc318 : j_loc j_s318 := by
  intro v v' zs hd q
  unfold j_s318 at hd q ⊢
  dsimp only at hd q ⊢
  split
  case h_2 => trivial
  rename_i w z t x h y
  dsimp only at q
  have e34 : v' 34 = v 34 := hd (34, none) (by decide)
  have e35 : v' 35 = v 35 := hd (35, none) (by decide)
  have e40 : v' 40 = v 40 := hd (40, none) (by decide)
  rw [e34, e35, e40]
  exact q
theorem j_loc319 : j_loc j_s319 := by
  intro v v' zs hd q
  unfold j_s319 at hd q ⊢
  dsimp only at hd q ⊢
  split
  case h_2 => trivial
  rename_i w t x z l y
  dsimp only at q
  have e34 : v' 34 = v 34 := hd (34, none) (by decide)
  have e35 : v' 35 = v 35 := hd (35, none) (by decide)
  have e40 : v' 40 = v 40 := hd (40, none) (by decide)
  rw [e34, e35, e40]
  exact q
theorem j_loc320 : j_loc j_s320 := by
  intro v v' zs hd q
  unfold j_s320 at hd q ⊢
  dsimp only at hd q ⊢
  split
  case h_2 => trivial
  rename_i w l h
  dsimp only at q
  have e34 : v' 34 = v 34 := hd (34, none) (by decide)
  have e35 : v' 35 = v 35 := hd (35, none) (by decide)
  have e40 : v' 40 = v 40 := hd (40, none) (by decide)
  rw [e34, e35, e40]
  exact q
theorem j_loc321 : j_loc j_s321 := by
  intro v v' zs hd q
  unfold j_s321 at hd q ⊢
  dsimp only at hd q ⊢
  split
  case h_2 => trivial
  rename_i w l y
  dsimp only at q
  have e34 : v' 34 = v 34 := hd (34, none) (by decide)
  have e35 : v' 35 = v 35 := hd (35, none) (by decide)
  have e40 : v' 40 = v 40 := hd (40, none) (by decide)
  rw [e34, e35, e40]
  exact q
theorem j_loc322 : j_loc j_s322 := fun _ _ _ _ q => q
theorem j_loc323 : j_loc j_s323 := fun _ _ _ _ q => q
theorem j_loc324 : j_loc j_s324 := by
  intro v v' zs hd q
  unfold j_s324 at hd q ⊢
  dsimp only at hd q ⊢
  split
  case h_2 => trivial
  rename_i w y x z r p i
  dsimp only at q
  have e34 : v' 34 = v 34 := hd (34, none) (by decide)
  have e35 : v' 35 = v 35 := hd (35, none) (by decide)
  have e40 : v' 40 = v 40 := hd (40, none) (by decide)
  rw [e34, e35, e40]
  exact q
theorem j_loc325 : j_loc j_s325 := fun _ _ _ _ q => q
theorem j_loc326 : j_loc j_s326 := by
  intro v v' zs hd q
  unfold j_s326 at hd q ⊢
  dsimp only at hd q ⊢
  split
  case h_2 => trivial
  rename_i w x
  dsimp only at q
  have e40 : v' 40 = v 40 := hd (40, none) (by decide)
  rw [e40]
  exact q
theorem j_loc327 : j_loc j_s327 := fun _ _ _ _ q => q
theorem j_loc328 : j_loc j_s328 := by
  intro v v' zs hd q
  unfold j_s328 at hd q ⊢
  dsimp only at hd q ⊢
  split
  case h_2 => trivial
  rename_i qn b s o a1 a2 a3 n H yy
  dsimp only at q
  have h86 := hd (86, some 7) (by decide)
  have e77 : v' 77 = v 77 := hd (77, none) (by decide)
  have e20 : v' 20 = v 20 := hd (20, none) (by decide)
  have e21 : v' 21 = v 21 := hd (21, none) (by decide)
  have e22 : v' 22 = v 22 := hd (22, none) (by decide)
  have e23 : v' 23 = v 23 := hd (23, none) (by decide)
  have e18 : v' 18 = v 18 := hd (18, none) (by decide)
  unfold q_hld at q ⊢
  rw [g_F_c e20 e21 e22 e23, g_nw_c e77, g_jy_c e20 e21 e22 e23 e18]
  intro k k0 k1 k2 k3 k4
  rw [h86 k k0 k1]
  exact q k k0 k1 k2 k3 k4
theorem j_loc329 : j_loc j_s329 := by
  intro v v' zs hd q
  unfold j_s329 at hd q ⊢
  dsimp only at hd q ⊢
  split
  case h_2 => trivial
  rename_i qn b s o a1 a2 a3 k x m
  dsimp only at q
  have h87 := hd (87, some 9) (by decide)
  have e77 : v' 77 = v 77 := hd (77, none) (by decide)
  have e20 : v' 20 = v 20 := hd (20, none) (by decide)
  have e21 : v' 21 = v 21 := hd (21, none) (by decide)
  have e22 : v' 22 = v 22 := hd (22, none) (by decide)
  have e23 : v' 23 = v 23 := hd (23, none) (by decide)
  unfold q_pos at q ⊢
  rw [g_F_c e20 e21 e22 e23, g_nw_c e77, o_l_c (m := m) (fun i i0 i1 => h87 i i0 i1)]
  exact q
theorem j_loc330 : j_loc j_s330 := by
  intro v v' zs hd q
  unfold j_s330 at hd q ⊢
  dsimp only at hd q ⊢
  split
  case h_2 => trivial
  rename_i qn b s o a1 a2 a3 k m
  dsimp only at q
  have h87 := hd (87, some 8) (by decide)
  have e77 : v' 77 = v 77 := hd (77, none) (by decide)
  have e20 : v' 20 = v 20 := hd (20, none) (by decide)
  have e21 : v' 21 = v 21 := hd (21, none) (by decide)
  have e22 : v' 22 = v 22 := hd (22, none) (by decide)
  have e23 : v' 23 = v 23 := hd (23, none) (by decide)
  unfold q_cur at q ⊢
  rw [g_F_c e20 e21 e22 e23, g_nw_c e77, o_l_c (m := m) (fun i i0 i1 => h87 i i0 i1)]
  exact q
theorem j_loc331 : j_loc j_s331 := by
  intro v v' zs hd q
  unfold j_s331 at hd q ⊢
  dsimp only at hd q ⊢
  split
  case h_2 => trivial
  rename_i qn b s o a1 a2 a3 k
  dsimp only at q
  have e77 : v' 77 = v 77 := hd (77, none) (by decide)
  have e20 : v' 20 = v 20 := hd (20, none) (by decide)
  have e21 : v' 21 = v 21 := hd (21, none) (by decide)
  have e22 : v' 22 = v 22 := hd (22, none) (by decide)
  have e23 : v' 23 = v 23 := hd (23, none) (by decide)
  rw [g_F_c e20 e21 e22 e23, g_nw_c e77]
  exact q
theorem j_loc332 : j_loc j_s332 := by
  intro v v' zs hd q
  unfold j_s332 at hd q ⊢
  dsimp only at hd q ⊢
  split
  case h_2 => trivial
  rename_i qn b s o a1 a2 a3 x m k
  dsimp only at q
  have h87 := hd (87, some 8) (by decide)
  have e77 : v' 77 = v 77 := hd (77, none) (by decide)
  have e20 : v' 20 = v 20 := hd (20, none) (by decide)
  have e21 : v' 21 = v 21 := hd (21, none) (by decide)
  have e22 : v' 22 = v 22 := hd (22, none) (by decide)
  have e23 : v' 23 = v 23 := hd (23, none) (by decide)
  unfold q_nxs at q ⊢
  rw [g_F_c e20 e21 e22 e23, g_nw_c e77, o_l_c (m := m) (fun i i0 i1 => h87 i i0 i1)]
  exact q
theorem j_loc333 : j_loc j_s333 := by
  intro v v' zs hd q
  unfold j_s333 at hd q ⊢
  dsimp only at hd q ⊢
  split
  case h_2 => trivial
  rename_i qn b s o a1 a2 a3 x m r
  dsimp only at q
  have h87 := hd (87, some 8) (by decide)
  have e77 : v' 77 = v 77 := hd (77, none) (by decide)
  have e20 : v' 20 = v 20 := hd (20, none) (by decide)
  have e21 : v' 21 = v 21 := hd (21, none) (by decide)
  have e22 : v' 22 = v 22 := hd (22, none) (by decide)
  have e23 : v' 23 = v 23 := hd (23, none) (by decide)
  unfold q_nxf at q ⊢
  rw [g_F_c e20 e21 e22 e23, g_nw_c e77, o_l_c (m := m) (fun i i0 i1 => h87 i i0 i1)]
  exact q
theorem j_loc334 : j_loc j_s334 := by
  intro v v' zs hd q
  unfold j_s334 at hd q ⊢
  dsimp only at hd q ⊢
  split
  case h_2 => trivial
  rename_i h m
  dsimp only at q
  have h87 := hd (87, some 1) (by decide)
  rw [o_l_c (m := m) (fun i i0 i1 => h87 i i0 i1)]
  exact q
theorem j_loc335 : j_loc j_s335 := by
  intro v v' zs hd q
  unfold j_s335 at hd q ⊢
  dsimp only at hd q ⊢
  split
  case h_2 => trivial
  rename_i qn b s o a1 a2 a3 m i x y yy
  dsimp only at q
  have h87 := hd (87, some 7) (by decide)
  have e77 : v' 77 = v 77 := hd (77, none) (by decide)
  have e20 : v' 20 = v 20 := hd (20, none) (by decide)
  have e21 : v' 21 = v 21 := hd (21, none) (by decide)
  have e22 : v' 22 = v 22 := hd (22, none) (by decide)
  have e23 : v' 23 = v 23 := hd (23, none) (by decide)
  have e18 : v' 18 = v 18 := hd (18, none) (by decide)
  unfold q_spl at q ⊢
  rw [g_F_c e20 e21 e22 e23, g_nw_c e77, g_jy_c e20 e21 e22 e23 e18, o_S_c e20]
  have r9 := q.1
  rw [o_u_c (i := i + 1) (n := (m - 1 - i).toNat) (fun t t0 t1 => h87 t (by omega) (show t < m by omega)), o_u_c (i := 0) (n := m.toNat) (fun t t0 t1 => h87 t (by omega) (show t < m by omega))]
  refine ⟨q.1, q.2.1, ?_⟩
  have q3 := q.2.2
  by_cases d : 0 ≤ i
  · rw [if_pos d] at q3 ⊢
    rw [h87 i d (show i < m by omega)]
    exact q3
  · rw [if_neg d] at q3 ⊢
    exact q3
theorem j_loc336 : j_loc j_s336 := by
  intro v v' zs hd q
  unfold j_s336 at hd q ⊢
  dsimp only at hd q ⊢
  split
  case h_2 => trivial
  rename_i qn b s o a1 a2 a3 m i x y yy
  dsimp only at q
  have h87 := hd (87, some 7) (by decide)
  have e77 : v' 77 = v 77 := hd (77, none) (by decide)
  have e20 : v' 20 = v 20 := hd (20, none) (by decide)
  have e21 : v' 21 = v 21 := hd (21, none) (by decide)
  have e22 : v' 22 = v 22 := hd (22, none) (by decide)
  have e23 : v' 23 = v 23 := hd (23, none) (by decide)
  have e18 : v' 18 = v 18 := hd (18, none) (by decide)
  unfold q_sp1 at q ⊢
  rw [g_F_c e20 e21 e22 e23, g_nw_c e77, g_jy_c e20 e21 e22 e23 e18, o_S_c e20]
  have r9 := q.1
  rw [o_u_c (i := i) (n := (m - i).toNat) (fun t t0 t1 => h87 t (by omega) (show t < m by omega))]
  exact q
theorem j_loc337 : j_loc j_s337 := by
  intro v v' zs hd q
  unfold j_s337 at hd q ⊢
  dsimp only at hd q ⊢
  split
  case h_2 => trivial
  rename_i qn b s o a1 a2 a3 w k x yy
  dsimp only at q
  have e77 : v' 77 = v 77 := hd (77, none) (by decide)
  have e20 : v' 20 = v 20 := hd (20, none) (by decide)
  have e21 : v' 21 = v 21 := hd (21, none) (by decide)
  have e22 : v' 22 = v 22 := hd (22, none) (by decide)
  have e23 : v' 23 = v 23 := hd (23, none) (by decide)
  have e18 : v' 18 = v 18 := hd (18, none) (by decide)
  rw [g_F_c e20 e21 e22 e23, g_nw_c e77, g_jy_c e20 e21 e22 e23 e18, o_v_c e20]
  exact q
theorem j_loc338 : j_loc j_s338 := by
  intro v v' zs hd q
  unfold j_s338 at hd q ⊢
  dsimp only at hd q ⊢
  split
  case h_2 => trivial
  rename_i qn b s o a1 a2 a3 w x k n
  dsimp only at q
  have e77 : v' 77 = v 77 := hd (77, none) (by decide)
  have e20 : v' 20 = v 20 := hd (20, none) (by decide)
  have e21 : v' 21 = v 21 := hd (21, none) (by decide)
  have e22 : v' 22 = v 22 := hd (22, none) (by decide)
  have e23 : v' 23 = v 23 := hd (23, none) (by decide)
  have e18 : v' 18 = v 18 := hd (18, none) (by decide)
  unfold q_moc at q ⊢
  rw [g_F_c e20 e21 e22 e23, g_nw_c e77, g_jy_c e20 e21 e22 e23 e18, o_Q_c e20]
  exact q
theorem j_loc339 : j_loc j_s339 := by
  intro v v' zs hd q
  unfold j_s339 at hd q ⊢
  dsimp only at hd q ⊢
  split
  case h_2 => trivial
  rename_i qn b s o a1 a2 a3 w k x yy
  dsimp only at q
  have e77 : v' 77 = v 77 := hd (77, none) (by decide)
  have e20 : v' 20 = v 20 := hd (20, none) (by decide)
  have e21 : v' 21 = v 21 := hd (21, none) (by decide)
  have e22 : v' 22 = v 22 := hd (22, none) (by decide)
  have e23 : v' 23 = v 23 := hd (23, none) (by decide)
  have e18 : v' 18 = v 18 := hd (18, none) (by decide)
  unfold q_mpk at q ⊢
  rw [g_F_c e20 e21 e22 e23, g_nw_c e77, g_jy_c e20 e21 e22 e23 e18, o_x_c e20]
  exact q
theorem j_loc340 : j_loc j_s340 := by
  intro v v' zs hd q
  unfold j_s340 at hd q ⊢
  dsimp only at hd q ⊢
  split
  case h_2 => trivial
  rename_i qn b s o a1 a2 a3 w x k y
  dsimp only at q
  have e77 : v' 77 = v 77 := hd (77, none) (by decide)
  have e20 : v' 20 = v 20 := hd (20, none) (by decide)
  have e21 : v' 21 = v 21 := hd (21, none) (by decide)
  have e22 : v' 22 = v 22 := hd (22, none) (by decide)
  have e23 : v' 23 = v 23 := hd (23, none) (by decide)
  have e18 : v' 18 = v 18 := hd (18, none) (by decide)
  unfold q_mne at q ⊢
  rw [g_F_c e20 e21 e22 e23, g_nw_c e77, g_jy_c e20 e21 e22 e23 e18, o_i_c e20]
  exact q
theorem j_loc341 : j_loc j_s341 := by
  intro v v' zs hd q
  unfold j_s341 at hd q ⊢
  dsimp only at hd q ⊢
  split
  case h_2 => trivial
  rename_i i x
  dsimp only at q
  have h87 := hd (87, some 0) (by decide)
  rw [o_l_c (m := i) (fun t t0 t1 => h87 t t0 t1)]
  exact q
theorem j_loc342 : j_loc j_s342 := by
  intro v v' zs hd q
  unfold j_s342 at hd q ⊢
  dsimp only at hd q ⊢
  split
  case h_2 => trivial
  rename_i h i
  dsimp only at q
  have h87 := hd (87, some 1) (by decide)
  refine ⟨q.1, fun t t0 t1 => ?_⟩
  rw [h87 t t0 t1]
  exact q.2 t t0 t1
theorem j_loc343 : j_loc j_s343 := by
  intro v v' zs hd q
  unfold j_s343 at hd q ⊢
  dsimp only at hd q ⊢
  split
  case h_2 => trivial
  rename_i qn b s o a1 a2 a3 n H
  dsimp only at q
  have h83 := hd (83, some 7) (by decide)
  have e77 : v' 77 = v 77 := hd (77, none) (by decide)
  have e20 : v' 20 = v 20 := hd (20, none) (by decide)
  have e21 : v' 21 = v 21 := hd (21, none) (by decide)
  have e22 : v' 22 = v 22 := hd (22, none) (by decide)
  have e23 : v' 23 = v 23 := hd (23, none) (by decide)
  unfold q_sta at q ⊢
  rw [g_F_c e20 e21 e22 e23, g_nw_c e77, e20]
  intro i i0 i1
  rw [h83 i i0 i1]
  exact q i i0 i1
theorem j_loc344 : j_loc j_s344 := by
  intro v v' zs hd q
  unfold j_s344 at hd q ⊢
  dsimp only at hd q ⊢
  split
  case h_2 => trivial
  rename_i qn b s o a1 a2 a3 x y z
  dsimp only at q
  have h36 := hd (36, some 9) (by decide)
  have e77 : v' 77 = v 77 := hd (77, none) (by decide)
  have e20 : v' 20 = v 20 := hd (20, none) (by decide)
  have e21 : v' 21 = v 21 := hd (21, none) (by decide)
  have e22 : v' 22 = v 22 := hd (22, none) (by decide)
  have e23 : v' 23 = v 23 := hd (23, none) (by decide)
  unfold q_jrw at q ⊢
  rw [g_F_c e20 e21 e22 e23, g_nw_c e77, g_j9_c e20 e21 e22 e23]
  refine ⟨q.1, fun i k a1 a2 a3 a4 => ?_⟩
  have b1 := a1.1
  have b2 := a2.1
  have b3 := q.1
  rw [h36 (6 * i + k) (by omega) (show 6 * i + k < z by omega)]
  exact q.2 i k a1 a2 a3 a4
theorem j_loc345 : j_loc j_s345 := by
  intro v v' zs hd q
  unfold j_s345 at hd q ⊢
  dsimp only at hd q ⊢
  split
  case h_2 => trivial
  rename_i qn b s o a1 a2 a3 n H
  dsimp only at q
  have h84 := hd (84, some 7) (by decide)
  have e77 : v' 77 = v 77 := hd (77, none) (by decide)
  have e20 : v' 20 = v 20 := hd (20, none) (by decide)
  have e21 : v' 21 = v 21 := hd (21, none) (by decide)
  have e22 : v' 22 = v 22 := hd (22, none) (by decide)
  have e23 : v' 23 = v 23 := hd (23, none) (by decide)
  have e18 : v' 18 = v 18 := hd (18, none) (by decide)
  unfold q_hld at q ⊢
  rw [g_F_c e20 e21 e22 e23, g_nw_c e77, g_jo_c e20 e21 e22 e23 e18]
  intro k k0 k1 k2 k3 k4
  rw [h84 k k0 k1]
  exact q k k0 k1 k2 k3 k4
theorem j_loc346 : j_loc j_s346 := by
  intro v v' zs hd q
  unfold j_s346 at hd q ⊢
  dsimp only at hd q ⊢
  split
  case h_2 => trivial
  rename_i qn b s o a1 a2 a3 n H
  dsimp only at q
  have h85 := hd (85, some 7) (by decide)
  have e77 : v' 77 = v 77 := hd (77, none) (by decide)
  have e20 : v' 20 = v 20 := hd (20, none) (by decide)
  have e21 : v' 21 = v 21 := hd (21, none) (by decide)
  have e22 : v' 22 = v 22 := hd (22, none) (by decide)
  have e23 : v' 23 = v 23 := hd (23, none) (by decide)
  unfold q_hld at q ⊢
  rw [g_F_c e20 e21 e22 e23, g_nw_c e77, g_j9_c e20 e21 e22 e23]
  intro k k0 k1 k2 k3 k4
  rw [h85 k k0 k1]
  exact q k k0 k1 k2 k3 k4
theorem j_loc347 : j_loc j_s347 := by
  intro v v' zs hd q
  unfold j_s347 at hd q ⊢
  dsimp only at hd q ⊢
  split
  case h_2 => trivial
  rename_i qn b s o a1 a2 a3 x y yy
  dsimp only at q
  have h86 := hd (86, some 1000207) (by decide)
  have e77 : v' 77 = v 77 := hd (77, none) (by decide)
  have e20 : v' 20 = v 20 := hd (20, none) (by decide)
  have e21 : v' 21 = v 21 := hd (21, none) (by decide)
  have e22 : v' 22 = v 22 := hd (22, none) (by decide)
  have e23 : v' 23 = v 23 := hd (23, none) (by decide)
  have e18 : v' 18 = v 18 := hd (18, none) (by decide)
  unfold q_hly at q ⊢
  rw [g_F_c e20 e21 e22 e23, g_nw_c e77, g_jy_c e20 e21 e22 e23 e18]
  intro k k0 k1 n1 n2 k2 k3 k4
  have hk : v' 86 k = v 86 k := h86 k k0 (fun t ht => by
    have ht' : t = 0 ∨ t = 1 := by
      have h9 : t < 2 := ht
      omega
    rcases ht' with rfl | rfl
    · exact n1
    · exact n2)
  rw [hk]
  exact q k k0 k1 n1 n2 k2 k3 k4
theorem j_loc348 : j_loc j_s348 := fun _ _ _ _ q => q
theorem j_loc349 : j_loc j_s349 := fun _ _ _ _ q => q
theorem j_loc350 : j_loc j_s350 := by
  intro v v' zs hd q
  unfold j_s350 at hd q ⊢
  dsimp only at hd q ⊢
  split
  case h_2 => trivial
  rename_i qn b s o a1 a2 a3 e1 e2 e3 e4
  dsimp only at q
  have e35 : v' 35 = v 35 := hd (35, none) (by decide)
  have e36 : v' 36 = v 36 := hd (36, none) (by decide)
  have e77 : v' 77 = v 77 := hd (77, none) (by decide)
  have e20 : v' 20 = v 20 := hd (20, none) (by decide)
  have e21 : v' 21 = v 21 := hd (21, none) (by decide)
  have e22 : v' 22 = v 22 := hd (22, none) (by decide)
  have e23 : v' 23 = v 23 := hd (23, none) (by decide)
  have e18 : v' 18 = v 18 := hd (18, none) (by decide)
  rw [g_F_c e20 e21 e22 e23, g_nw_c e77, g_jo_c e20 e21 e22 e23 e18, g_j9_c e20 e21 e22 e23, e35, e36]
  exact q
theorem j_loc351 : j_loc j_s351 := by
  intro v v' zs hd q
  unfold j_s351 at hd q ⊢
  dsimp only at hd q ⊢
  split
  case h_2 => trivial
  rename_i qn b s o a1 a2 a3 e1 e2 e3 e4 i
  dsimp only at q
  have h35 := hd (35, some 1000111) (by decide)
  have h36 := hd (36, some 1000111) (by decide)
  have e77 : v' 77 = v 77 := hd (77, none) (by decide)
  have e20 : v' 20 = v 20 := hd (20, none) (by decide)
  have e21 : v' 21 = v 21 := hd (21, none) (by decide)
  have e22 : v' 22 = v 22 := hd (22, none) (by decide)
  have e23 : v' 23 = v 23 := hd (23, none) (by decide)
  have e18 : v' 18 = v 18 := hd (18, none) (by decide)
  unfold q_xcx at q ⊢
  rw [g_F_c e20 e21 e22 e23, g_nw_c e77, g_jo_c e20 e21 e22 e23 e18, g_j9_c e20 e21 e22 e23]
  intro t k a1 a2 a3 n1
  have b1 := a1.1
  have b2 := a2.1
  have hn : ∀ u : Nat, u < 1 → u = 0 := fun u hu => by omega
  have hj : v' 35 (6 * t + k) = v 35 (6 * t + k) := h35 (6 * t + k) (by omega) (fun u hu => by
    have h9 : u = 0 := hn u hu
    subst h9
    exact n1)
  have hr : v' 36 (6 * t + k) = v 36 (6 * t + k) := h36 (6 * t + k) (by omega) (fun u hu => by
    have h9 : u = 0 := hn u hu
    subst h9
    exact n1)
  rw [hj, hr]
  exact q t k a1 a2 a3 n1
theorem j_loc352 : j_loc j_s352 := by
  intro v v' zs hd q
  unfold j_s352 at hd q ⊢
  dsimp only at hd q ⊢
  split
  case h_2 => trivial
  rename_i qn b s o a1 a2 a3 e1 e2 e3 e4 i x y
  dsimp only at q
  have e77 : v' 77 = v 77 := hd (77, none) (by decide)
  have e20 : v' 20 = v 20 := hd (20, none) (by decide)
  have e21 : v' 21 = v 21 := hd (21, none) (by decide)
  have e22 : v' 22 = v 22 := hd (22, none) (by decide)
  have e23 : v' 23 = v 23 := hd (23, none) (by decide)
  have e18 : v' 18 = v 18 := hd (18, none) (by decide)
  rw [g_F_c e20 e21 e22 e23, g_nw_c e77, g_jo_c e20 e21 e22 e23 e18, g_j9_c e20 e21 e22 e23]
  exact q
theorem j_loc353 : j_loc j_s353 := fun _ _ _ _ q => q
theorem j_loc354 : j_loc j_s354 := fun _ _ _ _ q => q
theorem j_loc355 : j_loc j_s355 := by
  intro v v' zs hd q
  unfold j_s355 at hd q ⊢
  dsimp only at hd q ⊢
  split
  case h_2 => trivial
  rename_i qn b s o a1 a2 a3 w x y
  dsimp only at q
  have e77 : v' 77 = v 77 := hd (77, none) (by decide)
  have e20 : v' 20 = v 20 := hd (20, none) (by decide)
  have e21 : v' 21 = v 21 := hd (21, none) (by decide)
  have e22 : v' 22 = v 22 := hd (22, none) (by decide)
  have e23 : v' 23 = v 23 := hd (23, none) (by decide)
  have e18 : v' 18 = v 18 := hd (18, none) (by decide)
  rw [g_F_c e20 e21 e22 e23, g_nw_c e77, g_jy_c e20 e21 e22 e23 e18, o_E_c e20]
  exact q
theorem j_loc356 : j_loc j_s356 := by
  intro v v' zs hd q
  unfold j_s356 at hd q ⊢
  dsimp only at hd q ⊢
  split
  case h_2 => trivial
  rename_i qn b s o a1 a2 a3 w x y
  dsimp only at q
  have e77 : v' 77 = v 77 := hd (77, none) (by decide)
  have e20 : v' 20 = v 20 := hd (20, none) (by decide)
  have e21 : v' 21 = v 21 := hd (21, none) (by decide)
  have e22 : v' 22 = v 22 := hd (22, none) (by decide)
  have e23 : v' 23 = v 23 := hd (23, none) (by decide)
  have e18 : v' 18 = v 18 := hd (18, none) (by decide)
  rw [g_F_c e20 e21 e22 e23, g_nw_c e77, g_jy_c e20 e21 e22 e23 e18, o_E_c e20]
  exact q
theorem j_loc357 : j_loc j_s357 := by
  intro v v' zs hd q
  unfold j_s357 at hd q ⊢
  dsimp only at hd q ⊢
  split
  case h_2 => trivial
  rename_i qn b s o a1 a2 a3 w x k
  dsimp only at q
  have e77 : v' 77 = v 77 := hd (77, none) (by decide)
  have e20 : v' 20 = v 20 := hd (20, none) (by decide)
  have e21 : v' 21 = v 21 := hd (21, none) (by decide)
  have e22 : v' 22 = v 22 := hd (22, none) (by decide)
  have e23 : v' 23 = v 23 := hd (23, none) (by decide)
  have e18 : v' 18 = v 18 := hd (18, none) (by decide)
  rw [g_F_c e20 e21 e22 e23, g_nw_c e77, g_jy_c e20 e21 e22 e23 e18, o_p1_c e20]
  exact q
theorem j_loc358 : j_loc j_s358 := by
  intro v v' zs hd q
  unfold j_s358 at hd q ⊢
  dsimp only at hd q ⊢
  split
  case h_2 => trivial
  rename_i qn b s o a1 a2 a3 w x k
  dsimp only at q
  have e77 : v' 77 = v 77 := hd (77, none) (by decide)
  have e20 : v' 20 = v 20 := hd (20, none) (by decide)
  have e21 : v' 21 = v 21 := hd (21, none) (by decide)
  have e22 : v' 22 = v 22 := hd (22, none) (by decide)
  have e23 : v' 23 = v 23 := hd (23, none) (by decide)
  have e18 : v' 18 = v 18 := hd (18, none) (by decide)
  rw [g_F_c e20 e21 e22 e23, g_nw_c e77, g_jy_c e20 e21 e22 e23 e18, o_k1_c e20]
  exact q
theorem j_loc359 : j_loc j_s359 := by
  intro v v' zs hd q
  unfold j_s359 at hd q ⊢
  dsimp only at hd q ⊢
  split
  case h_2 => trivial
  rename_i qn b s o a1 a2 a3 w x k l
  dsimp only at q
  have e77 : v' 77 = v 77 := hd (77, none) (by decide)
  have e20 : v' 20 = v 20 := hd (20, none) (by decide)
  have e21 : v' 21 = v 21 := hd (21, none) (by decide)
  have e22 : v' 22 = v 22 := hd (22, none) (by decide)
  have e23 : v' 23 = v 23 := hd (23, none) (by decide)
  have e18 : v' 18 = v 18 := hd (18, none) (by decide)
  rw [g_F_c e20 e21 e22 e23, g_nw_c e77, g_jy_c e20 e21 e22 e23 e18, o_p2_c e20]
  exact q
theorem j_loc360 : j_loc j_s360 := by
  intro v v' zs hd q
  unfold j_s360 at hd q ⊢
  dsimp only at hd q ⊢
  split
  case h_2 => trivial
  rename_i qn b s o a1 a2 a3 w x k l
  dsimp only at q
  have e77 : v' 77 = v 77 := hd (77, none) (by decide)
  have e20 : v' 20 = v 20 := hd (20, none) (by decide)
  have e21 : v' 21 = v 21 := hd (21, none) (by decide)
  have e22 : v' 22 = v 22 := hd (22, none) (by decide)
  have e23 : v' 23 = v 23 := hd (23, none) (by decide)
  have e18 : v' 18 = v 18 := hd (18, none) (by decide)
  rw [g_F_c e20 e21 e22 e23, g_nw_c e77, g_jy_c e20 e21 e22 e23 e18, o_k2_c e20]
  exact q
theorem j_loc361 : j_loc j_s361 := by
  intro v v' zs hd q
  unfold j_s361 at hd q ⊢
  dsimp only at hd q ⊢
  split
  case h_2 => trivial
  rename_i qn b s o a1 a2 a3 w x k
  dsimp only at q
  have e77 : v' 77 = v 77 := hd (77, none) (by decide)
  have e20 : v' 20 = v 20 := hd (20, none) (by decide)
  have e21 : v' 21 = v 21 := hd (21, none) (by decide)
  have e22 : v' 22 = v 22 := hd (22, none) (by decide)
  have e23 : v' 23 = v 23 := hd (23, none) (by decide)
  have e18 : v' 18 = v 18 := hd (18, none) (by decide)
  rw [g_F_c e20 e21 e22 e23, g_nw_c e77, g_jy_c e20 e21 e22 e23 e18, o_E_c e20, o_f1_c e20]
  exact q
theorem j_loc362 : j_loc j_s362 := by
  intro v v' zs hd q
  unfold j_s362 at hd q ⊢
  dsimp only at hd q ⊢
  split
  case h_2 => trivial
  rename_i qn b s o a1 a2 a3 w x k l
  dsimp only at q
  have e77 : v' 77 = v 77 := hd (77, none) (by decide)
  have e20 : v' 20 = v 20 := hd (20, none) (by decide)
  have e21 : v' 21 = v 21 := hd (21, none) (by decide)
  have e22 : v' 22 = v 22 := hd (22, none) (by decide)
  have e23 : v' 23 = v 23 := hd (23, none) (by decide)
  have e18 : v' 18 = v 18 := hd (18, none) (by decide)
  rw [g_F_c e20 e21 e22 e23, g_nw_c e77, g_jy_c e20 e21 e22 e23 e18, o_E_c e20, o_n1_c e20, o_f2_c e20]
  exact q
set_option maxRecDepth 1000000 in
theorem j_Tb_ok : ∀ e ∈ j_Tb, j_loc e := by
  unfold j_Tb
  simp only [List.forall_mem_cons]
  exact ⟨j_loc0, j_loc0, j_loc0, j_loc0, j_loc0, j_loc0, j_loc0, j_loc0, j_loc0, j_loc0, j_loc0, j_loc0, j_loc0, j_loc0, j_loc0, j_loc0, j_loc0, j_loc0, j_loc0, j_loc0, j_loc20, j_loc21, j_loc22, j_loc23, j_loc24, j_loc25, j_loc26, j_loc27, j_loc28, j_loc29, j_loc30, j_loc31, j_loc32, j_loc33, j_loc34, j_loc35, j_loc36, j_loc37, j_loc38, j_loc39, j_loc40, j_loc41, j_loc42, j_loc43, j_loc44, j_loc45, j_loc46, j_loc47, j_loc48, j_loc49, j_loc50, j_loc51, j_loc52, j_loc53, j_loc54, j_loc55, j_loc56, j_loc57, j_loc58, j_loc59, j_loc60, j_loc61, j_loc62, j_loc0, j_loc64, j_loc65, j_loc66, j_loc67, j_loc68, j_loc69, j_loc70, j_loc71, j_loc72, j_loc73, j_loc74, j_loc75, j_loc76, j_loc77, j_loc78, j_loc79, j_loc80, j_loc81, j_loc82, j_loc83, j_loc84, j_loc85, j_loc86, j_loc87, j_loc88, j_loc89, j_loc90, j_loc91, j_loc92, j_loc93, j_loc94, j_loc95, j_loc96, j_loc97, j_loc98, j_loc0, j_loc100, j_loc101, j_loc102, j_loc103, j_loc104, j_loc105, j_loc106, j_loc107, j_loc108, j_loc109, j_loc110, j_loc111, j_loc0, j_loc0, j_loc0, j_loc0, j_loc0, j_loc0, j_loc0, j_loc0, j_loc0, j_loc0, j_loc0, j_loc0, j_loc0, j_loc0, j_loc0, j_loc0, j_loc0, j_loc0, j_loc0, j_loc0, j_loc0, j_loc0, j_loc0, j_loc0, j_loc0, j_loc0, j_loc0, j_loc0, j_loc0, j_loc0, j_loc0, j_loc0, j_loc0, j_loc0, j_loc0, j_loc0, j_loc0, j_loc0, j_loc0, j_loc0, j_loc0, j_loc0, j_loc0, j_loc0, j_loc0, j_loc0, j_loc0, j_loc0, j_loc0, j_loc0, j_loc0, j_loc0, j_loc0, j_loc0, j_loc0, j_loc0, j_loc0, j_loc0, j_loc0, j_loc0, j_loc0, j_loc0, j_loc0, j_loc0, j_loc0, j_loc0, j_loc0, j_loc0, j_loc0, j_loc0, j_loc0, j_loc0, j_loc0, j_loc0, j_loc0, j_loc0, j_loc0, j_loc0, j_loc0, j_loc0, j_loc0, j_loc0, j_loc0, j_loc0, j_loc0, j_loc0, j_loc0, j_loc0, j_loc200, j_loc201, j_loc202, j_loc203, j_loc204, j_loc205, j_loc206, j_loc207, j_loc208, j_loc209, j_loc210, j_loc211, j_loc212, j_loc213, j_loc214, j_loc0, j_loc216, j_loc217, j_loc218, j_loc219, j_loc220, j_loc221, j_loc222, j_loc223, j_loc224, j_loc225, j_loc226, j_loc227, j_loc228, j_loc229, j_loc230, j_loc231, j_loc232, j_loc233, j_loc234, j_loc235, j_loc236, j_loc237, j_loc238, j_loc239, j_loc240, j_loc241, j_loc242, j_loc243, j_loc244, j_loc245, j_loc246, j_loc247, j_loc248, j_loc249, j_loc250, j_loc251, j_loc252, j_loc253, j_loc254, j_loc255, j_loc256, j_loc257, j_loc258, j_loc259, j_loc260, j_loc261, j_loc262, j_loc263, j_loc264, j_loc265, j_loc266, j_loc0, j_loc0, j_loc0, j_loc270, j_loc271, j_loc272, j_loc273, j_loc274, j_loc275, j_loc276, j_loc277, j_loc278, j_loc279, j_loc280, j_loc281, j_loc282, j_loc283, j_loc284, j_loc285, j_loc286, j_loc287, j_loc288, j_loc289, j_loc290, j_loc291, j_loc292, j_loc293, j_loc294, j_loc295, j_loc296, j_loc297, j_loc298, j_loc299, j_loc300, j_loc301, j_loc302, j_loc303, j_loc304, j_loc305, j_loc306, j_loc307, j_loc308, j_loc309, j_loc310, j_loc311, j_loc312, j_loc313, j_loc314, j_loc315, j_loc316, j_loc317, j_loc318, j_loc319, j_loc320, j_loc321, j_loc322, j_loc323, j_loc324, j_loc325, j_loc326, j_loc327, j_loc328, j_loc329, j_loc330, j_loc331, j_loc332, j_loc333, j_loc334, j_loc335, j_loc336, j_loc337, j_loc338, j_loc339, j_loc340, j_loc341, j_loc342, j_loc343, j_loc344, j_loc345, j_loc346, j_loc347, j_loc348, j_loc349, j_loc350, j_loc351, j_loc352, j_loc353, j_loc354, j_loc355, j_loc356, j_loc357, j_loc358, j_loc359, j_loc360, j_loc361, j_loc362, fun _ h => absurd h List.not_mem_nil⟩
def j_dk (k : Nat) : List (Nat × Option Nat) := match x_nth j_Tb k with
  | some e => e.1
  | none => []
theorem j_N_dep {v v' : zVw} {k : Nat} {zs : List Int} (hd : ∀ d ∈ j_dk k, j_alk v v' zs d) (q : j_N v k zs) : j_N v' k zs := by
  unfold j_N at q ⊢
  unfold j_dk at hd
  rw [x_nth_eq] at hd
  cases he : j_Tb[k]? with
  | none => trivial
  | some e =>
    rw [he] at q hd
    exact j_Tb_ok e (List.mem_of_getElem? he) v v' zs hd q
end
