/-! ===== the sentences of TOKENS and parsers: which stay ===== -/
/-- what a write must keep from: a place and all behind it; but one place; but a block -/
def j_gu (g : Nat) (z i : Int) : Prop := match Nat.blt g 100 with
  | true => i < z
  | false => match Nat.blt g 1000 with
    | true => i ≠ z
    | false => ¬ (((g / 1000 : Nat) : Int) * z ≤ i ∧ i < ((g / 1000 : Nat) : Int) * z + ((g / 1000 : Nat) : Int))
def j_alk (v v' : zVw) (zs : List Int) (d : Nat × Option Nat) : Prop := match d.2 with
  | none => v' d.1 = v d.1
  | some g => ∀ i : Int, 0 ≤ i → j_gu g (zs.getD (g % 100) 0) i → v' d.1 i = v d.1 i
def j_loc (e : zSy) : Prop := ∀ (v v' : zVw) (zs : List Int), (∀ d ∈ e.1, j_alk v v' zs d) → e.2 v zs → e.2 v' zs
section ZT2
variable {v v' : zVw}
theorem q_ar_c {n : Int} {j : Nat} (hb : v' 13 = v 13) (h14 : v' 14 j = v 14 j) (h15 : v' 15 j = v 15 j) (h16 : v' 16 j = v 16 j) (q : q_ar v n j) : q_ar v' n j := by
  have e : t_b v' = t_b v := by unfold t_b; rw [hb]
  unfold q_ar at q ⊢
  rw [e, h14, h15, h16]
  exact q
theorem q_mr_c {n : Int} {j : Nat} (hb : v' 13 = v 13) (h0 : v' 50 j = v 50 j) (h1 : v' 51 j = v 51 j) (h2 : v' 52 j = v 52 j) (h3 : v' 53 j = v 53 j) (q : q_mr v n j) : q_mr v' n j := by
  have e : t_b v' = t_b v := by unfold t_b; rw [hb]
  unfold q_mr at q ⊢
  rw [e, h0, h1, h2, h3]
  exact q
theorem q_all_c {b : Int → Int} {n : Int} {R R' : Nat → Prop} (h : ∀ j, R j → R' j) (q : q_all b n R) : q_all b n R' := ⟨q.1, fun j hj hz => h j (q.2 j hj hz)⟩
theorem q_upto_c {b : Int → Int} {n c : Int} {R R' : Nat → Prop} (h : ∀ j, R j → R' j) (q : q_upto b n c R) : q_upto b n c R' := ⟨q.1, q.2.1, q_all_c h q.2.2.1, q.2.2.2⟩
theorem a_run_H {b : Int → Int} {n : Int} : ∀ {c : Nat} {q : zQ}, a_run b n c = some q → q.2.2.2.1 = q.2.2.2.2.2.2.2.length
  | 0, q, h => by cases h; rfl
  | c + 1, q, h => by
    unfold a_run at h
    split at h
    · cases h
    · next q0 h0 =>
      split at h
      · cases h
        have := a_run_H h0
        obtain ⟨st, mo, op, H, L, W, WP, ns⟩ := q0
        dsimp only at this
        unfold a_nx
        dsimp only
        split
        · rw [List.length_append, this]; simp
        · exact this
      · cases h
theorem q_nms_c {b : Int → Int} {n c H : Int} {f : Nat → Int} {g g' : Int → Int} (h : ∀ i : Int, 0 ≤ i → i < H → g' i = g i) (q : q_nms b n c H f g) : q_nms b n c H f g' := by
  obtain ⟨q, h1, h2, h3⟩ := q
  refine ⟨q, h1, h2, fun i m hm => ?_⟩
  obtain ⟨a, e⟩ := h3 i m hm
  have l := (List.getElem?_eq_some_iff.mp hm).1
  rw [← Int.ofNat_lt, ← a_run_H h1, h2] at l
  exact ⟨a, by rw [h i (by omega) l]; exact e⟩
theorem q_66_c {P P' : Int → Int → Prop} (h : ∀ a b : Int, 0 ≤ a → a < 6 → 0 ≤ b → b < 6 → P a b → P' a b) (q : q_66 P) : q_66 P' := fun a b a0 a1 b0 b1 => h a b a0 a1 b0 b1 (q a b a0 a1 b0 b1)
end ZT2
theorem j_loc0 : j_loc j_s := fun _ _ _ _ _ => trivial
theorem j_loc20 : j_loc j_s20 := by
  intro v v' zs hd q
  unfold j_s20 at hd q ⊢
  dsimp only at hd q ⊢
  split
  case h_2 => trivial
  rename_i p c
  dsimp only at q
  have hb : v' 13 = v 13 := hd (13, none) (by decide)
  have eb : t_b v' = t_b v := by unfold t_b; rw [hb]
  rw [eb]
  exact q
theorem j_loc21 : j_loc j_s21 := fun _ _ _ _ q => q
theorem j_loc22 : j_loc j_s22 := by
  intro v v' zs hd q
  unfold j_s22 at hd q ⊢
  dsimp only at hd q ⊢
  split
  case h_2 => trivial
  rename_i f n a p
  dsimp only at q
  have hb : v' 13 = v 13 := hd (13, none) (by decide)
  have eb : t_b v' = t_b v := by unfold t_b; rw [hb]
  rw [eb]
  exact q
theorem j_loc23 : j_loc j_s23 := by
  intro v v' zs hd q
  unfold j_s23 at hd q ⊢
  dsimp only at hd q ⊢
  split
  case h_2 => trivial
  rename_i f n a p
  dsimp only at q
  have hb : v' 13 = v 13 := hd (13, none) (by decide)
  have eb : t_b v' = t_b v := by unfold t_b; rw [hb]
  rw [eb]
  exact q
theorem j_loc24 : j_loc j_s24 := by
  intro v v' zs hd q
  unfold j_s24 at hd q ⊢
  dsimp only at hd q ⊢
  split
  case h_2 => trivial
  rename_i a e x
  dsimp only at q
  have hb : v' 13 = v 13 := hd (13, none) (by decide)
  have eb : t_b v' = t_b v := by unfold t_b; rw [hb]
  rw [eb]
  exact q
theorem j_loc25 : j_loc j_s25 := by
  intro v v' zs hd q
  unfold j_s25 at hd q ⊢
  dsimp only at hd q ⊢
  split
  case h_2 => trivial
  rename_i a e x
  dsimp only at q
  have hb : v' 13 = v 13 := hd (13, none) (by decide)
  have eb : t_b v' = t_b v := by unfold t_b; rw [hb]
  rw [eb]
  exact q
theorem j_loc26 : j_loc j_s26 := by
  intro v v' zs hd q
  unfold j_s26 at hd q ⊢
  dsimp only at hd q ⊢
  split
  case h_2 => trivial
  rename_i a e x
  dsimp only at q
  have hb : v' 13 = v 13 := hd (13, none) (by decide)
  have eb : t_b v' = t_b v := by unfold t_b; rw [hb]
  rw [eb]
  exact q
theorem j_loc27 : j_loc j_s27 := by
  intro v v' zs hd q
  unfold j_s27 at hd q ⊢
  dsimp only at hd q ⊢
  split
  case h_2 => trivial
  rename_i x a w i
  dsimp only at q
  have hb : v' 13 = v 13 := hd (13, none) (by decide)
  have eb : t_b v' = t_b v := by unfold t_b; rw [hb]
  rw [eb]
  exact q
theorem j_loc28 : j_loc j_s28 := by
  intro v v' zs hd q
  unfold j_s28 at hd q ⊢
  dsimp only at hd q ⊢
  split
  case h_2 => trivial
  rename_i x a w r
  dsimp only at q
  have hb : v' 13 = v 13 := hd (13, none) (by decide)
  have eb : t_b v' = t_b v := by unfold t_b; rw [hb]
  rw [eb]
  exact q
theorem j_loc29 : j_loc j_s29 := by
  intro v v' zs hd q
  unfold j_s29 at hd q ⊢
  dsimp only at hd q ⊢
  split
  case h_2 => trivial
  rename_i a w x
  dsimp only at q
  have hb : v' 13 = v 13 := hd (13, none) (by decide)
  have eb : t_b v' = t_b v := by unfold t_b; rw [hb]
  rw [eb]
  exact q
theorem j_loc30 : j_loc j_s30 := by
  intro v v' zs hd q
  unfold j_s30 at hd q ⊢
  dsimp only at hd q ⊢
  split
  case h_2 => trivial
  rename_i a w r
  dsimp only at q
  have hb : v' 13 = v 13 := hd (13, none) (by decide)
  have eb : t_b v' = t_b v := by unfold t_b; rw [hb]
  rw [eb]
  exact q
theorem j_loc31 : j_loc j_s31 := by
  intro v v' zs hd q
  unfold j_s31 at hd q ⊢
  dsimp only at hd q ⊢
  split
  case h_2 => trivial
  rename_i n k p
  dsimp only at q
  have hb : v' 13 = v 13 := hd (13, none) (by decide)
  have eb : t_b v' = t_b v := by unfold t_b; rw [hb]
  rw [eb]
  obtain ⟨a, b, c, d⟩ := q
  have h4 := hd (14, some 1) (by decide)
  have h5 := hd (15, some 1) (by decide)
  have h6 := hd (16, some 1) (by decide)
  exact ⟨a, b, c, fun j hj => q_ar_c hb (h4 j (by omega) hj) (h5 j (by omega) hj) (h6 j (by omega) hj) (d j hj)⟩
theorem j_loc32 : j_loc j_s32 := by
  intro v v' zs hd q
  unfold j_s32 at hd q ⊢
  dsimp only at hd q ⊢
  split
  case h_2 => trivial
  rename_i n k s
  dsimp only at q
  have hb : v' 13 = v 13 := hd (13, none) (by decide)
  have eb : t_b v' = t_b v := by unfold t_b; rw [hb]
  rw [eb]
  exact q
theorem j_loc33 : j_loc j_s33 := by
  intro v v' zs hd q
  unfold j_s33 at hd q ⊢
  dsimp only at hd q ⊢
  split
  case h_2 => trivial
  rename_i i
  dsimp only at q
  have h := hd (98, some 0) (by decide)
  intro k k0 k1
  rw [h k k0 k1]
  exact q k k0 k1
theorem j_loc34 : j_loc j_s34 := by
  intro v v' zs hd q
  unfold j_s34 at hd q ⊢
  dsimp only at hd q ⊢
  split
  case h_2 => trivial
  rename_i n c
  dsimp only at q
  have hb : v' 13 = v 13 := hd (13, none) (by decide)
  have eb : t_b v' = t_b v := by unfold t_b; rw [hb]
  rw [eb, show v' 98 = v 98 from hd (98, none) (by decide)]
  exact q
theorem j_loc35 : j_loc j_s35 := by
  intro v v' zs hd q
  unfold j_s35 at hd q ⊢
  dsimp only at hd q ⊢
  split
  case h_2 => trivial
  rename_i n c
  dsimp only at q
  have hb : v' 13 = v 13 := hd (13, none) (by decide)
  have eb : t_b v' = t_b v := by unfold t_b; rw [hb]
  rw [eb]
  exact q_upto_c (fun j => q_ar_c hb (congrFun (hd (14, none) (by decide)) j) (congrFun (hd (15, none) (by decide)) j) (congrFun (hd (16, none) (by decide)) j)) q
theorem j_loc36 : j_loc j_s36 := by
  intro v v' zs hd q
  unfold j_s36 at hd q ⊢
  dsimp only at hd q ⊢
  split
  case h_2 => trivial
  rename_i n c kd s x
  dsimp only at q
  have hb : v' 13 = v 13 := hd (13, none) (by decide)
  have eb : t_b v' = t_b v := by unfold t_b; rw [hb]
  rw [eb]
  exact q
theorem j_loc37 : j_loc j_s37 := by
  intro v v' zs hd q
  unfold j_s37 at hd q ⊢
  dsimp only at hd q ⊢
  split
  case h_2 => trivial
  rename_i n
  dsimp only at q
  have hb : v' 13 = v 13 := hd (13, none) (by decide)
  have eb : t_b v' = t_b v := by unfold t_b; rw [hb]
  rw [eb]
  exact q_all_c (fun j => q_ar_c hb (congrFun (hd (14, none) (by decide)) j) (congrFun (hd (15, none) (by decide)) j) (congrFun (hd (16, none) (by decide)) j)) q
theorem j_loc38 : j_loc j_s38 := by
  intro v v' zs hd q
  unfold j_s38 at hd q ⊢
  dsimp only at hd q ⊢
  split
  case h_2 => trivial
  rename_i n c j
  dsimp only at q
  have hb : v' 13 = v 13 := hd (13, none) (by decide)
  have eb : t_b v' = t_b v := by unfold t_b; rw [hb]
  rw [eb]
  have h := hd (98, some 102) (by decide)
  exact ⟨q.1, q_66_c (fun a b a0 a1 b0 b1 g hn => by rw [h _ (by omega) hn]; exact g hn) q.2⟩
theorem j_loc39 : j_loc j_s39 := by
  intro v v' zs hd q
  unfold j_s39 at hd q ⊢
  dsimp only at hd q ⊢
  split
  case h_2 => trivial
  rename_i n c j x k
  dsimp only at q
  have hb : v' 13 = v 13 := hd (13, none) (by decide)
  have eb : t_b v' = t_b v := by unfold t_b; rw [hb]
  rw [eb]
  have h := hd (98, some 104) (by decide)
  exact ⟨q.1, q_66_c (fun a b a0 a1 b0 b1 g hn hk => by rw [h _ (by omega) hk]; exact g hn hk) q.2.1, fun j0 hj => by rw [h _ j0 hj]; exact q.2.2 j0 hj⟩
theorem j_loc40 : j_loc j_s40 := by
  intro v v' zs hd q
  unfold j_s40 at hd q ⊢
  dsimp only at hd q ⊢
  split
  case h_2 => trivial
  rename_i n c st mo op H L W WP
  dsimp only at q
  have hb : v' 13 = v 13 := hd (13, none) (by decide)
  have eb : t_b v' = t_b v := by unfold t_b; rw [hb]
  rw [eb]
  exact q
theorem j_loc41 : j_loc j_s41 := by
  intro v v' zs hd q
  unfold j_s41 at hd q ⊢
  dsimp only at hd q ⊢
  split
  case h_2 => trivial
  rename_i n f p
  dsimp only at q
  have hb : v' 13 = v 13 := hd (13, none) (by decide)
  have eb : t_b v' = t_b v := by unfold t_b; rw [hb]
  rw [eb]
  exact q
theorem j_loc42 : j_loc j_s42 := by
  intro v v' zs hd q
  unfold j_s42 at hd q ⊢
  dsimp only at hd q ⊢
  split
  case h_2 => trivial
  rename_i n c K kd s
  dsimp only at q
  have hb : v' 13 = v 13 := hd (13, none) (by decide)
  have eb : t_b v' = t_b v := by unfold t_b; rw [hb]
  rw [eb]
  exact q
theorem j_loc43 : j_loc j_s43 := by
  intro v v' zs hd q
  unfold j_s43 at hd q ⊢
  dsimp only at hd q ⊢
  split
  case h_2 => trivial
  rename_i n c H
  dsimp only at q
  have hb : v' 13 = v 13 := hd (13, none) (by decide)
  have eb : t_b v' = t_b v := by unfold t_b; rw [hb]
  rw [eb]
  exact q_nms_c (hd (97, some 2) (by decide)) q
theorem j_loc44 : j_loc j_s44 := by
  intro v v' zs hd q
  unfold j_s44 at hd q ⊢
  dsimp only at hd q ⊢
  split
  case h_2 => trivial
  rename_i n c r
  dsimp only at q
  have hb : v' 13 = v 13 := hd (13, none) (by decide)
  have eb : t_b v' = t_b v := by unfold t_b; rw [hb]
  rw [eb]
  exact q
theorem j_loc45 : j_loc j_s45 := by
  intro v v' zs hd q
  unfold j_s45 at hd q ⊢
  dsimp only at hd q ⊢
  split
  case h_2 => trivial
  rename_i n c j
  dsimp only at q
  have hb : v' 13 = v 13 := hd (13, none) (by decide)
  have eb : t_b v' = t_b v := by unfold t_b; rw [hb]
  rw [eb]
  exact q
theorem j_loc46 : j_loc j_s46 := by
  intro v v' zs hd q
  unfold j_s46 at hd q ⊢
  dsimp only at hd q ⊢
  split
  case h_2 => trivial
  rename_i n c r q x
  dsimp only at q
  have hb : v' 13 = v 13 := hd (13, none) (by decide)
  have eb : t_b v' = t_b v := by unfold t_b; rw [hb]
  rw [eb, show v' 98 = v 98 from hd (98, none) (by decide)]
  exact q
theorem j_loc47 : j_loc j_s47 := by
  intro v v' zs hd q
  unfold j_s47 at hd q ⊢
  dsimp only at hd q ⊢
  split
  case h_2 => trivial
  rename_i n f q
  dsimp only at q
  have hb : v' 13 = v 13 := hd (13, none) (by decide)
  have eb : t_b v' = t_b v := by unfold t_b; rw [hb]
  rw [eb]
  exact q
theorem j_loc48 : j_loc j_s48 := fun _ _ _ _ q => q
theorem j_loc49 : j_loc j_s49 := fun _ _ _ _ q => q
theorem j_loc50 : j_loc j_s50 := fun _ _ _ _ q => q
theorem j_loc51 : j_loc j_s51 := fun _ _ _ _ q => q
theorem j_loc52 : j_loc j_s52 := by
  intro v v' zs hd q
  unfold j_s52 at hd q ⊢
  dsimp only at hd q ⊢
  split
  case h_2 => trivial
  rename_i n
  dsimp only at q
  have hb : v' 13 = v 13 := hd (13, none) (by decide)
  have eb : t_b v' = t_b v := by unfold t_b; rw [hb]
  rw [hb, show v' 49 = v 49 from hd (49, none) (by decide)]
  exact q
theorem j_loc53 : j_loc j_s53 := by
  intro v v' zs hd q
  unfold j_s53 at hd q ⊢
  dsimp only at hd q ⊢
  split
  case h_2 => trivial
  rename_i n
  dsimp only at q
  have h4 := hd (13, some 0) (by decide)
  have h5 := hd (48, some 0) (by decide)
  intro i h0 h1
  rw [h4 i h0 h1, h5 i h0 h1]
  exact q i h0 h1
theorem j_loc54 : j_loc j_s54 := by
  intro v v' zs hd q
  unfold j_s54 at hd q ⊢
  dsimp only at hd q ⊢
  split
  case h_2 => trivial
  rename_i n
  dsimp only at q
  have h4 := hd (49, some 0) (by decide)
  intro i h0 h1
  rw [h4 i h0 h1, show v' 48 = v 48 from hd (48, none) (by decide)]
  exact q i h0 h1
theorem j_loc55 : j_loc j_s55 := by
  intro v v' zs hd q
  unfold j_s55 at hd q ⊢
  dsimp only at hd q ⊢
  split
  case h_2 => trivial
  dsimp only at q
  rw [show v' 54 = v 54 from hd (54, none) (by decide)]
  exact q
theorem j_loc56 : j_loc j_s56 := by
  intro v v' zs hd q
  unfold j_s56 at hd q ⊢
  dsimp only at hd q ⊢
  split
  case h_2 => trivial
  rename_i n k i
  dsimp only at q
  have hb : v' 13 = v 13 := hd (13, none) (by decide)
  have eb : t_b v' = t_b v := by unfold t_b; rw [hb]
  rw [eb]
  obtain ⟨a, b, c, d, e⟩ := q
  have h4 := hd (50, some 1) (by decide)
  have h5 := hd (51, some 1) (by decide)
  have h6 := hd (52, some 1) (by decide)
  have h7 := hd (53, some 1) (by decide)
  exact ⟨a, b, c, d, fun j hj => q_mr_c hb (h4 j (by omega) hj) (h5 j (by omega) hj) (h6 j (by omega) hj) (h7 j (by omega) hj) (e j hj)⟩
theorem j_loc57 : j_loc j_s57 := by
  intro v v' zs hd q
  unfold j_s57 at hd q ⊢
  dsimp only at hd q ⊢
  split
  case h_2 => trivial
  rename_i n
  dsimp only at q
  have hb : v' 13 = v 13 := hd (13, none) (by decide)
  have eb : t_b v' = t_b v := by unfold t_b; rw [hb]
  rw [eb]
  exact q_all_c (fun j => q_mr_c hb (congrFun (hd (50, none) (by decide)) j) (congrFun (hd (51, none) (by decide)) j) (congrFun (hd (52, none) (by decide)) j) (congrFun (hd (53, none) (by decide)) j)) q
theorem j_loc58 : j_loc j_s58 := by
  intro v v' zs hd q
  unfold j_s58 at hd q ⊢
  dsimp only at hd q ⊢
  split
  case h_2 => trivial
  rename_i n c
  dsimp only at q
  have hb : v' 13 = v 13 := hd (13, none) (by decide)
  have eb : t_b v' = t_b v := by unfold t_b; rw [hb]
  rw [eb]
  exact q_upto_c (fun j => q_mr_c hb (congrFun (hd (50, none) (by decide)) j) (congrFun (hd (51, none) (by decide)) j) (congrFun (hd (52, none) (by decide)) j) (congrFun (hd (53, none) (by decide)) j)) q
theorem j_loc59 : j_loc j_s59 := by
  intro v v' zs hd q
  unfold j_s59 at hd q ⊢
  dsimp only at hd q ⊢
  split
  case h_2 => trivial
  rename_i n c u s
  dsimp only at q
  have hb : v' 13 = v 13 := hd (13, none) (by decide)
  have eb : t_b v' = t_b v := by unfold t_b; rw [hb]
  rw [eb]
  exact q
theorem j_loc60 : j_loc j_s60 := fun _ _ _ _ q => q
theorem j_loc61 : j_loc j_s61 := by
  intro v v' zs hd q
  unfold j_s61 at hd q ⊢
  dsimp only at hd q ⊢
  split
  case h_2 => trivial
  rename_i n c i
  dsimp only at q
  have hb : v' 13 = v 13 := hd (13, none) (by decide)
  have eb : t_b v' = t_b v := by unfold t_b; rw [hb]
  rw [eb]
  exact q
theorem j_loc62 : j_loc j_s62 := by
  intro v v' zs hd q
  unfold j_s62 at hd q ⊢
  dsimp only at hd q ⊢
  split
  case h_2 => trivial
  rename_i n c K u s
  dsimp only at q
  have hb : v' 13 = v 13 := hd (13, none) (by decide)
  have eb : t_b v' = t_b v := by unfold t_b; rw [hb]
  rw [eb]
  exact q
theorem j_loc64 : j_loc j_s64 := by
  intro v v' zs hd q
  unfold j_s64 at hd q ⊢
  dsimp only at hd q ⊢
  split
  case h_2 => trivial
  rename_i n c H
  dsimp only at q
  have hb : v' 13 = v 13 := hd (13, none) (by decide)
  have eb : t_b v' = t_b v := by unfold t_b; rw [hb]
  rw [eb]
  exact q_nms_c (hd (55, some 2) (by decide)) q
theorem j_loc65 : j_loc j_s65 := by
  intro v v' zs hd q
  unfold j_s65 at hd q ⊢
  dsimp only at hd q ⊢
  split
  case h_2 => trivial
  rename_i n c w
  dsimp only at q
  have hb : v' 13 = v 13 := hd (13, none) (by decide)
  have eb : t_b v' = t_b v := by unfold t_b; rw [hb]
  rw [eb]
  exact q
theorem j_loc66 : j_loc j_s66 := by
  intro v v' zs hd q
  unfold j_s66 at hd q ⊢
  dsimp only at hd q ⊢
  split
  case h_2 => trivial
  rename_i n c j
  dsimp only at q
  have hb : v' 13 = v 13 := hd (13, none) (by decide)
  have eb : t_b v' = t_b v := by unfold t_b; rw [hb]
  rw [eb]
  exact q
theorem j_loc67 : j_loc j_s67 := by
  intro v v' zs hd q
  unfold j_s67 at hd q ⊢
  dsimp only at hd q ⊢
  split
  case h_2 => trivial
  rename_i n c
  dsimp only at q
  have hb : v' 13 = v 13 := hd (13, none) (by decide)
  have eb : t_b v' = t_b v := by unfold t_b; rw [hb]
  rw [eb]
  exact q
theorem j_loc68 : j_loc j_s68 := by
  intro v v' zs hd q
  unfold j_s68 at hd q ⊢
  dsimp only at hd q ⊢
  split
  case h_2 => trivial
  rename_i n c s
  dsimp only at q
  have hb : v' 13 = v 13 := hd (13, none) (by decide)
  have eb : t_b v' = t_b v := by unfold t_b; rw [hb]
  rw [eb]
  exact q
theorem j_loc69 : j_loc j_s69 := by
  intro v v' zs hd q
  unfold j_s69 at hd q ⊢
  dsimp only at hd q ⊢
  split
  case h_2 => trivial
  rename_i n c h K s
  dsimp only at q
  have hb : v' 13 = v 13 := hd (13, none) (by decide)
  have eb : t_b v' = t_b v := by unfold t_b; rw [hb]
  rw [eb]
  exact q
theorem j_loc70 : j_loc j_s70 := fun _ _ _ _ q => q
theorem j_loc71 : j_loc j_s71 := by
  intro v v' zs hd q
  unfold j_s71 at hd q ⊢
  dsimp only at hd q ⊢
  split
  case h_2 => trivial
  rename_i n c
  dsimp only at q
  have hb : v' 13 = v 13 := hd (13, none) (by decide)
  have eb : t_b v' = t_b v := by unfold t_b; rw [hb]
  rw [eb]
  exact q
theorem j_loc72 : j_loc j_s72 := by
  intro v v' zs hd q
  unfold j_s72 at hd q ⊢
  dsimp only at hd q ⊢
  split
  case h_2 => trivial
  rename_i a w d
  dsimp only at q
  have h4 := hd (13, some 2) (by decide)
  obtain ⟨a0, a1, a2⟩ := q
  refine ⟨a0, a1, fun i hi => ?_⟩
  rw [h4 _ (by omega) (show a + (i : Int) < d by omega)]
  exact a2 i hi
theorem j_loc73 : j_loc j_s73 := by
  intro v v' zs hd q
  unfold j_s73 at hd q ⊢
  dsimp only at hd q ⊢
  split
  case h_2 => trivial
  rename_i a w d
  dsimp only at q
  have h4 := hd (48, some 2) (by decide)
  obtain ⟨a0, a1, a2⟩ := q
  refine ⟨a0, a1, fun i hi => ?_⟩
  rw [h4 _ (by omega) (show a + (i : Int) < d by omega)]
  exact a2 i hi
theorem j_loc74 : j_loc j_s74 := by
  intro v v' zs hd q
  unfold j_s74 at hd q ⊢
  dsimp only at hd q ⊢
  split
  case h_2 => trivial
  rename_i n
  dsimp only at q
  have hb : v' 13 = v 13 := hd (13, none) (by decide)
  have eb : t_b v' = t_b v := by unfold t_b; rw [hb]
  rw [eb, show v' 98 = v 98 from hd (98, none) (by decide)]
  exact q
theorem j_loc75 : j_loc j_s75 := by
  intro v v' zs hd q
  unfold j_s75 at hd q ⊢
  dsimp only at hd q ⊢
  split
  case h_2 => trivial
  rename_i n
  dsimp only at q
  have hb : v' 13 = v 13 := hd (13, none) (by decide)
  have eb : t_b v' = t_b v := by unfold t_b; rw [hb]
  rw [eb, show v' 18 = v 18 from hd (18, none) (by decide)]
  exact q
theorem j_loc76 : j_loc j_s76 := by
  intro v v' zs hd q
  unfold j_s76 at hd q ⊢
  dsimp only at hd q ⊢
  split
  case h_2 => trivial
  rename_i n H
  dsimp only at q
  have hb : v' 13 = v 13 := hd (13, none) (by decide)
  have eb : t_b v' = t_b v := by unfold t_b; rw [hb]
  rw [eb]
  exact q
theorem j_loc77 : j_loc j_s77 := by
  intro v v' zs hd q
  unfold j_s77 at hd q ⊢
  dsimp only at hd q ⊢
  split
  case h_2 => trivial
  rename_i s j
  dsimp only at q
  have h := hd (60, some 1) (by decide)
  intro k k0 k1 k2
  rw [h k k0 k2]
  exact q k k0 k1 k2
theorem j_loc78 : j_loc j_s78 := by
  intro v v' zs hd q
  unfold j_s78 at hd q ⊢
  dsimp only at hd q ⊢
  split
  case h_2 => trivial
  rename_i n c s
  dsimp only at q
  have hb : v' 13 = v 13 := hd (13, none) (by decide)
  have eb : t_b v' = t_b v := by unfold t_b; rw [hb]
  rw [eb, show v' 60 = v 60 from hd (60, none) (by decide)]
  exact q
theorem j_loc79 : j_loc j_s79 := by
  intro v v' zs hd q
  unfold j_s79 at hd q ⊢
  dsimp only at hd q ⊢
  split
  case h_2 => trivial
  rename_i n c s j
  dsimp only at q
  have hb : v' 13 = v 13 := hd (13, none) (by decide)
  have eb : t_b v' = t_b v := by unfold t_b; rw [hb]
  rw [eb]
  have h := hd (60, some 103) (by decide)
  obtain ⟨q1, q2, q3⟩ := q
  exact ⟨q1, q2, q_66_c (fun a b a0 a1 b0 b1 g hn => by rw [h _ (by omega) hn]; exact g hn) q3⟩
theorem j_loc80 : j_loc j_s80 := by
  intro v v' zs hd q
  unfold j_s80 at hd q ⊢
  dsimp only at hd q ⊢
  split
  case h_2 => trivial
  rename_i n c s j x k
  dsimp only at q
  have hb : v' 13 = v 13 := hd (13, none) (by decide)
  have eb : t_b v' = t_b v := by unfold t_b; rw [hb]
  rw [eb]
  have h := hd (60, some 105) (by decide)
  obtain ⟨q1, q2, q3, q4⟩ := q
  exact ⟨q1, q2, q_66_c (fun a b a0 a1 b0 b1 g hn hk => by rw [h _ (by omega) hk]; exact g hn hk) q3, fun j0 hj => by rw [h _ j0 hj]; exact q4 j0 hj⟩
theorem j_loc81 : j_loc j_s81 := by
  intro v v' zs hd q
  unfold j_s81 at hd q ⊢
  dsimp only at hd q ⊢
  split
  case h_2 => trivial
  rename_i n s
  dsimp only at q
  have hb : v' 13 = v 13 := hd (13, none) (by decide)
  have eb : t_b v' = t_b v := by unfold t_b; rw [hb]
  rw [eb, show v' 60 = v 60 from hd (60, none) (by decide)]
  exact q
theorem j_loc82 : j_loc j_s82 := by
  intro v v' zs hd q
  unfold j_s82 at hd q ⊢
  dsimp only at hd q ⊢
  split
  case h_2 => trivial
  rename_i l s z
  dsimp only at q
  have h := hd (60, some 36001) (by decide)
  rw [show v' 18 = v 18 from hd (18, none) (by decide)]
  intro hz
  obtain ⟨q1, q2, q3, q4⟩ := q hz
  refine ⟨q1, q2, q3, q_66_c (fun a b a0 a1 b0 b1 g => ?_) q4⟩
  rw [h (36 * l + (6 * a + b)) (by omega) (show ¬ (((36001 / 1000 : Nat) : Int) * s ≤ 36 * l + (6 * a + b) ∧ 36 * l + (6 * a + b) < ((36001 / 1000 : Nat) : Int) * s + ((36001 / 1000 : Nat) : Int)) by omega)]
  exact g
theorem j_loc83 : j_loc j_s83 := by
  intro v v' zs hd q
  unfold j_s83 at hd q ⊢
  dsimp only at hd q ⊢
  split
  case h_2 => trivial
  rename_i j u
  dsimp only at q
  rw [show v' 18 = v 18 from hd (18, none) (by decide)]
  exact q
theorem j_loc84 : j_loc j_s84 := by
  intro v v' zs hd q
  unfold j_s84 at hd q ⊢
  dsimp only at hd q ⊢
  split
  case h_2 => trivial
  rename_i j u
  dsimp only at q
  rw [show v' 60 = v 60 from hd (60, none) (by decide)]
  exact q
theorem j_loc85 : j_loc j_s85 := by
  intro v v' zs hd q
  unfold j_s85 at hd q ⊢
  dsimp only at hd q ⊢
  split
  case h_2 => trivial
  rename_i l H s
  dsimp only at q
  have h := hd (56, some 102) (by decide)
  obtain ⟨q1, q2, q3⟩ := q
  exact ⟨q1, q2, by rw [h _ q1 q2]; exact q3⟩
theorem j_loc97 : j_loc j_s97 := fun _ _ _ _ q => q
theorem j_loc98 : j_loc j_s98 := fun _ _ _ _ q => q
theorem j_loc100 : j_loc j_s100 := fun _ _ _ _ q => q
theorem j_loc101 : j_loc j_s101 := fun _ _ _ _ q => q
theorem j_loc102 : j_loc j_s102 := fun _ _ _ _ q => q
theorem j_loc103 : j_loc j_s103 := fun _ _ _ _ q => q
theorem j_loc104 : j_loc j_s104 := fun _ _ _ _ q => q
theorem j_loc105 : j_loc j_s105 := fun _ _ _ _ q => q
theorem j_loc106 : j_loc j_s106 := fun _ _ _ _ q => q
theorem j_loc107 : j_loc j_s107 := fun _ _ _ _ q => q
theorem j_loc108 : j_loc j_s108 := fun _ _ _ _ q => q
theorem j_loc109 : j_loc j_s109 := fun _ _ _ _ q => q
theorem j_Tb_ok : ∀ e ∈ j_Tb, j_loc e := by
  unfold j_Tb
  simp only [List.forall_mem_cons]
  exact ⟨j_loc0, j_loc0, j_loc0, j_loc0, j_loc0, j_loc0, j_loc0, j_loc0, j_loc0, j_loc0, j_loc0, j_loc0, j_loc0, j_loc0, j_loc0, j_loc0, j_loc0, j_loc0, j_loc0, j_loc0, j_loc20, j_loc21, j_loc22, j_loc23, j_loc24, j_loc25, j_loc26, j_loc27, j_loc28, j_loc29, j_loc30, j_loc31, j_loc32, j_loc33, j_loc34, j_loc35, j_loc36, j_loc37, j_loc38, j_loc39, j_loc40, j_loc41, j_loc42, j_loc43, j_loc44, j_loc45, j_loc46, j_loc47, j_loc48, j_loc49, j_loc50, j_loc51, j_loc52, j_loc53, j_loc54, j_loc55, j_loc56, j_loc57, j_loc58, j_loc59, j_loc60, j_loc61, j_loc62, j_loc0, j_loc64, j_loc65, j_loc66, j_loc67, j_loc68, j_loc69, j_loc70, j_loc71, j_loc72, j_loc73, j_loc74, j_loc75, j_loc76, j_loc77, j_loc78, j_loc79, j_loc80, j_loc81, j_loc82, j_loc83, j_loc84, j_loc85, j_loc0, j_loc0, j_loc0, j_loc0, j_loc0, j_loc0, j_loc0, j_loc0, j_loc0, j_loc0, j_loc0, j_loc97, j_loc98, j_loc0, j_loc100, j_loc101, j_loc102, j_loc103, j_loc104, j_loc105, j_loc106, j_loc107, j_loc108, j_loc109, fun _ h => absurd h List.not_mem_nil⟩
def j_dk (k : Nat) : List (Nat × Option Nat) := match j_Tb[k]? with
  | some e => e.1
  | none => []
theorem j_N_dep {v v' : zVw} {k : Nat} {zs : List Int} (hd : ∀ d ∈ j_dk k, j_alk v v' zs d) (q : j_N v k zs) : j_N v' k zs := by
  unfold j_N at q ⊢
  unfold j_dk at hd
  cases he : j_Tb[k]? with
  | none => trivial
  | some e =>
    rw [he] at q hd
    exact j_Tb_ok e (List.mem_of_getElem? he) v v' zs hd q
