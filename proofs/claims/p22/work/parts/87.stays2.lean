/-! ===== which sentences stay when a slot is written ===== -/
section ZJ3
variable {W : Bool} {σ : Nat → Int} {ρ : Nat → Option Nat} {S : zS} {h h' : mH} {ls : mL} {st : List mV} {X : List Int32}
theorem r_dk_m {k l : Nat} {d : List Nat} (e : d = r_dk k) (h : d.contains l = true) : l ∈ r_dk k := by
  rw [← e]
  simpa using h
theorem j_cn_c {g g' : Nat → Int → Int} {y : Int} (h : ∀ x : Int, 6 ≤ x → x ≤ 11 → x ≠ 6 + y → g' 78 x = g 78 x) : j_cn g' y = j_cn g y := by
  have one : ∀ x : Int, 0 ≤ x → x ≤ 5 → j_bn y x (g' 78 (6 + x)) = j_bn y x (g 78 (6 + x)) := by
    intro x h0 h5
    unfold j_bn
    by_cases e : x = y
    · rw [if_pos e, if_pos e]
    · rw [if_neg e, if_neg e, h _ (by omega) (by omega) (by omega)]
  unfold j_cn
  rw [show (6 : Int) = 6 + 0 by rfl, show (7 : Int) = 6 + 1 by rfl, show (8 : Int) = 6 + 2 by rfl, show (9 : Int) = 6 + 3 by rfl, show (10 : Int) = 6 + 4 by rfl, show (11 : Int) = 6 + 5 by rfl, one 0 (by omega) (by omega), one 1 (by omega) (by omega), one 2 (by omega) (by omega), one 3 (by omega) (by omega), one 4 (by omega) (by omega), one 5 (by omega) (by omega)]
theorem mTS_ok : y_TS (mGw W) mLT (mJS X) mTS := by
  intro S σ ρ ls st h h' t r sl v q hH hr0 hx w ht
  obtain ⟨lb, hr⟩ := hr0
  refine ⟨ht.1, ?_⟩
  have h0 : j_P X t.1 (t.2.map (y_ev σ)) (j_g h) := ht.2
  show j_P X t.1 (t.2.map (y_ev σ)) (j_g h')
  unfold mTS at hx
  rw [hr] at hx
  split at hx
  · next hs => exact j_P_dep (g := j_g h) (fun l hl => j_off q hH (r_dk_U hl) hr w (Or.inl hs)) h0
  · next d lb' b hs hd e =>
    cases e
    have ed := r_dep_dk hd
    split at hx
    · next hc =>
      refine j_P_dep (g := j_g h) (fun l hl => j_off q hH (r_dk_U hl) hr w (Or.inr fun e => ?_)) h0
      rw [e, ed] at hc
      simp [hl] at hc
    · next hc =>
      have hlb := r_dk_m ed hc
      split at hx
      · next hv =>
        obtain ⟨ie, iv, e0, hw⟩ := j_on q hH (r_dk_U hlb) hr w hs hv
        have off : ∀ l ∈ j_U, l ≠ lb → j_g h' l = j_g h l := fun l hl hne => j_off q hH hl hr w (Or.inr fun e => hne e.symm)
        generalize hg' : j_g h' = g' at hw off ⊢
        generalize hg : j_g h = g at h0 hw off
        obtain ⟨tk, tp⟩ := t
        dsimp only at h0 hlb ⊢
        have tin : ∀ e ∈ tp, y_in S.1.length e := ht.1
        unfold mTS1 at hx
        dsimp only at hx
        split at hx
        -- RP
        · next a1 a2 c =>
          have ic := tin c (by simp)
          have := y_sub0 q ie ic hx
          refine j_rp_c (g := g) (fun x h1 h2 => ?_) h0
          have hne : x ≠ y_ev σ sl.2.2 := by omega
          have fx : 0 ≤ x := by have := h0.1; omega
          simp only [r_dk, List.mem_cons, List.not_mem_nil, or_false] at hlb
          rcases hlb with rfl | rfl
          · exact ⟨by rw [hw x fx, if_neg hne], by rw [off 73 (by decide) (by decide)]⟩
          · exact ⟨by rw [off 72 (by decide) (by decide)], by rw [hw x fx, if_neg hne]⟩
        -- W
        · next w0 a1 a2 =>
          have ic := tin w0 (by simp)
          have := y_sub0 q ie ic hx
          simp only [r_dk, List.mem_cons, List.not_mem_nil, or_false] at hlb
          subst hlb
          exact j_w_c (g := g) (fun x h1 h2 => by rw [hw x h1, if_neg (by omega)]) h0
        -- LS
        · next p =>
          rw [Bool.and_eq_true, Bool.or_eq_true] at hx
          have ip := tin p (by simp)
          have i1 : y_in S.1.length (x_sub (x_k 1) p) := y_in_sub (y_in_k 1) ip
          have hb := r_bt_ok q ie (y_in_scl (k := 4) i1) (y_in_inc (k := 3) (y_in_scl (k := 4) i1)) hx.2
          rw [y_ev_inc, y_ev_scl, y_ev_sub, y_ev_k] at hb
          have hlb2 : lb = 65 ∨ lb = 66 := hx.1.imp Nat.eq_of_beq_eq_true Nat.eq_of_beq_eq_true
          have hs := h0.1
          refine ⟨h0.1, j_ls_c (g := g) (fun x _ _ => ⟨?_, ?_⟩) (fun l x l1 l2 _ _ => ?_) (fun k k0 k4 => ?_) h0.2⟩
          · rw [off 72 (by decide) (by rcases hlb2 with rfl | rfl <;> decide)]
          · rw [off 73 (by decide) (by rcases hlb2 with rfl | rfl <;> decide)]
          · rw [off l (by have : l = 67 ∨ l = 68 ∨ l = 69 ∨ l = 70 ∨ l = 71 := by omega
                          rcases this with rfl | rfl | rfl | rfl | rfl <;> decide) (by omega)]
          · have hne : ∀ z, y_ev σ p = 0 ∨ y_ev σ p = 1 → z = 4 * y_ev σ p + k → z ≠ y_ev σ sl.2.2 := by
              intro z h1 h2
              omega
            have z0 : 0 ≤ 4 * y_ev σ p + k := by omega
            rcases hlb2 with rfl | rfl
            · exact ⟨by rw [hw _ z0, if_neg (hne _ hs rfl)], by rw [off 66 (by decide) (by decide)]⟩
            · exact ⟨by rw [off 65 (by decide) (by decide)], by rw [hw _ z0, if_neg (hne _ hs rfl)]⟩
        -- CX
        · next sd F Bb C qq x0 x1 =>
          have isd := tin sd (by simp)
          have iF := tin F (by simp)
          have iB := tin Bb (by simp)
          have iC := tin C (by simp)
          have h1 : j_cx g (y_ev σ sd) (y_ev σ F) (y_ev σ Bb) (y_ev σ C) (y_ev σ qq) (y_ev σ x0) (y_ev σ x1) := h0
          have hs := h1.1
          have hF := h1.2.2.1
          have hC := h1.2.2.2.2.2.1
          have hFB := h1.2.2.2.1
          show j_cx g' (y_ev σ sd) (y_ev σ F) (y_ev σ Bb) (y_ev σ C) (y_ev σ qq) (y_ev σ x0) (y_ev σ x1)
          have five : ∀ l : Nat, 67 ≤ l → l ≤ 71 → l ∈ j_U := fun l l1 l2 => by
            have : l = 67 ∨ l = 68 ∨ l = 69 ∨ l = 70 ∨ l = 71 := by omega
            rcases this with rfl | rfl | rfl | rfl | rfl <;> decide
          split at hx
          · rename_i hk
            have hlb2 : lb = 72 ∨ lb = 73 := by
              rw [Bool.or_eq_true] at hk
              exact hk.imp Nat.eq_of_beq_eq_true Nat.eq_of_beq_eq_true
            have hb := r_bt_ok q ie iC (y_in_inc (k := 419) (y_in_scl (k := 420) isd)) hx
            rw [y_ev_inc, y_ev_scl] at hb
            have code : ∀ x : Int, 0 ≤ x → x ≠ y_ev σ sl.2.2 → g' 72 x = g 72 x ∧ g' 73 x = g 73 x := by
              intro x x0 hne
              rcases hlb2 with rfl | rfl
              · exact ⟨by rw [hw x x0, if_neg hne], by rw [off 73 (by decide) (by decide)]⟩
              · exact ⟨by rw [off 72 (by decide) (by decide)], by rw [hw x x0, if_neg hne]⟩
            exact j_cx_c hs (fun x => ⟨fun a b => code x (by omega) (by omega), fun a b => code x (by omega) (by omega)⟩) (fun l x l1 l2 => ⟨fun _ _ => by rw [off l (five l l1 l2) (by omega)], fun _ _ => by rw [off l (five l l1 l2) (by omega)]⟩)
              (fun k _ _ => by rw [off 65 (by decide) (by rcases hlb2 with rfl | rfl <;> decide), off 66 (by decide) (by rcases hlb2 with rfl | rfl <;> decide)]; exact ⟨⟨rfl, rfl⟩, rfl, rfl⟩) h1
          · rename_i hk1 hk
            have hlb2 : 67 ≤ lb ∧ lb ≤ 71 := by
              unfold r_brs at hk
              rw [Bool.and_eq_true] at hk
              exact ⟨Nat.le_of_ble_eq_true hk.1, Nat.le_of_ble_eq_true hk.2⟩
            have hb := r_bt_ok q ie iB (y_in_inc (k := 129) (y_in_scl (k := 130) isd)) hx
            rw [y_ev_inc, y_ev_scl] at hb
            have brs : ∀ (l : Nat) (x : Int), 67 ≤ l → l ≤ 71 → 0 ≤ x → x ≠ y_ev σ sl.2.2 → g' l x = g l x := by
              intro l x l1 l2 x0 hne
              by_cases e : l = lb
              · subst e
                rw [hw x x0, if_neg hne]
              · rw [off l (five l l1 l2) e]
            exact j_cx_c hs (fun x => by rw [off 72 (by decide) (by omega), off 73 (by decide) (by omega)]; exact ⟨fun _ _ => ⟨rfl, rfl⟩, fun _ _ => ⟨rfl, rfl⟩⟩) (fun l x l1 l2 => ⟨fun a b => brs l x l1 l2 (by omega) (by have := h1.2.2.2.1; omega), fun a b => brs l x l1 l2 (by omega) (by omega)⟩)
              (fun k _ _ => by rw [off 65 (by decide) (by omega), off 66 (by decide) (by omega)]; exact ⟨⟨rfl, rfl⟩, rfl, rfl⟩) h1
          · rename_i hk1 hk2 hk
            have hlb2 : lb = 65 := Nat.eq_of_beq_eq_true hk
            subst hlb2
            rw [Bool.and_eq_true] at hx
            have hb := r_bt_ok q ie (y_in_scl (k := 4) isd) (y_in_inc (k := 3) (y_in_scl (k := 4) isd)) hx.1
            rw [y_ev_inc, y_ev_scl] at hb
            have hv2 := y_sub0 q iv iF hx.2
            obtain ⟨c1, c2, c3, c4, c5, c6, c7, c8, c9, c10, c11, c12⟩ := h1
            have code : ∀ x : Int, g' 72 x = g 72 x ∧ g' 73 x = g 73 x := fun x => by rw [off 72 (by decide) (by decide), off 73 (by decide) (by decide)]; exact ⟨rfl, rfl⟩
            have brs : ∀ (l : Nat) (x : Int), 67 ≤ l → l ≤ 71 → g' l x = g l x := fun l x l1 l2 => by rw [off l (five l l1 l2) (by omega)]
            refine ⟨c1, j_ls_c (g := g) (fun x _ _ => code x) (fun l x l1 l2 _ _ => brs l x l1 l2) (fun k k0 k4 => ⟨by rw [hw _ (by omega), if_neg (by omega)], by rw [off 66 (by decide) (by decide)]⟩) c2, c3, c4, c5, c6, c7, ?_, fun x a b => j_br_c (g := g) (fun x _ _ => code x) (fun l l1 l2 => brs l x l1 l2) (c9 x a b), fun z => j_gd_c (g := g) (fun x _ _ => code x) (c10 z), fun z => j_gd_c (g := g) (fun x _ _ => code x) (c11 z), fun k k0 k4 => by rw [off 66 (by decide) (by decide)]; exact c12 k k0 k4⟩
            intro k x k0 k4 a b
            rw [off 66 (by decide) (by decide)] at b
            rw [hw _ (by omega)] at a
            have hbr : 130 * y_ev σ sd ≤ x ∧ x < y_ev σ Bb ∧ j_br g (420 * y_ev σ sd) (y_ev σ C) x := by
              by_cases e : 4 * y_ev σ sd + k = y_ev σ sl.2.2
              · rw [if_pos e] at a
                have e2 := c12 k k0 k4
                exact ⟨by omega, by omega, c9 x (by omega) (by omega)⟩
              · rw [if_neg e] at a
                exact c8 k x k0 k4 a b
            exact ⟨hbr.1, hbr.2.1, j_br_c (g := g) (fun x _ _ => code x) (fun l l1 l2 => brs l x l1 l2) hbr.2.2⟩
          · rename_i hk1 hk2 hk3
            have hlb2 : lb = 66 := by
              simp only [r_dk, List.mem_cons, List.not_mem_nil, or_false] at hlb
              rcases hlb with rfl | rfl | rfl | rfl | rfl | rfl | rfl | rfl | rfl <;> first | rfl | (exfalso; revert hk1 hk2 hk3; decide)
            subst hlb2
            rw [Bool.and_eq_true, Bool.and_eq_true] at hx
            obtain ⟨⟨hx1, hx2⟩, hx3⟩ := hx
            have hb := r_bt_ok q ie (y_in_scl (k := 4) isd) (y_in_inc (k := 3) (y_in_scl (k := 4) isd)) hx1
            rw [y_ev_inc, y_ev_scl] at hb
            have hv2 := y_sub0 q iB iv hx2
            split at hx3
            · next wv hwv =>
              obtain ⟨w1, w2, w3⟩ := j_fi q hH (by decide) ie hwv
              have hv3 := y_sub0 q w1 iF hx3
              rw [hg] at w2
              obtain ⟨c1, c2, c3, c4, c5, c6, c7, c8, c9, c10, c11, c12⟩ := h1
              have code : ∀ x : Int, g' 72 x = g 72 x ∧ g' 73 x = g 73 x := fun x => by rw [off 72 (by decide) (by decide), off 73 (by decide) (by decide)]; exact ⟨rfl, rfl⟩
              have brs : ∀ (l : Nat) (x : Int), 67 ≤ l → l ≤ 71 → g' l x = g l x := fun l x l1 l2 => by rw [off l (five l l1 l2) (by omega)]
              refine ⟨c1, j_ls_c (g := g) (fun x _ _ => code x) (fun l x l1 l2 _ _ => brs l x l1 l2) (fun k k0 k4 => ⟨by rw [off 65 (by decide) (by decide)], by rw [hw _ (by omega), if_neg (by omega)]⟩) c2, c3, c4, c5, c6, c7, ?_, fun x a b => j_br_c (g := g) (fun x _ _ => code x) (fun l l1 l2 => brs l x l1 l2) (c9 x a b), fun z => j_gd_c (g := g) (fun x _ _ => code x) (c10 z), fun z => j_gd_c (g := g) (fun x _ _ => code x) (c11 z), fun k k0 k4 => ?_⟩
              · intro k x k0 k4 a b
                rw [off 65 (by decide) (by decide)] at a
                rw [hw _ (by omega)] at b
                have hbr : 130 * y_ev σ sd ≤ x ∧ x < y_ev σ Bb ∧ j_br g (420 * y_ev σ sd) (y_ev σ C) x := by
                  by_cases e : 4 * y_ev σ sd + k = y_ev σ sl.2.2
                  · rw [if_pos e] at b
                    rw [e, ← w2] at a
                    exact ⟨by omega, by omega, c9 x (by omega) (by omega)⟩
                  · rw [if_neg e] at b
                    exact c8 k x k0 k4 a b
                exact ⟨hbr.1, hbr.2.1, j_br_c (g := g) (fun x _ _ => code x) (fun l l1 l2 => brs l x l1 l2) hbr.2.2⟩
              · rw [hw _ (by omega)]
                by_cases e : 4 * y_ev σ sd + k = y_ev σ sl.2.2
                · rw [if_pos e]
                  omega
                · rw [if_neg e]
                  exact c12 k k0 k4
            · cases hx3
        -- PQ
        · next m =>
          simp only [r_dk, List.mem_cons, List.not_mem_nil, or_false] at hlb
          subst hlb
          have he : y_ev σ sl.2.2 ≤ 5 ∨ 12 ≤ y_ev σ sl.2.2 := by
            rw [Bool.or_eq_true] at hx
            rcases hx with hx | hx
            · have := q.has ((y_E.of ie).neg.inc 5) hx
              exact Or.inl (by omega)
            · have := q.has ((y_E.of ie).inc (-12)) hx
              exact Or.inr (by omega)
          show y_ev σ m ≤ j_ct g' 78 6
          rw [j_ct_c (g := g) (fun x a b => by rw [hw x (by omega), if_neg (by omega)])]
          exact h0
        -- PN
        · next m y =>
          simp only [r_dk, List.mem_cons, List.not_mem_nil, or_false] at hlb
          subst hlb
          have iy := tin y (by simp)
          have he : y_ev σ sl.2.2 ≤ 5 ∨ 12 ≤ y_ev σ sl.2.2 ∨ y_ev σ sl.2.2 = 6 + y_ev σ y := by
            rw [Bool.or_eq_true, Bool.or_eq_true] at hx
            rcases hx with (hx | hx) | hx
            · have := q.has ((y_E.of ie).neg.inc 5) hx
              exact Or.inl (by omega)
            · have := q.has ((y_E.of ie).inc (-12)) hx
              exact Or.inr (Or.inl (by omega))
            · have := y_sm q ie (y_in_inc (k := 6) iy) hx
              rw [y_ev_inc] at this
              exact Or.inr (Or.inr (by omega))
          show y_ev σ m ≤ j_cn g' (y_ev σ y)
          rw [j_cn_c (g := g) (fun x a b c => by rw [hw x (by omega), if_neg (by omega)])]
          exact h0
        -- SH
        · next k =>
          simp only [r_dk, List.mem_cons, List.not_mem_nil, or_false] at hlb
          subst hlb
          have ik := tin k (by simp)
          have := y_sm q ie ik hx
          exact j_sh_c (g := g) (fun x a => by
            by_cases e : x = y_ev σ k
            · exact Or.inr e
            · exact Or.inl (by rw [hw x a, if_neg (by omega)])) h0
        -- OR
        · next m a1 a2 =>
          simp only [r_dk, List.mem_cons, List.not_mem_nil, or_false] at hlb
          subst hlb
          have := y_sub0 q ie (tin m (by simp)) hx
          exact j_or_c (g := g) (fun x a b => by rw [hw x a, if_neg (by omega)]) h0
        -- NI
        · next a1 i =>
          simp only [r_dk, List.mem_cons, List.not_mem_nil, or_false] at hlb
          subst hlb
          have := y_sub0 q ie (tin i (by simp)) hx
          exact j_ni_c (g := g) (fun x a b => by rw [hw x a, if_neg (by omega)]) h0
        -- rows
        all_goals first
          | cases hx; done
          | (rename_i u
             simp only [r_dk, List.mem_cons, List.not_mem_nil, or_false] at hlb
             subst hlb
             have iu := tin u (by simp)
             have hi : (33 * y_ev σ u ≤ y_ev σ sl.2.2 ∧ y_ev σ sl.2.2 ≤ 33 * y_ev σ u + 32) ∨ j_sf (y_ev σ sl.2.2) := by
               rw [Bool.or_eq_true] at hx
               rcases hx with hx | hx
               · have := r_bt_ok q ie (y_in_scl (k := 33) iu) (y_in_inc (k := 32) (y_in_scl (k := 33) iu)) hx
                 rw [y_ev_inc, y_ev_scl] at this
                 exact Or.inl this
               · exact Or.inr (r_safe_ok q ie hx)
             exact j_px_w hw hi h0)
      · cases hx
  · cases hx
end ZJ3
