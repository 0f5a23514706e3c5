/-! ===== the rules are right: branches of laws, laws ===== -/
section ZJ6
variable {W : Bool} {σ : Nat → Int} {ρ : Nat → Option Nat} {S S1 : zS} {h : mH} {ls : mL} {st : List mV} {X : List Int32} {g : Nat → Int → Int}
theorem j_gd_rp {lo C f c : Int} (h0 : 0 ≤ lo) (h1 : C ≤ 840) (q : j_gd g lo C f c) : j_rp g f 1 c := ⟨by have := q.1; omega, q.2.1, by have := q.2.2.1; omega, q.2.2.2.2⟩
theorem j_9b (q : y_S (mGw W) (mJS X) S σ ρ ls st h) (hH : y_H (mGw W) mLT h) {rh rf rm rt re : Nat} {x : zL} {lo C : Int} (jx : y_in S.1.length x) (hrh : S.2.1[rh]? = some (67, false)) (hrf : S.2.1[rf]? = some (68, false)) (hrm : S.2.1[rm]? = some (69, false)) (hrt : S.2.1[rt]? = some (70, false)) (hre : S.2.1[re]? = some (71, false)) (x0 : 0 ≤ y_ev σ x) (x1 : y_ev σ x ≤ 259) (l0 : 0 ≤ lo) (l1 : C ≤ 840) (hb : j_br (j_g h) lo C (y_ev σ x)) :
    ∃ T ∈ r_9b S rh rf rm rt re x, y_N (mGw W) (mJS X) S σ ρ T ls st h := by
  obtain ⟨b1, b2⟩ := hb
  have len : ∀ l, 67 ≤ l → l ≤ 71 → (j_len l : Int) = 260 := fun l a b => by rw [j_len2.1 ⟨a, b⟩]; rfl
  unfold r_9b
  obtain ⟨y0, k1, k2, k3, k4⟩ := j_asl q (es := [x, x_inc 259 (x_scl (-1) x)]) (fun e he => by
    simp only [List.mem_cons, List.not_mem_nil, or_false] at he
    rcases he with rfl | rfl
    · exact ⟨jx, x0⟩
    · exact ⟨y_in_inc (y_in_scl jx), by rw [y_ev_inc, y_ev_scl]; omega⟩)
  rw [k1]
  dsimp only
  have bt := b2
  obtain ⟨c1, c2, c3, c4, c5⟩ := bt
  obtain ⟨σ1, g1, g2, g3, g4⟩ := y_new k2 (p := (0, 840)) (z := j_g h 70 (y_ev σ x)) ⟨by dsimp only; omega, by dsimp only; omega⟩
  obtain ⟨σ2, m1, m2, m3, m4⟩ := y_new g1 (p := (0, 840)) (z := j_g h 71 (y_ev σ x)) ⟨by dsimp only; omega, by dsimp only; omega⟩
  generalize hy1 : x_new y0 (0, 840) = p1 at *
  obtain ⟨e2, y1⟩ := p1
  dsimp only at *
  generalize hy2 : x_new y1 (0, 840) = p2 at *
  obtain ⟨e3, y2⟩ := p2
  dsimp only at *
  have e2' : y_E y2.1.length σ2 e2 (j_g h 70 (y_ev σ x)) := g3.ext m2.1 m2.2.2.1
  obtain ⟨y3, n1, n2, n3, n4⟩ := j_asl m1 (es := [x_sub e3 e2, x_inc 398 (x_sub e2 e3)]) (fun e he => by
    simp only [List.mem_cons, List.not_mem_nil, or_false] at he
    rcases he with rfl | rfl
    · exact ⟨y_in_sub m3.1 e2'.1, by rw [y_ev_sub, m3.2, e2'.2]; omega⟩
    · exact ⟨y_in_inc (y_in_sub e2'.1 m3.1), by rw [y_ev_inc, y_ev_sub, m3.2, e2'.2]; omega⟩)
  rw [n1]
  dsimp only
  have M3 := (k3.trans g2).trans (m2.trans n3)
  have refs3 : y3.2.1 = S.2.1 := by
    rw [n4, show y2.2.1 = y1.2.1 from congrArg (fun z => z.1) m4, show y1.2.1 = y0.2.1 from congrArg (fun z => z.1) g4, k4]
  have ex3 : y_ev σ2 x = y_ev σ x := y_ev_ext jx M3.1
  have jx3 := y_in_le jx M3.2.2.1
  have E2 : y_E y3.1.length σ2 e2 (j_g h 70 (y_ev σ x)) := e2'.ext n3.1 n3.2.2.1
  have E3 : y_E y3.1.length σ2 e3 (j_g h 71 (y_ev σ x)) := m3.ext n3.1 n3.2.2.1
  have f1 := j_addf n2 hH (r := rt) (l := 70) (e := x) (v := e2) (by decide) (by rw [refs3]; exact hrt) jx3 E2.1 (by omega) (by rw [len 70 (by omega) (by omega)]; omega) (by rw [E2.2, ex3])
  have f2 := j_addf f1 hH (r := re) (l := 71) (e := x) (v := e3) (by decide) (by show y3.2.1[re]? = _; rw [refs3]; exact hre) jx3 E3.1 (by omega) (by rw [len 71 (by omega) (by omega)]; omega) (by rw [E3.2, ex3])
  have f3 := j_addt f2 (k := 0) (p := [e2, x_k 1, e3]) (by
    intro e he
    simp only [List.mem_cons, List.not_mem_nil, or_false] at he
    rcases he with rfl | rfl | rfl
    · exact E2.1
    · exact y_in_k 1
    · exact E3.1) (by
    show j_rp (j_g h) (y_ev σ2 e2) (y_ev σ2 (x_k 1)) (y_ev σ2 e3)
    rw [y_ev_k, E2.2, E3.2]
    exact j_gd_rp l0 l1 b2)
  generalize hy : r_addt (r_addf (r_addf y3 rt x e2) re x e3) 0 [e2, x_k 1, e3] = y at f3
  have refsy : y.2.1 = S.2.1 := by rw [← hy]; exact refs3
  have lny : y.1.length = y3.1.length := by rw [← hy]; rfl
  have lnr : y.2.1.length = y3.2.1.length := by rw [← hy]; rfl
  have My : y_M S y σ σ2 ρ ρ := M3.trans (.of lny lnr)
  have jxy : y_in y.1.length x := by rw [lny]; exact jx3
  rcases b1 with b1 | ⟨b1, b3, b4⟩
  · have f4 := j_addf f3 hH (r := rh) (l := 67) (e := x) (v := x_k 0) (by decide) (by rw [refsy]; exact hrh) jxy (y_in_k 0) (by omega) (by rw [len 67 (by omega) (by omega)]; omega) (by rw [y_ev_k, ex3]; exact b1.symm)
    exact ⟨_, List.mem_cons_self, σ2, ρ, f4, My⟩
  · have b3' := b3
    have b4' := b4
    obtain ⟨d1, d2, d3, d4, d5⟩ := b3'
    obtain ⟨d6, d7, d8, d9, d10⟩ := b4'
    obtain ⟨σ3, o1, o2, o3, o4⟩ := y_new f3 (p := (0, 840)) (z := j_g h 68 (y_ev σ x)) ⟨by dsimp only; omega, by dsimp only; omega⟩
    obtain ⟨σ4, s1, s2, s3, s4⟩ := y_new o1 (p := (0, 840)) (z := j_g h 69 (y_ev σ x)) ⟨by dsimp only; omega, by dsimp only; omega⟩
    generalize hz1 : x_new y (0, 840) = p1 at *
    obtain ⟨e0, z1⟩ := p1
    dsimp only at *
    generalize hz2 : x_new z1 (0, 840) = p2 at *
    obtain ⟨e1, z2⟩ := p2
    dsimp only at *
    have E0' : y_E z2.1.length σ4 e0 (j_g h 68 (y_ev σ x)) := o3.ext s2.1 s2.2.2.1
    have E2y : y_E z2.1.length σ4 e2 (j_g h 70 (y_ev σ x)) := ((show y_E y.1.length σ2 e2 _ by rw [lny]; exact E2).ext o2.1 o2.2.2.1).ext s2.1 s2.2.2.1
    obtain ⟨z, t1, t2, t3, t4⟩ := j_asl s1 (es := [x_sub e1 e0, x_inc 398 (x_sub e0 e1), x_sub e2 e1, x_inc 398 (x_sub e1 e2)]) (fun e he => by
      simp only [List.mem_cons, List.not_mem_nil, or_false] at he
      rcases he with rfl | rfl | rfl | rfl
      · exact ⟨y_in_sub s3.1 E0'.1, by rw [y_ev_sub, s3.2, E0'.2]; omega⟩
      · exact ⟨y_in_inc (y_in_sub E0'.1 s3.1), by rw [y_ev_inc, y_ev_sub, s3.2, E0'.2]; omega⟩
      · exact ⟨y_in_sub E2y.1 s3.1, by rw [y_ev_sub, s3.2, E2y.2]; omega⟩
      · exact ⟨y_in_inc (y_in_sub s3.1 E2y.1), by rw [y_ev_inc, y_ev_sub, s3.2, E2y.2]; omega⟩)
    have Mz : y_M S z σ σ4 ρ ρ := My.trans (o2.trans (s2.trans t3))
    have refsz : z.2.1 = S.2.1 := by
      rw [t4, show z2.2.1 = z1.2.1 from congrArg (fun z => z.1) s4, show z1.2.1 = y.2.1 from congrArg (fun z => z.1) o4, refsy]
    have ex4 : y_ev σ4 x = y_ev σ x := y_ev_ext jx Mz.1
    have jxz := y_in_le jx Mz.2.2.1
    have E0 := E0'.ext t3.1 t3.2.2.1
    have E1 := s3.ext t3.1 t3.2.2.1
    have E2z := E2y.ext t3.1 t3.2.2.1
    have f5 := j_addf t2 hH (r := rf) (l := 68) (e := x) (v := e0) (by decide) (by rw [refsz]; exact hrf) jxz E0.1 (by omega) (by rw [len 68 (by omega) (by omega)]; omega) (by rw [E0.2, ex4])
    have f6 := j_addf f5 hH (r := rm) (l := 69) (e := x) (v := e1) (by decide) (by show z.2.1[rm]? = _; rw [refsz]; exact hrm) jxz E1.1 (by omega) (by rw [len 69 (by omega) (by omega)]; omega) (by rw [E1.2, ex4])
    have f7 := j_addf f6 hH (r := rh) (l := 67) (e := x) (v := x_k 1) (by decide) (by show z.2.1[rh]? = _; rw [refsz]; exact hrh) jxz (y_in_k 1) (by omega) (by rw [len 67 (by omega) (by omega)]; omega) (by rw [y_ev_k, ex4]; exact b1.symm)
    have f8 := j_addt f7 (k := 0) (p := [e0, x_k 1, e1]) (by
      intro e he
      simp only [List.mem_cons, List.not_mem_nil, or_false] at he
      rcases he with rfl | rfl | rfl
      · exact E0.1
      · exact y_in_k 1
      · exact E1.1) (by
      show j_rp (j_g h) (y_ev σ4 e0) (y_ev σ4 (x_k 1)) (y_ev σ4 e1)
      rw [y_ev_k, E0.2, E1.2]
      exact j_gd_rp l0 l1 b3)
    have f9 := j_addt f8 (k := 0) (p := [e1, x_k 1, e2]) (by
      intro e he
      simp only [List.mem_cons, List.not_mem_nil, or_false] at he
      rcases he with rfl | rfl | rfl
      · exact E1.1
      · exact y_in_k 1
      · exact E2z.1) (by
      show j_rp (j_g h) (y_ev σ4 e1) (y_ev σ4 (x_k 1)) (y_ev σ4 e2)
      rw [y_ev_k, E1.2, E2z.2]
      exact j_gd_rp l0 l1 b4)
    exact ⟨_, List.mem_cons_of_mem _ (j_opt t1), σ4, ρ, f9, Mz⟩
theorem j_9 {a : Nat} : j_ok W X (fun S => r_9 S a) := by
  intro S σ ρ ls st h q hH
  dsimp only
  unfold r_9
  split
  · next x at_ rh rf rm rt re hx hat h1 h2 h3 h4 h5 =>
    have jx := j_lo q hx
    have jat := j_lo q hat
    split
    · next p u z ht hu hz =>
      obtain ⟨a1, a2, a3⟩ := j_tag q ht
      have jp := a1 p (by simp)
      dsimp only at a3
      have e1 := r_bt_ok q jat (y_in_scl jp) (y_in_inc (y_in_scl jp)) a3
      rw [y_ev_inc, y_ev_scl] at e1
      obtain ⟨u1, u2, u3⟩ := j_fi q hH (by decide) jat hu
      obtain ⟨z1, z2, z3⟩ := j_fi q hH (by decide) jat hz
      split
      · next hc =>
        rw [Bool.and_eq_true] at hc
        have e2 := y_sub0 q jx u1 hc.1
        have e3 := q.has (((y_E.of z1).sub (y_E.of jx)).inc (-1)) hc.2
        have hls : (y_ev σ p = 0 ∨ y_ev σ p = 1) ∧ j_ls (j_g h) (y_ev σ p) (130 * y_ev σ p + 130) (420 * y_ev σ p + 420) := a2
        obtain ⟨l1, l2, l3⟩ := hls.2 (y_ev σ at_ - 4 * y_ev σ p) (y_ev σ x) (by omega) (by omega) (by rw [show 4 * y_ev σ p + (y_ev σ at_ - 4 * y_ev σ p) = y_ev σ at_ by omega]; omega) (by rw [show 4 * y_ev σ p + (y_ev σ at_ - 4 * y_ev σ p) = y_ev σ at_ by omega]; omega)
        have hp := hls.1
        exact j_9b q hH jx (j_rf h1) (j_rf h2) (j_rf h3) (j_rf h4) (j_rf h5) (by omega) (by omega) (by omega) (by omega) l3
      · exact j_no q
    · exact j_no q
  · exact j_no q
theorem r_10c_ok (q : y_S (mGw W) (mJS X) S σ ρ ls st h) (hH : y_H (mGw W) mLT h) {sd : zL} {j : Int} (js : y_in S.1.length sd) (hx : r_10c S sd j = true) : j_g h 65 (4 * y_ev σ sd + j) = 0 ∧ j_g h 66 (4 * y_ev σ sd + j) = 0 := by
  unfold r_10c at hx
  split at hx
  · next u z hu hz =>
    rw [Bool.and_eq_true] at hx
    have je : y_in S.1.length (x_inc j (x_scl 4 sd)) := y_in_inc (y_in_scl js)
    obtain ⟨u1, u2, -⟩ := j_fi q hH (by decide) je hu
    obtain ⟨z1, z2, -⟩ := j_fi q hH (by decide) je hz
    rw [r_is_ok q u1 hx.1, y_ev_inc, y_ev_scl] at u2
    rw [r_is_ok q z1 hx.2, y_ev_inc, y_ev_scl] at z2
    exact ⟨u2.symm, z2.symm⟩
  · cases hx
theorem j_10 : j_ok W X r_10 := by
  intro S σ ρ ls st h q hH
  unfold r_10
  split
  · next p hx =>
    obtain ⟨a1, a2, -⟩ := j_tag q hx
    have jp := a1 p (by simp)
    have js : y_in S.1.length (x_sub (x_k 1) p) := y_in_sub (y_in_k 1) jp
    have es : y_ev σ (x_sub (x_k 1) p) = 1 - y_ev σ p := by rw [y_ev_sub, y_ev_k]
    have hls : (y_ev σ p = 0 ∨ y_ev σ p = 1) ∧ j_ls (j_g h) (y_ev σ p) (130 * y_ev σ p + 130) (420 * y_ev σ p + 420) := a2
    generalize x_sub (x_k 1) p = sd at *
    dsimp only
    split
    · next hc =>
      simp only [Bool.and_eq_true] at hc
      obtain ⟨⟨⟨c0, c1⟩, c2⟩, c3⟩ := hc
      have d0 := r_10c_ok q hH js c0
      have d1 := r_10c_ok q hH js c1
      have d2 := r_10c_ok q hH js c2
      have d3 := r_10c_ok q hH js c3
      have dk : ∀ k : Int, 0 ≤ k → k < 4 → j_g h 65 (4 * y_ev σ sd + k) = 0 ∧ j_g h 66 (4 * y_ev σ sd + k) = 0 := by
        intro k k0 k4
        have : k = 0 ∨ k = 1 ∨ k = 2 ∨ k = 3 := by omega
        rcases this with rfl | rfl | rfl | rfl
        · exact d0
        · exact d1
        · exact d2
        · exact d3
      refine j_one (j_addt q (by
        intro e he
        simp only [List.mem_cons, List.not_mem_nil, or_false] at he
        rcases he with rfl | rfl | rfl | rfl | rfl | rfl | rfl
        · exact js
        · exact y_in_scl js
        · exact y_in_scl js
        · exact y_in_scl js
        all_goals exact y_in_k 0) ?_) rfl rfl
      show j_cx (j_g h) (y_ev σ sd) (y_ev σ (x_scl 130 sd)) (y_ev σ (x_scl 130 sd)) (y_ev σ (x_scl 420 sd)) (y_ev σ (x_k 0)) (y_ev σ (x_k 0)) (y_ev σ (x_k 0))
      rw [y_ev_scl, y_ev_scl, y_ev_k]
      have e1 : 1 - y_ev σ sd = y_ev σ p := by omega
      have hp := hls.1
      refine ⟨by omega, by rw [e1]; exact hls.2, by omega, by omega, by omega, by omega, by omega, fun k x k0 k4 x0 x1 => ?_, fun x x0 x1 => by omega, fun h => by omega, fun h => by omega, fun k k0 k4 => ?_⟩
      · obtain ⟨f1, f2⟩ := dk k k0 k4
        omega
      · have := dk k k0 k4
        omega
    · exact j_no q
  · exact j_no q
theorem r_gt_ok (q : y_S (mGw W) (mJS X) S σ ρ ls st h) {sd C f c : zL} (js : y_in S.1.length sd) (jC : y_in S.1.length C) (hx : r_gt S sd C = some (f, c)) : y_in S.1.length f ∧ y_in S.1.length c ∧ y_ev σ f = y_ev σ C ∧ y_ev σ f ≤ y_ev σ c ∧ y_ev σ c - y_ev σ f ≤ 398 ∧ y_ev σ c ≤ 420 * y_ev σ sd + 420 ∧ j_rp (j_g h) (y_ev σ f) 1 (y_ev σ c) := by
  unfold r_gt at hx
  split at hx
  · next f' d c' ht =>
    cases hx
    obtain ⟨a1, a2, a3⟩ := j_tag q ht
    have jf := a1 f (by simp)
    have jd := a1 d (by simp)
    have jc := a1 c (by simp)
    dsimp only at a3
    unfold r_good at a3
    simp only [Bool.and_eq_true] at a3
    obtain ⟨⟨⟨c1, c2⟩, c3, c4⟩, c5⟩ := a3
    have e1 := r_is_ok q jd c1
    have e2 := y_sm q jf jC c2
    have e3 := y_sub0 q jc jf c3
    have e4 := q.has (((y_E.of jf).sub (y_E.of jc)).inc 398) c4
    have e5 := q.has (((y_E.scl 420 (y_E.of js)).sub (y_E.of jc)).inc 420) c5
    have b : j_rp (j_g h) (y_ev σ f) (y_ev σ d) (y_ev σ c) := a2
    rw [e1] at b
    exact ⟨jf, jc, e2, e3, by omega, by omega, b⟩
  · cases hx
theorem j_cx_up {s F B C q x0 x1 C' q' y0 y1 : Int} (p : j_cx g s F B C q x0 x1) (h1 : C ≤ C') (h2 : C' ≤ 420 * s + 420) (h3 : 1 ≤ q' → j_gd g (420 * s) C' y0 y1) (h4 : 2 ≤ q' → j_gd g (420 * s) C' y1 C') : j_cx g s F B C' q' y0 y1 := by
  obtain ⟨a, b, c, d, e, f, k, m, n, o1, o2, o3⟩ := p
  exact ⟨a, b, c, d, e, by omega, h2, j_ls_m (Int.le_refl _) h1 m, fun x a b => j_br_m h1 (n x a b), h3, h4, o3⟩
theorem j_cx0 {k : Nat} : j_ok W X (fun S => r_cx S k) := by
  intro S σ ρ ls st h q hH
  dsimp only
  unfold r_cx
  split
  · next sd F Bb C qq x0 x1 hx =>
    obtain ⟨a1, a2, -⟩ := j_tag q hx
    have js := a1 sd (by simp)
    have jF := a1 F (by simp)
    have jB := a1 Bb (by simp)
    have jC := a1 C (by simp)
    have jq := a1 qq (by simp)
    have j0 := a1 x0 (by simp)
    have j1 := a1 x1 (by simp)
    have p : j_cx (j_g h) (y_ev σ sd) (y_ev σ F) (y_ev σ Bb) (y_ev σ C) (y_ev σ qq) (y_ev σ x0) (y_ev σ x1) := a2
    have hs := p.1
    have seven : ∀ {b0 b1 b2 b3 b4 b5 b6 : zL}, y_in S.1.length b0 → y_in S.1.length b1 → y_in S.1.length b2 → y_in S.1.length b3 → y_in S.1.length b4 → y_in S.1.length b5 → y_in S.1.length b6 → j_cx (j_g h) (y_ev σ b0) (y_ev σ b1) (y_ev σ b2) (y_ev σ b3) (y_ev σ b4) (y_ev σ b5) (y_ev σ b6) →
        ∃ T ∈ [r_addt S 3 [b0, b1, b2, b3, b4, b5, b6]], y_N (mGw W) (mJS X) S σ ρ T ls st h := by
      intro b0 b1 b2 b3 b4 b5 b6 i0 i1 i2 i3 i4 i5 i6 hj
      refine j_one (j_addt q (by
        intro e he
        simp only [List.mem_cons, List.not_mem_nil, or_false] at he
        rcases he with rfl | rfl | rfl | rfl | rfl | rfl | rfl <;> assumption) hj) rfl rfl
    split
    · refine seven js jB jB jC (y_in_k 0) (y_in_k 0) (y_in_k 0) ?_
      rw [y_ev_k]
      obtain ⟨a, b, c, d, e, f, k, m, n, o1, o2, o3⟩ := p
      exact ⟨a, b, by omega, Int.le_refl _, e, f, k, m, fun x a b => by omega, fun z => by omega, fun z => by omega, o3⟩
    · refine j_one (j_addt q (by
        intro e he
        simp only [List.mem_cons, List.not_mem_nil, or_false] at he
        subst he
        exact js) ?_) rfl rfl
      obtain ⟨a, b, c, d, e, f, k, m, n, o1, o2, o3⟩ := p
      exact ⟨a, j_ls_m e k m⟩
    · refine j_one (j_addt q (by
        intro e he
        simp only [List.mem_cons, List.not_mem_nil, or_false] at he
        subst he
        exact y_in_sub (y_in_k 1) js) ?_) rfl rfl
      show (y_ev σ (x_sub (x_k 1) sd) = 0 ∨ y_ev σ (x_sub (x_k 1) sd) = 1) ∧ j_ls (j_g h) (y_ev σ (x_sub (x_k 1) sd)) (130 * y_ev σ (x_sub (x_k 1) sd) + 130) (420 * y_ev σ (x_sub (x_k 1) sd) + 420)
      rw [y_ev_sub, y_ev_k]
      exact ⟨by omega, p.2.1⟩
    · split
      · next hc =>
        have je : y_in S.1.length (x_inc 120 (x_sub (x_scl 130 sd) Bb)) := y_in_inc (y_in_sub (y_in_scl js) jB)
        have e4 := y_has0 q (y_in_scl (k := 4) je) hc
        rw [y_ev_scl] at e4
        obtain ⟨S1, k1, k2, k3, -⟩ := j_asl q (es := [x_inc 120 (x_sub (x_scl 130 sd) Bb)]) (fun e he => by
          simp only [List.mem_cons, List.not_mem_nil, or_false] at he
          subst he
          exact ⟨je, by omega⟩)
        exact ⟨S1, j_opt (f := id) k1, .of k2 k3⟩
      · exact j_no q
    · split
      · next f c hg =>
        obtain ⟨jf, jc, e1, e2, e3, e4, e5⟩ := r_gt_ok q js jC hg
        have pC := p.2.2.2.2.2.1
        refine seven js jF jB jc (y_in_k 1) jf jc ?_
        rw [y_ev_k]
        exact j_cx_up p (by omega) e4 (fun _ => ⟨by omega, e2, Int.le_refl _, e3, e5.2.2.2⟩) (fun z => by omega)
      · exact j_no q
    · split
      · next f c hg hc =>
        rw [Bool.and_eq_true] at hc
        obtain ⟨jf, jc, e1, e2, e3, e4, e5⟩ := r_gt_ok q js jC hg
        have pC := p.2.2.2.2.2.1
        have eq1 := r_is_ok q jq hc.1
        have ex1 := y_sm q j1 jC hc.2
        refine seven js jF jB jc (y_in_k 2) j0 j1 ?_
        rw [y_ev_k]
        have hp0 := p.2.2.2.2.2.2.2.2.2.1 (by omega)
        refine j_cx_up p (by omega) e4 (fun _ => j_gd_m (Int.le_refl _) (by omega) hp0) (fun _ => ?_)
        rw [ex1, ← e1]
        exact ⟨by omega, e2, Int.le_refl _, e3, e5.2.2.2⟩
      · exact j_no q
    · split
      · next f c hg =>
        obtain ⟨jf, jc, e1, e2, e3, e4, e5⟩ := r_gt_ok q js jC hg
        have pC := p.2.2.2.2.2.1
        split
        · next hb =>
          refine seven js jF (y_in_inc jB) jc (y_in_k 0) (y_in_k 0) (y_in_k 0) ?_
          rw [y_ev_k, y_ev_inc]
          unfold r_13b at hb
          split at hb
          · next t tt te ht htt hte =>
            simp only [Bool.and_eq_true] at hb
            obtain ⟨⟨⟨c1, c2⟩, c3⟩, c4⟩ := hb
            obtain ⟨t1, t2, -⟩ := j_fi q hH (by decide) jB ht
            obtain ⟨u1, u2, -⟩ := j_fi q hH (by decide) jB htt
            obtain ⟨v1, v2, -⟩ := j_fi q hH (by decide) jB hte
            have d1 := y_sm q u1 jC c1
            have d2 := y_sm q v1 jc c2
            have d3 := q.has (((y_E.scl 130 (y_E.of js)).sub (y_E.of jB)).inc 129) c3
            have up := j_cx_up (q' := 0) (y0 := 0) (y1 := 0) p (C' := y_ev σ c) (by omega) e4 (fun z => by omega) (fun z => by omega)
            have last : j_gd (j_g h) (420 * y_ev σ sd) (y_ev σ c) (j_g h 70 (y_ev σ Bb)) (j_g h 71 (y_ev σ Bb)) := by
              rw [← u2, ← v2, d1, d2, ← e1]
              exact ⟨by omega, e2, Int.le_refl _, e3, e5.2.2.2⟩
            have whole : j_br (j_g h) (420 * y_ev σ sd) (y_ev σ c) (y_ev σ Bb) := by
              refine ⟨?_, last⟩
              split at c4
              · next hc1 =>
                have w1 := r_is_ok q t1 hc1
                split at c4
                · next tf tm htf htm =>
                  simp only [Bool.and_eq_true] at c4
                  obtain ⟨⟨c5, c6⟩, c7⟩ := c4
                  obtain ⟨w2, w3, -⟩ := j_fi q hH (by decide) jB htf
                  obtain ⟨w4, w5, -⟩ := j_fi q hH (by decide) jB htm
                  have w6 := r_is_ok q jq c5
                  have w7 := y_sm q w2 j0 c6
                  have w8 := y_sm q w4 j1 c7
                  refine Or.inr ⟨by rw [← t2]; exact w1, ?_, ?_⟩
                  · rw [← w3, ← w5, w7, w8]
                    exact j_gd_m (Int.le_refl _) (by omega) (p.2.2.2.2.2.2.2.2.2.1 (by omega))
                  · rw [← w5, ← u2, w8, d1]
                    exact j_gd_m (Int.le_refl _) (by omega) (p.2.2.2.2.2.2.2.2.2.2.1 (by omega))
                · cases c4
              · exact Or.inl (by rw [← t2]; exact r_is_ok q t1 c4)
            obtain ⟨a, b, c', d, e, f', k, m, n, o1, o2, o3⟩ := up
            refine ⟨a, b, c', by omega, by omega, f', k, j_ls_m (by omega) (Int.le_refl _) m, fun x x0 x1 => ?_, fun z => by omega, fun z => by omega, fun k k0 k4 => by have := o3 k k0 k4; omega⟩
            by_cases e : x = y_ev σ Bb
            · subst e; exact whole
            · exact n x x0 (by omega)
          · cases hb
        · exact j_no q
      · exact j_no q
  · exact j_no q
end ZJ6
