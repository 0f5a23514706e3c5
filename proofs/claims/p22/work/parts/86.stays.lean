noncomputable section
/-! ===== the sentences: which stay ===== -/
def j_U : List Nat := [65, 66, 67, 68, 69, 70, 71, 72, 73, 74, 77, 78, 81, 87, 95]
def j_un (l : Nat) : List Nat → Nat → Bool
  | [], _ => true
  | g :: t, n => (!(Nat.beq g l) || Nat.beq n (l + 274)) && j_un l t (n + 1)
theorem j_un_ok {l : Nat} : ∀ {L : List Nat} {n a : Nat}, j_un l L n = true → L[a]? = some l → n + a = l + 274
  | [], _, _, _, h => by simp at h
  | g :: t, n, a, q, h => by
    unfold j_un at q
    simp only [Bool.and_eq_true, Bool.or_eq_true, Bool.not_eq_true'] at q
    cases a with
    | zero =>
      simp only [List.getElem?_cons_zero, Option.some.injEq] at h
      subst h
      rcases q.1 with e | e
      · rw [show Nat.beq g g = true from Nat.beq_refl g] at e; cases e
      · exact Nat.eq_of_beq_eq_true e
    | succ a =>
      have := j_un_ok q.2 (by simpa using h)
      omega
def j_len (l : Nat) : Nat := match mLT[l]? with
  | some (_, _, n, _) => n
  | none => 0
set_option maxRecDepth 100000 in
theorem j_U1 : j_U.all (fun l => match mLT[l]? with | some (1, _, _, _) => true | _ => false) = true := by decide +kernel
set_option maxRecDepth 100000 in
theorem j_U2 (W : Bool) : j_U.all (fun l => j_un l (mGw W) 0 && decide ((mGw W)[l + 274]? = some l)) = true := by cases W <;> decide +kernel
section ZJ2
variable {W : Bool} {J : Nat → List Int → mH → Prop} {σ : Nat → Int} {ρ : Nat → Option Nat} {S : zS} {h h' : mH} {ls : mL} {st : List mV} {X : List Int32}
theorem j_adr {a l : Nat} (hl : l ∈ j_U) (q : (mGw W)[a]? = some l) : a = l + 274 := by
  have := List.all_eq_true.mp (j_U2 W) l hl
  rw [Bool.and_eq_true] at this
  have := j_un_ok this.1 q
  omega
theorem j_at {l : Nat} (hl : l ∈ j_U) : (mGw W)[l + 274]? = some l := by
  have := List.all_eq_true.mp (j_U2 W) l hl
  rw [Bool.and_eq_true] at this
  exact of_decide_eq_true this.2
theorem j_arr (hH : y_H (mGw W) mLT h) {l : Nat} (hl : l ∈ j_U) : ∃ t xs, h[l + 274]? = some (.inr (t, .inl xs)) ∧ xs.length = j_len l := by
  have h1 := j_at (W := W) hl
  have hlt : l + 274 < h.length := by rw [hH.1]; exact (List.getElem?_eq_some_iff.mp h1).1
  have h2 := List.all_eq_true.mp j_U1 l hl
  unfold j_len
  cases hb : mLT[l]? with
  | none => rw [hb] at h2; cases h2
  | some lab =>
    rw [hb] at h2
    obtain ⟨k, t, n, ts⟩ := lab
    have hc := hH.2 _ _ _ _ h1 hb (List.getElem?_eq_getElem hlt)
    split at h2
    · next e =>
      cases e
      obtain ⟨xs, e1, e2, -⟩ := hc
      exact ⟨t, xs, by rw [List.getElem?_eq_getElem hlt, e1], e2⟩
    · cases h2
theorem j_g_eq {l t : Nat} {xs : List Int32} (e : h[l + 274]? = some (.inr (t, .inl xs))) (i : Int) : j_g h l i = (xs.getD i.toNat 0).toInt := by
  unfold j_g
  rw [e]
theorem j_ref (q : y_S (mGw W) J S σ ρ ls st h) {r l : Nat} (hl : l ∈ j_U) (hr : S.2.1[r]? = some (l, false)) : ρ r = some (l + 274) := by
  have := q.2.1 r _ hr
  cases hρ : ρ r with
  | none => rw [hρ] at this; cases this
  | some a =>
    rw [hρ] at this
    rw [j_adr hl this]
/-- what an array is known to hold, it holds -/
theorem j_fi (q : y_S (mGw W) J S σ ρ ls st h) (hH : y_H (mGw W) mLT h) {l : Nat} {e v : zL} (hl : l ∈ j_U) (he : y_in S.1.length e) (hx : r_fi S l e = some v) : y_in S.1.length v ∧ y_ev σ v = j_g h l (y_ev σ e) ∧ 0 ≤ y_ev σ e := by
  unfold r_fi at hx
  have key : ∀ fs : List zFa, (∀ f ∈ fs, y_F S.1.length S.2.1.length σ ρ h f) → r_int S l e fs = some v → y_in S.1.length v ∧ y_ev σ v = j_g h l (y_ev σ e) ∧ 0 ≤ y_ev σ e := by
    intro fs
    induction fs with
    | nil => intro _ hx; cases hx
    | cons f t ih =>
      intro hf hx
      have ih' := ih (fun f hf' => hf f (List.mem_cons_of_mem _ hf'))
      unfold r_int at hx
      split at hx
      · next l' hr hb hk =>
        split at hx
        · next hc =>
          cases hx
          rw [Bool.and_eq_true] at hc
          have el : l' = l := Nat.eq_of_beq_eq_true hc.1
          subst el
          obtain ⟨f1, f2, f3⟩ := hf f List.mem_cons_self
          have f4 := f3 _ (j_ref q hl hr)
          rw [hb] at f4
          obtain ⟨t', xs, hc', -⟩ := j_arr hH hl
          obtain ⟨i, g1, g2⟩ := f4.2.1 _ _ hc'
          unfold y_V at g2
          rw [hk] at g2
          obtain ⟨i', e1, e2, e3⟩ := g2
          cases e1
          have es : y_ev σ f.2.1.2.2 = y_ev σ e := y_same q (y_E.of f2) (y_E.of he) hc.2
          rw [es] at g1 f4
          refine ⟨e2, ?_, f4.1⟩
          rw [j_g_eq hc', List.getD_eq_getElem?_getD, g1]
          exact e3
        · exact ih' hx
      · exact ih' hx
  exact key _ q.2.2.2.2.2.1 hx
theorem j_fr {cl : List zKey} (hH : y_H (mGw W) mLT h) (hF : y_Fr (mGw W) cl h h') {l : Nat} (hl : l ∈ j_U) (hk : x_kin cl (l, true, 0) = false) : j_g h' l = j_g h l := by
  obtain ⟨t, xs, hc, -⟩ := j_arr hH hl
  obtain ⟨c', h1, -, h2⟩ := hF.2 _ _ _ (j_at hl) hc
  funext i
  rw [j_g_eq hc, j_g_eq (h2 hk ▸ h1)]
theorem r_dk_U {k l : Nat} (hl : l ∈ r_dk k) : l ∈ j_U := by
  unfold r_dk at hl
  split at hl <;> (simp only [List.mem_cons, List.not_mem_nil, or_false] at hl) <;> first | (rcases hl with rfl | rfl | rfl | rfl | rfl | rfl | rfl | rfl | rfl <;> decide) | (rcases hl with rfl | rfl <;> decide) | (subst hl; decide) | (exact absurd hl id)
theorem r_dep_dk {t : zTg} {d : List Nat} (hd : r_dep t = some d) : d = r_dk t.1 := by
  unfold r_dep at hd
  unfold r_dk
  split at hd <;> cases hd <;> rename_i e <;> first | (rw [e]; done) | skip
  all_goals (split <;> first | rfl | (rename_i e2; simp_all))
theorem mTC_ok : y_TC0 (mGw W) mLT (mJS X) mTC := by
  intro t cl h h' zs hx hH hH' hF q
  unfold mTC at hx
  split at hx
  · next d hd =>
    have ed := r_dep_dk hd
    subst ed
    refine j_P_dep (g := j_g h) (fun l hl => ?_) q
    have := List.all_eq_true.mp hx l hl
    exact j_fr hH hF (r_dk_U hl) (by simpa using this)
  · cases hx
/-- a slot written elsewhere -/
theorem j_off (q : y_S (mGw W) J S σ ρ ls st h) (hH : y_H (mGw W) mLT h) {r lb l : Nat} {sl : zSlot} {v : zV} (hl : l ∈ j_U) (hr : S.2.1[r]? = some (lb, false)) (w : y_W S.1.length S.2.1.length σ ρ r sl v h h') (ho : sl.1 = false ∨ lb ≠ l) : j_g h' l = j_g h l := by
  obtain ⟨a, c, c', h1, h2, rfl, h3⟩ := w
  obtain ⟨t, xs, hc, -⟩ := j_arr hH hl
  have hne : a ≠ l + 274 := by
    rintro rfl
    rcases ho with ho | ho
    · rw [ho] at h3
      obtain ⟨ci, fs, x, rfl, -⟩ := h3
      rw [hc] at h2
      cases h2
    · have := q.2.1 r _ hr
      rw [h1] at this
      dsimp only at this
      rw [j_at hl] at this
      cases this
      exact ho rfl
  funext i
  rw [j_g_eq hc, j_g_eq (xs := xs) (t := t)]
  rw [List.getElem?_set_ne hne]
  exact hc
/-- a place of an array written -/
theorem j_on (q : y_S (mGw W) J S σ ρ ls st h) (hH : y_H (mGw W) mLT h) {r l : Nat} {sl : zSlot} {v : zV} (hl : l ∈ j_U) (hr : S.2.1[r]? = some (l, false)) (w : y_W S.1.length S.2.1.length σ ρ r sl v h h') (hs : sl.1 = true) (hv : v.1 = 0) :
    y_in S.1.length sl.2.2 ∧ y_in S.1.length v.2.2 ∧ 0 ≤ y_ev σ sl.2.2 ∧ ∀ i : Int, 0 ≤ i → j_g h' l i = if i = y_ev σ sl.2.2 then y_ev σ v.2.2 else j_g h l i := by
  obtain ⟨a, c, c', h1, h2, rfl, h3⟩ := w
  have ha := j_ref q hl hr
  rw [h1] at ha
  cases ha
  obtain ⟨t, xs, hc, -⟩ := j_arr hH hl
  rw [hs] at h3
  obtain ⟨z, hz, h4⟩ := h3
  have hlt : l + 274 < h.length := (List.getElem?_eq_some_iff.mp hc).1
  rcases h4 with ⟨t', xs', i', rfl, g1, rfl, g2⟩ | ⟨xs', j, rfl, -⟩
  · rw [hc] at h2
    cases h2
    unfold y_V at g2
    rw [hv] at g2
    obtain ⟨i'', e1, e2, e3⟩ := g2
    cases e1
    have ez := hz.2
    refine ⟨hz.1, e2, by omega, fun i hi => ?_⟩
    rw [j_g_eq (List.getElem?_set_self hlt), j_g_eq hc, ez]
    by_cases e : i = (z : Int)
    · subst e
      rw [if_pos rfl, e3]
      congr 1
      show (xs.set z i').getD z 0 = i'
      rw [List.getD_eq_getElem?_getD, List.getElem?_set_self g1]
      rfl
    · rw [if_neg e, List.getD_eq_getElem?_getD, List.getD_eq_getElem?_getD, List.getElem?_set_ne (by omega)]
  · rw [hc] at h2
    cases h2
theorem y_has0 (q : y_S (mGw W) J S σ ρ ls st h) {e : zL} (he : y_in S.1.length e) (hx : x_has S e = true) : 0 ≤ y_ev σ e := q.has (y_E.of he) hx
theorem y_sub0 (q : y_S (mGw W) J S σ ρ ls st h) {e f : zL} (he : y_in S.1.length e) (hf : y_in S.1.length f) (hx : x_has S (x_sub e f) = true) : y_ev σ f ≤ y_ev σ e := by
  have := q.has ((y_E.of he).sub (y_E.of hf)) hx
  omega
theorem r_bt_ok (q : y_S (mGw W) J S σ ρ ls st h) {e a b : zL} (he : y_in S.1.length e) (ha : y_in S.1.length a) (hb : y_in S.1.length b) (hx : r_bt S e a b = true) : y_ev σ a ≤ y_ev σ e ∧ y_ev σ e ≤ y_ev σ b := by
  unfold r_bt at hx
  rw [Bool.and_eq_true] at hx
  exact ⟨y_sub0 q he ha hx.1, y_sub0 q hb he hx.2⟩
theorem y_sm (q : y_S (mGw W) J S σ ρ ls st h) {e f : zL} (he : y_in S.1.length e) (hf : y_in S.1.length f) (hx : x_same S e f = true) : y_ev σ e = y_ev σ f := y_same q (y_E.of he) (y_E.of hf) hx
/-- a place that no count looks at -/
def j_sf (i : Int) : Prop := ∀ r : Int, (i < 33 * r + 6 ∨ 33 * r + 12 ≤ i) ∧ i ≠ 33 * r + 24
theorem r_safe_ok (q : y_S (mGw W) J S σ ρ ls st h) {e : zL} (he : y_in S.1.length e) (hx : r_safe S e = true) : j_sf (y_ev σ e) := by
  unfold r_safe at hx
  split at hx
  · next k hk =>
    have hm : y_ev σ e % 33 = (k : Int) := by
      unfold x_mod at hk
      split at hk
      · next ha =>
        cases hk
        have hd : ∀ l : List (Nat × Int), (∀ t ∈ l, zz (t.2 % 33) = true) → y_el σ l % 33 = 0 := by
          intro l
          induction l with
          | nil => intro _; rfl
          | cons t r ih =>
            intro hl
            have h1 := zz_iff.mp (hl t List.mem_cons_self)
            have h2 := ih (fun t ht => hl t (List.mem_cons_of_mem _ ht))
            show (t.2 * σ t.1 + y_el σ r) % 33 = 0
            rw [Int.add_emod, Int.mul_emod, h1, h2]
            simp
        have h3 := hd e.2 (List.all_eq_true.mp ha)
        unfold y_ev
        rw [Int.add_emod, h3]
        have := Int.emod_nonneg e.1 (show (33 : Int) ≠ 0 by omega)
        omega
      · cases hk
    have h1 : ¬ (6 ≤ k ∧ k ≤ 11) ∧ k ≠ 24 := by
      refine ⟨fun hh => ?_, fun hh => ?_⟩
      · have a1 : Nat.ble 6 k = true := Nat.ble_eq.mpr hh.1
        have a2 : Nat.ble k 11 = true := Nat.ble_eq.mpr hh.2
        rw [a1, a2] at hx
        cases hx
      · subst hh
        rw [show Nat.beq 24 24 = true from rfl, Bool.or_true] at hx
        cases hx
    intro r
    omega
  · simp only [Bool.and_eq_true, Bool.or_eq_true] at hx
    obtain ⟨⟨a, b⟩, c⟩ := hx
    have a1 := zge_iff.mp a
    have b1 := zz_iff.mp b
    obtain ⟨l1, l2⟩ := y_lo q.1 he
    rcases c with (c | ⟨c, d⟩) | c
    · have := zge_iff.mp c
      intro r
      omega
    · have := zge_iff.mp c
      have := zge_iff.mp d
      intro r
      omega
    · have := zge_iff.mp c
      intro r
      omega
theorem j_px_w {g g' : Nat → Int → Int} {l : Nat} {n u i v : Int} (hg : ∀ x : Int, 0 ≤ x → g' l x = if x = i then v else g l x) (hi : (33 * u ≤ i ∧ i ≤ 33 * u + 32) ∨ j_sf i) (q : j_px g l n u) : j_px g' l n u := by
  intro r r0 r1 hr
  have hh : ∀ x : Int, 0 ≤ x → x ≠ i → g' l x = g l x := fun x h0 hne => by rw [hg x h0, if_neg hne]
  rcases hi with hi | hi
  · exact j_ps_c (g := g) (fun x h1 h2 => hh x (by omega) (by omega)) (hh _ (by omega) (by omega)) (q r r0 r1 hr)
  · have := hi r
    exact j_ps_c (g := g) (fun x h1 h2 => hh x (by omega) (by omega)) (hh _ (by omega) (by omega)) (q r r0 r1 hr)
end ZJ2
end
