noncomputable section
/-! ===== the rules are right: what they take, what they add ===== -/
section ZJ4
variable {W : Bool} {σ : Nat → Int} {ρ : Nat → Option Nat} {S S1 : zS} {h : mH} {ls : mL} {st : List mV} {X : List Int32}
/-- a rule is right -/
def j_ok (W : Bool) (X : List Int32) (f : zS → List zS) : Prop := ∀ (S : zS) (σ : Nat → Int) (ρ : Nat → Option Nat) (ls : mL) (st : List mV) (h : mH), y_S (mGw W) (mJS X) S σ ρ ls st h → y_H (mGw W) mLT h → ∃ S1 ∈ f S, y_N (mGw W) (mJS X) S σ ρ S1 ls st h
theorem j_no (q : y_S (mGw W) (mJS X) S σ ρ ls st h) : ∃ S1 ∈ [S], y_N (mGw W) (mJS X) S σ ρ S1 ls st h := ⟨S, List.mem_cons_self, .of q y_M.refl⟩
theorem j_one (q : y_S (mGw W) (mJS X) S1 σ ρ ls st h) (h1 : S1.1 = S.1) (h2 : S1.2.1 = S.2.1) : ∃ T ∈ [S1], y_N (mGw W) (mJS X) S σ ρ T ls st h := ⟨S1, List.mem_cons_self, .of q (.of (by rw [h1]) (by rw [h2]))⟩
theorem r_tg_ok {k : Nat} {p : List zL → Bool} {z : List zL} : ∀ {l : List zTg}, r_tg k p l = some z → (k, z) ∈ l ∧ p z = true
  | [], hx => by cases hx
  | t :: r, hx => by
    unfold r_tg at hx
    split at hx
    · next hc =>
      cases hx
      rw [Bool.and_eq_true] at hc
      have e : t.1 = k := Nat.eq_of_beq_eq_true hc.1
      exact ⟨by rw [← e]; exact List.mem_cons_self, hc.2⟩
    · obtain ⟨a, b⟩ := r_tg_ok hx
      exact ⟨List.mem_cons_of_mem _ a, b⟩
theorem j_tag (q : y_S (mGw W) (mJS X) S σ ρ ls st h) {k : Nat} {p : List zL → Bool} {z : List zL} (hx : r_t S k p = some z) : (∀ e ∈ z, y_in S.1.length e) ∧ j_P X k (z.map (y_ev σ)) (j_g h) ∧ p z = true := by
  obtain ⟨a, b⟩ := r_tg_ok hx
  obtain ⟨c, d⟩ := q.2.2.2.2.2.2 _ a
  exact ⟨c, d, b⟩
theorem j_addt (q : y_S (mGw W) (mJS X) S σ ρ ls st h) {k : Nat} {p : List zL} (hp : ∀ e ∈ p, y_in S.1.length e) (hJ : j_P X k (p.map (y_ev σ)) (j_g h)) : y_S (mGw W) (mJS X) (r_addt S k p) σ ρ ls st h :=
  ⟨q.1, q.2.1, q.2.2.1, q.2.2.2.1, q.2.2.2.2.1, q.2.2.2.2.2.1, fun t ht => by
    rcases List.mem_cons.mp ht with rfl | ht
    · exact ⟨hp, hJ⟩
    · exact q.2.2.2.2.2.2 t ht⟩
theorem j_addf (q : y_S (mGw W) (mJS X) S σ ρ ls st h) (hH : y_H (mGw W) mLT h) {r l : Nat} {e v : zL} (hl : l ∈ j_U) (hr : S.2.1[r]? = some (l, false)) (he : y_in S.1.length e) (hv : y_in S.1.length v) (h0 : 0 ≤ y_ev σ e) (hlt : y_ev σ e < (j_len l : Int)) (hg : y_ev σ v = j_g h l (y_ev σ e)) : y_S (mGw W) (mJS X) (r_addf S r e v) σ ρ ls st h :=
  ⟨q.1, q.2.1, q.2.2.1, q.2.2.2.1, q.2.2.2.2.1, fun f hf => by
    rcases List.mem_cons.mp hf with rfl | hf
    · refine ⟨(List.getElem?_eq_some_iff.mp hr).1, he, fun a ha => ?_⟩
      have ea := j_ref q hl hr
      rw [ha] at ea
      cases ea
      refine ⟨h0, fun t xs hc => ?_, fun t xs hc => by obtain ⟨_, _, hc2, _⟩ := j_arr hH hl; rw [hc] at hc2; cases hc2⟩
      obtain ⟨t', xs', hc', hn⟩ := j_arr hH hl
      rw [hc] at hc'
      cases hc'
      dsimp only at h0 hlt hg ⊢
      have hz : (y_ev σ e).toNat < xs.length := by omega
      refine ⟨xs[(y_ev σ e).toNat], List.getElem?_eq_getElem hz, _, rfl, hv, ?_⟩
      show y_ev σ v = _
      rw [hg, j_g_eq hc, List.getD_eq_getElem?_getD, List.getElem?_eq_getElem hz]
      rfl
    · exact q.2.2.2.2.2.1 f hf, q.2.2.2.2.2.2⟩
theorem j_lo (q : y_S (mGw W) (mJS X) S σ ρ ls st h) {j : Nat} {e : zL} (hx : r_lo S j = some e) : y_in S.1.length e := by
  unfold r_lo at hx
  split at hx
  · next e' he =>
    cases hx
    obtain ⟨y, -, hv⟩ := q.2.2.2.1.2 _ _ he rfl
    obtain ⟨i, -, hi⟩ := hv
    exact hi.1
  · cases hx
theorem j_fd (q : y_S (mGw W) (mJS X) S σ ρ ls st h) {k : Nat} {e : zL} (hx : r_fd S k = some e) : y_in S.1.length e := by
  unfold r_fd at hx
  have key : ∀ fs : List zFa, (∀ f ∈ fs, y_F S.1.length S.2.1.length σ ρ h f) → r_fv S k fs = some e → y_in S.1.length e := by
    intro fs
    induction fs with
    | nil => intro _ hx; cases hx
    | cons f t ih =>
      intro hf hx
      have ih' := ih (fun f hf' => hf f (List.mem_cons_of_mem _ hf'))
      unfold r_fv at hx
      split at hx
      · next l' hr hb hk =>
        split at hx
        · cases hx
          obtain ⟨f1, f2, f3⟩ := hf f List.mem_cons_self
          have hr2 := q.2.1 _ _ hr
          cases hρ : ρ f.1 with
          | none => rw [hρ] at hr2; cases hr2
          | some a =>
            have f4 := f3 _ hρ
            rw [hb] at f4
            obtain ⟨ci, fs', x, -, -, hv⟩ := f4
            unfold y_V at hv
            rw [hk] at hv
            obtain ⟨i, -, hi⟩ := hv
            exact hi.1
        · exact ih' hx
      · exact ih' hx
  exact key _ q.2.2.2.2.2.1 hx
theorem j_src (q : y_S (mGw W) (mJS X) S σ ρ ls st h) {a : Nat} {e : zL} (hx : r_src S a = some e) : y_in S.1.length e := by
  unfold r_src at hx
  split at hx
  · cases hx; exact y_in_k 0
  · exact j_fd q hx
  · exact j_lo q hx
theorem r_rf_ok {lb : Nat} : ∀ {l : List (Nat × Bool)} {n r : Nat}, r_rf lb l n = some r → n ≤ r ∧ l[r - n]? = some (lb, false)
  | [], n, r, hx => by cases hx
  | q :: t, n, r, hx => by
    unfold r_rf at hx
    split at hx
    · next hc =>
      cases hx
      rw [Bool.and_eq_true] at hc
      obtain ⟨q1, q2⟩ := q
      have e : q1 = lb := Nat.eq_of_beq_eq_true hc.1
      have e2 : q2 = false := by simpa using hc.2
      exact ⟨Nat.le_refl _, by simp [e, e2]⟩
    · obtain ⟨a, b⟩ := r_rf_ok hx
      refine ⟨by omega, ?_⟩
      rw [show r - n = (r - (n + 1)) + 1 by omega]
      simpa using b
theorem j_rf {lb r : Nat} (hx : r_ref S lb = some r) : S.2.1[r]? = some (lb, false) := by
  obtain ⟨-, b⟩ := r_rf_ok hx
  simpa using b
theorem x_as_2 {e : zL} (hx : x_as S e = some S1) : S1.2.1 = S.2.1 := by
  unfold x_as at hx
  split at hx
  · cases hx
  · cases hx; rfl
theorem x_asl_2 : ∀ {es : List zL} {S : zS}, x_asl S es = some S1 → S1.2.1 = S.2.1
  | [], S, hx => by cases hx; rfl
  | e :: t, S, hx => by
    unfold x_asl at hx
    split at hx
    · next S2 h2 => rw [x_asl_2 hx, x_as_2 h2]
    · cases hx
/-- a list of sums that are not negative, and more behind it -/
theorem j_asl (q : y_S (mGw W) (mJS X) S σ ρ ls st h) {es : List zL} (he : ∀ e ∈ es, y_in S.1.length e ∧ 0 ≤ y_ev σ e) : ∃ S1, x_asl S es = some S1 ∧ y_S (mGw W) (mJS X) S1 σ ρ ls st h ∧ y_M S S1 σ σ ρ ρ ∧ S1.2.1 = S.2.1 := by
  obtain ⟨S1, a, b, c⟩ := y_asl q he
  exact ⟨S1, a, b, c, x_asl_2 a⟩
theorem j_opt {o : Option zS} {f : zS → zS} {T : zS} (h : o = some T) : f T ∈ r_opt o f := by
  rw [h]
  exact List.mem_cons_self
theorem j_len2 {l : Nat} : (67 ≤ l ∧ l ≤ 71 → j_len l = 260) ∧ ((l = 72 ∨ l = 73) → j_len l = 840) ∧ (l = 74 → j_len l = 64) := by
  refine ⟨fun h => ?_, fun h => ?_, fun h => ?_⟩
  · have : l = 67 ∨ l = 68 ∨ l = 69 ∨ l = 70 ∨ l = 71 := by omega
    rcases this with rfl | rfl | rfl | rfl | rfl <;> decide +kernel
  · rcases h with rfl | rfl <;> decide +kernel
  · subst h; decide +kernel
theorem r_is_ok (q : y_S (mGw W) (mJS X) S σ ρ ls st h) {e : zL} {c : Int} (he : y_in S.1.length e) (hx : r_is S e c = true) : y_ev σ e = c := by
  unfold r_is at hx
  rw [Bool.and_eq_true] at hx
  have a := q.has ((y_E.of he).inc (-c)) hx.1
  have b := q.has ((y_E.of he).neg.inc c) hx.2
  omega
theorem r_kc_ok {e : zL} {c : Int} (hx : r_kc e c = true) : y_ev σ e = c := by
  unfold r_kc at hx
  rw [Bool.and_eq_true] at hx
  have h1 : e.2 = [] := by simpa using hx.1
  have h2 := zz_iff.mp hx.2
  unfold y_ev
  rw [h1]
  show e.1 + 0 = c
  omega
/-! sums -/
theorem j_split {f : zL} (q : y_S (mGw W) (mJS X) S σ ρ ls st h) (hf : y_in S.1.length f) : ∃ S1 ∈ r_split S f, y_N (mGw W) (mJS X) S σ ρ S1 ls st h := by
  unfold r_split
  obtain ⟨l1, l2⟩ := y_lo q.1 hf
  split
  · exact j_no q
  · obtain ⟨S1, a, b, c, -⟩ := j_asl q (es := r_eqs (x_inc (-(x_lo S.1 f + ((y_ev σ f - x_lo S.1 f).toNat : Int))) f)) (fun e he => by
      unfold r_eqs at he
      simp only [List.mem_cons, List.not_mem_nil, or_false] at he
      rcases he with rfl | rfl
      · exact ⟨y_in_inc hf, by rw [y_ev_inc]; omega⟩
      · exact ⟨y_in_scl (y_in_inc hf), by rw [y_ev_scl, y_ev_inc]; omega⟩)
    exact ⟨S1, List.mem_filterMap.mpr ⟨(y_ev σ f - x_lo S.1 f).toNat, List.mem_range.mpr (by omega), a⟩, .of b c⟩
theorem j_ten {f : zL} (q : y_S (mGw W) (mJS X) S σ ρ ls st h) (hf : y_in S.1.length f) : ∃ S1 ∈ r_ten S f, y_N (mGw W) (mJS X) S σ ρ S1 ls st h := by
  unfold r_ten
  obtain ⟨l1, l2⟩ := y_lo q.1 hf
  split
  · exact j_no q
  · have e1 : ((y_ev σ f / 10 - x_lo S.1 f / 10).toNat : Int) = y_ev σ f / 10 - x_lo S.1 f / 10 := by omega
    obtain ⟨S1, a, b, c, -⟩ := j_asl q (es := [x_inc (-(10 * (x_lo S.1 f / 10 + ((y_ev σ f / 10 - x_lo S.1 f / 10).toNat : Int)))) f, x_inc (10 * (x_lo S.1 f / 10 + ((y_ev σ f / 10 - x_lo S.1 f / 10).toNat : Int)) + 9) (x_scl (-1) f)]) (fun e he => by
      simp only [List.mem_cons, List.not_mem_nil, or_false] at he
      rcases he with rfl | rfl
      · exact ⟨y_in_inc hf, by rw [y_ev_inc, e1]; omega⟩
      · exact ⟨y_in_inc (y_in_scl hf), by rw [y_ev_inc, y_ev_scl, e1]; omega⟩)
    exact ⟨S1, List.mem_filterMap.mpr ⟨(y_ev σ f / 10 - x_lo S.1 f / 10).toNat, List.mem_range.mpr (by omega), a⟩, .of b c⟩
theorem j_36 {k : Nat} {big : Bool} : j_ok W X (fun S => r_36 S k big) := by
  intro S σ ρ ls st h q hH
  dsimp only
  unfold r_36
  split
  · split
    · next u c he =>
      obtain ⟨S1, a, b, c, -⟩ := j_asl q (es := S.2.2.1.flatMap fun g => match r_df u g, big with
        | some _, true => [x_scl 1000 g]
        | some v, false => S.2.2.1.filterMap fun f => match f.2.any (fun t => Nat.beq t.1 v && zz (t.2 - 1)) && !(f.2.any fun t => Nat.beq t.1 u) with
          | true => some (x_add f g)
          | false => none
        | none, _ => []) (fun e he => by
          obtain ⟨g, hg, h1⟩ := List.mem_flatMap.mp he
          obtain ⟨g1, g2⟩ := q.2.2.1 g hg
          split at h1
          · simp only [List.mem_cons, List.not_mem_nil, or_false] at h1
            subst h1
            exact ⟨y_in_scl g1, by rw [y_ev_scl]; omega⟩
          · obtain ⟨f, hf, h2⟩ := List.mem_filterMap.mp h1
            obtain ⟨f1, f2⟩ := q.2.2.1 f hf
            split at h2
            · cases h2
              exact ⟨y_in_add f1 g1, by rw [y_ev_add]; omega⟩
            · cases h2
          · cases h1)
      exact ⟨S1, j_opt (f := id) a, .of b c⟩
    · exact j_no q
  · exact j_no q
end ZJ4
end
