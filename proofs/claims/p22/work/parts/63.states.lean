noncomputable section
/-! ===== the reader is right: what a state tells of the machine's ===== -/
/-- an operation of ints, by its number -/
def mOP (k : Nat) (x y : Int32) : Int32 := if k = 100 then x * y else if k = 101 then x &&& y else if k = 102 then x ||| y else if k = 103 then x ^^^ y else if k = 104 then x <<< (y &&& 31) else if k = 105 then x >>> (y &&& 31) else if k = 106 then (x.toUInt32 >>> (y.toUInt32 &&& Int32.toUInt32 31)).toInt32 else if k = 107 then x / y else if k = 108 then x - x / y * y else if k = 110 then x + y else if k = 111 then x - y else x.toInt8.toInt32
/-- the sentences that the reader itself speaks -/
def y_J (X : List Int32) (J : Nat → List Int → mH → Prop) : Prop := (∀ (i v : Int) (h : mH), J 99 [i, v] h ↔ (X.getD i.toNat 0).toInt = v) ∧ (∀ (i v : Int) (h : mH), J 97 [i, v] h ↔ (mST0.getD i.toNat 0).toInt = v) ∧ (∀ (i v : Int) (h : mH), J 98 [i, v] h ↔ (mST1.getD i.toNat 0).toInt = v) ∧ ∀ (k : Nat) (x y : Int32) (c : Int) (h : mH), 100 ≤ k → k ≤ 111 → J k [x.toInt, y.toInt, c] h → (mOP k x y).toInt = c
section ZS1
variable {Γ : List Nat} {J : Nat → List Int → mH → Prop} {n n' nr nr' : Nat} {σ σ' : Nat → Int} {ρ ρ' : Nat → Option Nat} {S S' : zS} {h : mH}
/-- what a value of the reader's stands for -/
def y_V (n nr : Nat) (σ : Nat → Int) (ρ : Nat → Option Nat) (v : zV) (x : mV) : Prop := match v.1 with
  | 0 => ∃ i : Int32, x = mI i ∧ y_E n σ v.2.2 i.toInt
  | 1 => ∃ j : Int64, x = mJ j ∧ y_E n σ v.2.2 j.toInt
  | 2 => v.2.1 < nr ∧ x = mR (ρ v.2.1)
  | 3 => x = mR none
  | 4 => x = mE v.2.1
  | _ => True
def y_Xr (nr : Nat) (ρ ρ' : Nat → Option Nat) : Prop := ∀ r, r < nr → ρ' r = ρ r
theorem y_V.ext {v : zV} {x : mV} (hv : y_V n nr σ ρ v x) (hx : y_X n σ σ') (hr : y_Xr nr ρ ρ') (l : n ≤ n') (lr : nr ≤ nr') : y_V n' nr' σ' ρ' v x := by
  unfold y_V at hv ⊢
  split at hv
  · obtain ⟨i, h1, h2⟩ := hv; exact ⟨i, h1, h2.ext hx l⟩
  · obtain ⟨i, h1, h2⟩ := hv; exact ⟨i, h1, h2.ext hx l⟩
  · exact ⟨Nat.lt_of_lt_of_le hv.1 lr, by rw [hr _ hv.1]; exact hv.2⟩
  · exact hv
  · exact hv
  · trivial
def y_Vs (n nr : Nat) (σ : Nat → Int) (ρ : Nat → Option Nat) : List zV → List mV → Prop
  | [], [] => True
  | v :: vs, x :: xs => y_V n nr σ ρ v x ∧ y_Vs n nr σ ρ vs xs
  | _, _ => False
theorem y_Vs.ext (hx : y_X n σ σ') (hr : y_Xr nr ρ ρ') (l : n ≤ n') (lr : nr ≤ nr') : ∀ {vs : List zV} {xs : List mV}, y_Vs n nr σ ρ vs xs → y_Vs n' nr' σ' ρ' vs xs
  | [], [], _ => trivial
  | _ :: _, _ :: _, h => ⟨h.1.ext hx hr l lr, y_Vs.ext hx hr l lr h.2⟩
theorem y_Vs.len : ∀ {vs : List zV} {xs : List mV}, y_Vs n nr σ ρ vs xs → vs.length = xs.length
  | [], [], _ => rfl
  | _ :: _, _ :: _, h => by simp only [List.length_cons, y_Vs.len h.2]
theorem y_Vs.cons {v : zV} {vs : List zV} {xs : List mV} (h : y_Vs n nr σ ρ (v :: vs) xs) : ∃ x r, xs = x :: r ∧ y_V n nr σ ρ v x ∧ y_Vs n nr σ ρ vs r := by
  cases xs with
  | nil => exact absurd h (by simp [y_Vs])
  | cons x r => exact ⟨x, r, rfl, h.1, h.2⟩
theorem y_Vs.nil {xs : List mV} (h : y_Vs n nr σ ρ [] xs) : xs = [] := by
  cases xs with
  | nil => rfl
  | cons x r => exact absurd h (by simp [y_Vs])
theorem y_Vs.app : ∀ {vs ws : List zV} {xs ys : List mV}, y_Vs n nr σ ρ vs xs → y_Vs n nr σ ρ ws ys → y_Vs n nr σ ρ (vs ++ ws) (xs ++ ys)
  | [], _, [], _, _, g => g
  | _ :: _, _, _ :: _, _, h, g => ⟨h.1, h.2.app g⟩
theorem y_Vs.take : ∀ (k : Nat) {vs : List zV} {xs : List mV}, y_Vs n nr σ ρ vs xs → y_Vs n nr σ ρ (vs.take k) (xs.take k) ∧ y_Vs n nr σ ρ (vs.drop k) (xs.drop k)
  | 0, _, _, h => ⟨trivial, h⟩
  | _ + 1, [], [], _ => ⟨trivial, trivial⟩
  | k + 1, _ :: _, _ :: _, h => ⟨⟨h.1, (y_Vs.take k h.2).1⟩, (y_Vs.take k h.2).2⟩
theorem y_Vs.rev : ∀ {vs : List zV} {xs : List mV}, y_Vs n nr σ ρ vs xs → y_Vs n nr σ ρ vs.reverse xs.reverse
  | [], [], _ => trivial
  | _ :: _, _ :: _, h => by
    rw [List.reverse_cons, List.reverse_cons]
    exact h.2.rev.app ⟨h.1, trivial⟩
/-- a place of the locals: told, or nothing is known -/
def y_Ls (n nr : Nat) (σ : Nat → Int) (ρ : Nat → Option Nat) (L : List zV) (ls : mL) : Prop := L.length = ls.length ∧ ∀ (i : Nat) (v : zV), L[i]? = some v → x_nt v = true → ∃ y, ls[i]? = some (some y) ∧ y_V n nr σ ρ v y
theorem y_Ls.ext {L : List zV} {ls : mL} (hl : y_Ls n nr σ ρ L ls) (hx : y_X n σ σ') (hr : y_Xr nr ρ ρ') (l : n ≤ n') (lr : nr ≤ nr') : y_Ls n' nr' σ' ρ' L ls :=
  ⟨hl.1, fun i v hv ht => by obtain ⟨y, h1, h2⟩ := hl.2 i v hv ht; exact ⟨y, h1, h2.ext hx hr l lr⟩⟩
/-- a fact -/
def y_F (n nr : Nat) (σ : Nat → Int) (ρ : Nat → Option Nat) (h : mH) (f : zFa) : Prop := f.1 < nr ∧ y_in n f.2.1.2.2 ∧ ∀ a, ρ f.1 = some a → match f.2.1.1 with
  | false => ∃ (ci : Nat) (fs : List mV) (x : mV), h[a]? = some (.inl (ci, fs)) ∧ fs[f.2.1.2.1]? = some x ∧ y_V n nr σ ρ f.2.2 x
  | true => 0 ≤ y_ev σ f.2.1.2.2 ∧ (∀ (t : Nat) (xs : List Int32), h[a]? = some (.inr (t, .inl xs)) → ∃ i : Int32, xs[(y_ev σ f.2.1.2.2).toNat]? = some i ∧ y_V n nr σ ρ f.2.2 (mI i)) ∧ ∀ (t : Nat) (xs : List Int64), h[a]? = some (.inr (t, .inr (.inl xs))) → ∃ i : Int64, xs[(y_ev σ f.2.1.2.2).toNat]? = some i ∧ y_V n nr σ ρ f.2.2 (mJ i)
theorem y_F.ext {f : zFa} (hf : y_F n nr σ ρ h f) (hx : y_X n σ σ') (hr : y_Xr nr ρ ρ') (l : n ≤ n') (lr : nr ≤ nr') : y_F n' nr' σ' ρ' h f := by
  obtain ⟨h1, h2, h3⟩ := hf
  refine ⟨Nat.lt_of_lt_of_le h1 lr, y_in_le h2 l, fun a ha => ?_⟩
  rw [hr _ h1] at ha
  have h4 := h3 a ha
  rw [y_ev_ext h2 hx]
  cases hb : f.2.1.1 with
  | false =>
    rw [hb] at h4
    obtain ⟨ci, fs, x, g1, g2, g3⟩ := h4
    exact ⟨ci, fs, x, g1, g2, g3.ext hx hr l lr⟩
  | true =>
    rw [hb] at h4
    refine ⟨h4.1, fun t xs hc => ?_, fun t xs hc => ?_⟩
    · obtain ⟨i, g1, g2⟩ := h4.2.1 t xs hc
      exact ⟨i, g1, g2.ext hx hr l lr⟩
    · obtain ⟨i, g1, g2⟩ := h4.2.2 t xs hc
      exact ⟨i, g1, g2.ext hx hr l lr⟩
def y_T (J : Nat → List Int → mH → Prop) (n : Nat) (σ : Nat → Int) (h : mH) (t : zTg) : Prop := (∀ e ∈ t.2, y_in n e) ∧ J t.1 (t.2.map (y_ev σ)) h
theorem y_T.ext {t : zTg} (ht : y_T J n σ h t) (hx : y_X n σ σ') (l : n ≤ n') : y_T J n' σ' h t := by
  refine ⟨fun e he => y_in_le (ht.1 e he) l, ?_⟩
  rw [List.map_congr_left (fun e he => y_ev_ext (ht.1 e he) hx)]
  exact ht.2
def y_rr (Γ : List Nat) (rs : List (Nat × Bool)) (ρ : Nat → Option Nat) : Prop := ∀ (r : Nat) (q : Nat × Bool), rs[r]? = some q → match ρ r with
  | none => q.2 = true
  | some a => Γ[a]? = some q.1
/-- the state S tells of locals, stack, heap -/
def y_S (Γ : List Nat) (J : Nat → List Int → mH → Prop) (S : zS) (σ : Nat → Int) (ρ : Nat → Option Nat) (ls : mL) (st : List mV) (h : mH) : Prop :=
  y_rg S.1 σ ∧ y_rr Γ S.2.1 ρ ∧ y_cs S.1.length σ S.2.2.1 ∧ y_Ls S.1.length S.2.1.length σ ρ S.2.2.2.1 ls ∧ y_Vs S.1.length S.2.1.length σ ρ S.2.2.2.2.1 st ∧
  (∀ f ∈ S.2.2.2.2.2.1, y_F S.1.length S.2.1.length σ ρ h f) ∧ ∀ t ∈ S.2.2.2.2.2.2, y_T J S.1.length σ h t
/-- S' tells more unknowns than S, the first are the same -/
def y_M (S S' : zS) (σ σ' : Nat → Int) (ρ ρ' : Nat → Option Nat) : Prop := y_X S.1.length σ σ' ∧ y_Xr S.2.1.length ρ ρ' ∧ S.1.length ≤ S'.1.length ∧ S.2.1.length ≤ S'.2.1.length
theorem y_M.refl : y_M S S σ σ ρ ρ := ⟨fun _ _ => rfl, fun _ _ => rfl, Nat.le_refl _, Nat.le_refl _⟩
theorem y_M.of {S' : zS} (a : S'.1.length = S.1.length) (b : S'.2.1.length = S.2.1.length) : y_M S S' σ σ ρ ρ := ⟨fun _ _ => rfl, fun _ _ => rfl, by omega, by omega⟩
theorem y_M.trans {S'' : zS} {σ'' : Nat → Int} {ρ'' : Nat → Option Nat} (a : y_M S S' σ σ' ρ ρ') (b : y_M S' S'' σ' σ'' ρ' ρ'') : y_M S S'' σ σ'' ρ ρ'' :=
  ⟨fun i hi => (b.1 i (Nat.lt_of_lt_of_le hi a.2.2.1)).trans (a.1 i hi), fun i hi => (b.2.1 i (Nat.lt_of_lt_of_le hi a.2.2.2)).trans (a.2.1 i hi), Nat.le_trans a.2.2.1 b.2.2.1, Nat.le_trans a.2.2.2 b.2.2.2⟩
variable {ls ls' : mL} {st st' : List mV}
theorem y_S.stk {T : List zV} (q : y_S Γ J S σ ρ ls st h) (ht : y_Vs S.1.length S.2.1.length σ ρ T st') : y_S Γ J (x_st S T) σ ρ ls st' h := ⟨q.1, q.2.1, q.2.2.1, q.2.2.2.1, ht, q.2.2.2.2.2⟩
theorem y_S.loc {L : List zV} (q : y_S Γ J S σ ρ ls st h) (ht : y_Ls S.1.length S.2.1.length σ ρ L ls') : y_S Γ J (x_lc S L) σ ρ ls' st h := ⟨q.1, q.2.1, q.2.2.1, ht, q.2.2.2.2⟩
theorem y_S.has (q : y_S Γ J S σ ρ ls st h) {e : zL} {z : Int} (he : y_E S.1.length σ e z) (hx : x_has S e = true) : 0 ≤ z := y_ent q.1 q.2.2.1 he hx
theorem y_S.rg (q : y_S Γ J S σ ρ ls st h) {e : zL} {z : Int} (he : y_E S.1.length σ e z) : x_lo S.1 e ≤ z ∧ z ≤ x_hi S.1 e := by
  have := y_lo q.1 he.1
  rw [he.2] at this
  exact this
/-- a sum that is not negative, noted -/
theorem y_S.as (q : y_S Γ J S σ ρ ls st h) {e : zL} {z : Int} (he : y_E S.1.length σ e z) (h0 : 0 ≤ z) : ∃ S1, x_as S e = some S1 ∧ y_S Γ J S1 σ ρ ls st h ∧ y_M S S1 σ σ ρ ρ ∧ S1.2.2.2 = S.2.2.2 := by
  unfold x_as
  split
  · next hx =>
    have := y_ent q.1 q.2.2.1 (he.neg.inc (-1)) hx
    omega
  · obtain ⟨he1, he2⟩ := he
    obtain ⟨a, b⟩ := y_tgts (e := e) (by omega) e.2 S.1 (fun t ht => ht) he1 q.1
    refine ⟨_, rfl, ⟨a, q.2.1, ?_, ?_⟩, y_M.of b rfl, rfl⟩
    · dsimp only
      rw [b]
      unfold x_ac
      split
      · intro g hg
        rcases List.mem_cons.mp hg with rfl | hg
        · exact ⟨he1, by omega⟩
        · exact q.2.2.1 g hg
      · exact q.2.2.1
    · dsimp only
      rw [b]
      exact q.2.2.2
theorem y_ge (q : y_S Γ J S σ ρ ls st h) {e : zL} {z : Int} (he : y_E S.1.length σ e z) (h0 : 0 ≤ z) (t : Bool) : ∃ S1, (t, S1) ∈ x_ge S e t ∧ y_S Γ J S1 σ ρ ls st h ∧ y_M S S1 σ σ ρ ρ ∧ S1.2.2.2 = S.2.2.2 := by
  obtain ⟨S1, h1, h2, h3, h4⟩ := q.as he h0
  exact ⟨S1, by unfold x_ge; rw [h1]; exact List.mem_cons_self, h2, h3, h4⟩
theorem y_eq (q : y_S Γ J S σ ρ ls st h) {e : zL} {z : Int} (he : y_E S.1.length σ e z) (h0 : z = 0) (t : Bool) : ∃ S1, (t, S1) ∈ x_eq S e t ∧ y_S Γ J S1 σ ρ ls st h ∧ y_M S S1 σ σ ρ ρ ∧ S1.2.2.2 = S.2.2.2 := by
  obtain ⟨S1, h1, h2, h3, h4⟩ := q.as he (by omega)
  have he1 : y_E S1.1.length σ e z := he.ext h3.1 h3.2.2.1
  obtain ⟨S2, g1, g2, g3, g4⟩ := y_ge h2 he1.neg (by omega) t
  exact ⟨S2, by unfold x_eq; rw [h1]; exact g1, g2, h3.trans g3, g4.trans h4⟩
theorem y_ne (q : y_S Γ J S σ ρ ls st h) {e : zL} {z : Int} (he : y_E S.1.length σ e z) (h0 : z ≠ 0) (t : Bool) : ∃ S1, (t, S1) ∈ x_ne S e t ∧ y_S Γ J S1 σ ρ ls st h ∧ y_M S S1 σ σ ρ ρ ∧ S1.2.2.2 = S.2.2.2 := by
  unfold x_ne
  split
  · next hx =>
    have := q.has he hx
    exact y_ge q (he.inc (-1)) (by omega) t
  · split
    · next hx =>
      have := q.has he.neg hx
      exact y_ge q (he.neg.inc (-1)) (by omega) t
    · split
      · by_cases hp : 0 ≤ z
        · obtain ⟨S1, h1, h2⟩ := y_ge q (he.inc (-1)) (by omega) t
          exact ⟨S1, List.mem_append_left _ h1, h2⟩
        · obtain ⟨S1, h1, h2⟩ := y_ge q (he.neg.inc (-1)) (by omega) t
          exact ⟨S1, List.mem_append_right _ h1, h2⟩
      · exact ⟨S, List.mem_cons_self, q, y_M.refl, rfl⟩
/-- a comparison -/
theorem y_cond (q : y_S Γ J S σ ρ ls st h) {e : zL} (cd : Jvm.ClassFile.Cond) {x y : Int32} (he : y_E S.1.length σ e (x.toInt - y.toInt)) : ∃ S1, (mcond cd x y, S1) ∈ x_cond cd S e ∧ y_S Γ J S1 σ ρ ls st h ∧ y_M S S1 σ σ ρ ρ ∧ S1.2.2.2 = S.2.2.2 := by
  have inj : x = y ↔ x.toInt - y.toInt = 0 := by
    rw [← Int32.toInt_inj]
    omega
  have left : ∀ {b c : zB2} {P : Bool × zS → Prop}, (∃ S1, (mcond cd x y, S1) ∈ b ∧ P (true, S1)) → True := fun _ => trivial
  cases cd with
  | eq =>
    by_cases hc : x = y
    · obtain ⟨S1, h1, h2⟩ := y_eq q he (inj.mp hc) true
      exact ⟨S1, List.mem_append_left _ (by rw [show mcond .eq x y = true by simp [mcond, hc]]; exact h1), h2⟩
    · obtain ⟨S1, h1, h2⟩ := y_ne q he (fun z => hc (inj.mpr z)) false
      exact ⟨S1, List.mem_append_right _ (by rw [show mcond .eq x y = false by simp [mcond, hc]]; exact h1), h2⟩
  | ne =>
    by_cases hc : x = y
    · obtain ⟨S1, h1, h2⟩ := y_eq q he (inj.mp hc) false
      exact ⟨S1, List.mem_append_right _ (by rw [show mcond .ne x y = false by simp [mcond, hc]]; exact h1), h2⟩
    · obtain ⟨S1, h1, h2⟩ := y_ne q he (fun z => hc (inj.mpr z)) true
      exact ⟨S1, List.mem_append_left _ (by rw [show mcond .ne x y = true by simp [mcond, hc]]; exact h1), h2⟩
  | lt =>
    by_cases hc : x.toInt < y.toInt
    · obtain ⟨S1, h1, h2⟩ := y_ge q (he.neg.inc (-1)) (by omega) true
      exact ⟨S1, List.mem_append_left _ (by rw [show mcond .lt x y = true by simp [mcond, Int32.lt_iff_toInt_lt, hc]]; exact h1), h2⟩
    · obtain ⟨S1, h1, h2⟩ := y_ge q he (by omega) false
      exact ⟨S1, List.mem_append_right _ (by rw [show mcond .lt x y = false by simp [mcond, Int32.lt_iff_toInt_lt, hc]]; exact h1), h2⟩
  | ge =>
    by_cases hc : y.toInt ≤ x.toInt
    · obtain ⟨S1, h1, h2⟩ := y_ge q he (by omega) true
      exact ⟨S1, List.mem_append_left _ (by rw [show mcond .ge x y = true by simp [mcond, Int32.le_iff_toInt_le, hc]]; exact h1), h2⟩
    · obtain ⟨S1, h1, h2⟩ := y_ge q (he.neg.inc (-1)) (by omega) false
      exact ⟨S1, List.mem_append_right _ (by rw [show mcond .ge x y = false by simp [mcond, Int32.le_iff_toInt_le]; omega]; exact h1), h2⟩
  | gt =>
    by_cases hc : y.toInt < x.toInt
    · obtain ⟨S1, h1, h2⟩ := y_ge q (he.inc (-1)) (by omega) true
      exact ⟨S1, List.mem_append_left _ (by rw [show mcond .gt x y = true by simp [mcond, Int32.lt_iff_toInt_lt, hc]]; exact h1), h2⟩
    · obtain ⟨S1, h1, h2⟩ := y_ge q he.neg (by omega) false
      exact ⟨S1, List.mem_append_right _ (by rw [show mcond .gt x y = false by simp [mcond, Int32.lt_iff_toInt_lt, hc]]; exact h1), h2⟩
  | le =>
    by_cases hc : x.toInt ≤ y.toInt
    · obtain ⟨S1, h1, h2⟩ := y_ge q he.neg (by omega) true
      exact ⟨S1, List.mem_append_left _ (by rw [show mcond .le x y = true by simp [mcond, Int32.le_iff_toInt_le, hc]]; exact h1), h2⟩
    · obtain ⟨S1, h1, h2⟩ := y_ge q (he.inc (-1)) (by omega) false
      exact ⟨S1, List.mem_append_right _ (by rw [show mcond .le x y = false by simp [mcond, Int32.le_iff_toInt_le]; omega]; exact h1), h2⟩
/-- more unknowns -/
theorem y_S.more (q : y_S Γ J S σ ρ ls st h) {is : List (Int × Int)} {rs : List (Nat × Bool)} (hx : y_X S.1.length σ σ') (hr : y_Xr S.2.1.length ρ ρ') (hi : y_rg (S.1 ++ is) σ') (hs : y_rr Γ (S.2.1 ++ rs) ρ') : y_S Γ J (S.1 ++ is, S.2.1 ++ rs, S.2.2) σ' ρ' ls st h := by
  have l : S.1.length ≤ (S.1 ++ is).length := by rw [List.length_append]; omega
  have lr : S.2.1.length ≤ (S.2.1 ++ rs).length := by rw [List.length_append]; omega
  refine ⟨hi, hs, fun e he => ?_, q.2.2.2.1.ext hx hr l lr, q.2.2.2.2.1.ext hx hr l lr, fun f hf => (q.2.2.2.2.2.1 f hf).ext hx hr l lr, fun t ht => (q.2.2.2.2.2.2 t ht).ext hx l⟩
  obtain ⟨h1, h2⟩ := q.2.2.1 e he
  exact ⟨y_in_le h1 l, by rw [y_ev_ext h1 hx]; exact h2⟩
def y_up {α : Type} (σ : Nat → α) (n : Nat) (z : α) : Nat → α := fun b => if b = n then z else σ b
theorem y_up_X {n : Nat} {z : Int} : y_X n σ (y_up σ n z) := fun b hb => if_neg (by omega)
theorem y_up_Xr {n : Nat} {z : Option Nat} : y_Xr n ρ (y_up ρ n z) := fun b hb => if_neg (by omega)
theorem y_up_at {α : Type} {σ : Nat → α} {n : Nat} {z : α} : y_up σ n z n = z := if_pos rfl
theorem y_rg_app {is : List (Int × Int)} {p : Int × Int} {z : Int} (hs : y_rg is σ) (hp : p.1 ≤ z ∧ z ≤ p.2) : y_rg (is ++ [p]) (y_up σ is.length z) := by
  intro b q hq
  by_cases e : b < is.length
  · rw [List.getElem?_append_left e] at hq
    rw [y_up_X b e]
    exact hs b q hq
  · have hb : b < (is ++ [p]).length := (List.getElem?_eq_some_iff.mp hq).1
    rw [List.length_append] at hb
    have eb : b = is.length := by simp at hb; omega
    subst eb
    rw [List.getElem?_append_right (Nat.le_refl _), Nat.sub_self] at hq
    cases hq
    rw [y_up_at]
    exact hp
/-- a new unknown int -/
theorem y_new (q : y_S Γ J S σ ρ ls st h) {p : Int × Int} {z : Int} (hp : p.1 ≤ z ∧ z ≤ p.2) : ∃ σ', y_S Γ J (x_new S p).2 σ' ρ ls st h ∧ y_M S (x_new S p).2 σ σ' ρ ρ ∧ y_E (x_new S p).2.1.length σ' (x_new S p).1 z ∧ (x_new S p).2.2 = S.2 := by
  unfold x_new
  split
  · next hz =>
    have := zz_iff.mp hz
    have e : z = p.1 := by omega
    subst e
    exact ⟨σ, q, y_M.refl, y_E.k _, rfl⟩
  · refine ⟨y_up σ S.1.length z, ?_, ⟨y_up_X, fun _ _ => rfl, by simp, Nat.le_refl _⟩, ⟨y_in_b (by simp), by rw [y_ev_b, y_up_at]⟩, rfl⟩
    have := q.more (is := [p]) (rs := []) (y_up_X (z := z)) (fun _ _ => rfl) (y_rg_app q.1 hp) (by rw [List.append_nil]; exact q.2.1)
    rw [List.append_nil] at this
    exact this
theorem y_newr (q : y_S Γ J S σ ρ ls st h) {p : Nat × Bool} {z : Option Nat} (hp : match z with
  | none => p.2 = true
  | some a => Γ[a]? = some p.1) : ∃ ρ', y_S Γ J (x_newr S p).2 σ ρ' ls st h ∧ y_M S (x_newr S p).2 σ σ ρ ρ' ∧ (x_newr S p).1 < (x_newr S p).2.2.1.length ∧ ρ' (x_newr S p).1 = z ∧ (x_newr S p).2.1 = S.1 ∧ (x_newr S p).2.2.2 = S.2.2 := by
  unfold x_newr
  refine ⟨y_up ρ S.2.1.length z, ?_, ⟨fun _ _ => rfl, y_up_Xr, Nat.le_refl _, by simp⟩, by simp, y_up_at, rfl, rfl⟩
  have hr : y_rr Γ (S.2.1 ++ [p]) (y_up ρ S.2.1.length z) := by
    intro b w hw
    by_cases e : b < S.2.1.length
    · rw [List.getElem?_append_left e] at hw
      rw [y_up_Xr b e]
      exact q.2.1 b w hw
    · have hb : b < (S.2.1 ++ [p]).length := (List.getElem?_eq_some_iff.mp hw).1
      rw [List.length_append] at hb
      have eb : b = S.2.1.length := by simp at hb; omega
      subst eb
      rw [List.getElem?_append_right (Nat.le_refl _), Nat.sub_self] at hw
      cases hw
      rw [y_up_at]
      exact hp
  have := q.more (is := []) (rs := [p]) (fun _ _ => rfl) (y_up_Xr (z := z)) (by rw [List.append_nil]; exact q.1) hr
  rw [List.append_nil] at this
  exact this
/-- an int that isn't more than its range, upon the stack -/
theorem y_int (q : y_S Γ J S σ ρ ls st h) {p : Int × Int} {i : Int32} {r : List zV} {r' : List mV} (hp : zin p i) (hr : y_Vs S.1.length S.2.1.length σ ρ r r') : ∃ σ', y_S Γ J (x_int S p r) σ' ρ ls (mI i :: r') h ∧ y_M S (x_int S p r) σ σ' ρ ρ := by
  obtain ⟨σ', h1, h2, h3, h4⟩ := y_new q (p := p) (z := i.toInt) hp
  unfold x_int
  refine ⟨σ', h1.stk ⟨⟨i, rfl, h3⟩, ?_⟩, h2⟩
  have := hr.ext h2.1 h2.2.1 h2.2.2.1 h2.2.2.2
  exact this
theorem y_lin (q : y_S Γ J S σ ρ ls st h) {e : zL} {z : Int} {i : Int32} {r : List zV} {r' : List mV} (he : y_E S.1.length σ e z) (hi : -2147483648 ≤ z → z ≤ 2147483647 → i.toInt = z) (hr : y_Vs S.1.length S.2.1.length σ ρ r r') : ∃ σ', y_S Γ J (x_lin S e r) σ' ρ ls (mI i :: r') h ∧ y_M S (x_lin S e r) σ σ' ρ ρ := by
  unfold x_lin
  split
  · next hx =>
    simp only [Bool.and_eq_true] at hx
    have a := q.has (he.inc 2147483648) hx.1
    have b := q.has (he.neg.inc 2147483647) hx.2
    exact ⟨σ, q.stk ⟨⟨i, rfl, by rw [hi (by omega) (by omega)]; exact he⟩, hr⟩, y_M.refl⟩
  · exact y_int q (zin_top i) hr
theorem x_leq_ev {e f : zL} (hl : x_leq e f = true) : y_ev σ e = y_ev σ f := by
  unfold x_leq at hl
  simp only [Bool.and_eq_true, beq_iff_eq] at hl
  have := zz_iff.mp hl.1
  unfold y_ev
  rw [hl.2]
  omega
theorem zj_top (j : Int64) : zJ.1 ≤ j.toInt ∧ j.toInt ≤ zJ.2 := by
  have a := Int64.le_toInt j
  have b := Int64.toInt_lt j
  unfold zJ
  dsimp only
  omega
/-- any long, upon the stack -/
theorem y_lng (q : y_S Γ J S σ ρ ls st h) {i : Int64} {r : List zV} {r' : List mV} (hr : y_Vs S.1.length S.2.1.length σ ρ r r') : ∃ σ', y_S Γ J (x_lng S r) σ' ρ ls (mJ i :: r') h ∧ y_M S (x_lng S r) σ σ' ρ ρ := by
  obtain ⟨σ', h1, h2, h3, h4⟩ := y_new q (p := zJ) (z := i.toInt) (zj_top i)
  unfold x_lng
  refine ⟨σ', h1.stk ⟨⟨i, rfl, h3⟩, ?_⟩, h2⟩
  have := hr.ext h2.1 h2.2.1 h2.2.2.1 h2.2.2.2
  exact this
theorem y_linJ (q : y_S Γ J S σ ρ ls st h) {e : zL} {z : Int} {i : Int64} {r : List zV} {r' : List mV} (he : y_E S.1.length σ e z) (hi : -9223372036854775808 ≤ z → z ≤ 9223372036854775807 → i.toInt = z) (hr : y_Vs S.1.length S.2.1.length σ ρ r r') : ∃ σ', y_S Γ J (x_linJ S e r) σ' ρ ls (mJ i :: r') h ∧ y_M S (x_linJ S e r) σ σ' ρ ρ := by
  unfold x_linJ
  split
  · next hx =>
    simp only [Bool.and_eq_true] at hx
    have a := q.has (he.inc 9223372036854775808) hx.1
    have b := q.has (he.neg.inc 9223372036854775807) hx.2
    exact ⟨σ, q.stk ⟨⟨i, rfl, by rw [hi (by omega) (by omega)]; exact he⟩, hr⟩, y_M.refl⟩
  · exact y_lng q hr
theorem y_opf {k : Nat} {e f u : zL} : ∀ {l : List zTg}, x_opf k e f l = some u → ∃ a b, (k, [a, b, u]) ∈ l ∧ x_leq a e = true ∧ x_leq b f = true
  | [], hx => by cases hx
  | t :: r, hx => by
    unfold x_opf at hx
    split at hx
    · next a b w h1 h2 =>
      have e1 : t = (k, [a, b, w]) := by
        obtain ⟨t1, t2⟩ := t
        dsimp only at h1 h2
        rw [Nat.eq_of_beq_eq_true h1, h2]
      split at hx
      · next h3 =>
        cases hx
        simp only [Bool.and_eq_true] at h3
        exact ⟨a, b, by rw [e1]; exact List.mem_cons_self, h3.1, h3.2⟩
      · obtain ⟨a', b', g1, g2⟩ := y_opf hx
        exact ⟨a', b', List.mem_cons_of_mem _ g1, g2⟩
    · obtain ⟨a', b', g1, g2⟩ := y_opf hx
      exact ⟨a', b', List.mem_cons_of_mem _ g1, g2⟩
/-- an operation: as told, or anything in its range -/
theorem y_opi {X : List Int32} (hJ : y_J X J) (q : y_S Γ J S σ ρ ls st h) {k : Nat} (k0 : 100 ≤ k) (k1 : k ≤ 111) {e f : zL} {a b : Int32} {p : Int × Int} {r : List zV} {r' : List mV} (he : y_E S.1.length σ e a.toInt) (hf : y_E S.1.length σ f b.toInt) (hp : zin p (mOP k a b)) (hr : y_Vs S.1.length S.2.1.length σ ρ r r') : ∃ σ', y_S Γ J (x_opi S k e f p r) σ' ρ ls (mI (mOP k a b) :: r') h ∧ y_M S (x_opi S k e f p r) σ σ' ρ ρ := by
  unfold x_opi
  split
  · next u hu =>
    obtain ⟨e', f', g1, g2, g3⟩ := y_opf hu
    obtain ⟨t1, t2⟩ := q.2.2.2.2.2.2 _ g1
    have tu := t1 u (by simp)
    refine ⟨σ, q.stk ⟨⟨_, rfl, tu, ?_⟩, hr⟩, y_M.refl⟩
    have t3 : J k [y_ev σ e', y_ev σ f', y_ev σ u] h := t2
    rw [x_leq_ev g2, x_leq_ev g3, he.2, hf.2] at t3
    exact (hJ.2.2.2 k a b _ h k0 k1 t3).symm
  · exact y_int q hp hr
/-- a sum that may wrap -/
theorem y_lino {X : List Int32} (hJ : y_J X J) (q : y_S Γ J S σ ρ ls st h) {k : Nat} (k0 : 100 ≤ k) (k1 : k ≤ 111) {g e f : zL} {z : Int} {a b : Int32} {r : List zV} {r' : List mV} (hg : y_E S.1.length σ g z) (hi : -2147483648 ≤ z → z ≤ 2147483647 → (mOP k a b).toInt = z) (he : y_E S.1.length σ e a.toInt) (hf : y_E S.1.length σ f b.toInt) (hr : y_Vs S.1.length S.2.1.length σ ρ r r') : ∃ σ', y_S Γ J (x_lino S k g e f r) σ' ρ ls (mI (mOP k a b) :: r') h ∧ y_M S (x_lino S k g e f r) σ σ' ρ ρ := by
  unfold x_lino
  split
  · next hx =>
    simp only [Bool.and_eq_true] at hx
    have a1 := q.has (hg.inc 2147483648) hx.1
    have b1 := q.has (hg.neg.inc 2147483647) hx.2
    exact ⟨σ, q.stk ⟨⟨mOP k a b, rfl, by rw [hi (by omega) (by omega)]; exact hg⟩, hr⟩, y_M.refl⟩
  · exact y_opi hJ q k0 k1 he hf (zin_top _) hr
end ZS1
end
