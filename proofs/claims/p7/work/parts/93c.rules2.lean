/-! ===== which of the new sentences stay (lem.py's TS2, TC2), over the labels of a world ===== -/
def j_V : List Nat := [13, 14, 15, 16, 48, 49, 50, 51, 52, 53, 54, 55, 97, 98, 18, 60, 56]
def j_un2 (l m : Nat) : List Nat → Nat → Bool
  | [], _ => true
  | g :: t, n => (!(Nat.beq g l) || Nat.beq n m) && j_un2 l m t (n + 1)
theorem j_un2_ok {l m : Nat} : ∀ {L : List Nat} {n a : Nat}, j_un2 l m L n = true → L[a]? = some l → n + a = m
  | [], _, _, _, h => by simp at h
  | g :: t, n, a, q, h => by
    unfold j_un2 at q
    simp only [Bool.and_eq_true, Bool.or_eq_true, Bool.not_eq_true'] at q
    cases a with
    | zero =>
      simp only [List.getElem?_cons_zero, Option.some.injEq] at h
      subst h
      rcases q.1 with e | e
      · rw [show Nat.beq g g = true from Nat.beq_refl g] at e; cases e
      · exact Nat.eq_of_beq_eq_true e
    | succ a =>
      have := j_un2_ok q.2 (by simpa using h)
      omega
set_option maxRecDepth 100000 in
theorem j_V1 (W : Bool) : j_V.all (fun l => j_un2 l (j_ad W l) (mGw W) 0 && decide ((mGw W)[j_ad W l]? = some l)) = true := by cases W <;> decide +kernel
def j_dV (k : Nat) : Bool := (j_dk k).all fun d => j_V.any fun l => Nat.beq l d.1
theorem j_dk_V {k : Nat} {d : Nat × Option Nat} (hd : d ∈ j_dk k) : d.1 ∈ j_V := by
  unfold j_dk at hd
  cases he : j_Tb[k]? with
  | none => rw [he] at hd; cases hd
  | some e =>
    rw [he] at hd
    have key : ∀ e ∈ j_Tb, ∀ d ∈ e.1, d.1 ∈ j_V := by
      unfold j_Tb
      simp only [List.forall_mem_cons]
      repeat' apply And.intro
      all_goals first
        | (intro d hd; exact absurd hd List.not_mem_nil)
        | (intro e he; exact absurd he List.not_mem_nil)
        | decide
    exact key e (List.mem_of_getElem? he) d hd
theorem j_N_lt {v : zVw} {k : Nat} {zs : List Int} (hk : k < 20) : j_N v k zs := by
  have : k = 0 ∨ k = 1 ∨ k = 2 ∨ k = 3 ∨ k = 4 ∨ k = 5 ∨ k = 6 ∨ k = 7 ∨ k = 8 ∨ k = 9 ∨ k = 10 ∨ k = 11 ∨ k = 12 ∨ k = 13 ∨ k = 14 ∨ k = 15 ∨ k = 16 ∨ k = 17 ∨ k = 18 ∨ k = 19 := by omega
  rcases this with rfl | rfl | rfl | rfl | rfl | rfl | rfl | rfl | rfl | rfl | rfl | rfl | rfl | rfl | rfl | rfl | rfl | rfl | rfl | rfl <;> trivial
theorem j_P_ge {X : List Int32} {k : Nat} {zs : List Int} {g g' : Nat → Int → Int} (hk : 20 ≤ k) (q : j_P X k zs g) : j_P X k zs g' := by
  unfold j_P at q ⊢
  split at q <;> first | exact q | omega | skip
def x_gd (S : zS) (g : Nat) (i e : zL) : Bool := match Nat.blt g 100 with
  | true => x_has S (x_sub i e)
  | false => match Nat.blt g 1000 with
    | true => x_has S (x_sub i e) && x_has S (x_sub e i)
    | false => x_has S (x_sub i (x_scl ((g / 1000 : Nat) : Int) e)) && x_has S (x_inc (((g / 1000 : Nat) : Int) - 1) (x_sub (x_scl ((g / 1000 : Nat) : Int) e) i))
def mTS2 : zTS := fun S t r sl v => match Nat.blt t.1 20 with
  | true => mTS S t r sl v
  | false => !sl.1 || (match S.2.1[r]? with
    | some (lb, _) => (j_dk t.1).all fun d => !(Nat.beq d.1 lb) || (match d.2 with
      | none => false
      | some g => match t.2[g % 100]? with
        | some e => x_gd S g sl.2.2 e
        | none => false)
    | none => false)
def mTC2 : zTC := fun t cl => match Nat.blt t.1 20 with
  | true => mTC t cl
  | false => (j_dk t.1).all fun d => !(x_kin cl (d.1, true, 0))
section ZT3
variable {W : Bool} {J : Nat → List Int → mH → Prop} {σ σ' : Nat → Int} {ρ ρ' : Nat → Option Nat} {S S' : zS} {h h' : mH} {ls : mL} {st : List mV} {X : List Int32}
theorem j_adr2 {a l : Nat} (hl : l ∈ j_V) (q : (mGw W)[a]? = some l) : a = j_ad W l := by
  have := List.all_eq_true.mp (j_V1 W) l hl
  rw [Bool.and_eq_true] at this
  have := j_un2_ok this.1 q
  omega
theorem j_at2 {l : Nat} (hl : l ∈ j_V) : (mGw W)[j_ad W l]? = some l := by
  have := List.all_eq_true.mp (j_V1 W) l hl
  rw [Bool.and_eq_true] at this
  exact of_decide_eq_true this.2
theorem j_v_eq {l : Nat} (e : h'[j_ad W l]? = h[j_ad W l]?) : j_v W h' l = j_v W h l := by
  funext i
  unfold j_v
  rw [e]
theorem j_v_fr {LT : List zLab} {cl : List zKey} (hH : y_H (mGw W) LT h) (hF : y_Fr (mGw W) cl h h') {l : Nat} (hl : l ∈ j_V) (hk : x_kin cl (l, true, 0) = false) : j_v W h' l = j_v W h l := by
  have h1 := j_at2 (W := W) hl
  have hlt : j_ad W l < h.length := by rw [hH.1]; exact (List.getElem?_eq_some_iff.mp h1).1
  obtain ⟨c', e1, e2⟩ := hF.2 _ _ _ h1 (List.getElem?_eq_getElem hlt)
  funext i
  unfold j_v
  rw [e1, List.getElem?_eq_getElem hlt]
  cases hc : h[j_ad W l] with
  | inl o =>
    rw [hc] at e2
    obtain ⟨fs', rfl, -⟩ := e2
    rfl
  | inr o =>
    rw [hc] at e2
    rw [e2.2 hk]
theorem y_S.old (q : y_S (mGw W) (J2 W X) S σ ρ ls st h) : y_S (mGw W) (mJS X) S σ ρ ls st h :=
  ⟨q.1, q.2.1, q.2.2.1, q.2.2.2.1, q.2.2.2.2.1, q.2.2.2.2.2.1, fun t ht => ⟨(q.2.2.2.2.2.2 t ht).1, (q.2.2.2.2.2.2 t ht).2.1⟩⟩
theorem mTC2_ok : y_TC (mGw W) mLT (J2 W X) mTC2 := by
  intro t cl h h' zs hx hH hH' hF q
  unfold mTC2 at hx
  split at hx
  · next hk => exact ⟨mTC_ok t cl h h' zs hx hH hH' hF q.1, j_N_lt (Nat.blt_eq.mp hk)⟩
  · next hk =>
    have hk2 : 20 ≤ t.1 := by
      rcases Nat.lt_or_ge t.1 20 with c | c
      · rw [Nat.blt_eq.mpr c] at hk; cases hk
      · exact c
    refine ⟨j_P_ge hk2 q.1, j_N_dep (fun d hd => ?_) q.2⟩
    have e := j_v_fr hH hF (j_dk_V hd) (by simpa using List.all_eq_true.mp hx d hd)
    unfold j_alk
    split
    · exact e
    · intro i _ _
      rw [e]
theorem mTS2_ok : y_TS (mGw W) mLT (J2 W X) mTS2 := by
  intro S σ ρ ls st h h' t r sl v q hH hr hx w ht
  unfold mTS2 at hx
  split at hx
  · next hk =>
    have := mTS_ok S σ ρ ls st h h' t r sl v q.old hH hr hx w ⟨ht.1, ht.2.1⟩
    exact ⟨this.1, this.2, j_N_lt (Nat.blt_eq.mp hk)⟩
  · next hk =>
    have hk2 : 20 ≤ t.1 := by
      rcases Nat.lt_or_ge t.1 20 with c | c
      · rw [Nat.blt_eq.mpr c] at hk; cases hk
      · exact c
    obtain ⟨lb, hlb⟩ := hr
    rw [hlb] at hx
    refine ⟨ht.1, j_P_ge hk2 ht.2.1, j_N_dep (fun d hd => ?_) ht.2.2⟩
    obtain ⟨a, c, c', h1, h2, rfl, h3⟩ := w
    have ha : (mGw W)[a]? = some lb := by
      have := q.2.1 r _ hlb
      rw [h1] at this
      exact this
    have hlt : a < h.length := (List.getElem?_eq_some_iff.mp h2).1
    have hV := j_dk_V hd
    by_cases el : d.1 = lb
    · have ea : a = j_ad W d.1 := j_adr2 hV (by rw [el]; exact ha)
      cases hb : sl.1 with
      | false =>
        rw [hb] at h3
        obtain ⟨ci, fs, x, rfl, -, rfl, -⟩ := h3
        have e : j_v W (h.set a (.inl (ci, fs.set sl.2.1 x))) d.1 = j_v W h d.1 := by
          funext i
          unfold j_v
          rw [← ea, List.getElem?_set_self hlt, h2]
        unfold j_alk
        split
        · exact e
        · intro i _ _
          rw [e]
      | true =>
        rw [hb] at h3 hx
        obtain ⟨z, hz, h3⟩ := h3
        rw [Bool.not_true, Bool.false_or] at hx
        have hx2 := List.all_eq_true.mp hx d hd
        rw [el, show Nat.beq lb lb = true from Nat.beq_refl lb] at hx2
        unfold j_alk
        split
        · next hn =>
          rw [hn] at hx2
          cases hx2
        · next g hg =>
          rw [hg] at hx2
          simp only [Bool.not_true, Bool.false_or] at hx2
          split at hx2
          · next e he =>
            have ie : y_in S.1.length e := ht.1 e (List.mem_of_getElem? he)
            intro i i0 i1
            have e5 : (t.2.map (y_ev σ)).getD (g % 100) 0 = y_ev σ e := by
              rw [List.getD_eq_getElem?_getD, List.getElem?_map, he]
              rfl
            rw [e5] at i1
            have hne : z ≠ i.toNat := by
              unfold x_gd at hx2
              unfold j_gu at i1
              split at hx2
              · next hb =>
                rw [hb] at i1
                have hge := q.has (hz.sub (y_E.of ie)) hx2
                dsimp only at i1
                omega
              · next hb =>
                rw [hb] at i1
                dsimp only at i1
                split at hx2
                · next hb2 =>
                  rw [hb2] at i1
                  dsimp only at i1
                  rw [Bool.and_eq_true] at hx2
                  have h5 := q.has (hz.sub (y_E.of ie)) hx2.1
                  have h6 := q.has ((y_E.of ie).sub hz) hx2.2
                  omega
                · next hb2 =>
                  rw [hb2] at i1
                  dsimp only at i1
                  rw [Bool.and_eq_true] at hx2
                  have h5 := q.has (hz.sub ((y_E.of ie).scl ((g / 1000 : Nat) : Int))) hx2.1
                  have h6 := q.has ((((y_E.of ie).scl ((g / 1000 : Nat) : Int)).sub hz).inc (((g / 1000 : Nat) : Int) - 1)) hx2.2
                  generalize ((g / 1000 : Nat) : Int) * y_ev σ e = Y at h5 h6 i1
                  generalize ((g / 1000 : Nat) : Int) = B at h5 h6 i1
                  intro ez
                  refine i1 ?_
                  omega
            unfold j_v
            rw [← ea, List.getElem?_set_self hlt, h2]
            rcases h3 with ⟨t', xs, i', rfl, -, rfl, -⟩ | ⟨xs, j', rfl, -, rfl, -⟩
            · dsimp only
              rw [List.getD_eq_getElem?_getD, List.getD_eq_getElem?_getD, List.getElem?_set_ne hne]
            · dsimp only
              rw [List.getD_eq_getElem?_getD, List.getD_eq_getElem?_getD, List.getElem?_set_ne hne]
          · cases hx2
    · have hne : a ≠ j_ad W d.1 := by
        intro e
        rw [e, j_at2 hV] at ha
        exact el (Option.some.inj ha)
      have e : j_v W (h.set a c') d.1 = j_v W h d.1 := j_v_eq (by rw [List.getElem?_set_ne hne])
      unfold j_alk
      split
      · exact e
      · intro i _ _
        rw [e]
end ZT3
