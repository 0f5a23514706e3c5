noncomputable section
/-! ===== which of the new sentences stay (lem.py's TS2, TC2; likes, st, stm), over the labels of a world ===== -/
def j_V : List Nat := [13, 14, 15, 16, 48, 49, 50, 51, 52, 53, 54, 55, 97, 98, 18, 60, 56, 57, 58, 61, 62, 63, 64, 65, 66, 67, 68, 69, 70, 71, 72, 73, 74, 99, 100, 19, 20, 102, 103, 104, 21, 22, 23, 24, 26, 75, 76, 25, 27, 28, 29, 30, 31, 77, 78, 79, 80, 81, 95, 40, 82, 41, 42, 43, 44, 45, 46, 47, 83, 89, 90, 91, 92, 93, 34, 35, 37, 38, 86, 87, 36, 84, 85] ++ ((List.range 44).flatMap fun f => (List.range 5).map fun j => 107 + 6 * f + j)
/-- objects of which sentences speak -/
def j_VO : List Nat := (List.range 44).map fun f => 106 + 6 * f
def j_un2 (l m : Nat) : List Nat → Nat → Bool
  | [], _ => true
  | g :: t, n => (!(Nat.beq g l) || Nat.beq n m) && j_un2 l m t (n + 1)
theorem j_un2_ok {l m : Nat} : ∀ {L : List Nat} {n a : Nat}, j_un2 l m L n = true → L[a]? = some l → n + a = m
  | [], _, _, _, h => by simp at h
  | g :: t, n, a, q, h => by
    unfold j_un2 at q
    simp only [Bool.and_eq_true, Bool.or_eq_true, Bool.not_eq_true'] at q
    cases a with
    | zero =>
      simp only [List.getElem?_cons_zero, Option.some.injEq] at h
      subst h
      rcases q.1 with e | e
      · rw [show Nat.beq g g = true from Nat.beq_refl g] at e; cases e
      · exact Nat.eq_of_beq_eq_true e
    | succ a =>
      have := j_un2_ok q.2 (by simpa using h)
      omega
set_option maxRecDepth 1000000 in
theorem j_V1 (W : Bool) : (j_V ++ j_VO).all (fun l => j_un2 l (j_ad W l) (mGw W) 0 && decide ((mGw W)[j_ad W l]? = some l)) = true := by cases W <;> decide +kernel
set_option maxRecDepth 1000000 in
theorem j_Tb_V : j_Tb.all (fun e => e.1.all fun d => Nat.ble 1000 d.1 || j_V.any fun l => Nat.beq d.1 l) = true := by decide +kernel
set_option maxRecDepth 1000000 in
/-- the labels of families -/
theorem j_Vf : (List.range 264).all (fun i => (j_V ++ j_VO).any fun l => Nat.beq (106 + i) l) = true := by decide +kernel
theorem j_fm_V {m lb : Nat} {a : Int} (h : j_fm m a lb = true) : lb ∈ j_V ++ j_VO := by
  unfold j_fm at h
  simp only [Bool.and_eq_true] at h
  have h1 := Nat.le_of_ble_eq_true h.1.1
  have h2 := Nat.le_of_ble_eq_true h.1.2
  have h3 := List.all_eq_true.mp j_Vf (lb - 106) (List.mem_range.mpr (by omega))
  obtain ⟨l, hl, h4⟩ := List.any_eq_true.mp h3
  have h5 := Nat.eq_of_beq_eq_true h4
  rw [show lb = l by omega]
  exact hl
theorem j_fm_all {m lb : Nat} {a : Int} (h : j_fm m a lb = true) : j_fm 6 0 lb = true := by
  unfold j_fm at h ⊢
  rw [Bool.and_eq_true] at h
  rw [h.1]
  rfl
theorem j_dk_V {k : Nat} {d : Nat × Option Nat} (hd : d ∈ j_dk k) (h1000 : Nat.blt d.1 1000 = true) : d.1 ∈ j_V ++ j_VO := by
  unfold j_dk at hd
  rw [x_nth_eq] at hd
  cases he : j_Tb[k]? with
  | none => rw [he] at hd; cases hd
  | some e =>
    rw [he] at hd
    have h1 := List.all_eq_true.mp j_Tb_V e (List.mem_of_getElem? he)
    have h2 := List.all_eq_true.mp h1 d hd
    rw [Bool.or_eq_true] at h2
    rcases h2 with h2 | h2
    · have := Nat.le_of_ble_eq_true h2
      have := Nat.blt_eq.mp h1000
      omega
    · obtain ⟨l, hl, h3⟩ := List.any_eq_true.mp h2
      rw [Nat.eq_of_beq_eq_true h3]
      exact List.mem_append_left _ hl
theorem j_N_lt {v : zVw} {k : Nat} {zs : List Int} (hk : k < 20) : j_N v k zs := by
  have : k = 0 ∨ k = 1 ∨ k = 2 ∨ k = 3 ∨ k = 4 ∨ k = 5 ∨ k = 6 ∨ k = 7 ∨ k = 8 ∨ k = 9 ∨ k = 10 ∨ k = 11 ∨ k = 12 ∨ k = 13 ∨ k = 14 ∨ k = 15 ∨ k = 16 ∨ k = 17 ∨ k = 18 ∨ k = 19 := by omega
  rcases this with rfl | rfl | rfl | rfl | rfl | rfl | rfl | rfl | rfl | rfl | rfl | rfl | rfl | rfl | rfl | rfl | rfl | rfl | rfl | rfl <;> trivial
theorem j_P_ge {X : List Int32} {k : Nat} {zs : List Int} {g g' : Nat → Int → Int} (hk : 20 ≤ k) (q : j_P X k zs g) : j_P X k zs g' := by
  unfold j_P at q ⊢
  split at q <;> first | exact q | omega | skip
def x_gd (S : zS) (g : Nat) (i e : zL) : Bool := match Nat.blt g 100 with
  | true => x_has S (x_sub i e)
  | false => match Nat.blt g 1000 with
    | true => x_has S (x_sub i e) && x_has S (x_sub e i)
    | false => x_has S (x_sub i (x_scl ((g / 1000 : Nat) : Int) e)) && x_has S (x_inc (((g / 1000 : Nat) : Int) - 1) (x_sub (x_scl ((g / 1000 : Nat) : Int) e) i))
def x_gds (S : zS) (g : Nat) (t : List zL) (i : zL) : Bool := match Nat.blt g 1000000 with
  | true => (match t[g % 100]? with
    | some e => x_gd S g i e
    | none => false)
  | false => (List.range ((g - 1000000) / 100)).any fun k => match t[g % 100 + k]? with
    | some e => x_has S (x_sub i e) && x_has S (x_sub e i)
    | none => false
def x_fm (m : Nat) (t : List zL) (lb : Nat) : Bool := match t with
  | (a, []) :: _ => j_fm m a lb
  | _ => match m with
    | 1 => j_fm 1 0 lb
    | 3 => j_fm 3 0 lb
    | _ => j_fm 6 0 lb
theorem x_fm_ok {m lb : Nat} {t : List zL} {σ : Nat → Int} (h : x_fm m t lb = false) : j_fm m ((t.map (y_ev σ)).getD 0 0) lb = false := by
  unfold x_fm at h
  split at h
  · next a r =>
    rw [List.map_cons, List.getD_cons_zero, show y_ev σ (a, []) = a from y_ev_k a]
    exact h
  · split at h
    · exact h
    · exact h
    · cases hq : j_fm m ((t.map (y_ev σ)).getD 0 0) lb with
      | false => rfl
      | true => rw [j_fm_all hq] at h; cases h
def mTS2 : zTS := fun S t r sl v => match Nat.blt t.1 20 with
  | true => mTS S t r sl v
  | false => match S.2.1[r]? with
    | some (lb, _) => (j_dk t.1).all fun d => match Nat.blt d.1 1000 with
      | true => !sl.1 || !(Nat.beq d.1 lb) || (match d.2 with
        | none => false
        | some g => x_gds S g t.2 sl.2.2)
      | false => !(x_fm (d.1 - 1000) t.2 lb)
    | none => false
def mTC2O : zTC := fun t cl => match Nat.blt t.1 20 with
  | true => mTC t cl
  | false => (j_dk t.1).all fun d => match Nat.blt d.1 1000 with
    | true => !(x_kin cl (d.1, true, 0))
    | false => cl.all fun k => !(x_fm (d.1 - 1000) t.2 k.1)
def j_dm (k : Nat) : Nat := x_mk1 (fun d : Nat × Option Nat => Nat.blt d.1 1000) (fun d => d.1) (j_dk k)
def j_df (k : Nat) : Bool := xl_all (fun d : Nat × Option Nat => Nat.blt d.1 1000) (j_dk k)
def x_mka (cl : List zKey) : Nat := x_mk1 (fun k : zKey => k.2.1 && Nat.beq k.2.2 0) (fun k => k.1) cl
def mTC2 : zTC := fun t cl => match Nat.blt t.1 20 with
  | true => mTC t cl
  | false => match cl with
    | [] => true
    | _ :: _ => x_fn t.1 fun k => match Nat.beq (Nat.land (x_mka cl) (j_dm k)) 0 with
      | false => false
      | true => match j_df k with
        | true => true
        | false => (j_dk k).all fun d => match Nat.blt d.1 1000 with
          | true => !(x_kin cl (d.1, true, 0))
          | false => cl.all fun k => !(x_fm (d.1 - 1000) t.2 k.1)
theorem mTC2_old {t : zTg} {cl : List zKey} (h : mTC2 t cl = true) : mTC2O t cl = true := by
  unfold mTC2 at h
  unfold mTC2O
  cases hb : Nat.blt t.1 20 with
  | true => rw [hb] at h; exact h
  | false =>
    show (j_dk t.1).all _ = true
    cases cl with
    | nil =>
      rw [List.all_eq_true]
      intro d _
      show (match Nat.blt d.1 1000 with
        | true => !(x_kin [] (d.1, true, 0))
        | false => ([] : List zKey).all fun k => !(x_fm (d.1 - 1000) t.2 k.1)) = true
      cases Nat.blt d.1 1000 with
      | true =>
        show (!(x_kin [] (d.1, true, 0))) = true
        rw [x_kin_eq]
        rfl
      | false => rfl
    | cons c0 cl0 =>
      rw [hb] at h
      simp only [x_fn_eq] at h
      generalize c0 :: cl0 = cl at h ⊢
      split at h
      · cases h
      · next hl =>
        have h0 : x_mka cl &&& j_dm t.1 = 0 := Nat.eq_of_beq_eq_true hl
        split at h
        · next hf =>
          unfold j_df at hf
          rw [xl_all_eq, List.all_eq_true] at hf
          rw [List.all_eq_true]
          intro d hd
          have h1 := hf d hd
          rw [h1]
          show (!(x_kin cl (d.1, true, 0))) = true
          cases hk : x_kin cl (d.1, true, 0) with
          | false => rfl
          | true =>
            rw [x_kin_eq] at hk
            unfold x_kinO at hk
            obtain ⟨q, q1, q2⟩ := List.any_eq_true.mp hk
            simp only [Bool.and_eq_true, beq_iff_eq] at q2
            have e1 : q.1 = d.1 := Nat.eq_of_beq_eq_true q2.1.1
            have a1 := x_mk1_mem (p := fun k : zKey => k.2.1 && Nat.beq k.2.2 0) (g := fun k => k.1) q1 (by rw [q2.1.2, q2.2]; rfl)
            have a2 := x_mk1_mem (p := fun d : Nat × Option Nat => Nat.blt d.1 1000) (g := fun d => d.1) hd h1
            have a3 := congrArg (fun z => Nat.testBit z d.1) h0
            rw [e1] at a1
            simp only [Nat.testBit_and, Nat.zero_testBit] at a3
            unfold x_mka j_dm at a3
            rw [a1, a2] at a3
            cases a3
        · exact h
section ZT3
variable {W : Bool} {J : Nat → List Int → mH → Prop} {σ σ' : Nat → Int} {ρ ρ' : Nat → Option Nat} {S S' : zS} {h h' : mH} {ls : mL} {st : List mV} {X : List Int32}
theorem j_adr2 {a l : Nat} (hl : l ∈ j_V ++ j_VO) (q : (mGw W)[a]? = some l) : a = j_ad W l := by
  have := List.all_eq_true.mp (j_V1 W) l hl
  rw [Bool.and_eq_true] at this
  have := j_un2_ok this.1 q
  omega
theorem j_at2 {l : Nat} (hl : l ∈ j_V ++ j_VO) : (mGw W)[j_ad W l]? = some l := by
  have := List.all_eq_true.mp (j_V1 W) l hl
  rw [Bool.and_eq_true] at this
  exact of_decide_eq_true this.2
theorem j_v_eq {l : Nat} (e : h'[j_ad W l]? = h[j_ad W l]?) : j_v W h' l = j_v W h l := by
  funext i
  unfold j_v
  rw [e]
/-- a cell none of whose sorts is written -/
theorem j_v_fr2 {LT : List zLab} {cl : List zKey} (hH : y_H (mGw W) LT h) (hF : y_Fr (mGw W) cl h h') {l : Nat} (hl : l ∈ j_V ++ j_VO) (hk : ∀ k ∈ cl, k.1 ≠ l) : j_v W h' l = j_v W h l := by
  have hx : ∀ (a : Bool) (j : Nat), x_kin cl (l, a, j) = false := by
    intro a j
    cases hc : x_kin cl (l, a, j) with
    | false => rfl
    | true =>
      rw [x_kin_eq] at hc
      unfold x_kinO at hc
      obtain ⟨k, k1, k2⟩ := List.any_eq_true.mp hc
      simp only [Bool.and_eq_true] at k2
      exact absurd (Nat.eq_of_beq_eq_true k2.1.1) (hk k k1)
  have h1 := j_at2 (W := W) hl
  have hlt : j_ad W l < h.length := by rw [hH.1]; exact (List.getElem?_eq_some_iff.mp h1).1
  obtain ⟨c', e1, e2⟩ := hF.2 _ _ _ h1 (List.getElem?_eq_getElem hlt)
  refine j_v_eq ?_
  rw [e1, List.getElem?_eq_getElem hlt]
  cases hc : h[j_ad W l] with
  | inl o =>
    rw [hc] at e2
    obtain ⟨ci, fs⟩ := o
    obtain ⟨fs', rfl, -, e3⟩ := e2
    have : fs' = fs := List.ext_getElem? fun k => e3 k (hx _ _)
    rw [this]
  | inr o =>
    rw [hc] at e2
    rw [e2.2 (hx _ _)]
/-- an array's label: only its places count -/
theorem j_v_fr {LT : List zLab} {cl : List zKey} (hH : y_H (mGw W) LT h) (hF : y_Fr (mGw W) cl h h') {l : Nat} (hl : l ∈ j_V ++ j_VO) (ha : ∀ (o : Nat × List mV), h[j_ad W l]? ≠ some (.inl o)) (hk : x_kin cl (l, true, 0) = false) : j_v W h' l = j_v W h l := by
  have h1 := j_at2 (W := W) hl
  have hlt : j_ad W l < h.length := by rw [hH.1]; exact (List.getElem?_eq_some_iff.mp h1).1
  obtain ⟨c', e1, e2⟩ := hF.2 _ _ _ h1 (List.getElem?_eq_getElem hlt)
  refine j_v_eq ?_
  rw [e1, List.getElem?_eq_getElem hlt]
  cases hc : h[j_ad W l] with
  | inl o => exact absurd (by rw [List.getElem?_eq_getElem hlt, hc]) (ha o)
  | inr o =>
    rw [hc] at e2
    rw [e2.2 hk]
set_option maxRecDepth 100000 in
theorem j_V2 : j_V.all (fun l => match mLT[l]? with | some (1, _, _, _) => true | some (2, _, _, _) => true | _ => false) = true := by decide +kernel
theorem j_V_arr (hH : y_H (mGw W) mLT h) {l : Nat} (hl : l ∈ j_V) (o : Nat × List mV) : h[j_ad W l]? ≠ some (.inl o) := by
  intro hc
  have h1 := j_at2 (W := W) (List.mem_append_left j_VO hl)
  have h2 := List.all_eq_true.mp j_V2 l hl
  cases hlb : mLT[l]? with
  | none => rw [hlb] at h2; cases h2
  | some lab =>
    rw [hlb] at h2
    obtain ⟨k, t', n', ts⟩ := lab
    have hC := hH.2 _ _ _ _ h1 hlb hc
    split at h2
    · next e =>
      cases e
      obtain ⟨xs, e1, -⟩ := hC
      cases e1
    · next e =>
      cases e
      obtain ⟨xs, e1, -⟩ := hC
      cases e1
    · cases h2
theorem j_dk_A {k : Nat} {d : Nat × Option Nat} (hd : d ∈ j_dk k) (h1000 : Nat.blt d.1 1000 = true) : d.1 ∈ j_V := by
  unfold j_dk at hd
  rw [x_nth_eq] at hd
  cases he : j_Tb[k]? with
  | none => rw [he] at hd; cases hd
  | some e =>
    rw [he] at hd
    have h1 := List.all_eq_true.mp j_Tb_V e (List.mem_of_getElem? he)
    have h2 := List.all_eq_true.mp h1 d hd
    rw [Bool.or_eq_true] at h2
    rcases h2 with h2 | h2
    · have := Nat.le_of_ble_eq_true h2
      have := Nat.blt_eq.mp h1000
      omega
    · obtain ⟨l, hl, h3⟩ := List.any_eq_true.mp h2
      rw [Nat.eq_of_beq_eq_true h3]
      exact hl
theorem y_S.old (q : y_S (mGw W) (J2 W X) S σ ρ ls st h) : y_S (mGw W) (mJS X) S σ ρ ls st h :=
  ⟨q.1, q.2.1, q.2.2.1, q.2.2.2.1, q.2.2.2.2.1, q.2.2.2.2.2.1, fun t ht => ⟨(q.2.2.2.2.2.2 t ht).1, (q.2.2.2.2.2.2 t ht).2.1⟩⟩
theorem mTC2_ok : y_TC (mGw W) mLT (J2 W X) mTC2 := by
  intro t cl h h' σ hx hH hH' hF q
  replace hx := mTC2_old hx
  unfold mTC2O at hx
  split at hx
  · next hk => exact ⟨mTC_ok t cl h h' _ hx hH hH' hF q.1, j_N_lt (Nat.blt_eq.mp hk)⟩
  · next hk =>
    have hk2 : 20 ≤ t.1 := by
      rcases Nat.lt_or_ge t.1 20 with c | c
      · rw [Nat.blt_eq.mpr c] at hk; cases hk
      · exact c
    refine ⟨j_P_ge hk2 q.1, j_N_dep (fun d hd => ?_) q.2⟩
    have hxd := List.all_eq_true.mp hx d hd
    cases h1000 : Nat.blt d.1 1000 with
    | true =>
      rw [h1000] at hxd
      have hV := j_dk_A hd h1000
      have e := j_v_fr hH hF (List.mem_append_left _ hV) (j_V_arr hH hV) (by simpa using hxd)
      unfold j_alk
      rw [h1000]
      dsimp only
      split
      · exact e
      · intro i _ _
        rw [e]
    | false =>
      rw [h1000] at hxd
      dsimp only at hxd
      unfold j_alk
      rw [h1000]
      intro lb hlb
      refine j_v_fr2 hH hF (j_fm_V hlb) (fun k hk e => ?_)
      have h3 := List.all_eq_true.mp hxd k hk
      rw [Bool.not_eq_true', e] at h3
      rw [x_fm_ok (σ := σ) h3] at hlb
      cases hlb
theorem mTS2_ok : y_TS (mGw W) mLT (J2 W X) mTS2 := by
  intro S σ ρ ls st h h' t r sl v q hH hr hx w ht
  unfold mTS2 at hx
  split at hx
  · next hk =>
    have := mTS_ok S σ ρ ls st h h' t r sl v q.old hH hr hx w ⟨ht.1, ht.2.1⟩
    exact ⟨this.1, this.2, j_N_lt (Nat.blt_eq.mp hk)⟩
  · next hk =>
    have hk2 : 20 ≤ t.1 := by
      rcases Nat.lt_or_ge t.1 20 with c | c
      · rw [Nat.blt_eq.mpr c] at hk; cases hk
      · exact c
    obtain ⟨lb, hlb⟩ := hr
    rw [hlb] at hx
    dsimp only at hx
    refine ⟨ht.1, j_P_ge hk2 ht.2.1, j_N_dep (fun d hd => ?_) ht.2.2⟩
    obtain ⟨a, c, c', h1, h2, rfl, h3⟩ := w
    have ha : (mGw W)[a]? = some lb := by
      have := q.2.1 r _ hlb
      rw [h1] at this
      exact this
    have hlt : a < h.length := (List.getElem?_eq_some_iff.mp h2).1
    have hx2 := List.all_eq_true.mp hx d hd
    have oth : ∀ l : Nat, l ∈ j_V ++ j_VO → l ≠ lb → j_v W (h.set a c') l = j_v W h l := by
      intro l hl hne
      have hna : a ≠ j_ad W l := by
        intro e
        rw [e, j_at2 hl] at ha
        exact hne (Option.some.inj ha)
      exact j_v_eq (by rw [List.getElem?_set_ne hna])
    cases h1000 : Nat.blt d.1 1000 with
    | false =>
      rw [h1000] at hx2
      unfold j_alk
      rw [h1000]
      intro l hl
      refine oth l (j_fm_V hl) (fun e => ?_)
      rw [e] at hl
      rw [Bool.not_eq_true'] at hx2
      rw [x_fm_ok (σ := σ) hx2] at hl
      cases hl
    | true =>
    rw [h1000] at hx2
    dsimp only at hx2
    unfold j_alk
    rw [h1000]
    dsimp only
    have hV := j_dk_A hd h1000
    by_cases el : d.1 = lb
    · have ea : a = j_ad W d.1 := j_adr2 (List.mem_append_left _ hV) (by rw [el]; exact ha)
      cases hb : sl.1 with
      | false =>
        rw [hb] at h3
        obtain ⟨ci, fs, x, rfl, -, rfl, -⟩ := h3
        exact absurd (by rw [← ea]; exact h2) (j_V_arr hH hV (ci, fs))
      | true =>
        rw [hb] at h3 hx2
        obtain ⟨z, hz, h3⟩ := h3
        rw [Bool.not_true, Bool.false_or, el, show Nat.beq lb lb = true from Nat.beq_refl lb, Bool.not_true, Bool.false_or] at hx2
        split
        · next hn =>
          rw [hn] at hx2
          cases hx2
        · next g hg =>
          rw [hg] at hx2
          dsimp only at hx2
          have fin : ∀ i : Int, z ≠ i.toNat → j_v W (h.set a c') d.1 i = j_v W h d.1 i := by
            intro i hne
            unfold j_v
            rw [← ea, List.getElem?_set_self hlt, h2]
            rcases h3 with ⟨t', xs, i', rfl, -, rfl, -⟩ | ⟨xs, j', rfl, -, rfl, -⟩
            · dsimp only
              rw [List.getD_eq_getElem?_getD, List.getD_eq_getElem?_getD, List.getElem?_set_ne hne]
            · dsimp only
              rw [List.getD_eq_getElem?_getD, List.getD_eq_getElem?_getD, List.getElem?_set_ne hne]
          intro i i0 i1
          refine fin i ?_
          unfold x_gds at hx2
          unfold j_gz at i1
          cases hm : Nat.blt g 1000000 with
          | true =>
            rw [hm] at hx2 i1
            dsimp only at hx2 i1
            split at hx2
            · next e he =>
              have ie : y_in S.1.length e := ht.1 e (List.mem_of_getElem? he)
              have e5 : (t.2.map (y_ev σ)).getD (g % 100) 0 = y_ev σ e := by
                rw [List.getD_eq_getElem?_getD, List.getElem?_map, he]
                rfl
              rw [e5] at i1
              unfold x_gd at hx2
              unfold j_gu at i1
              split at hx2
              · next hb =>
                rw [hb] at i1
                have hge := q.has (hz.sub (y_E.of ie)) hx2
                dsimp only at i1
                omega
              · next hb =>
                rw [hb] at i1
                dsimp only at i1
                split at hx2
                · next hb2 =>
                  rw [hb2] at i1
                  dsimp only at i1
                  rw [Bool.and_eq_true] at hx2
                  have h5 := q.has (hz.sub (y_E.of ie)) hx2.1
                  have h6 := q.has ((y_E.of ie).sub hz) hx2.2
                  omega
                · next hb2 =>
                  rw [hb2] at i1
                  dsimp only at i1
                  rw [Bool.and_eq_true] at hx2
                  have h5 := q.has (hz.sub ((y_E.of ie).scl ((g / 1000 : Nat) : Int))) hx2.1
                  have h6 := q.has ((((y_E.of ie).scl ((g / 1000 : Nat) : Int)).sub hz).inc (((g / 1000 : Nat) : Int) - 1)) hx2.2
                  generalize ((g / 1000 : Nat) : Int) * y_ev σ e = Y at h5 h6 i1
                  generalize ((g / 1000 : Nat) : Int) = B at h5 h6 i1
                  intro ez
                  refine i1 ?_
                  omega
            · cases hx2
          | false =>
            rw [hm] at hx2 i1
            dsimp only at hx2 i1
            obtain ⟨k, k1, k2⟩ := List.any_eq_true.mp hx2
            have k3 := i1 k (List.mem_range.mp k1)
            cases he : t.2[g % 100 + k]? with
            | none => rw [he] at k2; cases k2
            | some e =>
              rw [he] at k2
              dsimp only at k2
              have ie : y_in S.1.length e := ht.1 e (List.mem_of_getElem? he)
              have e5 : (t.2.map (y_ev σ)).getD (g % 100 + k) 0 = y_ev σ e := by
                rw [List.getD_eq_getElem?_getD, List.getElem?_map, he]
                rfl
              rw [e5] at k3
              rw [Bool.and_eq_true] at k2
              have h5 := q.has (hz.sub (y_E.of ie)) k2.1
              have h6 := q.has ((y_E.of ie).sub hz) k2.2
              omega
    · have e := oth d.1 (List.mem_append_left _ hV) el
      split
      · exact e
      · intro i _ _
        rw [e]
end ZT3
end
