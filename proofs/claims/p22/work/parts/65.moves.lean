/-! ===== the reader is right: locals, branches ===== -/
section ZS3
variable {Γ : List Nat} {J : Nat → List Int → mH → Prop} {σ : Nat → Int} {ρ : Nat → Option Nat} {S : zS} {h : mH} {ls : mL} {st : List mV}
theorem y_kd {n nr : Nat} {v : zV} {x : mV} {kd : Nat} (hv : y_V n nr σ ρ v x) (hk : x_kd v kd = true) : mkind x = kd ∧ x_nt v = true := by
  unfold x_kd at hk
  unfold y_V at hv
  split at hk
  · next e => rw [e] at hv; obtain ⟨i, rfl, -⟩ := hv; exact ⟨rfl, by unfold x_nt; rw [e]; rfl⟩
  · next e => rw [e] at hv; obtain ⟨i, rfl, -⟩ := hv; exact ⟨rfl, by unfold x_nt; rw [e]; rfl⟩
  · next e => rw [e] at hv; obtain ⟨-, rfl⟩ := hv; exact ⟨rfl, by unfold x_nt; rw [e]; rfl⟩
  · next e => rw [e] at hv; subst hv; exact ⟨rfl, by unfold x_nt; rw [e]; rfl⟩
  · next e => rw [e] at hv; subst hv; exact ⟨rfl, by unfold x_nt; rw [e]; rfl⟩
  · cases hk
theorem x_kd_nt {v : zV} {kd : Nat} (hk : x_kd v kd = true) : x_nt v = true := by
  unfold x_kd at hk
  split at hk
  · next e => unfold x_nt; rw [e]; rfl
  · next e => unfold x_nt; rw [e]; rfl
  · next e => unfold x_nt; rw [e]; rfl
  · next e => unfold x_nt; rw [e]; rfl
  · next e => unfold x_nt; rw [e]; rfl
  · cases hk
theorem y_ld (q : y_S Γ J S σ ρ ls st h) {k kd : Nat} {v : zV} (hv : S.2.2.2.1[k]? = some v) (hk : x_kd v kd = true) : ∃ y, ls[k]? = some (some y) ∧ mkind y = kd ∧ y_S Γ J (x_st S (v :: S.2.2.2.2.1)) σ ρ ls (y :: st) h := by
  obtain ⟨y, h1, h2⟩ := q.2.2.2.1.2 k v hv (x_kd_nt hk)
  exact ⟨y, h1, (y_kd h2 hk).1, q.stk ⟨h2, q.2.2.2.2.1⟩⟩
theorem x_cl_len (L : List zV) (k : Nat) : (x_cl L k).length = L.length := by
  cases k with
  | zero => rfl
  | succ k =>
    unfold x_cl
    try simp only [x_nth_eq, x_gt_eq, x_sst_eq, xl_any_eq, xl_all_eq, xl_fr_eq, xl_fl_eq]
    try dsimp only
    split
    · exact List.length_set
    · rfl
theorem y_cl {n nr : Nat} {L : List zV} (hl : y_Ls n nr σ ρ L ls) (k : Nat) : y_Ls n nr σ ρ (x_cl L k) (mcl ls k) := by
  refine ⟨by rw [x_cl_len, mcll_len, hl.1], fun i v hv ht => ?_⟩
  cases k with
  | zero => exact hl.2 i v hv ht
  | succ k =>
    unfold x_cl at hv
    try simp only [x_nth_eq, x_gt_eq, x_sst_eq, xl_any_eq, xl_all_eq, xl_fr_eq, xl_fl_eq] at hv
    try dsimp only at hv
    have hcase : ∀ y : mV, ls[i]? = some (some y) → y_V n nr σ ρ v y → (i = k → v.1 ≠ 1) → ∃ y, (mcl ls (k + 1))[i]? = some (some y) ∧ y_V n nr σ ρ v y := by
      intro y hy hvy hne
      refine ⟨y, ?_, hvy⟩
      show (match ls[k]? with
      | some (some (.inr (.inl _))) => ls.set k none
      | _ => ls)[i]? = _
      split
      · next j hj =>
        by_cases e : k = i
        · subst e
          rw [hy] at hj
          cases hj
          have : v.1 = 1 := by
            unfold y_V at hvy
            unfold x_nt at ht
            split at hvy
            · obtain ⟨_, q, _⟩ := hvy; cases q
            · assumption
            · obtain ⟨_, q⟩ := hvy; cases q
            · cases hvy
            · cases hvy
            · next e0 e1 e2 e3 e4 =>
              split at ht
              · next e => exact absurd e e0
              · next e => exact absurd e e1
              · next e => exact absurd e e2
              · next e => exact absurd e e3
              · next e => exact absurd e e4
              · cases ht
          exact absurd this (hne rfl)
        · rw [List.getElem?_set_ne e]
          exact hy
      · exact hy
    split at hv
    · next a b hk =>
      by_cases e : k = i
      · subst e
        have hlt : k < L.length := (List.getElem?_eq_some_iff.mp hk).1
        rw [List.getElem?_set_self hlt] at hv
        cases hv
        cases ht
      · rw [List.getElem?_set_ne e] at hv
        obtain ⟨y, h1, h2⟩ := hl.2 i v hv ht
        exact hcase y h1 h2 (fun z => absurd z.symm e)
    · next hn =>
      obtain ⟨y, h1, h2⟩ := hl.2 i v hv ht
      refine hcase y h1 h2 (fun z z1 => ?_)
      subst z
      obtain ⟨v1, v2, v3⟩ := v
      try dsimp only at z1
      subst z1
      exact hn _ _ hv
theorem y_Lset {n nr : Nat} {L : List zV} {l : mL} (hl : y_Ls n nr σ ρ L l) {k : Nat} {v : zV} {x : Option mV} (hx : x_nt v = true → ∃ y, x = some y ∧ y_V n nr σ ρ v y) : y_Ls n nr σ ρ (L.set k v) (l.set k x) := by
  refine ⟨by rw [List.length_set, List.length_set, hl.1], fun i w hw ht => ?_⟩
  by_cases e : k = i
  · subst e
    have hlt : k < L.length := by
      have := (List.getElem?_eq_some_iff.mp hw).1
      rwa [List.length_set] at this
    rw [List.getElem?_set_self hlt] at hw
    cases hw
    obtain ⟨y, h1, h2⟩ := hx ht
    exact ⟨y, by rw [List.getElem?_set_self (by rw [← hl.1]; exact hlt), h1], h2⟩
  · rw [List.getElem?_set_ne e] at hw
    rw [List.getElem?_set_ne e]
    exact hl.2 i w hw ht
theorem y_put (q : y_S Γ J S σ ρ ls st h) {k kd : Nat} {v : zV} {r : List zV} {S1 : zS} (hst : S.2.2.2.2.1 = v :: r) (hk : x_kd v kd = true) (hp : x_put S k kd v r = some S1) :
    ∃ y t, st = y :: t ∧ mkind y = kd ∧ (if kd = 1 then k + 1 < ls.length else k < ls.length) ∧ y_S Γ J S1 σ ρ (if kd = 1 then mput2 ls k y else mput1 ls k y) t h ∧ y_M S S1 σ σ ρ ρ := by
  have hT := q.2.2.2.2.1
  rw [hst] at hT
  obtain ⟨y, t, rfl, hv, hT1⟩ := hT.cons
  obtain ⟨hkd, hnt⟩ := y_kd hv hk
  refine ⟨y, t, rfl, hkd, ?_⟩
  have hc := y_cl q.2.2.2.1 k
  have hL := q.2.2.2.1.1
  unfold x_put at hp
  split at hp
  · split at hp
    · next hlt =>
      cases hp
      have hlt2 : k + 1 < S.2.2.2.1.length := Nat.le_of_ble_eq_true hlt
      rw [if_pos rfl, if_pos rfl]
      refine ⟨by omega, (q.loc ?_).stk hT1, .of rfl rfl⟩
      exact y_Lset (y_Lset hc (fun _ => ⟨y, rfl, hv⟩)) (fun z => by cases z)
    · cases hp
  · next hne =>
    split at hp
    · next hlt =>
      cases hp
      have hlt2 : k < S.2.2.2.1.length := Nat.le_of_ble_eq_true hlt
      rw [if_neg hne, if_neg hne]
      refine ⟨by omega, (q.loc ?_).stk hT1, .of rfl rfl⟩
      exact y_Lset hc (fun _ => ⟨y, rfl, hv⟩)
    · cases hp
theorem x_to_mto {pc t : Nat} {off : Int} (hx : x_to pc off = some t) : mto pc off = some t := by
  unfold x_to at hx
  unfold mto
  split at hx
  · next n e =>
    cases hx
    have e2 : (pc : Int) + off = (t : Int) := e
    rw [if_pos (by omega), e2]
    rfl
  · cases hx
theorem y_two (q : y_S Γ J S σ ρ ls st h) {pc : Nat} {off : Int} {l : zB2} {r : List zV} {r' : List mV} {l2 : List (Nat × zS)} {b : Bool} {S1 : zS} (hx : x_two pc off l r = some l2) (hm : (b, S1) ∈ l) (q1 : y_S Γ J S1 σ ρ ls st h) (hM : y_M S S1 σ σ ρ ρ) (hr : y_Vs S.1.length S.2.1.length σ ρ r r') :
    ∃ t, mto pc off = some t ∧ ∃ S2, (if b = true then t else pc + 3, S2) ∈ l2 ∧ y_N Γ J S σ ρ S2 ls r' h := by
  unfold x_two at hx
  simp only [Option.map_eq_some_iff] at hx
  obtain ⟨t, h1, rfl⟩ := hx
  refine ⟨t, x_to_mto h1, x_st S1 r, ?_, .of (q1.stk (hr.ext hM.1 hM.2.1 hM.2.2.1 hM.2.2.2)) hM⟩
  refine List.mem_map.mpr ⟨(b, S1), hm, ?_⟩
  cases b <;> rfl
theorem y_tab (q : y_S Γ J S σ ρ ls st h) {pc : Nat} {r : List zV} {r' : List mV} {e : zL} {x lo : Int} (he : y_E S.1.length σ e x) (hr : y_Vs S.1.length S.2.1.length σ ρ r r') : ∀ (offs : List Int) (j k : Nat) (l : List (Nat × zS)) (off : Int), x_tab pc S r e lo offs j = some l → offs[k]? = some off → x = lo + ((j + k : Nat) : Int) →
    ∃ t, mto pc off = some t ∧ ∃ S2, (t, S2) ∈ l ∧ y_N Γ J S σ ρ S2 ls r' h := by
  intro offs
  induction offs with
  | nil => intro j k l off _ h2; simp at h2
  | cons o t ih =>
    intro j k l off h1 h2 h3
    unfold x_tab at h1
    split at h1
    · next to l' ht hl' =>
      cases h1
      cases k with
      | zero =>
        simp only [List.getElem?_cons_zero, Option.some.injEq] at h2
        subst h2
        obtain ⟨S1, g1, g2, g3, -⟩ := y_eq q (he.inc (-(lo + (j : Int)))) (by rw [h3]; show lo + ((j + 0 : Nat) : Int) + _ = 0; simp; omega) true
        exact ⟨to, x_to_mto ht, x_st S1 r, List.mem_append_left _ (List.mem_map.mpr ⟨_, g1, rfl⟩), .of (g2.stk (hr.ext g3.1 g3.2.1 g3.2.2.1 g3.2.2.2)) g3⟩
      | succ k =>
        simp only [List.getElem?_cons_succ] at h2
        obtain ⟨to', g1, S2, g2, g3⟩ := ih (j + 1) k l' off hl' h2 (by rw [h3]; congr 2; omega)
        exact ⟨to', g1, S2, List.mem_append_right _ g2, g3⟩
    · cases h1
theorem y_rset {S : zS} (q : y_S Γ J S σ ρ ls st h) {r lab a : Nat} (hr : ρ r = some a) (hl : ∃ b, S.2.1[r]? = some (lab, b)) : y_S Γ J (S.1, S.2.1.set r (lab, false), S.2.2) σ ρ ls st h := by
  obtain ⟨b, hb⟩ := hl
  have hlen : (S.2.1.set r (lab, false)).length = S.2.1.length := List.length_set
  refine ⟨q.1, fun i w hw => ?_, q.2.2.1, by show y_Ls _ (S.2.1.set r (lab, false)).length _ _ _ _; rw [hlen]; exact q.2.2.2.1, by show y_Vs _ (S.2.1.set r (lab, false)).length _ _ _ _; rw [hlen]; exact q.2.2.2.2.1, by show ∀ f ∈ _, y_F _ (S.2.1.set r (lab, false)).length _ _ _ _; rw [hlen]; exact q.2.2.2.2.2.1, q.2.2.2.2.2.2⟩
  by_cases e : r = i
  · subst e
    have hlt : r < S.2.1.length := (List.getElem?_eq_some_iff.mp hb).1
    rw [List.getElem?_set_self hlt] at hw
    cases hw
    have := q.2.1 r _ hb
    rw [hr] at this ⊢
    exact this
  · rw [List.getElem?_set_ne e] at hw
    exact q.2.1 i w hw
/-- a branch -/
theorem y_br (q : y_S Γ J S σ ρ ls st h) {i : Jvm.ClassFile.Instr} {len pc : Nat} {l : List (Nat × zS)} (hx : x_br i len pc S = some l) : ∃ t st', mBr i len pc st = some (t, st') ∧ ∃ S1, (t, S1) ∈ l ∧ y_N Γ J S σ ρ S1 ls st' h := by
  have hT := q.2.2.2.2.1
  unfold x_br at hx
  try simp only [x_nth_eq, x_gt_eq, x_sst_eq, xl_any_eq, xl_all_eq, xl_fr_eq, xl_fl_eq] at hx
  split at hx
  · next off r heq =>
    split at hx
    · next hl =>
      have hl3 : len = 3 := Nat.eq_of_beq_eq_true hl
      simp only [Option.map_eq_some_iff] at hx
      obtain ⟨t, h1, rfl⟩ := hx
      refine ⟨t, st, by unfold mBr; dsimp only; rw [if_pos hl3, x_to_mto h1]; rfl, x_st S S.2.2.2.2.1, List.mem_cons_self, .of (q.stk hT) (.of rfl rfl)⟩
    · cases hx
  · next cd off _ e r heq =>
    rw [heq] at hT
    obtain ⟨x, t1, rfl, ⟨a, rfl, ha⟩, hT1⟩ := hT.cons
    split at hx
    · next hl =>
      have hl3 : len = 3 := Nat.eq_of_beq_eq_true hl
      obtain ⟨S1, g1, g2, g3, -⟩ := y_cond q cd (x := a) (y := 0) (e := e) (by have := ha.inc 0; simp at this; simpa [x_inc] using this)
      obtain ⟨t, m1, S2, m2, m3⟩ := y_two q hx g1 g2 g3 hT1
      exact ⟨_, t1, by unfold mBr; dsimp only; rw [if_pos hl3, m1]; rfl, S2, m2, m3⟩
    · cases hx
  · next cd off _ f _ e r heq =>
    rw [heq] at hT
    obtain ⟨x, t1, rfl, ⟨b, rfl, hb⟩, hT1⟩ := hT.cons
    obtain ⟨x, t2, rfl, ⟨a, rfl, ha⟩, hT2⟩ := hT1.cons
    split at hx
    · next hl =>
      have hl3 : len = 3 := Nat.eq_of_beq_eq_true hl
      obtain ⟨S1, g1, g2, g3, -⟩ := y_cond q cd (x := a) (y := b) (ha.sub hb)
      obtain ⟨t, m1, S2, m2, m3⟩ := y_two q hx g1 g2 g3 hT2
      exact ⟨_, t2, by unfold mBr; dsimp only; rw [if_pos hl3, m1]; rfl, S2, m2, m3⟩
    · cases hx
  · next off _ _ r heq =>
    rw [heq] at hT
    obtain ⟨x, t1, rfl, hv, hT1⟩ := hT.cons
    have hv2 : x = mR none := hv
    subst hv2
    split at hx
    · next hl =>
      have hl3 : len = 3 := Nat.eq_of_beq_eq_true hl
      simp only [Option.map_eq_some_iff] at hx
      obtain ⟨t, h1, rfl⟩ := hx
      exact ⟨t, t1, by unfold mBr; dsimp only; rw [if_pos hl3, x_to_mto h1]; rfl, _, List.mem_cons_self, .of (q.stk hT1) (.of rfl rfl)⟩
    · cases hx
  · next off _ _ r heq =>
    rw [heq] at hT
    obtain ⟨x, t1, rfl, hv, hT1⟩ := hT.cons
    have hv2 : x = mR none := hv
    subst hv2
    split at hx
    · next hl =>
      have hl3 : len = 3 := Nat.eq_of_beq_eq_true hl
      cases hx
      exact ⟨pc + 3, t1, by unfold mBr; dsimp only; rw [if_pos hl3], _, List.mem_cons_self, .of (q.stk hT1) (.of rfl rfl)⟩
    · cases hx
  · next off n _ r heq =>
    rw [heq] at hT
    obtain ⟨x, t1, rfl, ⟨hn, hv⟩, hT1⟩ := hT.cons
    try dsimp only at hv hn
    subst hv
    split at hx
    · next lab hl hr =>
      have hl3 : len = 3 := Nat.eq_of_beq_eq_true hl
      cases hx
      have := q.2.1 n _ hr
      cases hρ : ρ n with
      | none => rw [hρ] at this; cases this
      | some a => exact ⟨pc + 3, t1, by unfold mBr; dsimp only; rw [if_pos hl3], _, List.mem_cons_self, .of (q.stk hT1) (.of rfl rfl)⟩
    · next lab hl hr =>
      have hl3 : len = 3 := Nat.eq_of_beq_eq_true hl
      simp only [Option.map_eq_some_iff] at hx
      obtain ⟨t, h1, rfl⟩ := hx
      cases hρ : ρ n with
      | none => exact ⟨t, t1, by unfold mBr; dsimp only; rw [if_pos hl3, x_to_mto h1]; rfl, _, List.mem_cons_self, .of (q.stk hT1) (.of rfl rfl)⟩
      | some a =>
        have q2 := (y_rset q hρ ⟨_, hr⟩).stk (T := r) (st' := t1) (by show y_Vs _ (S.2.1.set n (lab, false)).length _ _ _ _; rw [List.length_set]; exact hT1)
        exact ⟨pc + 3, t1, by unfold mBr; dsimp only; rw [if_pos hl3], _, List.mem_cons_of_mem _ List.mem_cons_self, .of q2 (.of rfl List.length_set)⟩
    · cases hx
  · next off n _ r heq =>
    rw [heq] at hT
    obtain ⟨x, t1, rfl, ⟨hn, hv⟩, hT1⟩ := hT.cons
    try dsimp only at hv hn
    subst hv
    split at hx
    · next lab hl hr =>
      have hl3 : len = 3 := Nat.eq_of_beq_eq_true hl
      simp only [Option.map_eq_some_iff] at hx
      obtain ⟨t, h1, rfl⟩ := hx
      have := q.2.1 n _ hr
      cases hρ : ρ n with
      | none => rw [hρ] at this; cases this
      | some a => exact ⟨t, t1, by unfold mBr; dsimp only; rw [if_pos hl3, x_to_mto h1]; rfl, _, List.mem_cons_self, .of (q.stk hT1) (.of rfl rfl)⟩
    · next lab hl hr =>
      have hl3 : len = 3 := Nat.eq_of_beq_eq_true hl
      simp only [Option.map_eq_some_iff] at hx
      obtain ⟨t, h1, rfl⟩ := hx
      cases hρ : ρ n with
      | none => exact ⟨pc + 3, t1, by unfold mBr; dsimp only; rw [if_pos hl3], _, List.mem_cons_self, .of (q.stk hT1) (.of rfl rfl)⟩
      | some a =>
        have q2 := (y_rset q hρ ⟨_, hr⟩).stk (T := r) (st' := t1) (by show y_Vs _ (S.2.1.set n (lab, false)).length _ _ _ _; rw [List.length_set]; exact hT1)
        exact ⟨t, t1, by unfold mBr; dsimp only; rw [if_pos hl3, x_to_mto h1]; rfl, _, List.mem_cons_of_mem _ List.mem_cons_self, .of q2 (.of rfl List.length_set)⟩
    · cases hx
  · next dflt lo hi offs _ e r heq =>
    rw [heq] at hT
    obtain ⟨x, t1, rfl, ⟨a, rfl, ha⟩, hT1⟩ := hT.cons
    try dsimp only at ha
    split at hx
    · next d l2 hd hl2 hz =>
      cases hx
      have hz2 := zz_iff.mp hz
      unfold mBr
      try dsimp only
      by_cases c1 : a.toInt < lo
      · obtain ⟨S1, g1, g2, g3, -⟩ := y_ge q (ha.neg.inc (lo - 1)) (by omega) true
        exact ⟨d, t1, by rw [if_pos (Or.inl c1), x_to_mto hd]; rfl, x_st S1 r, List.mem_append_left _ (List.mem_append_left _ (List.mem_map.mpr ⟨_, g1, rfl⟩)), .of (g2.stk (hT1.ext g3.1 g3.2.1 g3.2.2.1 g3.2.2.2)) g3⟩
      · by_cases c2 : hi < a.toInt
        · obtain ⟨S1, g1, g2, g3, -⟩ := y_ge q (ha.inc (-(hi + 1))) (by omega) true
          exact ⟨d, t1, by rw [if_pos (Or.inr c2), x_to_mto hd]; rfl, x_st S1 r, List.mem_append_left _ (List.mem_append_right _ (List.mem_map.mpr ⟨_, g1, rfl⟩)), .of (g2.stk (hT1.ext g3.1 g3.2.1 g3.2.2.1 g3.2.2.2)) g3⟩
        · have hk : (a.toInt - lo).toNat < offs.size := by omega
          have ho : offs.toList[(a.toInt - lo).toNat]? = some offs[(a.toInt - lo).toNat] := by
            rw [Array.getElem?_toList]
            exact Array.getElem?_eq_getElem hk
          obtain ⟨t, m1, S2, m2, m3⟩ := y_tab q ha hT1 offs.toList 0 (a.toInt - lo).toNat l2 _ hl2 ho (by omega)
          refine ⟨t, t1, ?_, S2, List.mem_append_right _ m2, m3⟩
          rw [if_neg (by omega), Array.getElem?_eq_getElem hk]
          try dsimp only
          rw [m1]
          rfl
    · cases hx
  · cases hx
/-- & 255 of a byte -/
theorem y_and (q : y_S Γ J S σ ρ ls st h) {i : Jvm.ClassFile.Instr} {len pc : Nat} {l : List (Nat × zS)} (hx : x_and i len pc S = some l) : ∃ st', mS i st = some (1, st') ∧ len = 1 ∧ ∃ S1, (pc + 1, S1) ∈ l ∧ y_N Γ J S σ ρ S1 ls st' h := by
  have hT := q.2.2.2.2.1
  unfold x_and at hx
  split at hx
  · next _ f _ e r heq =>
    rw [heq] at hT
    obtain ⟨x, t1, rfl, ⟨b, rfl, hb⟩, hT1⟩ := hT.cons
    obtain ⟨x, t2, rfl, ⟨a, rfl, ha⟩, hT2⟩ := hT1.cons
    try dsimp only at ha hb
    split at hx
    · next hf hc =>
      cases hx
      simp only [Bool.and_eq_true] at hc
      obtain ⟨⟨⟨c1, c2⟩, c3⟩, c4⟩ := hc
      have d1 := zz_iff.mp c1
      have d2 := zge_iff.mp c2
      have d3 := zge_iff.mp c3
      have hr := q.rg ha
      have e1 : f.1 = b.toInt := by
        have := hb.2
        unfold y_ev at this
        rw [hf] at this
        simpa [y_el] using this
      have e2 : b = 255 := by
        apply Int32.toInt_inj.mp
        rw [← e1]
        show f.1 = 255
        omega
      subst e2
      refine ⟨mI (a &&& 255) :: t2, rfl, Nat.eq_of_beq_eq_true c4, ?_⟩
      have hand : (a &&& 255).toInt = a.toInt % 256 := by
        have h1 : (a &&& 255).toBitVec = a.toBitVec &&& 255#32 := rfl
        have h2 : (a &&& 255).toInt = ((a.toBitVec &&& 255#32).toNat : Int) := by
          rw [← Int32.toInt_toBitVec, h1]
          apply BitVec.toInt_eq_toNat_of_lt
          have : (a.toBitVec &&& 255#32).toNat ≤ 255 := by
            rw [BitVec.toNat_and]
            exact Nat.and_le_right
          omega
        rw [h2, BitVec.toNat_and]
        have h3 : (255#32).toNat = 2 ^ 8 - 1 := by decide
        rw [h3, Nat.and_two_pow_sub_one_eq_mod]
        have h4 : a.toInt = if 2 * a.toBitVec.toNat < 2 ^ 32 then (a.toBitVec.toNat : Int) else (a.toBitVec.toNat : Int) - (2 ^ 32 : Nat) := by
          rw [← Int32.toInt_toBitVec, BitVec.toInt_eq_toNat_cond]
        rw [h4]
        split <;> omega
      by_cases hp : 0 ≤ a.toInt
      · obtain ⟨S1, g1, g2, g3, -⟩ := y_ge q ha hp true
        refine ⟨x_st S1 (zvI e :: r), List.mem_append_left _ (List.mem_map.mpr ⟨_, g1, rfl⟩), .of (g2.stk ⟨⟨_, rfl, ?_⟩, hT2.ext g3.1 g3.2.1 g3.2.2.1 g3.2.2.2⟩) g3⟩
        rw [hand, Int.emod_eq_of_lt hp (by omega)]
        exact ha.ext g3.1 g3.2.2.1
      · obtain ⟨S1, g1, g2, g3, -⟩ := y_ge q (ha.neg.inc (-1)) (by omega) true
        refine ⟨x_st S1 (zvI (x_inc 256 e) :: r), List.mem_append_right _ (List.mem_map.mpr ⟨_, g1, rfl⟩), .of (g2.stk ⟨⟨_, rfl, ?_⟩, hT2.ext g3.1 g3.2.1 g3.2.2.1 g3.2.2.2⟩) g3⟩
        have : a.toInt % 256 = a.toInt + 256 := by omega
        rw [hand, this]
        exact (ha.inc 256).ext g3.1 g3.2.2.1
    · cases hx
  · cases hx
/-- a comparison of longs -/
theorem y_lcmp (q : y_S Γ J S σ ρ ls st h) {i : Jvm.ClassFile.Instr} {len pc : Nat} {l : List (Nat × zS)} (hx : x_lcmp i len pc S = some l) : ∃ st', mS i st = some (1, st') ∧ len = 1 ∧ ∃ S1, (pc + 1, S1) ∈ l ∧ y_N Γ J S σ ρ S1 ls st' h := by
  have hT := q.2.2.2.2.1
  unfold x_lcmp at hx
  split at hx
  · next _ f _ e r heq =>
    rw [heq] at hT
    obtain ⟨x, t1, rfl, ⟨b, rfl, hb⟩, hT1⟩ := hT.cons
    obtain ⟨x, t2, rfl, ⟨a, rfl, ha⟩, hT2⟩ := hT1.cons
    try dsimp only at ha hb
    split at hx
    · next hc =>
      cases hx
      have hs := ha.sub hb
      refine ⟨mI (lg_cmp a b) :: t2, rfl, Nat.eq_of_beq_eq_true hc, ?_⟩
      have lt : lg_cmp a b = if b.toInt < a.toInt then 1 else if a.toInt = b.toInt then 0 else -1 := by
        unfold lg_cmp
        simp only [gt_iff_lt, Int64.lt_iff_toInt_lt, ← Int64.toInt_inj]
      have fin : ∀ {S1 : zS} {c : Int32} {z : Int}, y_S Γ J S1 σ ρ ls (mJ b :: mJ a :: t2) h → y_M S S1 σ σ ρ ρ → lg_cmp a b = c → c.toInt = z → y_N Γ J S σ ρ (x_st S1 (zvI (x_k z) :: r)) ls (mI (lg_cmp a b) :: t2) h := by
        intro S1 c z g2 g3 e1 e2
        refine .of (g2.stk ⟨⟨_, rfl, ?_⟩, hT2.ext g3.1 g3.2.1 g3.2.2.1 g3.2.2.2⟩) g3
        rw [e1, e2]
        exact y_E.k z
      by_cases h1 : b.toInt < a.toInt
      · obtain ⟨S1, g1, g2, g3, -⟩ := y_ge q (hs.inc (-1)) (by omega) true
        exact ⟨_, List.mem_append_right _ (List.mem_append_right _ (List.mem_map.mpr ⟨_, g1, rfl⟩)), fin g2 g3 (by rw [lt, if_pos h1]) rfl⟩
      · by_cases h2 : a.toInt = b.toInt
        · obtain ⟨S1, g1, g2, g3, -⟩ := y_eq q hs (by omega) true
          exact ⟨_, List.mem_append_right _ (List.mem_append_left _ (List.mem_map.mpr ⟨_, g1, rfl⟩)), fin g2 g3 (by rw [lt, if_neg h1, if_pos h2]) rfl⟩
        · obtain ⟨S1, g1, g2, g3, -⟩ := y_ge q (hs.neg.inc (-1)) (by omega) true
          exact ⟨_, List.mem_append_left _ (List.mem_map.mpr ⟨_, g1, rfl⟩), fin g2 g3 (by rw [lt, if_neg h1, if_neg h2]) rfl⟩
    · cases hx
  · cases hx
end ZS3
