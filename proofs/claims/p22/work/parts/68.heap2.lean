/-! ===== the reader is right: arrays, fields, constants ===== -/
section ZS6
variable {Γ : List Nat} {LT : List zLab} {J : Nat → List Int → mH → Prop} {σ : Nat → Int} {ρ : Nat → Option Nat} {S : zS} {h h' : mH} {ls : mL} {st : List mV}
/-- a new cell of the same label keeps the heap right -/
theorem y_H.set (hH : y_H Γ LT h) {a : Nat} {c' : mC} (hc : ∀ l lab, Γ[a]? = some l → LT[l]? = some lab → y_C Γ lab c') : y_H Γ LT (h.set a c') := by
  refine ⟨by rw [List.length_set]; exact hH.1, fun b l lab d h1 h2 h3 => ?_⟩
  by_cases e : a = b
  · subst e
    have hlt : a < h.length := by
      have := (List.getElem?_eq_some_iff.mp h3).1
      rwa [List.length_set] at this
    rw [List.getElem?_set_self hlt] at h3
    cases h3
    exact hc l lab h1 h2
  · rw [List.getElem?_set_ne e] at h3
    exact hH.2 b l lab d h1 h2 h3
theorem i32_clamp {j : Int32} {n : Nat} (h0 : 0 ≤ j.toInt) (h1 : j.toInt < n) : (j.toNatClampNeg : Int) = j.toInt ∧ j.toNatClampNeg < n ∧ mix j n = true := by
  have e : j.toNatClampNeg = j.toInt.toNat := rfl
  refine ⟨by rw [e]; omega, by rw [e]; omega, ?_⟩
  unfold mix
  simp only [Bool.and_eq_true, decide_eq_true_eq]
  exact ⟨h0, h1⟩
theorem y_pok (q : y_S Γ J S σ ρ ls st h) (hH : y_H Γ LT h) {ts : List zFT} {e : zL} {z : Nat} {v : zV} {i : Int32} (he : y_E S.1.length σ e (z : Int)) (hv : y_V S.1.length S.2.1.length σ ρ v (mI i)) (hx : x_pok LT S ts e v = true) : ∀ ft : zFT, ts[z % ts.length]? = some ft → ft.1 = 0 → ft.2.1 ≤ i.toInt ∧ i.toInt ≤ ft.2.2 := by
  intro ft hft h0
  unfold x_pok at hx
  simp only [Bool.or_eq_true, Bool.and_eq_true, List.all_eq_true, List.any_eq_true] at hx
  rcases hx with ⟨-, hx⟩ | ⟨⟨hv0, -⟩, f, hf, hx⟩
  · have := y_fit q hv (hx ft (y_ety q he hft)).2
    unfold y_FT at this
    rw [h0] at this
    obtain ⟨i', e1, e2, e3⟩ := this
    cases e1
    exact ⟨e2, e3⟩
  · obtain ⟨⟨⟨hb, hb0⟩, hb1⟩, hx⟩ := hx
    split at hx
    · next t nn ts' hl hm =>
      have et : ts' = ts := by simpa using hx
      subst et
      obtain ⟨a, l, c, h1, h2, h3, h4, h5, h6⟩ := y_lab q hH hl
      obtain ⟨xs, rfl, h7, h7b, h8⟩ := h6
      try dsimp only at h8
      obtain ⟨f1, f2, f3⟩ := q.2.2.2.2.2.1 f hf
      have f4 := f3 a h1
      rw [hb] at f4
      obtain ⟨f5, f6⟩ := f4
      obtain ⟨i', k1, k2⟩ := f6.1 _ _ h5
      have hne : 0 < ts'.length := by
        cases ts' with
        | nil => simp at hft
        | cons a b => simp
      have hmm := y_mod (σ := σ) (show (0 : Int) < (ts'.length : Int) by omega) hm
      rw [y_ev_sub, he.2] at hmm
      have hz' : ((y_ev σ f.2.1.2.2).toNat : Int) = y_ev σ f.2.1.2.2 := by omega
      have e3 : (y_ev σ f.2.1.2.2).toNat % ts'.length = z % ts'.length := by
        have a1 : ((z : Int) - ((y_ev σ f.2.1.2.2).toNat : Int)) % (ts'.length : Int) = 0 := by rw [hz']; exact hmm
        have a2 : (z : Int) % (ts'.length : Int) = ((y_ev σ f.2.1.2.2).toNat : Int) % (ts'.length : Int) := Int.emod_eq_emod_iff_emod_sub_eq_zero.mpr a1
        have a3 : ((z % ts'.length : Nat) : Int) = (((y_ev σ f.2.1.2.2).toNat % ts'.length : Nat) : Int) := by
          rw [Int.natCast_emod, Int.natCast_emod]
          exact a2
        omega
      have := h8 _ _ k1 ft (by rw [e3]; exact hft) h0
      have ev0 : f.2.2.1 = 0 := Nat.eq_of_beq_eq_true hb0
      have v0 : v.1 = 0 := Nat.eq_of_beq_eq_true hv0
      unfold y_V at k2 hv
      rw [ev0] at k2
      rw [v0] at hv
      obtain ⟨i1, g1, g2⟩ := k2
      obtain ⟨i2, g3, g4⟩ := hv
      cases g1
      cases g3
      have : i.toInt = i'.toInt := by rw [← g2.2, ← g4.2]; exact (x_leq_ev hb1).symm
      omega
    · cases hx
theorem i32_byte {i : Int32} (h1 : -128 ≤ i.toInt) (h2 : i.toInt ≤ 127) : i.toInt8.toInt32 = i := by
  apply Int32.toInt_inj.mp
  rw [Int8.toInt_toInt32, Int32.toInt_toInt8]
  exact Int.bmod_eq_of_le (by omega) (by omega)
theorem i32_bool {i : Int32} (h1 : 0 ≤ i.toInt) (h2 : i.toInt ≤ 1) : i = 0 ∨ i = 1 := by
  by_cases e : i.toInt = 0
  · left
    apply Int32.toInt_inj.mp
    rw [e]
    rfl
  · right
    apply Int32.toInt_inj.mp
    have : i.toInt = 1 := by omega
    rw [this]
    rfl
/-- an int put into an array: what follows is the same for all kinds -/
theorem y_iput {TS : zTS} (hTS : y_TS Γ LT J TS) (q : y_S Γ J S σ ρ ls st h) (hH : y_H Γ LT h) {cl : List zKey} {r lab t len : Nat} {ts : List zFT} {e x : zL} {i j : Int32} {T : List zV} {st' : List mV} (hr : S.2.1[r]? = some (lab, false)) (hl : x_lab LT S r = some (1, t, len, ts)) (he : y_E S.1.length σ e j.toInt) (hv : y_E S.1.length σ x i.toInt) (hi : x_ins0 S e len = true) (n : Nat) (hp : x_pok LT S ts e (0, n, x) = true) (hk : x_kin cl (lab, true, 0) = true) (hT : y_Vs S.1.length S.2.1.length σ ρ T st') :
    ∃ a xs, ρ r = some a ∧ h[a]? = some (.inr (t, .inl xs)) ∧ mix j xs.length = true ∧ y_S Γ J (x_st (x_set TS S r lab (true, 0, e) (zvI x)) T) σ ρ ls st' (h.set a (.inr (t, .inl (xs.set j.toNatClampNeg i)))) ∧ y_H Γ LT (h.set a (.inr (t, .inl (xs.set j.toNatClampNeg i)))) ∧ y_Fr Γ cl h (h.set a (.inr (t, .inl (xs.set j.toNatClampNeg i)))) := by
  obtain ⟨a, l, c, h1, h2, h3, h4, h5, h6⟩ := y_lab q hH hl
  rw [hr] at h2
  cases h2
  obtain ⟨xs, rfl, h7, h7b, h8⟩ := h6
  try dsimp only at h7 h8 h5
  have hb := y_ins0 q he hi
  obtain ⟨c1, c2, c3⟩ := i32_clamp (n := xs.length) hb.1 (by omega)
  have w : y_W S.1.length S.2.1.length σ ρ r (true, 0, e) (zvI x) h (h.set a (.inr (t, .inl (xs.set j.toNatClampNeg i)))) := ⟨a, _, _, h1, h5, rfl, j.toNatClampNeg, by dsimp only; rw [c1]; exact he, Or.inl ⟨t, xs, i, rfl, c2, rfl, ⟨i, rfl, hv⟩⟩⟩
  have hok := y_pok q hH (z := j.toNatClampNeg) (v := (0, n, x)) (i := i) (by rw [c1]; exact he) ⟨i, rfl, hv⟩ hp
  refine ⟨a, xs, h1, h5, c3, (y_set hTS q hH hr he.1 w).stk hT, hH.set fun l' lab' g1 g2 => ?_, w.frame (fun b hb => by rw [h1] at hb; cases hb; exact h3) (by exact hk)⟩
  rw [h3] at g1
  cases g1
  rw [h4] at g2
  cases g2
  refine ⟨_, rfl, by rw [List.length_set]; exact h7, by rw [List.length_set]; exact h7b, fun k i' hk' ft hft h0 => ?_⟩
  by_cases ek : j.toNatClampNeg = k
  · subst ek
    rw [List.getElem?_set_self c2] at hk'
    cases hk'
    exact hok ft hft h0
  · rw [List.getElem?_set_ne ek] at hk'
    exact h8 k i' hk' ft hft h0
theorem y_puta {TS : zTS} (hTS : y_TS Γ LT J TS) (q : y_S Γ J S σ ρ ls st h) (hH : y_H Γ LT h) {cl : List zKey} {i : Jvm.ClassFile.Instr} {S1 : zS} (hx : x_puta LT TS cl i S = some S1) :
    ∃ st' h', mPutA 8 i st h = some (st', h') ∧ y_S Γ J S1 σ ρ ls st' h' ∧ y_M S S1 σ σ ρ ρ ∧ y_H Γ LT h' ∧ y_Fr Γ cl h h' := by
  have hT := q.2.2.2.2.1
  unfold x_puta at hx
  try simp only [x_nth_eq, x_gt_eq, x_sst_eq, xl_any_eq, xl_all_eq, xl_fr_eq, xl_fl_eq] at hx
  split at hx
  · next n x _ e r _ t heq =>
    rw [heq] at hT
    obtain ⟨x1, t1, rfl, ⟨i, rfl, hv⟩, hT1⟩ := hT.cons
    obtain ⟨x2, t2, rfl, ⟨j, rfl, he⟩, hT2⟩ := hT1.cons
    obtain ⟨x3, t3, rfl, ⟨hr0, rfl⟩, hT3⟩ := hT2.cons
    try dsimp only at hv he hr0 ⊢
    split at hx
    · next lab bb len ts hr hl =>
      split at hx
      · next hc =>
        cases hx
        simp only [Bool.and_eq_true] at hc
        obtain ⟨⟨c1, c2⟩, c3⟩ := hc
        obtain ⟨a, l, c, g1, g2, -⟩ := y_lab q hH hl
        rw [hr] at g2
        cases g2
        obtain ⟨a, xs, k1, k2, k3, k4, k5, k6⟩ := y_iput hTS q hH hr hl he hv c1 n c2 c3 hT3
        exact ⟨t3, _, by simp only [mPutA, k1, k2, k3, if_true], k4, .of rfl rfl, k5, k6⟩
      · cases hx
    · cases hx
  · next n x _ e r _ t heq =>
    rw [heq] at hT
    obtain ⟨x1, t1, rfl, ⟨i, rfl, hv⟩, hT1⟩ := hT.cons
    obtain ⟨x2, t2, rfl, ⟨j, rfl, he⟩, hT2⟩ := hT1.cons
    obtain ⟨x3, t3, rfl, ⟨hr0, rfl⟩, hT3⟩ := hT2.cons
    try dsimp only at hv he hr0 ⊢
    split at hx
    · next lab bb len ts hr hl =>
      split at hx
      · next hc =>
        cases hx
        simp only [Bool.and_eq_true] at hc
        obtain ⟨⟨⟨⟨c1, c2⟩, c3⟩, c4⟩, c5⟩ := hc
        obtain ⟨a, l, c, g1, g2, -⟩ := y_lab q hH hl
        rw [hr] at g2
        cases g2
        have d1 := q.has (hv.inc 128) c4
        have d2 := q.has (hv.neg.inc 127) c5
        obtain ⟨a, xs, k1, k2, k3, k4, k5, k6⟩ := y_iput hTS q hH hr hl he hv c1 n c2 c3 hT3
        have eb := i32_byte (i := i) (by omega) (by omega)
        exact ⟨t3, _, by simp only [mPutA, k1, k2, k3, if_true, eb], k4, .of rfl rfl, k5, k6⟩
      · cases hx
    · next lab bb len ts hr hl =>
      split at hx
      · next hc =>
        cases hx
        simp only [Bool.and_eq_true] at hc
        obtain ⟨⟨⟨⟨c1, c2⟩, c3⟩, c4⟩, c5⟩ := hc
        obtain ⟨a, l, c, g1, g2, -⟩ := y_lab q hH hl
        rw [hr] at g2
        cases g2
        have d1 := q.has hv c4
        have d2 := q.has (hv.neg.inc 1) c5
        obtain ⟨a, xs, k1, k2, k3, k4, k5, k6⟩ := y_iput hTS q hH hr hl he hv c1 n c2 c3 hT3
        have eb : vp_nar .boolean i = i := by
          rcases i32_bool (i := i) (by omega) (by omega) with rfl | rfl <;> rfl
        exact ⟨t3, _, by simp only [mPutA, k1, k2, k3, if_true, eb], k4, .of rfl rfl, k5, k6⟩
      · cases hx
    · cases hx
  · next _ x _ e r _ t heq =>
    rw [heq] at hT
    obtain ⟨x1, t1, rfl, ⟨i, rfl, hv⟩, hT1⟩ := hT.cons
    obtain ⟨x2, t2, rfl, ⟨j, rfl, he⟩, hT2⟩ := hT1.cons
    obtain ⟨x3, t3, rfl, ⟨hr0, rfl⟩, hT3⟩ := hT2.cons
    try dsimp only at he hr0 hv ⊢
    split at hx
    · next lab bb _ len _ hr hl =>
      split at hx
      · next hc =>
        cases hx
        simp only [Bool.and_eq_true] at hc
        obtain ⟨c1, c2⟩ := hc
        obtain ⟨a, l, c, h1, h2, h3, h4, h5, h6⟩ := y_lab q hH hl
        rw [hr] at h2
        cases h2
        obtain ⟨xs, rfl, h7, h7b⟩ := h6
        try dsimp only at h7
        have hb := y_ins0 q he c1
        obtain ⟨d1, d2, d3⟩ := i32_clamp (n := xs.length) hb.1 (by omega)
        have w : y_W S.1.length S.2.1.length σ ρ r (true, 0, e) (zvJ x) h (h.set a (.inr (1, .inr (.inl (xs.set j.toNatClampNeg i))))) := ⟨a, _, _, h1, h5, rfl, j.toNatClampNeg, by dsimp only; rw [d1]; exact he, Or.inr ⟨xs, i, rfl, d2, rfl, ⟨i, rfl, hv⟩⟩⟩
        refine ⟨t3, _, by simp only [mPutA, h1, h5, d3, if_true], (y_set hTS q hH hr he.1 w).stk hT3, .of rfl rfl, hH.set fun l' lab' g1 g2 => ?_, w.frame (fun b hb => by rw [h1] at hb; cases hb; exact h3) (by exact c2)⟩
        rw [h3] at g1
        cases g1
        rw [h4] at g2
        cases g2
        exact ⟨_, rfl, by rw [List.length_set]; exact h7, by rw [List.length_set]; exact h7b⟩
      · cases hx
    · cases hx
  · cases hx
theorem y_putf {TS : zTS} (hTS : y_TS Γ LT J TS) (q : y_S Γ J S σ ρ ls st h) (hH : y_H Γ LT h) {cl : List zKey} {cp : Option mP} {S1 : zS} {own : Nat} {ini : Bool} (hx : x_putf LT TS cl cp S = some S1) :
    ∃ st' h', mPutF mTF own ini cp st h = some (st', h') ∧ y_S Γ J S1 σ ρ ls st' h' ∧ y_M S S1 σ σ ρ ρ ∧ y_H Γ LT h' ∧ y_Fr Γ cl h h' := by
  have hT := q.2.2.2.2.1
  unfold x_putf at hx
  try simp only [x_nth_eq, x_gt_eq, x_sst_eq, xl_any_eq, xl_all_eq, xl_fr_eq, xl_fl_eq] at hx
  split at hx
  · next ci k v r _ t heq =>
    rw [heq] at hT
    obtain ⟨x1, t1, rfl, hv, hT1⟩ := hT.cons
    obtain ⟨x3, t3, rfl, ⟨hr0, rfl⟩, hT3⟩ := hT1.cons
    try dsimp only at hr0 ⊢
    split at hx
    · next lab bb c0 nn fts hr hl =>
      split at hx
      · next ft ty hft hty =>
        split at hx
        · next hc =>
          cases hx
          simp only [Bool.and_eq_true] at hc
          obtain ⟨⟨⟨c1, c2⟩, c3⟩, c4⟩ := hc
          have ec : c0 = ci := Nat.eq_of_beq_eq_true c1
          subst ec
          obtain ⟨a, l, c, h1, h2, h3, h4, h5, h6⟩ := y_lab q hH hl
          rw [hr] at h2
          cases h2
          obtain ⟨fs, rfl, h7⟩ := h6
          try dsimp only at h7
          have hF := y_fit q hv c2
          obtain ⟨x0, h8, h9⟩ := h7 _ _ hft
          have hlt : k.toNat < fs.length := (List.getElem?_eq_some_iff.mp h8).1
          have hmf : mfit ty x1 = true := by
            have hv3 := y_fit3 (S := S) hv c2
            unfold x_fty at c3
            unfold y_FT at hF
            split at c3
            · next e0 => rw [e0] at hF; obtain ⟨i, rfl, -⟩ := hF; rfl
            · next e0 =>
              rw [e0] at hF
              obtain ⟨i, rfl, e1, e2⟩ := hF
              simp only [Bool.and_eq_true] at c3
              have b1 := zge_iff.mp c3.1
              have b2 := zge_iff.mp c3.2
              rcases i32_bool (i := i) (by omega) (by omega) with rfl | rfl <;> rfl
            · next e0 => rw [e0] at hF; obtain ⟨i, rfl⟩ := hF; rfl
            · next e0 => rw [e0] at hF; obtain ⟨i, rfl, -⟩ := hF; rfl
            · next e0 => obtain ⟨i, rfl⟩ := hv3 e0; rfl
            · next e0 => rw [e0] at hF; obtain ⟨i, rfl, -⟩ := hF; rfl
            · cases c3
          have w : y_W S.1.length S.2.1.length σ ρ r (false, k.toNat, 0, []) v h (h.set a (.inl (c0, fs.set k.toNat x1))) := ⟨a, _, _, h1, h5, rfl, c0, fs, x1, rfl, hlt, rfl, hv⟩
          refine ⟨t3, h.set a (.inl (c0, fs.set k.toNat x1)), ?_, (y_set hTS q hH hr (fun t ht => by simp at ht) w).stk hT3, .of rfl rfl, hH.set fun l' lab' g1 g2 => ?_, w.frame (fun b hb => by rw [h1] at hb; cases hb; exact h3) (by exact c4)⟩
          · simp only [mPutF, h1, h5, hty]
            rw [if_pos ⟨trivial, hmf, hlt, fun z => by cases z⟩]
          · rw [h3] at g1
            cases g1
            rw [h4] at g2
            cases g2
            refine ⟨_, rfl, fun k' ft' hk' => ?_⟩
            try dsimp only at hk'
            by_cases ek : k.toNat = k'
            · subst ek
              rw [hft] at hk'
              cases hk'
              exact ⟨x1, List.getElem?_set_self hlt, hF⟩
            · obtain ⟨y, g5, g6⟩ := h7 k' ft' hk'
              exact ⟨y, by rw [List.getElem?_set_ne ek]; exact g5, g6⟩
        · cases hx
      · cases hx
    · cases hx
  · cases hx
theorem y_getf (q : y_S Γ J S σ ρ ls st h) (hH : y_H Γ LT h) {cp : Option mP} {S1 : zS} (hx : x_getf LT cp S = some S1) : ∃ st', mGetF cp st h = some st' ∧ y_N Γ J S σ ρ S1 ls st' h := by
  have hT := q.2.2.2.2.1
  unfold x_getf at hx
  split at hx
  · next w _ t heq =>
    cases hx
    rw [heq] at hT
    obtain ⟨x1, t1, rfl, hv, hT1⟩ := hT.cons
    have e : x1 = mE 1 := hv
    subst e
    exact ⟨_, rfl, .of (q.stk ⟨rfl, hT1⟩) (.of rfl rfl)⟩
  · next w _ t heq =>
    cases hx
    rw [heq] at hT
    obtain ⟨x1, t1, rfl, hv, hT1⟩ := hT.cons
    have e : x1 = mE 3 := hv
    subst e
    exact ⟨_, rfl, .of (q.stk ⟨rfl, hT1⟩) (.of rfl rfl)⟩
  · next w _ t heq =>
    cases hx
    rw [heq] at hT
    obtain ⟨x1, t1, rfl, hv, hT1⟩ := hT.cons
    have e : x1 = mE 1 := hv
    subst e
    exact ⟨_, rfl, .of (q.stk ⟨⟨0, rfl, y_E.k _⟩, hT1⟩) (.of rfl rfl)⟩
  · next w _ t heq =>
    cases hx
    rw [heq] at hT
    obtain ⟨x1, t1, rfl, hv, hT1⟩ := hT.cons
    have e : x1 = mE 3 := hv
    subst e
    exact ⟨_, rfl, .of (q.stk ⟨⟨0, rfl, y_E.k _⟩, hT1⟩) (.of rfl rfl)⟩
  · next ci k r _ t heq =>
    rw [heq] at hT
    obtain ⟨x1, t1, rfl, ⟨hr0, rfl⟩, hT1⟩ := hT.cons
    try dsimp only at hr0 ⊢
    split at hx
    · next c0 nn fts hl =>
      split at hx
      · next v S2 hc hrd =>
        cases hx
        have ec : c0 = ci := Nat.eq_of_beq_eq_true hc
        subst ec
        obtain ⟨σ', ρ', x, g1, g2, g3, g4⟩ := y_rd q hH (sl := (false, k.toNat, 0, [])) (fun t ht => by simp at ht) hrd
        obtain ⟨a, l, c, h1, h2, h3, h4, h5, h6⟩ := y_lab q hH hl
        obtain ⟨fs, rfl, h7⟩ := h6
        obtain ⟨a', ci', fs', k1, k2, k3⟩ := g4
        rw [h1] at k1
        cases k1
        rw [h5] at k2
        cases k2
        refine ⟨x :: t1, by simp only [mGetF, h1, h5, if_true]; rw [k3]; rfl, σ', ρ', g1.stk ⟨g3, hT1.ext g2.1 g2.2.1 g2.2.2.1 g2.2.2.2⟩, g2⟩
      · cases hx
    · cases hx
  · cases hx
end ZS6
