noncomputable section
/-! ===== the reader is right: calls, one instruction ===== -/
theorem mrunG_more {XA : Nat → Option (Nat × List Int32)} : ∀ {f fr lo mid pc : Nat} {ls : mL} {st : List mV} {h : mH} {r : mH × Option mV}, mrunG XA f fr lo mid pc ls st h = some r → ∀ g, f ≤ g → mrunG XA g fr lo mid pc ls st h = some r := by
  intro f
  induction f with
  | zero => intro fr lo mid pc ls st h r q; simp [mrunG] at q
  | succ f ih =>
    intro fr lo mid pc ls st h r q g hg
    obtain ⟨g, rfl⟩ : ∃ g', g = g' + 1 := ⟨g - 1, by omega⟩
    have hfg : f ≤ g := by omega
    unfold mrunG at q ⊢
    split at q
    · cases q
    · next own stt na mx rt ini cd hme =>
      split at q
      · cases q
      · next i len hcd =>
        split at q
        · exact q
        · split at q
          · next idx kd hi =>
            split at q
            · next q1 w hcp =>
              split at q
              · next hc =>
                rw [if_pos hc]
                split at q
                · exact ih q g hfg
                · cases q
              · cases q
            · next y kk hcp =>
              split at q
              · next own' s' na' mx' rt' ini' cd' hy =>
                split at q
                · next hc =>
                  rw [if_pos hc]
                  split at q
                  · next h1 v1 hcall =>
                    rw [ih hcall g hfg]
                    exact ih q g hfg
                  · cases q
                · cases q
              · cases q
            · cases q
          · split at q
            · exact ih q g hfg
            · cases q
section ZSA
variable {Γ : List Nat} {LT : List zLab} {J : Nat → List Int → mH → Prop} {σ σ' : Nat → Int} {ρ ρ' : Nat → Option Nat} {S S' : zS} {h h' : mH} {ls : mL} {st : List mV} {X : List Int32}
theorem y_cat {n nr : Nat} {v : zV} {x : mV} (hv : y_V n nr σ ρ v x) (hn : x_nt v = true) : mcat x = x_cat v := by
  unfold y_V at hv
  unfold x_nt at hn
  unfold x_cat
  split at hv
  · next e => rw [e]; obtain ⟨i, rfl, -⟩ := hv; rfl
  · next e => rw [e]; obtain ⟨i, rfl, -⟩ := hv; rfl
  · next e => rw [e]; obtain ⟨-, rfl⟩ := hv; rfl
  · next e => rw [e]; subst hv; rfl
  · next e => rw [e]; subst hv; rfl
  · next e0 e1 e2 e3 e4 =>
    split at hn
    · next e => exact absurd e e0
    · next e => exact absurd e e1
    · next e => exact absurd e e2
    · next e => exact absurd e e3
    · next e => exact absurd e e4
    · cases hn
theorem y_cats {n nr : Nat} : ∀ {vs : List zV} {xs : List mV}, y_Vs n nr σ ρ vs xs → vs.all x_nt = true → xs.map mcat = vs.map x_cat
  | [], [], _, _ => rfl
  | v :: vs, x :: xs, hv, hn => by
    simp only [List.all_cons, Bool.and_eq_true] at hn
    rw [List.map_cons, List.map_cons, y_cat hv.1 hn.1, y_cats hv.2 hn.2]
theorem mEnt_cat : ∀ a : List mV, (mEnt a).length = (a.map mcat).sum
  | [] => rfl
  | .inr (.inl x) :: r => by
    have := mEnt_cat r
    simp only [mEnt, List.length_cons, List.map_cons, List.sum_cons, mcat]
    omega
  | .inl x :: r => by
    have := mEnt_cat r
    simp only [mEnt, List.length_cons, List.map_cons, List.sum_cons, mcat]
    omega
  | .inr (.inr x) :: r => by
    have := mEnt_cat r
    simp only [mEnt, List.length_cons, List.map_cons, List.sum_cons, mcat]
    omega
theorem y_recv (q : y_S Γ J S σ ρ ls st h) (hH : y_H Γ LT h) {kd kk own : Nat} {vs : List zV} {xs : List mV} (hv : y_Vs S.1.length S.2.1.length σ ρ vs xs) (hx : x_recv LT S kd kk own vs = true) : mRecv kd kk own xs h = true := by
  unfold x_recv at hx
  split at hx
  · unfold mRecv; rfl
  · next r _ t =>
    obtain ⟨x, xs', rfl, ⟨hr, rfl⟩, -⟩ := hv.cons
    try dsimp only at hr ⊢
    split at hx
    · next c nn fts hl =>
      obtain ⟨a, l, cc, h1, h2, h3, h4, h5, h6⟩ := y_lab q hH hl
      obtain ⟨fs, rfl, -⟩ := h6
      have e : c = own := Nat.eq_of_beq_eq_true hx
      rw [h1]
      show (match h[a]? with
        | some (.inl (c, _)) => decide (c = own)
        | _ => false) = true
      rw [h5]
      try dsimp only
      rw [e]
      exact decide_eq_true rfl
    · cases hx
  · next k _ t =>
    obtain ⟨x, xs', rfl, hx1, -⟩ := hv.cons
    have e2 : x = mE k := hx1
    subst e2
    simp only [Bool.and_eq_true, Bool.or_eq_true] at hx
    have e3 : own = 16 := Nat.eq_of_beq_eq_true hx.1
    show (decide (own = 16) && (decide (k = 1) || decide (k = 3))) = true
    rw [e3]
    rcases hx.2 with hk | hk
    · rw [Nat.eq_of_beq_eq_true hk]; rfl
    · rw [Nat.eq_of_beq_eq_true hk]; rfl
  · cases hx
/-- what a reading of a method says -/
def y_Snd (Γ : List Nat) (LT : List zLab) (J : Nat → List Int → mH → Prop) (X : List Int32) (c : zCtx) : Prop := ∀ (σ : Nat → Int) (ρ : Nat → Option Nat) (a : List mV) (h : mH), X.length ≤ 3072 → σ 0 = (X.length : Int) → y_H Γ LT h → y_S Γ J c.2.1 σ ρ [] a h → ∀ (fr lo own na mx rt : Nat) (stt ini : Bool) (cd : List (Nat × Jvm.ClassFile.Instr × Nat)), mME c.1 = some (own, stt, na, mx, rt, ini, cd) → c.2.2.2.2.2.1 ≤ fr → c.2.2.2.2.2.2 ≤ lo →
  ∃ (hf : mH) (v : Option mV), mrunG (mXA X) c.2.2.2.2.1 fr lo c.1 0 (mEntry a mx) [] h = some (hf, v) ∧ y_H Γ LT hf ∧ y_Fr Γ c.2.2.2.1 h hf ∧ ∃ P ∈ c.2.2.1, ∃ (τ : Nat → Int) (τr : Nat → Option Nat), y_X c.2.1.1.length σ τ ∧ y_Xr c.2.1.2.1.length ρ τr ∧ c.2.1.1.length ≤ P.1.length ∧ c.2.1.2.1.length ≤ P.2.1.length ∧ y_S Γ J P τ τr [] v.toList hf
theorem x_first_mem {α : Type} {f : Nat → Option α} : ∀ {l : List Nat} {a : α}, x_first f l = some a → ∃ c ∈ l, f c = some a
  | [], a, hx => by cases hx
  | c :: t, a, hx => by
    unfold x_first at hx
    split at hx
    · next a' h1 => cases hx; exact ⟨c, List.mem_cons_self, h1⟩
    · obtain ⟨c', g1, g2⟩ := x_first_mem hx
      exact ⟨c', List.mem_cons_of_mem _ g1, g2⟩
/-- a call by a reading -/
theorem y_call1 {TC : zTC} (hTC : y_TC Γ LT J TC) {CT : List zCtx} (hCT : ∀ c ∈ CT, y_Snd Γ LT J X c) (q : y_S Γ J S σ ρ ls st h) (hH : y_H Γ LT h) (hX : σ 0 = (X.length : Int)) (hX0 : 0 < S.1.length) (hXl : X.length ≤ 3072) {cl : List zKey} {fr lo K kd kk y own na mx rt c fra loa : Nat} {stt ini : Bool} {cd : List (Nat × Jvm.ClassFile.Instr × Nat)} {l : List zS} (hy : mME y = some (own, stt, na, mx, rt, ini, cd)) (hfr : fr ≤ fra) (hlo : lo ≤ loa) (hx : x_call1 LT CT TC cl fr lo K S kd kk y own na mx c = some l) :
    na ≤ st.length ∧ 1 ≤ fra ∧ mx + 19 ≤ loa ∧ ((st.drop na).map mcat).sum ≤ 8 ∧ mRecv kd kk own (st.take na).reverse h = true ∧ (mEnt (st.take na).reverse).length ≤ mx ∧
    ∃ (h1 : mH) (v : Option mV), (∀ f, K ≤ f → mrunG (mXA X) f (fra - 1) (loa - (mx + 19)) y 0 (mEntry (st.take na).reverse mx) [] h = some (h1, v)) ∧ y_H Γ LT h1 ∧ y_Fr Γ cl h h1 ∧ ∃ S1 ∈ l, y_N Γ J S σ ρ S1 ls (v.toList ++ st.drop na) h1 := by
  unfold x_call1 at hx
  try simp only [x_nth_eq, x_gt_eq, x_sst_eq, xl_any_eq, xl_all_eq, xl_fr_eq, xl_fl_eq] at hx
  split at hx
  · next mid P0 Ps cl' F' fr' lo' hc =>
    split at hx
    · next hcond =>
      simp only [Bool.and_eq_true] at hcond
      obtain ⟨⟨⟨⟨⟨⟨⟨⟨⟨c1, c2⟩, c3⟩, c4⟩, c5⟩, c6⟩, c7⟩, c8⟩, c9⟩, c10⟩ := hcond
      have em : mid = y := Nat.eq_of_beq_eq_true c1
      subst em
      have d2 : na ≤ S.2.2.2.2.1.length := Nat.le_of_ble_eq_true c2
      have d3 : fr' + 1 ≤ fr := Nat.le_of_ble_eq_true c3
      have d4 : lo' + (mx + 19) ≤ lo := Nat.le_of_ble_eq_true c4
      have d5 : F' ≤ K := Nat.le_of_ble_eq_true c5
      have d6 : ((S.2.2.2.2.1.drop na).map x_cat).sum ≤ 8 := Nat.le_of_ble_eq_true c6
      have d9 : ((S.2.2.2.2.1.take na).map x_cat).sum ≤ mx := Nat.le_of_ble_eq_true c9
      have hT := q.2.2.2.2.1
      have hTl := hT.len
      obtain ⟨t1, t2⟩ := hT.take na
      have a1 : (S.2.2.2.2.1.take na).all x_nt = true := List.all_eq_true.mpr fun v hv => List.all_eq_true.mp c7 v (List.mem_of_mem_take hv)
      have a2 : (S.2.2.2.2.1.drop na).all x_nt = true := List.all_eq_true.mpr fun v hv => List.all_eq_true.mp c7 v (List.mem_of_mem_drop hv)
      have e1 := y_cats t1 a1
      have e2 := y_cats t2 a2
      split at hx
      · next S1 θ hm =>
        have qa : y_S Γ J (x_st (x_lc S []) (S.2.2.2.2.1.take na).reverse) σ ρ [] (st.take na).reverse h := (q.loc (L := []) (ls' := []) ⟨rfl, fun i v hv => by simp at hv⟩).stk t1.rev
        have hth0 : y_th S.1.length S.2.1.length (x_id 1 0 P0.1.length P0.2.1.length) := by
          refine ⟨fun b f hf => ?_, fun r w hw => ?_⟩
          · rw [x_id_eq] at hf
            unfold x_idO at hf
            try dsimp only at hf
            cases b with
            | zero => simp at hf; rw [← hf]; exact y_in_b hX0
            | succ b =>
              rw [List.getElem?_append_right (by simp)] at hf
              rw [List.getElem?_replicate] at hf
              split at hf <;> simp at hf
          · rw [x_id_eq] at hw
            unfold x_idO at hw
            try dsimp only at hw
            rw [List.range_zero, List.map_nil, List.nil_append, List.getElem?_replicate] at hw
            split at hw <;> simp at hw
        obtain ⟨σ1, ρ1, q1, hM, m1, th1, qP, l1, l2⟩ := y_mat qa hH hth0 hm
        have h0 : θ.1[0]? = some (some (x_b 0)) := m1.2.2.1 0 (x_b 0) (by rw [x_id_eq]; unfold x_idO; simp)
        have hX1 : y_ti σ1 θ 0 = (X.length : Int) := by
          unfold y_ti
          rw [h0]
          try dsimp only
          rw [y_ev_b, hM.1 0 hX0, hX]
        obtain ⟨h1, v, r1, r2, r3, P, hP, τ, τr, k1, k2, k3, k4, k5⟩ := hCT _ (List.mem_of_getElem? hc) (y_ti σ1 θ) (y_tr ρ1 θ) _ h hXl hX1 hH qP (fra - 1) (loa - (mx + 19)) own na mx rt stt ini cd hy (by dsimp only; omega) (by dsimp only; omega)
        try dsimp only at r1 r3 k1 k2 k3 k4 k5 hP
        obtain ⟨l0, g1, g2⟩ := y_apps hP hx
        have qc : y_S Γ J (x_lc S1 S.2.2.2.1) σ1 ρ1 ls (st.take na).reverse h := q1.loc (q.2.2.2.1.ext hM.1 hM.2.1 hM.2.2.1 hM.2.2.2)
        have hlt : ∀ {α : Type} {L : List (Option α)} {b : Nat}, b < L.length → ∃ o, L[b]? = some o := fun hb => ⟨_, List.getElem?_eq_getElem hb⟩
        have bound1 : ∀ b, b < P0.1.length → ∃ f, θ.1[b]? = some (some f) := by
          intro b hb
          unfold x_mat at hm
          split at hm
          · cases hm
          · split at hm
            · cases hm
            · split at hm
              · cases hm
              split at hm
              · cases hm
              · split at hm
                · cases hm
                · split at hm
                  · next hcc =>
                    cases hm
                    simp only [Bool.and_eq_true] at hcc
                    obtain ⟨w, w1, -⟩ := (y_ckI q1 hcc.1.1 (fun b f hf => th1.1 b f hf)).2 b _ (List.getElem?_eq_getElem hb)
                    exact ⟨w, w1⟩
                  · cases hm
        have bound2 : ∀ b, b < P0.2.1.length → ∃ f, θ.2[b]? = some (some f) := by
          intro b hb
          unfold x_mat at hm
          split at hm
          · cases hm
          · split at hm
            · cases hm
            · split at hm
              · cases hm
              split at hm
              · cases hm
              · split at hm
                · cases hm
                · split at hm
                  · next hcc =>
                    cases hm
                    simp only [Bool.and_eq_true] at hcc
                    obtain ⟨w, w1, -⟩ := (y_ckR q1 hcc.1.2).2 b _ (List.getElem?_eq_getElem hb)
                    exact ⟨w, w1⟩
                  · cases hm
        obtain ⟨S2, g3, g4⟩ := y_app hTC qc hH r2 (P := P) (v := v.toList) r3 th1 l1 l2 k3 k4 (τ := τ) (τr := τr) (fun b hb => by
          obtain ⟨f, hf⟩ := bound1 b hb
          refine ⟨f, hf, ?_⟩
          rw [k1 b hb]
          unfold y_ti
          rw [hf]) (fun r hr => by
          obtain ⟨w, hw⟩ := bound2 r hr
          refine ⟨w, hw, ?_⟩
          rw [k2 r hr]
          unfold y_tr
          rw [hw]) k5 (t2.ext hM.1 hM.2.1 hM.2.2.1 hM.2.2.2) g1
        obtain ⟨σ2, ρ2, g5, g6⟩ := g4
        refine ⟨by omega, by omega, by omega, by rw [e2]; exact d6, y_recv q hH t1.rev c8, ?_, h1, v, fun f hf => mrunG_more r1 f (by omega), r2, r3.mono c10, S2, g2 S2 g3, σ2, ρ2, g5, hM.trans g6⟩
        rw [mEnt_cat, List.map_reverse, List.sum_reverse, e1]
        exact d9
      · cases hx
    · cases hx
  · cases hx
theorem y_cpl {xs ys : List Int32} {s d n c : Nat} (h1 : s + n ≤ xs.length) (h2 : d + n ≤ ys.length) (h3 : s ≤ c) (h4 : c < s + n) : (ys.take d ++ (xs.drop s).take n ++ ys.drop (d + n))[c - s + d]? = xs[c]? := by
  have l1 : (ys.take d).length = d := by rw [List.length_take]; omega
  have l2 : ((xs.drop s).take n).length = n := by rw [List.length_take, List.length_drop]; omega
  rw [List.append_assoc, List.getElem?_append_right (by omega), l1, List.getElem?_append_left (by omega), List.getElem?_take_of_lt (by omega), List.getElem?_drop]
  congr 1
  omega
/-- what is known of the places copied -/
theorem y_cpf (q : y_S Γ J S σ ρ ls st h) {a b ca cb : Nat} {sp dp n : zL} {js jd jn : Int32} {xs ys zs : List Int32} (hsp : y_E S.1.length σ sp js.toInt) (hdp : y_E S.1.length σ dp jd.toInt) (hn : y_E S.1.length σ n jn.toInt) (hb : b < S.2.1.length) (ha1 : ρ a = some ca) (hb1 : ρ b = some cb) (ha5 : h[ca]? = some (.inr (0, .inl xs))) (hlt : cb < h.length)
    (hc : 0 ≤ js.toInt ∧ 0 ≤ jd.toInt ∧ 0 ≤ jn.toInt ∧ js.toNatClampNeg + jn.toNatClampNeg ≤ xs.length ∧ jd.toNatClampNeg + jn.toNatClampNeg ≤ ys.length) (hzs : ys.take jd.toNatClampNeg ++ (xs.drop js.toNatClampNeg).take jn.toNatClampNeg ++ ys.drop (jd.toNatClampNeg + jn.toNatClampNeg) = zs) {f : zFa} (hf : f ∈ x_cpf a b sp dp n S.2.2.2.2.2.1) :
    y_F S.1.length S.2.1.length σ ρ (h.set cb (.inr (0, .inl zs))) f := by
  unfold x_cpf at hf
  split at hf
  case h_2 => cases hf
  next hem =>
  simp only [Bool.and_eq_true, List.isEmpty_iff] at hem
  obtain ⟨⟨e1, e2⟩, e3⟩ := hem
  have k1 : sp.1 = js.toInt := by have := hsp.2; unfold y_ev at this; rw [e1] at this; simpa [y_el] using this
  have k2 : dp.1 = jd.toInt := by have := hdp.2; unfold y_ev at this; rw [e2] at this; simpa [y_el] using this
  have k3 : n.1 = jn.toInt := by have := hn.2; unfold y_ev at this; rw [e3] at this; simpa [y_el] using this
  obtain ⟨g, g1, g2⟩ := List.mem_filterMap.mp hf
  unfold x_cp1 at g2
  split at g2
  case h_2 => cases g2
  next hcc =>
  cases g2
  simp only [Bool.and_eq_true, List.isEmpty_iff] at hcc
  obtain ⟨⟨⟨⟨⟨c1, c2⟩, c3⟩, c4⟩, c5⟩, c6⟩ := hcc
  have d1 : g.1 = a := Nat.eq_of_beq_eq_true c1
  have d4 : g.2.2.1 = 0 := Nat.eq_of_beq_eq_true c4
  have d5 := zge_iff.mp c5
  have d6 := zge_iff.mp c6
  obtain ⟨f1, f2, f3⟩ := q.2.2.2.2.2.1 g g1
  have f4 := f3 ca (by rw [d1]; exact ha1)
  rw [c2] at f4
  obtain ⟨f5, f6, -⟩ := f4
  have ec : y_ev σ g.2.1.2.2 = g.2.1.2.2.1 := by unfold y_ev; rw [c3]; simp [y_el]
  rw [ec] at f5 f6
  obtain ⟨i, i1, i2⟩ := f6 0 xs ha5
  have nn : ∀ z : Int32, 0 ≤ z.toInt → (z.toNatClampNeg : Int) = z.toInt := fun z hz => by
    show ((z.toInt.toNat : Nat) : Int) = z.toInt
    omega
  have n1 := nn js hc.1
  have n2 := nn jd hc.2.1
  have n3 := nn jn hc.2.2.1
  refine ⟨hb, y_in_k _, fun a' ha' => ?_⟩
  rw [hb1] at ha'
  cases ha'
  try dsimp only
  rw [y_ev_k]
  refine ⟨by omega, fun t xs' hx => ?_, fun t xs' hx => ?_⟩
  · rw [List.getElem?_set_self hlt] at hx
    cases hx
    refine ⟨i, ?_, i2⟩
    rw [← hzs, show (g.2.1.2.2.1 - sp.1 + dp.1).toNat = g.2.1.2.2.1.toNat - js.toNatClampNeg + jd.toNatClampNeg by omega, y_cpl hc.2.2.2.1 hc.2.2.2.2 (by omega) (by omega)]
    exact i1
  · rw [List.getElem?_set_self hlt] at hx
    cases hx
theorem y_jdk {TC : zTC} (hTC : y_TC Γ LT J TC) (q : y_S Γ J S σ ρ ls st h) (hH : y_H Γ LT h) {cl : List zKey} {k : Nat} {S1 : zS} (hx : x_jdk LT TC cl k S = some S1) : ∃ st' h', mJdk k st h = some (st', h') ∧ y_N Γ J S σ ρ S1 ls st' h' ∧ y_H Γ LT h' ∧ y_Fr Γ cl h h' := by
  have hT := q.2.2.2.2.1
  unfold x_jdk at hx
  try simp only [x_nth_eq, x_gt_eq, x_sst_eq, xl_any_eq, xl_all_eq, xl_fr_eq, xl_fl_eq] at hx
  split at hx
  · next _ n _ dp b _ _ sp a _ t heq =>
    rw [heq] at hT
    obtain ⟨x1, t1, rfl, ⟨jn, rfl, hn⟩, hT1⟩ := hT.cons
    obtain ⟨x2, t2, rfl, ⟨jd, rfl, hdp⟩, hT2⟩ := hT1.cons
    obtain ⟨x3, t3, rfl, ⟨hrb, rfl⟩, hT3⟩ := hT2.cons
    obtain ⟨x4, t4, rfl, ⟨js, rfl, hsp⟩, hT4⟩ := hT3.cons
    obtain ⟨x5, t5, rfl, ⟨hra, rfl⟩, hT5⟩ := hT4.cons
    try dsimp only at hn hdp hsp hra hrb ⊢
    split at hx
    · next lab bb l1 tt1 l2 tt2 hr hla hlb =>
      split at hx
      · next hc =>
        cases hx
        simp only [Bool.and_eq_true] at hc
        obtain ⟨⟨⟨⟨⟨⟨⟨⟨⟨c1, c2⟩, c3⟩, c4⟩, c5⟩, c6⟩, c7⟩, c8⟩, c9⟩, c10⟩ := hc
        have d1 := q.has hsp c1
        have d2 := q.has hdp c2
        have d3 := q.has hn c3
        have d4 := q.has ((hsp.add hn).neg.inc (l1 : Int)) c4
        have d5 := q.has ((hdp.add hn).neg.inc (l2 : Int)) c5
        have z1 : tt1.1 = 0 := Nat.eq_of_beq_eq_true c6
        have z2 : tt2.1 = 0 := Nat.eq_of_beq_eq_true c7
        have z3 := zge_iff.mp c8
        have z4 := zge_iff.mp c9
        obtain ⟨aa, la, ca, ha1, ha2, ha3, ha4, ha5, ha6⟩ := y_lab q hH hla
        obtain ⟨ab, lb, cb, hb1, hb2, hb3, hb4, hb5, hb6⟩ := y_lab q hH hlb
        rw [hr] at hb2
        cases hb2
        obtain ⟨xs, rfl, ea1, ea2, ea3⟩ := ha6
        obtain ⟨ys, rfl, eb1, eb2, eb3⟩ := hb6
        try dsimp only at ea1 ea3 eb1 eb3
        have nn : ∀ z : Int32, 0 ≤ z.toInt → (z.toNatClampNeg : Int) = z.toInt := fun z hz => by
          show ((z.toInt.toNat : Nat) : Int) = z.toInt
          omega
        have n1 := nn js d1
        have n2 := nn jd d2
        have n3 := nn jn d3
        have hcnd : 0 ≤ js.toInt ∧ 0 ≤ jd.toInt ∧ 0 ≤ jn.toInt ∧ js.toNatClampNeg + jn.toNatClampNeg ≤ xs.length ∧ jd.toNatClampNeg + jn.toNatClampNeg ≤ ys.length := ⟨d1, d2, d3, by omega, by omega⟩
        generalize hzs : ys.take jd.toNatClampNeg ++ (xs.drop js.toNatClampNeg).take jn.toNatClampNeg ++ ys.drop (jd.toNatClampNeg + jn.toNatClampNeg) = zs
        have hlen : zs.length = ys.length := by
          rw [← hzs]
          simp only [List.length_append, List.length_take, List.length_drop]
          omega
        have hel : ∀ (j : Nat) (i : Int32), zs[j]? = some i → tt2.2.1 ≤ i.toInt ∧ i.toInt ≤ tt2.2.2 := by
          intro j i hj
          have hmem : i ∈ zs := List.mem_of_getElem? hj
          rw [← hzs] at hmem
          have fromY : i ∈ ys → tt2.2.1 ≤ i.toInt ∧ i.toInt ≤ tt2.2.2 := fun hy => by
            obtain ⟨k, hk⟩ := List.getElem?_of_mem hy
            exact eb3 k i hk tt2 (by simp [Nat.mod_one]) z2
          rcases List.mem_append.mp hmem with hm | hm
          · rcases List.mem_append.mp hm with hm | hm
            · exact fromY (List.mem_of_mem_take hm)
            · obtain ⟨k, hk⟩ := List.getElem?_of_mem (List.mem_of_mem_drop (List.mem_of_mem_take hm))
              have := ea3 k i hk tt1 (by simp [Nat.mod_one]) z1
              omega
          · exact fromY (List.mem_of_mem_drop hm)
        have hH2 : y_H Γ LT (h.set ab (.inr (0, .inl zs))) := hH.set fun l' lab' g1 g2 => by
          rw [hb3] at g1
          cases g1
          rw [hb4] at g2
          cases g2
          exact ⟨zs, rfl, by rw [hlen]; exact eb1, by rw [hlen]; exact eb2, fun k i hk ft hft h0 => by
            have e : ft = tt2 := by
              simp [Nat.mod_one] at hft
              exact hft.symm
            rw [e]
            exact hel k i hk⟩
        have hlt : ab < h.length := (List.getElem?_eq_some_iff.mp hb5).1
        have hF : y_Fr Γ [(lab, true, 0)] h (h.set ab (.inr (0, .inl zs))) := by
          refine ⟨List.length_set, fun i l d hl' hd => ?_⟩
          by_cases e : ab = i
          · subst e
            rw [hb5] at hd
            cases hd
            rw [hb3] at hl'
            cases hl'
            refine ⟨_, List.getElem?_set_self hlt, ⟨_, rfl⟩, fun hk => ?_⟩
            rw [x_kin_eq] at hk
            simp [x_kinO] at hk
          · refine ⟨d, by rw [List.getElem?_set_ne e]; exact hd, ?_⟩
            rcases d with ⟨ci, fs⟩ | ⟨t, arr⟩
            · exact ⟨fs, rfl, rfl, fun _ _ => rfl⟩
            · exact ⟨⟨arr, rfl⟩, fun _ => rfl⟩
        refine ⟨t5, h.set ab (.inr (0, .inl zs)), ?_, ⟨σ, ρ, ⟨q.1, q.2.1, q.2.2.1, q.2.2.2.1, hT5, fun f hf => (List.mem_append.mp hf).elim (fun hf => y_cpf q hsp hdp hn hrb ha1 hb1 ha5 hlt hcnd hzs hf) (fun hf => x_key_keep q hF hf), fun tg ht => ?_⟩, .of rfl rfl⟩, hH2, hF.mono (by simp only [List.all_cons, List.all_nil, Bool.and_true]; exact c10)⟩
        · simp only [mJdk, ha1, hb1, ha5, hb5]
          rw [if_pos hcnd, hzs]
        · obtain ⟨g1, g2⟩ := List.mem_filter.mp ht
          obtain ⟨k1, k2⟩ := q.2.2.2.2.2.2 tg g1
          exact ⟨k1, hTC tg _ h _ _ g2 hH hH2 hF k2⟩
      · cases hx
    · cases hx
  · next _ f _ e t heq =>
    rw [heq] at hT
    obtain ⟨x1, t1, rfl, ⟨jn, rfl, hf⟩, hT1⟩ := hT.cons
    obtain ⟨x2, t2, rfl, ⟨jd, rfl, he⟩, hT2⟩ := hT1.cons
    try dsimp only at hf he
    have lt : jd < jn ↔ jd.toInt < jn.toInt := Int32.lt_iff_toInt_lt
    split at hx
    · next h1 =>
      cases hx
      have g1 := q.has (he.sub hf) h1
      refine ⟨_, h, rfl, .of (q.stk ⟨⟨_, rfl, ?_⟩, hT2⟩) (.of rfl rfl), hH, y_Fr.refl⟩
      rw [if_neg (fun c => by have := lt.mp c; omega)]
      exact he
    · next h1 h2 =>
      cases hx
      have g1 := q.has (hf.sub he) h2
      refine ⟨_, h, rfl, .of (q.stk ⟨⟨_, rfl, ?_⟩, hT2⟩) (.of rfl rfl), hH, y_Fr.refl⟩
      by_cases c : jd < jn
      · rw [if_pos c]
        exact hf
      · rw [if_neg c]
        have c2 : ¬ jd.toInt < jn.toInt := fun z => c (lt.mpr z)
        rw [show jd.toInt = jn.toInt by omega]
        exact hf
    cases hx
    refine ⟨_, h, rfl, .ofI (y_int q ?_ hT2), hH, y_Fr.refl⟩
    have a := q.rg he
    have b := q.rg hf
    constructor
    · try dsimp only
      by_cases c : jd < jn
      · rw [if_pos c]
        have := lt.mp c
        split
        · omega
        · omega
      · rw [if_neg c]
        have : ¬ jd.toInt < jn.toInt := fun z => c (lt.mpr z)
        split
        · omega
        · omega
    · try dsimp only
      by_cases c : jd < jn
      · rw [if_pos c]
        have := lt.mp c
        split
        · next hz => have := zge_iff.mp hz; omega
        · omega
      · rw [if_neg c]
        have : ¬ jd.toInt < jn.toInt := fun z => c (lt.mpr z)
        split
        · omega
        · next hz =>
          have : ¬ 0 ≤ x_hi S.1 e - x_hi S.1 f := fun z => by rw [zge_iff.mpr z] at hz; cases hz
          omega
  · next _ f _ e t heq =>
    rw [heq] at hT
    obtain ⟨x1, t1, rfl, ⟨jn, rfl, hf⟩, hT1⟩ := hT.cons
    obtain ⟨x2, t2, rfl, ⟨jd, rfl, he⟩, hT2⟩ := hT1.cons
    try dsimp only at hf he
    have lt : jn < jd ↔ jn.toInt < jd.toInt := Int32.lt_iff_toInt_lt
    split at hx
    · next h1 =>
      cases hx
      have g1 := q.has (hf.sub he) h1
      refine ⟨_, h, rfl, .of (q.stk ⟨⟨_, rfl, ?_⟩, hT2⟩) (.of rfl rfl), hH, y_Fr.refl⟩
      rw [if_neg (fun c => by have := lt.mp c; omega)]
      exact he
    · next h1 h2 =>
      cases hx
      have g1 := q.has (he.sub hf) h2
      refine ⟨_, h, rfl, .of (q.stk ⟨⟨_, rfl, ?_⟩, hT2⟩) (.of rfl rfl), hH, y_Fr.refl⟩
      by_cases c : jn < jd
      · rw [if_pos c]
        exact hf
      · rw [if_neg c]
        have c2 : ¬ jn.toInt < jd.toInt := fun z => c (lt.mpr z)
        rw [show jd.toInt = jn.toInt by omega]
        exact hf
    cases hx
    refine ⟨_, h, rfl, .ofI (y_int q ?_ hT2), hH, y_Fr.refl⟩
    have a := q.rg he
    have b := q.rg hf
    constructor
    · try dsimp only
      by_cases c : jn < jd
      · rw [if_pos c]
        have := lt.mp c
        split
        · next hz => have := zge_iff.mp hz; omega
        · omega
      · rw [if_neg c]
        have : ¬ jn.toInt < jd.toInt := fun z => c (lt.mpr z)
        split
        · omega
        · next hz =>
          have : ¬ 0 ≤ x_lo S.1 f - x_lo S.1 e := fun z => by rw [zge_iff.mpr z] at hz; cases hz
          omega
    · try dsimp only
      by_cases c : jn < jd
      · rw [if_pos c]
        have := lt.mp c
        split
        · omega
        · omega
      · rw [if_neg c]
        have : ¬ jn.toInt < jd.toInt := fun z => c (lt.mpr z)
        split
        · omega
        · omega
  · cases hx
end ZSA
end
