noncomputable section
/-! ===== the reader is right: one instruction, all roads, a whole method ===== -/
section ZSB
variable {Γ : List Nat} {LT : List zLab} {J : Nat → List Int → mH → Prop} {σ σ' : Nat → Int} {ρ ρ' : Nat → Option Nat} {S S' : zS} {h h' : mH} {ls : mL} {st : List mV} {X : List Int32}
/-- where an instruction leads: the machine's run there is the run from here, one step more -/
def y_Go (Γ : List Nat) (LT : List zLab) (J : Nat → List Int → mH → Prop) (X : List Int32) (K fra loa mid : Nat) (cl : List zKey) (S : zS) (σ : Nat → Int) (ρ : Nat → Option Nat) (l : List (Nat × zS)) (pc : Nat) (ls : mL) (st : List mV) (h : mH) : Prop :=
  ∃ (pc' : Nat) (ls' : mL) (st' : List mV) (h' : mH) (S1 : zS) (σ' : Nat → Int) (ρ' : Nat → Option Nat), (pc', S1) ∈ l ∧ y_S Γ J S1 σ' ρ' ls' st' h' ∧ y_M S S1 σ σ' ρ ρ' ∧ y_H Γ LT h' ∧ y_Fr Γ cl h h' ∧
    ∀ (f : Nat) (r : mH × Option mV), K ≤ f → mrunG (mXA X) f fra loa mid pc' ls' st' h' = some r → mrunG (mXA X) (f + 1) fra loa mid pc ls st h = some r
theorem y_step {own na mx rt mid len pc pc' K fra loa : Nat} {stt ini : Bool} {cd : List (Nat × Jvm.ClassFile.Instr × Nat)} {i : Jvm.ClassFile.Instr} {ls' : mL} {st' : List mV} (hme : mME mid = some (own, stt, na, mx, rt, ini, cd)) (hcd : cd.lookup pc = some (i, len)) (hr : mRet rt i st = none) (hi : mInv i = none) (hs : mStepG (mXA X) own ini i len pc ls st h = some (pc', ls', st', h')) :
    ∀ (f : Nat) (r : mH × Option mV), K ≤ f → mrunG (mXA X) f fra loa mid pc' ls' st' h' = some r → mrunG (mXA X) (f + 1) fra loa mid pc ls st h = some r := by
  intro f r _ q
  unfold mrunG
  rw [hme]
  try dsimp only
  rw [hcd]
  try dsimp only
  rw [hr]
  try dsimp only
  rw [hi]
  try dsimp only
  rw [hs]
  exact q
/-- which instructions the small machine takes by which of its parts -/
theorem mS_ld {i : Jvm.ClassFile.Instr} {k kd n : Nat} (h : mLd i = some (k, kd, n)) : mS i st = none := by
  unfold mLd at h
  split at h <;> first | rfl | cases h
theorem mS_st {i : Jvm.ClassFile.Instr} {k kd n : Nat} (h : mSt i = some (k, kd, n)) : mS i st = none ∧ mLd i = none := by
  unfold mSt at h
  split at h <;> first | exact ⟨rfl, rfl⟩ | cases h
theorem mS_br {i : Jvm.ClassFile.Instr} {len pc t : Nat} {st' : List mV} (h : mBr i len pc st = some (t, st')) : mS i st = none ∧ mLd i = none ∧ mSt i = none := by
  unfold mBr at h
  split at h <;> first | exact ⟨rfl, rfl, rfl⟩ | cases h
theorem mS_geta {XA : Nat → Option (Nat × List Int32)} {i : Jvm.ClassFile.Instr} {len pc : Nat} {st' : List mV} (hg : mGetA XA i st h = some st') : mS i st = none ∧ mLd i = none ∧ mSt i = none ∧ mBr i len pc st = none := by
  unfold mGetA at hg
  split at hg <;> first | exact ⟨rfl, rfl, rfl, rfl⟩ | cases hg
theorem mS_puta {XA : Nat → Option (Nat × List Int32)} {cs : Nat} {i : Jvm.ClassFile.Instr} {len pc : Nat} {st' : List mV} (hg : mPutA cs i st h = some (st', h')) : mS i st = none ∧ mLd i = none ∧ mSt i = none ∧ mBr i len pc st = none ∧ mGetA XA i st h = none := by
  unfold mPutA at hg
  split at hg <;> first | exact ⟨rfl, rfl, rfl, rfl, rfl⟩ | cases hg
theorem mS_ldc {XA : Nat → Option (Nat × List Int32)} {cs : Nat} {nf : Nat → Option (List FieldType)} {cp : Nat → Option mP} {i : Jvm.ClassFile.Instr} {len pc n : Nat} {v : mV} (hg : mLdc cp i = some (n, v)) : mS i st = none ∧ mLd i = none ∧ mSt i = none ∧ mBr i len pc st = none ∧ mGetA XA i st h = none ∧ mPutA cs i st h = none ∧ mNew cs nf cp i st h = none := by
  unfold mLdc at hg
  split at hg <;> first | exact ⟨rfl, rfl, rfl, rfl, rfl, rfl, rfl⟩ | cases hg
theorem mRet_inv {rt idx kd : Nat} {i : Jvm.ClassFile.Instr} (h : mInv i = some (idx, kd)) : mRet rt i st = none := by
  unfold mInv at h
  split at h <;> first | rfl | cases h
theorem x_ret_none {rt : Nat} {i : Jvm.ClassFile.Instr} (hx : x_ret rt i S = none) : mRet rt i st = none := by
  cases i <;> first | rfl | (exfalso; unfold x_ret at hx; split at hx <;> simp_all)
theorem x_sk_some {α : Type} {c m : Nat} {v : Option α} {a : α} (hx : x_sk c m v = some a) : v = some a := by
  unfold x_sk at hx
  split at hx
  · exact hx
  · split at hx
    · exact hx
    · cases hx
theorem x_sk_inv (i : Jvm.ClassFile.Instr) : x_sk (x_cls i) 10 (mInv i) = mInv i := by
  cases i <;> rfl
theorem x_sk_ret (rt : Nat) (i : Jvm.ClassFile.Instr) (S : zS) : x_sk (x_cls i) 11 (x_ret rt i S) = x_ret rt i S := by
  cases i <;> rfl
theorem y_exec (hJ : y_J X J) {TS : zTS} {TC : zTC} (hTS : y_TS Γ LT J TS) (hTC : y_TC Γ LT J TC) {CT : List zCtx} (hCT : ∀ c ∈ CT, y_Snd Γ LT J X c) (q : y_S Γ J S σ ρ ls st h) (hH : y_H Γ LT h) (hX : σ 0 = (X.length : Int)) (hX0 : 0 < S.1.length) (hXl : X.length ≤ 3072) {cl : List zKey} {fr lo K own na mx rt mid pc len fra loa : Nat} {stt ini : Bool} {cd : List (Nat × Jvm.ClassFile.Instr × Nat)} {cs : List (Nat × List Nat)} {i : Jvm.ClassFile.Instr} {l : List (Nat × zS)} (hme : mME mid = some (own, stt, na, mx, rt, ini, cd)) (hcd : cd.lookup pc = some (i, len)) (hret : x_ret rt i S = none) (hfr : fr ≤ fra) (hlo : lo ≤ loa) (hx : x_exec LT CT TS TC cl fr lo K own cs i len pc S = some l) :
    y_Go Γ LT J X K fra loa mid cl S σ ρ l pc ls st h := by
  have hr := x_ret_none (st := st) hret
  unfold x_exec at hx
  simp only [x_fn_eq, x_sk_inv] at hx
  try simp only [x_nth_eq, x_gt_eq, x_sst_eq, xl_any_eq, xl_all_eq, xl_fr_eq, xl_fl_eq] at hx
  rw [mCPf_eq] at hx
  split at hx
  · next idx kd hi =>
    split at hx
    · next qq w hcp hl3 =>
      have l3 : len = 3 := Nat.eq_of_beq_eq_true hl3
      split at hx
      · next hc =>
        simp only [Bool.and_eq_true] at hc
        obtain ⟨⟨⟨⟨c1, c2⟩, c3⟩, c4⟩, c5⟩ := hc
        simp only [Option.map_eq_some_iff] at hx
        obtain ⟨S1, h1, rfl⟩ := hx
        obtain ⟨st', h', g1, ⟨σ', ρ', g2, g3⟩, g4, g5⟩ := y_jdk hTC q hH h1
        refine ⟨pc + 3, ls, st', h', S1, σ', ρ', List.mem_cons_self, g2, g3, g4, g5, fun f r _ qr => ?_⟩
        unfold mrunG
        rw [hme]
        try dsimp only
        rw [hcd]
        try dsimp only
        rw [hr]
        try dsimp only
        rw [hi]
        try dsimp only
        simp only [hcp]
        have z1 := zz_iff.mp c1
        have z2 : 1 ≤ fr := Nat.le_of_ble_eq_true c2
        have z3 : 64 ≤ lo := Nat.le_of_ble_eq_true c3
        have z4 : (S.2.2.2.2.1.map x_cat).sum ≤ 16 := Nat.le_of_ble_eq_true c4
        rw [if_pos ⟨l3, by omega, by omega, by omega, by rw [y_cats q.2.2.2.2.1 c5]; exact z4⟩, g1]
        exact qr
      · cases hx
    · next y kk hcp hl3 =>
      have l3 : len = 3 := Nat.eq_of_beq_eq_true hl3
      split at hx
      · next own' s' na' mx' rt' ini' cd' hy =>
        split at hx
        · next lc hlc =>
          simp only [Option.map_eq_some_iff] at hx
          obtain ⟨l1, h1, rfl⟩ := hx
          obtain ⟨c, -, hc⟩ := x_first_mem h1
          obtain ⟨a1, a2, a3, a4, a5, a6, hh, v, b1, b2, b3, S1, b4, σ', ρ', b5, b6⟩ := y_call1 hTC hCT q hH hX hX0 hXl hy hfr hlo hc
          refine ⟨pc + 3, ls, _, hh, S1, σ', ρ', List.mem_map.mpr ⟨S1, b4, rfl⟩, b5, b6, b2, b3, fun f r hf qr => ?_⟩
          unfold mrunG
          rw [hme]
          try dsimp only
          rw [hcd]
          try dsimp only
          rw [hr]
          try dsimp only
          rw [hi]
          try dsimp only
          simp only [hcp, hy]
          rw [if_pos ⟨l3, a1, a2, a3, a4, a5, a6⟩, b1 f hf]
          exact qr
        · cases hx
      · cases hx
    · cases hx
  · next hi =>
    split at hx
    · next l' hand =>
      have hand := x_sk_some hand
      cases hx
      obtain ⟨st', g1, g2, S1, g3, σ', ρ', g4, g5⟩ := y_and q hand
      refine ⟨pc + 1, ls, st', h, S1, σ', ρ', g3, g4, g5, hH, y_Fr.refl, y_step hme hcd hr hi ?_⟩
      unfold mStepG
      rw [g1]
      try dsimp only
      rw [if_pos g2.symm, g2]
    · split at hx
      · next l' hand =>
        have hand := x_sk_some hand
        cases hx
        obtain ⟨st', g1, g2, S1, g3, σ', ρ', g4, g5⟩ := y_lcmp q hand
        refine ⟨pc + 1, ls, st', h, S1, σ', ρ', g3, g4, g5, hH, y_Fr.refl, y_step hme hcd hr hi ?_⟩
        unfold mStepG
        rw [g1]
        try dsimp only
        rw [if_pos g2.symm, g2]
      · split at hx
        · next n S1 hs1 =>
          have hs1 := x_sk_some hs1
          split at hx
          · next hn =>
            cases hx
            have en : n = len := Nat.eq_of_beq_eq_true hn
            obtain ⟨st', g1, σ', ρ', g2, g3⟩ := y_s1 hJ q hs1
            refine ⟨pc + len, ls, st', h, S1, σ', ρ', List.mem_cons_self, g2, g3, hH, y_Fr.refl, y_step hme hcd hr hi ?_⟩
            unfold mStepG
            rw [g1]
            try dsimp only
            rw [if_pos en]
          · cases hx
        · split at hx
          · next k kd n hld =>
            have hld := x_sk_some hld
            split at hx
            · next v hv =>
              split at hx
              · next hc =>
                cases hx
                simp only [Bool.and_eq_true] at hc
                have en : n = len := Nat.eq_of_beq_eq_true hc.2
                obtain ⟨y, g1, g2, g3⟩ := y_ld q hv hc.1
                refine ⟨pc + len, ls, y :: st, h, _, σ, ρ, List.mem_cons_self, g3, .of rfl rfl, hH, y_Fr.refl, y_step hme hcd hr hi ?_⟩
                unfold mStepG
                rw [mS_ld hld, hld]
                try dsimp only
                rw [g1]
                try dsimp only
                rw [if_pos ⟨g2, en⟩]
              · cases hx
            · cases hx
          · next hld0 =>
            split at hx
            · next k kd n hst =>
              have hst := x_sk_some hst
              split at hx
              · next v r heq =>
                split at hx
                · next hc =>
                  simp only [Bool.and_eq_true] at hc
                  have en : n = len := Nat.eq_of_beq_eq_true hc.2
                  simp only [Option.map_eq_some_iff] at hx
                  obtain ⟨S1, hp, rfl⟩ := hx
                  obtain ⟨y, t, rfl, g1, g2, g3, g4⟩ := y_put q heq hc.1 hp
                  refine ⟨pc + len, _, t, h, S1, σ, ρ, List.mem_cons_self, g3, g4, hH, y_Fr.refl, y_step hme hcd hr hi ?_⟩
                  unfold mStepG
                  rw [(mS_st hst).1, (mS_st (st := []) hst).2, hst]
                  try dsimp only
                  rw [if_pos ⟨g1, en⟩]
                  by_cases ek : kd = 1
                  · rw [if_pos ek] at g2 ⊢
                    rw [if_pos ek, if_pos g2]
                  · rw [if_neg ek] at g2 ⊢
                    rw [if_neg ek, if_pos g2]
                · cases hx
              · cases hx
            · next hst0 =>
              split at hx
              · next l' hbr =>
                have hbr := x_sk_some hbr
                cases hx
                obtain ⟨t, st', g1, S1, g2, σ', ρ', g3, g4⟩ := y_br q hbr
                refine ⟨t, ls, st', h, S1, σ', ρ', g2, g3, g4, hH, y_Fr.refl, y_step hme hcd hr hi ?_⟩
                unfold mStepG
                rw [(mS_br g1).1, (mS_br g1).2.1, (mS_br g1).2.2, g1]
              · split at hx
                · next S1 hga =>
                  have hga := x_sk_some hga
                  split at hx
                  · next hl1 =>
                    cases hx
                    have el : len = 1 := Nat.eq_of_beq_eq_true hl1
                    obtain ⟨st', g1, σ', ρ', g2, g3⟩ := y_geta hJ q hH hX hX0 (by omega) hga
                    refine ⟨pc + 1, ls, st', h, S1, σ', ρ', List.mem_cons_self, g2, g3, hH, y_Fr.refl, y_step hme hcd hr hi ?_⟩
                    have m := mS_geta (len := len) (pc := pc) g1
                    unfold mStepG
                    rw [m.1, m.2.1, m.2.2.1, m.2.2.2, g1]
                    try dsimp only
                    rw [if_pos el]
                  · cases hx
                · split at hx
                  · next S1 hpa =>
                    have hpa := x_sk_some hpa
                    split at hx
                    · next hl1 =>
                      cases hx
                      have el : len = 1 := Nat.eq_of_beq_eq_true hl1
                      obtain ⟨st', h', g1, g2, g3, g4, g5⟩ := y_puta hTS q hH hpa
                      refine ⟨pc + 1, ls, st', h', S1, σ, ρ, List.mem_cons_self, g2, g3, g4, g5, y_step hme hcd hr hi ?_⟩
                      have m := mS_puta (XA := mXA X) (len := len) (pc := pc) g1
                      unfold mStepG
                      rw [m.1, m.2.1, m.2.2.1, m.2.2.2.1, m.2.2.2.2, g1]
                      try dsimp only
                      rw [if_pos el]
                    · cases hx
                  · split at hx
                    · next n v hlc =>
                      have hlc := x_sk_some hlc
                      split at hx
                      · next hn =>
                        cases hx
                        have en : n = len := Nat.eq_of_beq_eq_true hn
                        obtain ⟨x, g1, g2⟩ := y_ldc q hlc
                        refine ⟨pc + len, ls, x :: st, h, _, σ, ρ, List.mem_cons_self, g2, .of rfl rfl, hH, y_Fr.refl, y_step hme hcd hr hi ?_⟩
                        have m := mS_ldc (st := st) (h := h) (XA := mXA X) (cs := 8) (nf := mNF) (len := len) (pc := pc) g1
                        unfold mStepG
                        rw [m.1, m.2.1, m.2.2.1, m.2.2.2.1, m.2.2.2.2.1, m.2.2.2.2.2.1, m.2.2.2.2.2.2, g1]
                        try dsimp only
                        rw [if_pos en]
                      · cases hx
                    · split at hx
                      · next k n _ _ _ _ _ _ _ =>
                        split at hx
                        · next nn e hloc hl3 =>
                          simp only [Bool.and_eq_true] at hl3
                          have el : len = 3 := Nat.eq_of_beq_eq_true hl3.1.1
                          have n1 := zge_iff.mp hl3.1.2
                          have n2 := zge_iff.mp hl3.2
                          obtain ⟨y, g1, g2⟩ := q.2.2.2.1.2 k _ hloc rfl
                          obtain ⟨x, rfl, g3⟩ := g2
                          try dsimp only at g3
                          obtain ⟨σ', g4, g5⟩ := y_lin (i := x + Int32.ofInt n) (r := []) (r' := []) q (g3.inc n) (fun a b => by
                            have e1 := i32_ofInt_small (k := n) (by omega) (by omega)
                            rw [Jvm.Kit.i32_add (by omega) (by omega), e1]) trivial
                          generalize hA : x_lin S (x_inc n e) [] = A at hx g4 g5
                          try dsimp only at hx
                          split at hx
                          · next v r heq =>
                            cases hx
                            have hv := g4.2.2.2.2.1
                            rw [heq] at hv
                            obtain ⟨z, zr, ez, hv1, -⟩ := hv.cons
                            cases ez
                            have hc := y_cl g4.2.2.2.1 k
                            have g6 : y_S Γ J (x_st (x_lc A (x_p1 A.2.2.2.1 k v)) S.2.2.2.2.1) σ' ρ (mput1 ls k (mI (x + Int32.ofInt n))) st h := (g4.loc (y_Lset hc (fun _ => ⟨_, rfl, hv1⟩))).stk (q.2.2.2.2.1.ext g5.1 g5.2.1 g5.2.2.1 g5.2.2.2)
                            refine ⟨pc + 3, _, st, h, _, σ', ρ, List.mem_cons_self, g6, g5, hH, y_Fr.refl, y_step hme hcd hr hi ?_⟩
                            unfold mStepG
                            simp only [mS, mLd, mSt, mBr, mGetA, mPutA, mNew, mLdc]
                            rw [g1]
                            try dsimp only
                            rw [if_pos el]
                          · cases hx
                        · cases hx
                      · next idx =>
                        split at hx
                        · next hl3 =>
                          have el : len = 3 := Nat.eq_of_beq_eq_true hl3
                          simp only [Option.map_eq_some_iff] at hx
                          obtain ⟨S1, hg, rfl⟩ := hx
                          obtain ⟨st', g1, σ', ρ', g2, g3⟩ := y_getf q hH hg
                          refine ⟨pc + 3, ls, st', h, S1, σ', ρ', List.mem_cons_self, g2, g3, hH, y_Fr.refl, y_step hme hcd hr hi ?_⟩
                          unfold mStepG
                          simp only [mS, mLd, mSt, mBr, mGetA, mPutA, mNew, mLdc]
                          rw [if_pos el, g1]
                          rfl
                        · cases hx
                      · next idx =>
                        split at hx
                        · next hl3 =>
                          have el : len = 3 := Nat.eq_of_beq_eq_true hl3
                          simp only [Option.map_eq_some_iff] at hx
                          obtain ⟨S1, hg, rfl⟩ := hx
                          obtain ⟨st', h', g1, g2, g3, g4, g5⟩ := y_putf (own := own) (ini := ini) hTS q hH hg
                          refine ⟨pc + 3, ls, st', h', S1, σ, ρ, List.mem_cons_self, g2, g3, g4, g5, y_step hme hcd hr hi ?_⟩
                          unfold mStepG
                          simp only [mS, mLd, mSt, mBr, mGetA, mPutA, mNew, mLdc]
                          rw [if_pos el, g1]
                          rfl
                        · cases hx
                      · cases hx
end ZSB
end
