noncomputable section
/-! ===== the reader is right: instructions of the stack, locals, branches ===== -/
theorem i64_add {x y : Int64} (h1 : -9223372036854775808 ≤ x.toInt + y.toInt) (h2 : x.toInt + y.toInt ≤ 9223372036854775807) : (x + y).toInt = x.toInt + y.toInt := by
  rw [Int64.toInt_add]
  exact Int.bmod_eq_of_le (by omega) (by omega)
theorem i64_mul {x y : Int64} (h1 : -9223372036854775808 ≤ x.toInt * y.toInt) (h2 : x.toInt * y.toInt ≤ 9223372036854775807) : (x * y).toInt = x.toInt * y.toInt := by
  rw [Int64.toInt_mul]
  exact Int.bmod_eq_of_le (by omega) (by omega)
theorem i64_l2i {x : Int64} (h1 : -2147483648 ≤ x.toInt) (h2 : x.toInt ≤ 2147483647) : x.toInt32.toInt = x.toInt := by
  rw [Int64.toInt_toInt32]
  exact Int.bmod_eq_of_le (by omega) (by omega)
section ZS2
variable {Γ : List Nat} {J : Nat → List Int → mH → Prop} {σ : Nat → Int} {ρ : Nat → Option Nat} {S : zS} {h : mH} {ls : mL} {st : List mV}
theorem y_zin (q : y_S Γ J S σ ρ ls st h) {e : zL} {i : Int32} (he : y_E S.1.length σ e i.toInt) : zin (x_rg S e) i := q.rg he
/-- behind a step: more unknowns, the same kind of state -/
def y_N (Γ : List Nat) (J : Nat → List Int → mH → Prop) (S : zS) (σ : Nat → Int) (ρ : Nat → Option Nat) (S1 : zS) (ls : mL) (st : List mV) (h : mH) : Prop := ∃ (σ' : Nat → Int) (ρ' : Nat → Option Nat), y_S Γ J S1 σ' ρ' ls st h ∧ y_M S S1 σ σ' ρ ρ'
theorem y_N.of {S1 : zS} {st' : List mV} (a : y_S Γ J S1 σ ρ ls st' h) (b : y_M S S1 σ σ ρ ρ) : y_N Γ J S σ ρ S1 ls st' h := ⟨σ, ρ, a, b⟩
theorem y_N.ofI {S1 : zS} {st' : List mV} (a : ∃ σ', y_S Γ J S1 σ' ρ ls st' h ∧ y_M S S1 σ σ' ρ ρ) : y_N Γ J S σ ρ S1 ls st' h := by
  obtain ⟨σ', a, b⟩ := a
  exact ⟨σ', ρ, a, b⟩
theorem i32_ofInt_small {k : Int} (h1 : -2147483648 ≤ k) (h2 : k ≤ 2147483647) : (Int32.ofInt k).toInt = k := z_ofInt h1 h2
theorem i8_ofInt {k : Int} (h1 : -128 ≤ k) (h2 : k ≤ 127) : (Int8.ofInt k).toInt32.toInt = k := by
  rw [Int8.toInt_toInt32, Int8.toInt_ofInt_of_le (by omega) (by omega)]
theorem i16_ofInt {k : Int} (h1 : -32768 ≤ k) (h2 : k ≤ 32767) : (Int16.ofInt k).toInt32.toInt = k := by
  rw [Int16.toInt_toInt32, Int16.toInt_ofInt_of_le (by omega) (by omega)]
theorem i32_nz {S : zS} {f : zL} {i : Int32} (q : y_S Γ J S σ ρ ls st h) (hf : y_E S.1.length σ f i.toInt) (hx : (x_has S (x_inc (-1) f) || x_has S (x_inc (-1) (x_scl (-1) f))) = true) : i ≠ 0 := by
  intro e
  subst e
  simp only [Bool.or_eq_true] at hx
  rcases hx with hx | hx
  · have := q.has (hf.inc (-1)) hx
    simp at this
  · have := q.has (hf.neg.inc (-1)) hx
    simp at this
theorem i32_i2c {x : Int32} (h1 : 0 ≤ x.toInt) (h2 : x.toInt ≤ 65535) : (x.toUInt32 % 65536).toInt32 = x := by
  obtain ⟨n, hn, e, hx⟩ := z_nat h1
  apply Int32.toInt_inj.mp
  have e0 : (x.toUInt32 % 65536).toInt32 = x.toUInt32.toUInt16.toUInt32.toInt32 := by congr 1
  rw [e0]
  have h3 := zi2c_ok x
  have h4 : x.toUInt32.toNat = n := by
    have := Int32.toInt_toBitVec x
    have h5 : x.toUInt32.toNat = x.toBitVec.toNat := rfl
    rw [h5]
    have h6 : x.toBitVec.toInt = if 2 * x.toBitVec.toNat < 2 ^ 32 then (x.toBitVec.toNat : Int) else (x.toBitVec.toNat : Int) - (2 ^ 32 : Nat) := BitVec.toInt_eq_toNat_cond _
    have h7 : x.toBitVec.toInt = x.toInt := this
    have h8 := x.toBitVec.isLt
    split at h6 <;> omega
  have h9 : x.toUInt32.toUInt16.toUInt32.toInt32.toInt = ((x.toUInt32.toNat % 65536 : Nat) : Int) := by
    have h5 : x.toUInt32.toUInt16.toUInt32.toInt32.toBitVec.toNat = x.toUInt32.toNat % 65536 := by
      show x.toUInt32.toUInt16.toUInt32.toNat = _
      simp
    rw [← Int32.toInt_toBitVec, BitVec.toInt_eq_toNat_of_lt (by rw [h5]; omega), h5]
  rw [h9, h4, hx]
  omega
theorem i32_shr0 (x : Int32) : x >>> ((0 : Int32) &&& 31) = x := by
  have e : ((0 : Int32) &&& 31) = 0 := by decide
  rw [e]
  apply Int32.toInt_inj.mp
  rw [pk_shr x 0 0 rfl]
  exact Int.shiftRight_zero _
theorem y_s1 {X : List Int32} (hJ : y_J X J) (q : y_S Γ J S σ ρ ls st h) {i : Jvm.ClassFile.Instr} {n : Nat} {S1 : zS} (hx : x_s1 i S = some (n, S1)) : ∃ st', mS i st = some (n, st') ∧ y_N Γ J S σ ρ S1 ls st' h := by
  have hT := q.2.2.2.2.1
  unfold x_s1 at hx
  split at hx
  · next k =>
    split at hx
    · next hk =>
      cases hx
      simp only [Bool.and_eq_true] at hk
      have a := zge_iff.mp hk.1
      have b := zge_iff.mp hk.2
      exact ⟨_, rfl, .of (q.stk ⟨⟨_, rfl, by rw [i32_ofInt_small (by omega) (by omega)]; exact y_E.k _⟩, hT⟩) (.of rfl rfl)⟩
    · cases hx
  · next k =>
    split at hx
    · next hk =>
      cases hx
      simp only [Bool.and_eq_true] at hk
      have a := zge_iff.mp hk.1
      have b := zge_iff.mp hk.2
      exact ⟨_, rfl, .of (q.stk ⟨⟨_, rfl, by rw [i8_ofInt (by omega) (by omega)]; exact y_E.k _⟩, hT⟩) (.of rfl rfl)⟩
    · cases hx
  · next k =>
    split at hx
    · next hk =>
      cases hx
      simp only [Bool.and_eq_true] at hk
      have a := zge_iff.mp hk.1
      have b := zge_iff.mp hk.2
      exact ⟨_, rfl, .of (q.stk ⟨⟨_, rfl, by rw [i16_ofInt (by omega) (by omega)]; exact y_E.k _⟩, hT⟩) (.of rfl rfl)⟩
    · cases hx
  · next k =>
    cases hx
    refine ⟨_, rfl, .of (q.stk ⟨⟨_, rfl, ?_⟩, hT⟩) (.of rfl rfl)⟩
    rw [Int64.toInt_ofNat_of_lt (by have := k.isLt; omega)]
    exact y_E.k _
  · cases hx
    exact ⟨_, rfl, .of (q.stk ⟨rfl, hT⟩) (.of rfl rfl)⟩
  -- iadd
  · next _ _ f _ e r heq =>
    cases hx
    rw [heq] at hT
    obtain ⟨x, t1, rfl, ⟨b, rfl, hb⟩, hT1⟩ := hT.cons
    obtain ⟨x, t2, rfl, ⟨a, rfl, ha⟩, hT2⟩ := hT1.cons
    exact ⟨_, rfl, .ofI (y_lino hJ q (k := 110) (by decide) (by decide) (ha.add hb) (fun l u => by show (a + b).toInt = _; exact Jvm.Kit.i32_add (by omega) (by omega)) ha hb hT2)⟩
  -- isub
  · next _ _ f _ e r heq =>
    cases hx
    rw [heq] at hT
    obtain ⟨x, t1, rfl, ⟨b, rfl, hb⟩, hT1⟩ := hT.cons
    obtain ⟨x, t2, rfl, ⟨a, rfl, ha⟩, hT2⟩ := hT1.cons
    exact ⟨_, rfl, .ofI (y_lino hJ q (k := 111) (by decide) (by decide) (ha.sub hb) (fun l u => by show (a - b).toInt = _; exact Jvm.Kit.i32_sub (by omega) (by omega)) ha hb hT2)⟩
  -- imul
  · next _ _ f _ e r heq =>
    rw [heq] at hT
    obtain ⟨x, t1, rfl, ⟨b, rfl, hb⟩, hT1⟩ := hT.cons
    obtain ⟨x, t2, rfl, ⟨a, rfl, ha⟩, hT2⟩ := hT1.cons
    have hn : n = 1 := by split at hx <;> cases hx <;> rfl
    subst hn
    refine ⟨mI (a * b) :: t2, rfl, ?_⟩
    split at hx
    · next hf =>
      cases hx
      have e1 : f.1 = b.toInt := by
        have := hb.2
        unfold y_ev at this
        rw [hf] at this
        simpa [y_el] using this
      have := ha.scl f.1
      rw [e1] at this ⊢
      exact .ofI (y_lino hJ q (k := 100) (by decide) (by decide) this (fun l u => by show (a * b).toInt = _; rw [Jvm.Kit.i32_mul (by rw [Int.mul_comm]; omega) (by rw [Int.mul_comm]; omega), Int.mul_comm]) ha hb hT2)
    · next he _ =>
      cases hx
      have e1 : e.1 = a.toInt := by
        have := ha.2
        unfold y_ev at this
        rw [he] at this
        simpa [y_el] using this
      have := hb.scl e.1
      rw [e1] at this ⊢
      exact .ofI (y_lino hJ q (k := 100) (by decide) (by decide) this (fun l u => by show (a * b).toInt = _; exact Jvm.Kit.i32_mul (by omega) (by omega)) ha hb hT2)
    · cases hx
      exact .ofI (y_opi hJ q (k := 100) (by decide) (by decide) ha hb (zmul_ok (y_zin q ha) (y_zin q hb)) hT2)
  -- iand
  · next _ _ f _ e r heq =>
    cases hx
    rw [heq] at hT
    obtain ⟨x, t1, rfl, ⟨b, rfl, hb⟩, hT1⟩ := hT.cons
    obtain ⟨x, t2, rfl, ⟨a, rfl, ha⟩, hT2⟩ := hT1.cons
    exact ⟨_, rfl, .ofI (y_opi hJ q (k := 101) (by decide) (by decide) ha hb (zand_ok (y_zin q ha) (y_zin q hb)) hT2)⟩
  -- ior
  · next _ _ f _ e r heq =>
    cases hx
    rw [heq] at hT
    obtain ⟨x, t1, rfl, ⟨b, rfl, hb⟩, hT1⟩ := hT.cons
    obtain ⟨x, t2, rfl, ⟨a, rfl, ha⟩, hT2⟩ := hT1.cons
    exact ⟨_, rfl, .ofI (y_opi hJ q (k := 102) (by decide) (by decide) ha hb (zor_ok (y_zin q ha) (y_zin q hb)) hT2)⟩
  -- ixor
  · next _ _ f _ e r heq =>
    cases hx
    rw [heq] at hT
    obtain ⟨x, t1, rfl, ⟨b, rfl, hb⟩, hT1⟩ := hT.cons
    obtain ⟨x, t2, rfl, ⟨a, rfl, ha⟩, hT2⟩ := hT1.cons
    exact ⟨_, rfl, .ofI (y_opi hJ q (k := 103) (by decide) (by decide) ha hb (zxor_ok (y_zin q ha) (y_zin q hb)) hT2)⟩
  -- ishl
  · next _ _ f _ e r heq =>
    cases hx
    rw [heq] at hT
    obtain ⟨x, t1, rfl, ⟨b, rfl, hb⟩, hT1⟩ := hT.cons
    obtain ⟨x, t2, rfl, ⟨a, rfl, ha⟩, hT2⟩ := hT1.cons
    exact ⟨_, rfl, .ofI (y_opi hJ q (k := 104) (by decide) (by decide) ha hb (zshl_ok (y_zin q ha) (y_zin q hb)) hT2)⟩
  -- ishr
  · next _ _ f _ e r heq =>
    rw [heq] at hT
    obtain ⟨x, t1, rfl, ⟨b, rfl, hb⟩, hT1⟩ := hT.cons
    obtain ⟨x, t2, rfl, ⟨a, rfl, ha⟩, hT2⟩ := hT1.cons
    refine ⟨_, by split at hx <;> cases hx <;> rfl, ?_⟩
    split at hx
    · next hf hz =>
      cases hx
      have e1 : f.1 = b.toInt := by
        have := hb.2
        unfold y_ev at this
        rw [hf] at this
        simpa [y_el] using this
      have e2 : b = 0 := by
        apply Int32.toInt_inj.mp
        rw [← e1, zz_iff.mp hz]
        rfl
      subst e2
      show y_N Γ J S σ ρ _ ls (mI (a >>> ((0 : Int32) &&& 31)) :: t2) h
      rw [i32_shr0]
      exact .of (q.stk ⟨⟨a, rfl, ha⟩, hT2⟩) (.of rfl rfl)
    · cases hx
      exact .ofI (y_opi hJ q (k := 105) (by decide) (by decide) ha hb (zshr_ok _ (y_zin q ha)) hT2)
  -- iushr
  · next _ _ f _ e r heq =>
    cases hx
    rw [heq] at hT
    obtain ⟨x, t1, rfl, ⟨b, rfl, hb⟩, hT1⟩ := hT.cons
    obtain ⟨x, t2, rfl, ⟨a, rfl, ha⟩, hT2⟩ := hT1.cons
    exact ⟨_, rfl, .ofI (y_opi hJ q (k := 106) (by decide) (by decide) ha hb (zushr_ok _ (y_zin q ha)) hT2)⟩
  -- idiv
  · next _ _ f _ e r heq =>
    rw [heq] at hT
    obtain ⟨x, t1, rfl, ⟨b, rfl, hb⟩, hT1⟩ := hT.cons
    obtain ⟨x, t2, rfl, ⟨a, rfl, ha⟩, hT2⟩ := hT1.cons
    split at hx
    · next hz =>
      cases hx
      exact ⟨_, if_neg (i32_nz q hb hz), .ofI (y_opi hJ q (k := 107) (by decide) (by decide) ha hb (zdiv_ok (y_zin q ha) (y_zin q hb)) hT2)⟩
    · cases hx
  -- irem
  · next _ _ f _ e r heq =>
    rw [heq] at hT
    obtain ⟨x, t1, rfl, ⟨b, rfl, hb⟩, hT1⟩ := hT.cons
    obtain ⟨x, t2, rfl, ⟨a, rfl, ha⟩, hT2⟩ := hT1.cons
    split at hx
    · next hz =>
      refine ⟨mI (a - a / b * b) :: t2, by split at hx <;> cases hx <;> exact if_neg (i32_nz q hb hz), ?_⟩
      split at hx
      · next hf hz2 =>
        cases hx
        simp only [Bool.and_eq_true] at hz2
        have z1 := zge_iff.mp hz2.1.1
        have z2 := zge_iff.mp hz2.1.2
        have z3 := zz_iff.mp hz2.2
        have e1 : f.1 = b.toInt := by
          have := hb.2
          unfold y_ev at this
          rw [hf] at this
          simpa [y_el] using this
        have hr := q.rg ha
        dsimp only at hr
        have d1 : x_lo S.1 e / f.1 ≤ a.toInt / f.1 := Int.ediv_le_ediv (by omega) hr.1
        have d2 : a.toInt / f.1 ≤ x_hi S.1 e / f.1 := Int.ediv_le_ediv (by omega) hr.2
        have d3 : a.toInt / f.1 = x_lo S.1 e / f.1 := by omega
        have e3 : (a - a / b * b).toInt = a.toInt + -(f.1 * (x_lo S.1 e / f.1)) := by
          rw [rem_toInt, Int.tmod_eq_emod_of_nonneg (by omega), Int.emod_def, ← e1, d3]
          omega
        exact .of (q.stk ⟨⟨_, rfl, by rw [e3]; exact ha.inc _⟩, hT2⟩) (.of rfl rfl)
      · cases hx
        exact .ofI (y_opi hJ q (k := 108) (by decide) (by decide) ha hb (zrem_ok (y_zin q ha) (y_zin q hb)) hT2)
    · cases hx
  -- ineg
  · next _ e r heq =>
    cases hx
    rw [heq] at hT
    obtain ⟨x, t1, rfl, ⟨b, rfl, hb⟩, hT1⟩ := hT.cons
    exact ⟨_, rfl, .ofI (y_lin q hb.neg (fun l u => Jvm.Kit.i32_neg (by omega)) hT1)⟩
  -- i2b
  · next _ e r heq =>
    rw [heq] at hT
    obtain ⟨x, t1, rfl, ⟨b, rfl, hb⟩, hT1⟩ := hT.cons
    have hr := q.rg hb
    dsimp only at hr
    split at hx
    · next hc =>
      cases hx
      simp only [Bool.and_eq_true] at hc
      have c1 := zge_iff.mp hc.1
      have c2 := zge_iff.mp hc.2
      refine ⟨_, rfl, .of (q.stk ⟨⟨_, rfl, ?_⟩, hT1⟩) (.of rfl rfl)⟩
      have e1 : b.toInt8.toInt32.toInt = b.toInt := by
        rw [Int8.toInt_toInt32, Int32.toInt_toInt8]
        exact Int.bmod_eq_of_le (by omega) (by omega)
      rw [e1]
      exact hb
    · next hc =>
      cases hx
      simp only [Bool.and_eq_true] at hc
      have c1 := zge_iff.mp hc.1
      have c2 := zge_iff.mp hc.2
      refine ⟨_, rfl, .of (q.stk ⟨⟨_, rfl, ?_⟩, hT1⟩) (.of rfl rfl)⟩
      have e1 : b.toInt8.toInt32.toInt = b.toInt + -256 := by
        rw [Int8.toInt_toInt32, Int32.toInt_toInt8]
        have : b.toInt.bmod (2 ^ 8) = (b.toInt + -256).bmod (2 ^ 8) := by
          rw [show b.toInt + -256 = b.toInt - ((2 ^ 8 : Nat) : Int) by simp; omega, Int.sub_bmod_right]
        rw [this]
        exact Int.bmod_eq_of_le (by omega) (by omega)
      rw [e1]
      exact hb.inc (-256)
    · cases hx
      exact ⟨_, rfl, .ofI (y_opi hJ q (k := 109) (b := 0) (by decide) (by decide) hb (y_E.k 0) (zi2b_ok b) hT1)⟩
  -- i2c
  · next _ e r heq =>
    rw [heq] at hT
    obtain ⟨x, t1, rfl, ⟨b, rfl, hb⟩, hT1⟩ := hT.cons
    have hr := q.rg hb
    dsimp only at hr
    split at hx
    · next hc =>
      cases hx
      simp only [Bool.and_eq_true] at hc
      have c1 := zge_iff.mp hc.1
      have c2 := zge_iff.mp hc.2
      refine ⟨_, rfl, .of (q.stk ⟨⟨_, rfl, ?_⟩, hT1⟩) (.of rfl rfl)⟩
      rw [i32_i2c (by omega) (by omega)]
      exact hb
    · cases hx
      refine ⟨_, rfl, .ofI (y_int q ?_ hT1)⟩
      have e : (b.toUInt32 % 65536).toInt32 = b.toUInt32.toUInt16.toUInt32.toInt32 := by
        congr 1
      rw [e]
      exact zi2c_ok b
  -- i2l
  · next _ _ r heq =>
    cases hx
    rw [heq] at hT
    obtain ⟨x, t1, rfl, ⟨b, rfl, hb⟩, hT1⟩ := hT.cons
    exact ⟨_, rfl, .of (q.stk ⟨⟨_, rfl, by rw [Int32.toInt_toInt64]; exact hb⟩, hT1⟩) (.of rfl rfl)⟩
  -- l2i
  · next _ _ r heq =>
    cases hx
    rw [heq] at hT
    obtain ⟨x, t1, rfl, ⟨b, rfl, hb⟩, hT1⟩ := hT.cons
    exact ⟨_, rfl, .ofI (y_lin q hb (fun l u => i64_l2i l u) hT1)⟩
  -- ladd
  · next _ _ f _ e r heq =>
    cases hx
    rw [heq] at hT
    obtain ⟨x, t1, rfl, ⟨b, rfl, hb⟩, hT1⟩ := hT.cons
    obtain ⟨x, t2, rfl, ⟨a, rfl, ha⟩, hT2⟩ := hT1.cons
    exact ⟨_, rfl, .ofI (y_linJ q (ha.add hb) (fun l u => i64_add l u) hT2)⟩
  -- lmul
  · next _ _ f _ e r heq =>
    rw [heq] at hT
    obtain ⟨x, t1, rfl, ⟨b, rfl, hb⟩, hT1⟩ := hT.cons
    obtain ⟨x, t2, rfl, ⟨a, rfl, ha⟩, hT2⟩ := hT1.cons
    have hn : n = 1 := by split at hx <;> cases hx <;> rfl
    subst hn
    refine ⟨mJ (a * b) :: t2, rfl, ?_⟩
    split at hx
    · next hf =>
      cases hx
      have e1 : f.1 = b.toInt := by
        have := hb.2
        unfold y_ev at this
        rw [hf] at this
        simpa [y_el] using this
      have := ha.scl f.1
      rw [e1] at this ⊢
      exact .ofI (y_linJ q this (fun l u => by rw [i64_mul (by rw [Int.mul_comm]; omega) (by rw [Int.mul_comm]; omega), Int.mul_comm]) hT2)
    · next he _ =>
      cases hx
      have e1 : e.1 = a.toInt := by
        have := ha.2
        unfold y_ev at this
        rw [he] at this
        simpa [y_el] using this
      have := hb.scl e.1
      rw [e1] at this ⊢
      exact .ofI (y_linJ q this (fun l u => i64_mul (by omega) (by omega)) hT2)
    · cases hx
      exact .ofI (y_lng q hT2)
  -- dup
  · next v r heq =>
    rw [heq] at hT
    obtain ⟨x, t1, rfl, hv, hT1⟩ := hT.cons
    split at hx
    · next e =>
      cases hx
      have hv' := hv
      unfold y_V at hv'
      rw [e] at hv'
      obtain ⟨i, rfl, -⟩ := hv'
      exact ⟨mI i :: mI i :: t1, by simp [mS, mcat], .of (q.stk ⟨hv, hv, hT1⟩) (.of rfl rfl)⟩
    · next e =>
      cases hx
      have hv' := hv
      unfold y_V at hv'
      rw [e] at hv'
      obtain ⟨-, rfl⟩ := hv'
      exact ⟨mR (ρ v.2.1) :: mR (ρ v.2.1) :: t1, by simp [mS, mcat], .of (q.stk ⟨hv, hv, hT1⟩) (.of rfl rfl)⟩
    · cases hx
  -- dup2
  · next a b c d r heq =>
    cases hx
    rw [heq] at hT
    obtain ⟨x, t1, rfl, ⟨h1, rfl⟩, hT1⟩ := hT.cons
    obtain ⟨x, t2, rfl, ⟨i, rfl, h2⟩, hT2⟩ := hT1.cons
    exact ⟨mR (ρ a) :: mI i :: mR (ρ a) :: mI i :: t2, by simp [mS, mcat], .of (q.stk ⟨⟨h1, rfl⟩, ⟨i, rfl, h2⟩, ⟨h1, rfl⟩, ⟨i, rfl, h2⟩, hT2⟩) (.of rfl rfl)⟩
  · next a b c d r heq =>
    cases hx
    rw [heq] at hT
    obtain ⟨x, t1, rfl, ⟨i, rfl, h2⟩, hT1⟩ := hT.cons
    obtain ⟨x, t2, rfl, ⟨h1, rfl⟩, hT2⟩ := hT1.cons
    exact ⟨mI i :: mR (ρ c) :: mI i :: mR (ρ c) :: t2, by simp [mS, mcat], .of (q.stk ⟨⟨i, rfl, h2⟩, ⟨h1, rfl⟩, ⟨i, rfl, h2⟩, ⟨h1, rfl⟩, hT2⟩) (.of rfl rfl)⟩
  -- pop
  · next v r heq =>
    rw [heq] at hT
    obtain ⟨x, t1, rfl, hv, hT1⟩ := hT.cons
    split at hx
    · next e =>
      cases hx
      unfold y_V at hv
      rw [e] at hv
      obtain ⟨i, rfl, -⟩ := hv
      exact ⟨t1, by simp [mS, mcat], .of (q.stk hT1) (.of rfl rfl)⟩
    · next e =>
      cases hx
      unfold y_V at hv
      rw [e] at hv
      obtain ⟨-, rfl⟩ := hv
      exact ⟨t1, by simp [mS, mcat], .of (q.stk hT1) (.of rfl rfl)⟩
    · cases hx
  · cases hx
end ZS2
end
