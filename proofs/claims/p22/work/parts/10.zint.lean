/-! ABSTRACT INTS: a range holds the int's number; every operation's range -/
def zI : Int × Int := (-2147483648, 2147483647)
def zfit (p : Int × Int) : Bool := decide (-2147483648 ≤ p.1) && decide (p.2 ≤ 2147483647)
def zcl (p : Int × Int) : Int × Int := if zfit p = true then p else zI
def zin (p : Int × Int) (x : Int32) : Prop := p.1 ≤ x.toInt ∧ x.toInt ≤ p.2
theorem zfit_iff {p : Int × Int} : zfit p = true ↔ -2147483648 ≤ p.1 ∧ p.2 ≤ 2147483647 := by
  simp only [zfit, Bool.and_eq_true, decide_eq_true_eq]
theorem zx_lo (x : Int32) : -2147483648 ≤ x.toInt := Int32.le_toInt x
theorem zx_hi (x : Int32) : x.toInt ≤ 2147483647 := by have := Int32.toInt_lt x; omega
theorem zin_top (x : Int32) : zin zI x := ⟨zx_lo x, zx_hi x⟩
theorem zin_cl {p : Int × Int} {x : Int32} (h : -2147483648 ≤ p.1 → p.2 ≤ 2147483647 → zin p x) : zin (zcl p) x := by
  unfold zcl
  split
  · next q => exact h (zfit_iff.mp q).1 (zfit_iff.mp q).2
  · exact zin_top x
def zadd (p q : Int × Int) : Int × Int := zcl (p.1 + q.1, p.2 + q.2)
theorem zadd_ok {p q : Int × Int} {x y : Int32} (hx : zin p x) (hy : zin q y) : zin (zadd p q) (x + y) := by
  obtain ⟨a, b⟩ := hx
  obtain ⟨c, d⟩ := hy
  refine zin_cl fun h1 h2 => ?_
  dsimp only at h1 h2
  have e : (x + y).toInt = x.toInt + y.toInt := Jvm.Kit.i32_add (by omega) (by omega)
  exact ⟨by rw [e]; dsimp only; omega, by rw [e]; dsimp only; omega⟩
def zsub (p q : Int × Int) : Int × Int := zcl (p.1 - q.2, p.2 - q.1)
theorem zsub_ok {p q : Int × Int} {x y : Int32} (hx : zin p x) (hy : zin q y) : zin (zsub p q) (x - y) := by
  obtain ⟨a, b⟩ := hx
  obtain ⟨c, d⟩ := hy
  refine zin_cl fun h1 h2 => ?_
  dsimp only at h1 h2
  have e : (x - y).toInt = x.toInt - y.toInt := Jvm.Kit.i32_sub (by omega) (by omega)
  exact ⟨by rw [e]; dsimp only; omega, by rw [e]; dsimp only; omega⟩
def zmul (p q : Int × Int) : Int × Int := if decide (0 ≤ p.1) && decide (0 ≤ q.1) then zcl (p.1 * q.1, p.2 * q.2) else zI
theorem zmul_ok {p q : Int × Int} {x y : Int32} (hx : zin p x) (hy : zin q y) : zin (zmul p q) (x * y) := by
  obtain ⟨a, b⟩ := hx
  obtain ⟨c, d⟩ := hy
  unfold zmul
  split
  · next h =>
    simp only [Bool.and_eq_true, decide_eq_true_eq] at h
    refine zin_cl fun h1 h2 => ?_
    dsimp only at h1 h2
    have l1 : p.1 * q.1 ≤ x.toInt * y.toInt := Int.mul_le_mul a c h.2 (by omega)
    have l2 : x.toInt * y.toInt ≤ p.2 * q.2 := Int.mul_le_mul b d (by omega) (by omega)
    have e : (x * y).toInt = x.toInt * y.toInt := Jvm.Kit.i32_mul (by omega) (by omega)
    exact ⟨by rw [e]; exact l1, by rw [e]; exact l2⟩
  · exact zin_top _
def zneg (p : Int × Int) : Int × Int := zcl (-p.2, -p.1)
theorem zneg_ok {p : Int × Int} {x : Int32} (hx : zin p x) : zin (zneg p) (-x) := by
  obtain ⟨a, b⟩ := hx
  refine zin_cl fun h1 h2 => ?_
  dsimp only at h1 h2
  have e : (-x).toInt = -x.toInt := Jvm.Kit.i32_neg (by omega)
  exact ⟨by rw [e]; dsimp only; omega, by rw [e]; dsimp only; omega⟩
/-- the natural behind an int that isn't negative -/
theorem z_nat {x : Int32} (h : 0 ≤ x.toInt) : ∃ n : Nat, n < 2147483648 ∧ x = nI n ∧ x.toInt = n := by
  have h2 := zx_hi x
  refine ⟨x.toInt.toNat, by omega, Int32.toInt_inj.mp ?_, by omega⟩
  rw [nI_toInt (by omega)]
  omega
def zand (p q : Int × Int) : Int × Int := if 0 ≤ p.1 then (if 0 ≤ q.1 then (0, min p.2 q.2) else (0, p.2)) else if 0 ≤ q.1 then (0, q.2) else zI
theorem z_and_lo {x y : Int32} (h : 0 ≤ x.toInt) : 0 ≤ (x &&& y).toInt ∧ (x &&& y).toInt ≤ x.toInt := by
  obtain ⟨n, hn, rfl, e⟩ := z_nat h
  have h2 : (nI n &&& y).toBitVec.toNat ≤ n := by
    rw [Int32.toBitVec_and, BitVec.toNat_and, pk_tn (by omega)]
    exact Nat.and_le_left
  have e2 : nI n &&& y = nI (nI n &&& y).toBitVec.toNat := by
    apply Int32.toBitVec_inj.mp
    show _ = BitVec.ofNat 32 _
    simp
  rw [e2, nI_toInt (by omega), e]
  omega
theorem z_and_comm (x y : Int32) : x &&& y = y &&& x := by
  apply Int32.toBitVec_inj.mp
  rw [Int32.toBitVec_and, Int32.toBitVec_and, BitVec.and_comm]
theorem zand_ok {p q : Int × Int} {x y : Int32} (hx : zin p x) (hy : zin q y) : zin (zand p q) (x &&& y) := by
  obtain ⟨a, b⟩ := hx
  obtain ⟨c, d⟩ := hy
  unfold zand
  by_cases h1 : 0 ≤ p.1
  · have r1 := z_and_lo (x := x) (y := y) (by omega)
    rw [if_pos h1]
    by_cases h2 : 0 ≤ q.1
    · have r2 := z_and_lo (x := y) (y := x) (by omega)
      rw [z_and_comm y x] at r2
      rw [if_pos h2]
      exact ⟨r1.1, by dsimp only; omega⟩
    · rw [if_neg h2]
      exact ⟨r1.1, by dsimp only; omega⟩
  · rw [if_neg h1]
    by_cases h2 : 0 ≤ q.1
    · have r2 := z_and_lo (x := y) (y := x) (by omega)
      rw [z_and_comm y x] at r2
      rw [if_pos h2]
      exact ⟨r2.1, by dsimp only; omega⟩
    · rw [if_neg h2]
      exact zin_top _
/-- or, xor of two that aren't negative: below the next power of two -/
def zor (p q : Int × Int) : Int × Int := if decide (0 ≤ p.1) && decide (0 ≤ q.1) then zcl (0, ((2 ^ (Nat.log2 (max p.2 q.2).toNat + 1) : Nat) : Int) - 1) else zI
theorem z_log {n : Nat} {m : Int} (h : (n : Int) ≤ m) : n < 2 ^ (Nat.log2 m.toNat + 1) := by
  have h1 : m.toNat < 2 ^ (Nat.log2 m.toNat + 1) := Nat.lt_log2_self
  omega
theorem z_or_nat (a b : Nat) : nI a ||| nI b = nI (a ||| b) := by
  apply Int32.toBitVec_inj.mp
  rw [Int32.toBitVec_or]
  show BitVec.ofNat 32 a ||| BitVec.ofNat 32 b = BitVec.ofNat 32 _
  apply BitVec.eq_of_getLsbD_eq
  intro i hi
  simp [BitVec.getLsbD_or, BitVec.getLsbD_ofNat, hi]
theorem z_xor_nat (a b : Nat) : nI a ^^^ nI b = nI (a ^^^ b) := by
  apply Int32.toBitVec_inj.mp
  rw [Int32.toBitVec_xor]
  show BitVec.ofNat 32 a ^^^ BitVec.ofNat 32 b = BitVec.ofNat 32 _
  apply BitVec.eq_of_getLsbD_eq
  intro i hi
  simp [BitVec.getLsbD_xor, BitVec.getLsbD_ofNat, hi]
theorem zor_ok {p q : Int × Int} {x y : Int32} (hx : zin p x) (hy : zin q y) : zin (zor p q) (x ||| y) := by
  obtain ⟨a, b⟩ := hx
  obtain ⟨c, d⟩ := hy
  unfold zor
  split
  · next h =>
    simp only [Bool.and_eq_true, decide_eq_true_eq] at h
    refine zin_cl fun h1 h2 => ?_
    dsimp only at h1 h2
    obtain ⟨n, hn, rfl, e1⟩ := z_nat (x := x) (by omega)
    obtain ⟨k, hk, rfl, e2⟩ := z_nat (x := y) (by omega)
    have l1 : n < 2 ^ (Nat.log2 (max p.2 q.2).toNat + 1) := z_log (by omega)
    have l2 : k < 2 ^ (Nat.log2 (max p.2 q.2).toNat + 1) := z_log (by omega)
    have l3 : n ||| k < 2 ^ (Nat.log2 (max p.2 q.2).toNat + 1) := Nat.or_lt_two_pow l1 l2
    rw [z_or_nat]
    have l4 : n ||| k < 2 ^ 31 := by omega
    exact ⟨by rw [nI_toInt l4]; dsimp only; omega, by rw [nI_toInt l4]; dsimp only; omega⟩
  · exact zin_top _
theorem zxor_ok {p q : Int × Int} {x y : Int32} (hx : zin p x) (hy : zin q y) : zin (zor p q) (x ^^^ y) := by
  obtain ⟨a, b⟩ := hx
  obtain ⟨c, d⟩ := hy
  unfold zor
  split
  · next h =>
    simp only [Bool.and_eq_true, decide_eq_true_eq] at h
    refine zin_cl fun h1 h2 => ?_
    dsimp only at h1 h2
    obtain ⟨n, hn, rfl, e1⟩ := z_nat (x := x) (by omega)
    obtain ⟨k, hk, rfl, e2⟩ := z_nat (x := y) (by omega)
    have l1 : n < 2 ^ (Nat.log2 (max p.2 q.2).toNat + 1) := z_log (by omega)
    have l2 : k < 2 ^ (Nat.log2 (max p.2 q.2).toNat + 1) := z_log (by omega)
    have l3 : n ^^^ k < 2 ^ (Nat.log2 (max p.2 q.2).toNat + 1) := Nat.xor_lt_two_pow l1 l2
    rw [z_xor_nat]
    have l4 : n ^^^ k < 2 ^ 31 := by omega
    exact ⟨by rw [nI_toInt l4]; dsimp only; omega, by rw [nI_toInt l4]; dsimp only; omega⟩
  · exact zin_top _
/-- << of one that isn't negative by 0 .. 30 places, where nothing is lost -/
def zshl (p q : Int × Int) : Int × Int := if decide (0 ≤ p.1) && decide (0 ≤ q.1) && decide (q.2 ≤ 30) then zcl (p.1 * ((2 ^ q.1.toNat : Nat) : Int), p.2 * ((2 ^ q.2.toNat : Nat) : Int)) else zI
theorem z_sl : ∀ n, n < 32 → ((nI n &&& 31).toBitVec.smod 32).toNat = n := by decide +kernel
theorem zshl_ok {p q : Int × Int} {x y : Int32} (hx : zin p x) (hy : zin q y) : zin (zshl p q) (x <<< (y &&& 31)) := by
  obtain ⟨a, b⟩ := hx
  obtain ⟨c, d⟩ := hy
  unfold zshl
  split
  · next h =>
    simp only [Bool.and_eq_true, decide_eq_true_eq] at h
    obtain ⟨⟨h1, h2⟩, h3⟩ := h
    refine zin_cl fun h4 h5 => ?_
    dsimp only at h4 h5
    obtain ⟨n, hn, rfl, e1⟩ := z_nat (x := x) (by omega)
    obtain ⟨k, hk, rfl, e2⟩ := z_nat (x := y) (by omega)
    have k1 : q.1.toNat ≤ k := by omega
    have k2 : k ≤ q.2.toNat := by omega
    have p1 : ((2 ^ q.1.toNat : Nat) : Int) ≤ ((2 ^ k : Nat) : Int) := Int.ofNat_le.mpr (Nat.pow_le_pow_right (by decide) k1)
    have p2 : ((2 ^ k : Nat) : Int) ≤ ((2 ^ q.2.toNat : Nat) : Int) := Int.ofNat_le.mpr (Nat.pow_le_pow_right (by decide) k2)
    have p0 : (0 : Int) ≤ ((2 ^ q.1.toNat : Nat) : Int) := Int.natCast_nonneg _
    have p3 : (0 : Int) ≤ ((2 ^ k : Nat) : Int) := Int.natCast_nonneg _
    have l1 : p.1 * ((2 ^ q.1.toNat : Nat) : Int) ≤ (n : Int) * ((2 ^ k : Nat) : Int) := Int.mul_le_mul (by omega) p1 p0 (by omega)
    have l2 : (n : Int) * ((2 ^ k : Nat) : Int) ≤ p.2 * ((2 ^ q.2.toNat : Nat) : Int) := Int.mul_le_mul (by omega) p2 p3 (by omega)
    have l3 : (n : Int) * ((2 ^ k : Nat) : Int) = ((n * 2 ^ k : Nat) : Int) := (Int.natCast_mul _ _).symm
    rw [l3] at l1 l2
    have hb : n * 2 ^ k < 2 ^ 31 := by omega
    have e : nI n <<< (nI k &&& 31) = nI (n * 2 ^ k) := pk_shlN _ k (z_sl k (by omega)) (by omega)
    exact ⟨by rw [e, nI_toInt hb]; exact l1, by rw [e, nI_toInt hb]; exact l2⟩
  · exact zin_top _
/-- >>, >>> of one that isn't negative -/
def zshr (p : Int × Int) : Int × Int := if 0 ≤ p.1 then (0, p.2) else zI
theorem zshr_ok {p : Int × Int} {x : Int32} (y : Int32) (hx : zin p x) : zin (zshr p) (x >>> y) := by
  obtain ⟨a, b⟩ := hx
  unfold zshr
  split
  · next h =>
    have e : (x >>> y).toInt = x.toInt >>> (y.toBitVec.smod 32).toNat := pk_shr x y _ rfl
    have h0 : 0 ≤ x.toInt := by omega
    rw [Int.shiftRight_eq_div_pow] at e
    have p0 : (0 : Int) < ((2 ^ (y.toBitVec.smod 32).toNat : Nat) : Int) := by
      have := Nat.two_pow_pos (y.toBitVec.smod 32).toNat
      omega
    have l1 : 0 ≤ x.toInt / ((2 ^ (y.toBitVec.smod 32).toNat : Nat) : Int) := Int.ediv_nonneg h0 (by omega)
    have l2 : x.toInt / ((2 ^ (y.toBitVec.smod 32).toNat : Nat) : Int) ≤ x.toInt := Int.ediv_le_self _ h0
    exact ⟨by rw [e]; exact l1, by rw [e]; dsimp only; omega⟩
  · exact zin_top _
theorem zushr_ok {p : Int × Int} {x : Int32} (y : Int32) (hx : zin p x) : zin (zshr p) (x.toUInt32 >>> (y.toUInt32 &&& Int32.toUInt32 31)).toInt32 := by
  obtain ⟨a, b⟩ := hx
  unfold zshr
  split
  · next h =>
    obtain ⟨n, hn, rfl, e1⟩ := z_nat (x := x) (by omega)
    rw [pk_ushrN (by omega) y _ rfl]
    have l := Nat.div_le_self n (2 ^ ((y.toUInt32 &&& Int32.toUInt32 31).toBitVec % 32).toNat)
    generalize n / 2 ^ ((y.toUInt32 &&& Int32.toUInt32 31).toBitVec % 32).toNat = q at l ⊢
    have lq : q < 2 ^ 31 := by omega
    have eq := nI_toInt lq
    exact ⟨by rw [eq]; dsimp only; omega, by rw [eq]; dsimp only; omega⟩
  · exact zin_top _
/-- / by what isn't 0 -/
def zdiv (p q : Int × Int) : Int × Int := if decide (0 ≤ p.1) && decide (0 < q.1) then (if q.1 = q.2 then (p.1 / q.1, p.2 / q.1) else (0, p.2)) else zI
theorem zdiv_ok {p q : Int × Int} {x y : Int32} (hx : zin p x) (hy : zin q y) : zin (zdiv p q) (x / y) := by
  obtain ⟨a, b⟩ := hx
  obtain ⟨c, d⟩ := hy
  unfold zdiv
  split
  · next h =>
    simp only [Bool.and_eq_true, decide_eq_true_eq] at h
    have e : (x / y).toInt = x.toInt / y.toInt := lg_idiv_nonneg (by omega) (by omega)
    split
    · next h2 =>
      have hy2 : y.toInt = q.1 := by omega
      rw [hy2] at e
      exact ⟨by rw [e]; exact Int.ediv_le_ediv h.2 a, by rw [e]; exact Int.ediv_le_ediv h.2 b⟩
    · have l1 : 0 ≤ x.toInt / y.toInt := Int.ediv_nonneg (by omega) (by omega)
      have l2 : x.toInt / y.toInt ≤ x.toInt := Int.ediv_le_self _ (by omega)
      exact ⟨by rw [e]; exact l1, by rw [e]; dsimp only; omega⟩
  · exact zin_top _
def zrem (p q : Int × Int) : Int × Int := if 0 < q.1 then (if 0 ≤ p.1 then (0, min p.2 (q.2 - 1)) else (-(q.2 - 1), q.2 - 1)) else zI
theorem zrem_ok {p q : Int × Int} {x y : Int32} (hx : zin p x) (hy : zin q y) : zin (zrem p q) (x - x / y * y) := by
  obtain ⟨a, b⟩ := hx
  obtain ⟨c, d⟩ := hy
  unfold zrem
  split
  · next h =>
    have e : (x - x / y * y).toInt = x.toInt.tmod y.toInt := rem_toInt x y
    have t := tmod_bounds (a := x.toInt) (M := y.toInt) (by omega)
    split
    · next h2 =>
      have e2 : x.toInt.tmod y.toInt = x.toInt % y.toInt := Int.tmod_eq_emod_of_nonneg (by omega)
      have l1 : 0 ≤ x.toInt % y.toInt := Int.emod_nonneg _ (by omega)
      have l2 : x.toInt % y.toInt ≤ x.toInt := by
        have := Int.emod_add_mul_ediv x.toInt y.toInt
        have h3 : 0 ≤ x.toInt / y.toInt := Int.ediv_nonneg (by omega) (by omega)
        have h4 : 0 ≤ y.toInt * (x.toInt / y.toInt) := Int.mul_nonneg (by omega) h3
        omega
      exact ⟨by rw [e, e2]; exact l1, by rw [e]; dsimp only; omega⟩
    · exact ⟨by rw [e]; dsimp only; omega, by rw [e]; dsimp only; omega⟩
  · exact zin_top _
def zB : Int × Int := (-128, 127)
def zC : Int × Int := (0, 65535)
def zSh : Int × Int := (-32768, 32767)
theorem zi2b_ok (x : Int32) : zin zB x.toInt8.toInt32 := by have h := lg_i2b_range x; exact ⟨h.1, by simp only [zB]; omega⟩
theorem zi2s_ok (x : Int32) : zin zSh x.toInt16.toInt32 := by have h := lg_i2s_range x; exact ⟨h.1, by simp only [zSh]; omega⟩
theorem zi2c_ok (x : Int32) : zin zC x.toUInt32.toUInt16.toUInt32.toInt32 := by
  have h := lg_i2c_toInt x
  have h1 := Int.emod_nonneg x.toInt (b := 2 ^ 16) (by decide)
  have h2 := Int.emod_lt_of_pos x.toInt (b := 2 ^ 16) (by decide)
  exact ⟨by rw [h]; exact h1, by rw [h]; simp only [zC]; omega⟩
/-- the int of a number -/
theorem z_ofInt {z : Int} (h1 : -2147483648 ≤ z) (h2 : z ≤ 2147483647) : (Int32.ofInt z).toInt = z := Int32.toInt_ofInt_of_le (by omega) (by omega)
theorem z_ofInt_self (x : Int32) : Int32.ofInt x.toInt = x := Int32.ofInt_toInt x
theorem z_in_vp {x : Int32} {n : Nat} (h1 : 0 ≤ x.toInt) (h2 : x.toInt < n) : vp_in x n := vp_in_iff.mpr ⟨h1, h2⟩
