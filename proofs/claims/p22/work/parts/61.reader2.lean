noncomputable section
/-! ===== THE READER, second half: arrays, fields, calls, a whole method ===== -/
def x_lab (LT : List zLab) (S : zS) (r : Nat) : Option zLab := match x_nth S.2.1 r with
  | some (lab, false) => x_nth LT lab
  | _ => none
/-- 0 <= e < n -/
def x_ins0 (S : zS) (e : zL) (n : Nat) : Bool := x_has S e && x_has S (x_inc ((n : Int) - 1) (x_scl (-1) e))
/-- what a slot of a reference holds -/
def x_rd (LT : List zLab) (S : zS) (r : Nat) (sl : zSlot) : Option (zV × zS) := match x_lab LT S r, sl.1 with
  | some (0, _, _, fts), false => (match x_nth fts sl.2.1 with
    | some ft => some (x_get S r sl ft)
    | none => none)
  | some (1, _, n, ts), true => (match x_ins0 S sl.2.2 n, x_join (x_ety S ts sl.2.2) with
    | true, some p => some (x_get S r sl (0, p))
    | _, _ => none)
  | some (2, _, n, _), true => (match x_ins0 S sl.2.2 n with
    | true => some (x_get S r sl (1, 0, 0))
    | false => none)
  | _, _ => none
/-- what the script (99), a String's bytes (97, 98) are known to hold at e -/
def x_scr (S : zS) (k : Nat) (e : zL) : List zTg → Option zL
  | [] => none
  | t :: r => match Nat.beq t.1 k, t.2 with
    | true, [i, v] => (match x_same S e i with
      | true => some v
      | false => x_scr S k e r)
    | _, _ => x_scr S k e r
/-- a byte of a String constant -/
def x_str (S : zS) (ws : List Int32) (k : Nat) (e : zL) (t : List zV) : zS := match e.2 with
  | [] => x_st S (zvI (x_k (ws.getD e.1.toNat 0).toInt) :: t)
  | _ => match x_scr S k e S.2.2.2.2.2.2 with
    | some v => x_st S (zvI v :: t)
    | none => x_st (x_tg (x_new S (0, 127)).2 ((k, [e, (x_new S (0, 127)).1]) :: (x_new S (0, 127)).2.2.2.2.2.2.2)) (zvI (x_new S (0, 127)).1 :: t)
def x_geta (LT : List zLab) (i : Jvm.ClassFile.Instr) (S : zS) : Option zS := match i, S.2.2.2.2.1 with
  | .iaload, (0, _, e) :: (2, r, _) :: t => (match x_lab LT S r with
    | some (1, 0, _, _) => (match x_rd LT S r (true, 0, e) with
      | some (v, S1) => some (x_st S1 (v :: t))
      | none => none)
    | _ => none)
  | .iaload, (0, _, e) :: (4, 0, _) :: t => (match x_has S e && x_has S (x_inc (-1) (x_sub (x_b 0) e)) with
    | true => (match x_scr S 99 e S.2.2.2.2.2.2 with
      | some v => some (x_st S (zvI v :: t))
      | none => some (x_st (x_tg (x_new S zI).2 ((99, [e, (x_new S zI).1]) :: (x_new S zI).2.2.2.2.2.2.2)) (zvI (x_new S zI).1 :: t)))
    | false => none)
  | .baload, (0, _, e) :: (2, r, _) :: t => (match x_lab LT S r with
    | some (1, 2, _, _) => (match x_rd LT S r (true, 0, e) with
      | some (v, S1) => some (x_st S1 (v :: t))
      | none => none)
    | some (1, 3, _, _) => (match x_rd LT S r (true, 0, e) with
      | some (v, S1) => some (x_st S1 (v :: t))
      | none => none)
    | _ => none)
  | .baload, (0, _, e) :: (4, 2, _) :: t => (match x_ins0 S e 9 with
    | true => some (x_str S mST0 97 e t)
    | false => none)
  | .baload, (0, _, e) :: (4, 4, _) :: t => (match x_ins0 S e 176 with
    | true => some (x_str S mST1 98 e t)
    | false => none)
  | .laload, (0, _, e) :: (2, r, _) :: t => (match x_lab LT S r with
    | some (2, _, _, _) => (match x_rd LT S r (true, 0, e) with
      | some (v, S1) => some (x_st S1 (v :: t))
      | none => none)
    | _ => none)
  | .aaload, (0, _, e) :: (2, r, _) :: t => (match x_lab LT S r with
    | some (3, _, n, ts) => (match x_ins0 S e n, x_ety S ts e with
      | true, [(2, lab, nul)] => some (x_st (x_newr S (lab.toNat, !(zz nul))).2 (zvR (x_newr S (lab.toNat, !(zz nul))).1 :: t))
      | _, _ => none)
    | _ => none)
  | .arraylength, (2, r, _) :: t => (match x_lab LT S r with
    | some (1, _, n, _) => some (x_st S (zvI (x_k (n : Int)) :: t))
    | some (2, _, n, _) => some (x_st S (zvI (x_k (n : Int)) :: t))
    | some (3, _, n, _) => some (x_st S (zvI (x_k (n : Int)) :: t))
    | _ => none)
  | .arraylength, (4, 0, _) :: t => some (x_st S (zvI (x_b 0) :: t))
  | .arraylength, (4, 2, _) :: t => some (x_st S (zvI (x_k 9) :: t))
  | .arraylength, (4, 4, _) :: t => some (x_st S (zvI (x_k 176) :: t))
  | _, _ => none
def x_kinO (ks : List zKey) (k : zKey) : Bool := ks.any fun q => Nat.beq q.1 k.1 && (q.2.1 == k.2.1) && Nat.beq q.2.2 k.2.2
/-- a key as a number; only such as are no others' -/
def x_kpr (k : zKey) : Bool := match k.2.1 with
  | true => Nat.beq k.2.2 0
  | false => Nat.blt k.2.2 63
def x_kix (k : zKey) : Nat := match k.2.1 with
  | true => k.1 * 64 + 63
  | false => k.1 * 64 + k.2.2
def x_msk (ks : List zKey) : Nat := xl_fr (fun k m => match x_kpr k with
  | true => Nat.lor m (2 ^ x_kix k)
  | false => m) 0 ks
def x_kin (ks : List zKey) (k : zKey) : Bool := match x_kpr k with
  | true => Nat.testBit (x_msk ks) (x_kix k)
  | false => x_kinO ks k
theorem x_kix_inj {q k : zKey} (hq : x_kpr q = true) (hk : x_kpr k = true) (h : x_kix q = x_kix k) : q = k := by
  obtain ⟨q1, q2, q3⟩ := q
  obtain ⟨k1, k2, k3⟩ := k
  unfold x_kpr at hq hk
  unfold x_kix at h
  cases q2 <;> cases k2
  · have a : q3 < 63 := Nat.blt_eq.mp hq
    have b : k3 < 63 := Nat.blt_eq.mp hk
    have c : q1 * 64 + q3 = k1 * 64 + k3 := h
    rw [show q1 = k1 by omega, show q3 = k3 by omega]
  · have a : q3 < 63 := Nat.blt_eq.mp hq
    have c : q1 * 64 + q3 = k1 * 64 + 63 := h
    omega
  · have b : k3 < 63 := Nat.blt_eq.mp hk
    have c : q1 * 64 + 63 = k1 * 64 + k3 := h
    omega
  · have a : q3 = 0 := Nat.eq_of_beq_eq_true hq
    have b : k3 = 0 := Nat.eq_of_beq_eq_true hk
    have c : q1 * 64 + 63 = k1 * 64 + 63 := h
    rw [show q1 = k1 by omega, a, b]
theorem x_kin_eq (ks : List zKey) (k : zKey) : x_kin ks k = x_kinO ks k := by
  unfold x_kin
  cases hk : x_kpr k with
  | false => rfl
  | true =>
    show Nat.testBit (x_msk ks) (x_kix k) = x_kinO ks k
    unfold x_kinO
    induction ks with
    | nil => exact Nat.zero_testBit _
    | cons q t ih =>
      rw [List.any_cons, ← ih]
      show Nat.testBit (match x_kpr q with | true => Nat.lor (x_msk t) (2 ^ x_kix q) | false => x_msk t) (x_kix k) = _
      by_cases e : q = k
      · subst e
        rw [hk]
        show Nat.testBit (x_msk t ||| 2 ^ x_kix q) (x_kix q) = _
        rw [Nat.testBit_or, Nat.testBit_two_pow_self, Bool.or_true, x_lk_self, x_lk_self]
        simp
      · have h2 : (Nat.beq q.1 k.1 && (q.2.1 == k.2.1) && Nat.beq q.2.2 k.2.2) = false := by
          cases h3 : (Nat.beq q.1 k.1 && (q.2.1 == k.2.1) && Nat.beq q.2.2 k.2.2) with
          | false => rfl
          | true =>
            simp only [Bool.and_eq_true, beq_iff_eq] at h3
            refine absurd ?_ e
            obtain ⟨q1, q2, q3⟩ := q
            obtain ⟨k1, k2, k3⟩ := k
            have e1 : q1 = k1 := Nat.eq_of_beq_eq_true h3.1.1
            have e3 : q3 = k3 := Nat.eq_of_beq_eq_true h3.2
            have e2 : q2 = k2 := h3.1.2
            rw [e1, e2, e3]
        rw [h2, Bool.false_or]
        cases hq : x_kpr q with
        | false => rfl
        | true =>
          show Nat.testBit (x_msk t ||| 2 ^ x_kix q) (x_kix k) = _
          rw [Nat.testBit_or, Nat.testBit_two_pow_of_ne (fun h => e (x_kix_inj hq hk h)), Bool.or_false]
/-- is what is known of a slot still known when that key's slot sl has changed? -/
def x_off (S : zS) (k : zKey) (sl : zSlot) (f : zFa) : Bool := match x_nth S.2.1 f.1 with
  | none => false
  | some (lab, _) => match Nat.beq lab k.1 with
    | false => true
    | true => match f.2.1.1, sl.1 with
      | false, false => !(Nat.beq f.2.1.2.1 sl.2.1)
      | true, true => x_has S (x_inc (-1) (x_sub f.2.1.2.2 sl.2.2)) || x_has S (x_inc (-1) (x_sub sl.2.2 f.2.1.2.2))
      | _, _ => true
/-- what the sentences (tags) are: which stay when a slot changes (TS), when keys change (TC); rules (RU): what else is known -/
abbrev zTS : Type := zS → zTg → Nat → zSlot → zV → Bool
abbrev zTC : Type := zTg → List zKey → Bool
abbrev zRU : Type := Nat → zS → Option (List zS)
/-- a slot of r changes to v -/
def x_set (TS : zTS) (S : zS) (r lab : Nat) (sl : zSlot) (v : zV) : zS :=
  x_tg (x_fa S ((r, sl, v) :: xl_fl (x_off S (lab, sl.1, sl.2.1) sl) S.2.2.2.2.2.1)) (xl_fl (fun t => TS S t r sl v) S.2.2.2.2.2.2)
/-- a value that a place of an array may take: by its type, or since it stands at a place of that kind -/
def x_pok (LT : List zLab) (S : zS) (ts : List zFT) (e : zL) (v : zV) : Bool :=
  (!(x_ety S ts e).isEmpty && (x_ety S ts e).all (fun ft => Nat.beq ft.1 0 && x_fit S v ft)) || (Nat.beq v.1 0 && !ts.isEmpty && S.2.2.2.2.2.1.any fun f => f.2.1.1 && Nat.beq f.2.2.1 0 && x_leq f.2.2.2.2 v.2.2 && (match x_lab LT S f.1, x_mod (x_sub e f.2.1.2.2) (ts.length : Int) with
    | some (1, _, _, ts'), some 0 => ts' == ts
    | _, _ => false))
def x_puta (LT : List zLab) (TS : zTS) (cl : List zKey) (i : Jvm.ClassFile.Instr) (S : zS) : Option zS := match i, S.2.2.2.2.1 with
  | .iastore, (0, n, x) :: (0, _, e) :: (2, r, _) :: t => (match x_nth S.2.1 r, x_lab LT S r with
    | some (lab, _), some (1, 0, len, ts) => (match x_ins0 S e len && x_pok LT S ts e (0, n, x) && x_kin cl (lab, true, 0) with
      | true => some (x_st (x_set TS S r lab (true, 0, e) (zvI x)) t)
      | false => none)
    | _, _ => none)
  | .bastore, (0, n, x) :: (0, _, e) :: (2, r, _) :: t => (match x_nth S.2.1 r, x_lab LT S r with
    | some (lab, _), some (1, 2, len, ts) => (match x_ins0 S e len && x_pok LT S ts e (0, n, x) && x_kin cl (lab, true, 0) && x_has S (x_inc 128 x) && x_has S (x_inc 127 (x_scl (-1) x)) with
      | true => some (x_st (x_set TS S r lab (true, 0, e) (zvI x)) t)
      | false => none)
    | some (lab, _), some (1, 3, len, ts) => (match x_ins0 S e len && x_pok LT S ts e (0, n, x) && x_kin cl (lab, true, 0) && x_has S x && x_has S (x_inc 1 (x_scl (-1) x)) with
      | true => some (x_st (x_set TS S r lab (true, 0, e) (zvI x)) t)
      | false => none)
    | _, _ => none)
  | .lastore, (1, _, x) :: (0, _, e) :: (2, r, _) :: t => (match x_nth S.2.1 r, x_lab LT S r with
    | some (lab, _), some (2, _, len, _) => (match x_ins0 S e len && x_kin cl (lab, true, 0) with
      | true => some (x_st (x_set TS S r lab (true, 0, e) (zvJ x)) t)
      | false => none)
    | _, _ => none)
  | _, _ => none
def x_getf (LT : List zLab) (cp : Option mP) (S : zS) : Option zS := match cp, S.2.2.2.2.1 with
  | some (8, 0, _), (4, 1, _) :: t => some (x_st S (zvE 2 :: t))
  | some (8, 0, _), (4, 3, _) :: t => some (x_st S (zvE 4 :: t))
  | some (8, 1, _), (4, 1, _) :: t => some (x_st S (zvI (x_k 0) :: t))
  | some (8, 1, _), (4, 3, _) :: t => some (x_st S (zvI (x_k 0) :: t))
  | some (0, ci, k), (2, r, _) :: t => (match x_lab LT S r with
    | some (0, c, _, _) => (match Nat.beq c ci, x_rd LT S r (false, k.toNat, 0, []) with
      | true, some (v, S1) => some (x_st S1 (v :: t))
      | _, _ => none)
    | _ => none)
  | _, _ => none
def x_fty (ty : FieldType) (ft : zFT) : Bool := match ty, ft.1 with
  | .int, 0 => true
  | .boolean, 0 => zge ft.2.1 && zge (1 - ft.2.2)
  | .long, 1 => true
  | .object _, 2 => true
  | .object _, 3 => true
  | .array _, 2 => true
  | _, _ => false
def x_putf (LT : List zLab) (TS : zTS) (cl : List zKey) (cp : Option mP) (S : zS) : Option zS := match cp, S.2.2.2.2.1 with
  | some (0, ci, k), v :: (2, r, _) :: t => (match x_nth S.2.1 r, x_lab LT S r with
    | some (lab, _), some (0, c, _, fts) => (match x_nth fts k.toNat, mTF ci k.toNat with
      | some ft, some (ty, false) => (match Nat.beq c ci && x_fit S v ft && x_fty ty ft && x_kin cl (lab, false, k.toNat) with
        | true => some (x_st (x_set TS S r lab (false, k.toNat, 0, []) v) t)
        | false => none)
      | _, _ => none)
    | _, _ => none)
  | _, _ => none
def x_ldc (cp : Nat → Option mP) (i : Jvm.ClassFile.Instr) : Option (Nat × zV) := match i with
  | .ldc idx => (match cp idx with
    | some (5, _, v) => (match zge (v + 2147483648) && zge (2147483647 - v) with
      | true => some (2, zvI (x_k v))
      | false => none)
    | some (2, k, _) => some (2, zvE (2 * k + 1))
    | _ => none)
  | .ldc_w idx => (match cp idx with
    | some (5, _, v) => (match zge (v + 2147483648) && zge (2147483647 - v) with
      | true => some (3, zvI (x_k v))
      | false => none)
    | _ => none)
  | .ldc2_w idx => (match cp idx with
    | some (6, _, v) => (match zge (v + 9223372036854775808) && zge (9223372036854775807 - v) with
      | true => some (3, zvJ (x_k v))
      | false => none)
    | _ => none)
  | .getstatic idx => (match cp idx with
    | some (9, 0, _) => some (3, zvI (x_k 1))
    | some (9, 1, _) => some (3, zvE 5)
    | _ => none)
  | _ => none
/-- unknowns of one state told by another's -/
abbrev zTh : Type := List (Option zL) × List (Option Nat)
def x_se (θ : zTh) (e : zL) : Option zL := xl_fr (fun t acc => match x_nth θ.1 t.1, acc with
  | some (some f), some g => some (x_add (x_scl t.2 f) g)
  | _, _ => none) (some (e.1, [])) e.2
def x_sv (θ : zTh) (v : zV) : Option zV := match v.1 with
  | 0 => (x_se θ v.2.2).map zvI
  | 1 => (x_se θ v.2.2).map zvJ
  | 2 => (match x_nth θ.2 v.2.1 with
    | some (some r) => some (zvR r)
    | _ => none)
  | _ => some v
def x_ssl (θ : zTh) (sl : zSlot) : Option zSlot := (x_se θ sl.2.2).map fun e => (sl.1, sl.2.1, e)
def x_sf (θ : zTh) (f : zFa) : Option zFa := match x_nth θ.2 f.1, x_ssl θ f.2.1, x_sv θ f.2.2 with
  | some (some r), some sl, some v => some (r, sl, v)
  | _, _, _ => none
def x_sg (θ : zTh) (t : zTg) : Option zTg := (t.2.foldr (fun e acc => match x_se θ e, acc with
  | some f, some g => some (f :: g)
  | _, _ => none) (some [])).map fun l => (t.1, l)
/-- the pattern p is the sum w: what it tells of the unknowns -/
def x_me (S : zS) (θ : zTh) (p w : zL) : Option zTh := match p.2 with
  | [(b, c)] => (match zz p.1 && zo1 c, x_nth θ.1 b with
    | true, some none => some (x_sst θ.1 b (some w), θ.2)
    | true, some (some f) => (match x_same S f w with
      | true => some θ
      | false => none)
    | _, _ => (match x_se θ p with
      | some f => (match x_same S f w with
        | true => some θ
        | false => none)
      | none => none))
  | _ => (match x_se θ p with
    | some f => (match x_same S f w with
      | true => some θ
      | false => none)
    | none => none)
def x_mv (S : zS) (θ : zTh) (p w : zV) : Option zTh := match p.1, w.1 with
  | 0, 0 => x_me S θ p.2.2 w.2.2
  | 1, 1 => x_me S θ p.2.2 w.2.2
  | 2, 2 => (match x_nth θ.2 p.2.1 with
    | some none => some (θ.1, x_sst θ.2 p.2.1 (some w.2.1))
    | some (some r) => (match Nat.beq r w.2.1 with
      | true => some θ
      | false => none)
    | none => none)
  | 3, 3 => some θ
  | 4, 4 => (match Nat.beq p.2.1 w.2.1 with
    | true => some θ
    | false => none)
  | 5, _ => some θ
  | _, _ => none
def x_mvs (S : zS) : zTh → List zV → List zV → Option zTh
  | θ, [], [] => some θ
  | θ, p :: ps, w :: ws => (match x_mv S θ p w with
    | some θ1 => x_mvs S θ1 ps ws
    | none => none)
  | _, _, _ => none
/-- a slot that is written the same -/
def x_sq0 (a b : zSlot) : Bool := match Nat.beq a.2.1 b.2.1 with
  | true => (match a.1, b.1 with
    | false, false => true
    | true, true => x_leq a.2.2 b.2.2
    | _, _ => false)
  | false => false
/-- a fact of that slot, and the facts behind it -/
def x_sfx (fs : List zFa) (r : Nat) (sl : zSlot) : Option (zV × List zFa) := List.rec (motive := fun _ => Option (zV × List zFa)) none (fun f t ih => match Nat.beq f.1 r with
  | true => (match x_sq0 f.2.1 sl with
    | true => some (f.2.2, t)
    | false => ih)
  | false => ih) fs
def x_lk0 (LT : List zLab) (S : zS) (r : Nat) (b : Bool) : Bool := match x_lab LT S r, b with
  | some (0, _, _, _), false => true
  | some (1, _, _, _), true => true
  | some (2, _, _, _), true => true
  | _, _ => false
/-- H: facts that hold, looked through from where the last one was found -/
def x_mfH (LT : List zLab) : zS → zTh → List zFa → List zFa → Option (zS × zTh)
  | S, θ, _, [] => some (S, θ)
  | S, θ, H, f :: t => (match x_nth θ.2 f.1, x_ssl θ f.2.1 with
    | some (some r), some sl => (match x_sfx H r sl, x_lk0 LT S r sl.1 with
      | some (w, H1), true => (match x_mv S θ f.2.2 w with
        | some θ1 => x_mfH LT S θ1 H1 t
        | none => none)
      | _, _ => (match x_rd LT S r sl with
        | some (w, S1) => (match x_mv S1 θ f.2.2 w with
          | some θ1 => x_mfH LT S1 θ1 H t
          | none => none)
        | none => none))
    | _, _ => none)
def x_mf (LT : List zLab) (S : zS) (θ : zTh) (fs : List zFa) : Option (zS × zTh) := x_mfH LT S θ S.2.2.2.2.2.1 fs
def x_mes (S : zS) : zTh → List zL → List zL → Option zTh
  | θ, [], [] => some θ
  | θ, p :: ps, w :: ws => (match x_me S θ p w with
    | some θ1 => x_mes S θ1 ps ws
    | none => none)
  | _, _, _ => none
/-- the first of the tags that fits -/
def x_mt1 (S : zS) (θ : zTh) (p : zTg) (ws : List zTg) : Option zTh := List.rec (motive := fun _ => Option zTh) none (fun w _ ih => match Nat.beq p.1 w.1 with
  | true => (match x_mes S θ p.2 w.2 with
    | some θ1 => some θ1
    | none => ih)
  | false => ih) ws
theorem x_mt1_cons (S : zS) (θ : zTh) (p w : zTg) (ws : List zTg) : x_mt1 S θ p (w :: ws) = (match Nat.beq p.1 w.1 with
  | true => (match x_mes S θ p.2 w.2 with
    | some θ1 => some θ1
    | none => x_mt1 S θ p ws)
  | false => x_mt1 S θ p ws) := rfl
def x_mt (S : zS) : zTh → List zTg → Option zTh
  | θ, [] => some θ
  | θ, p :: ps => (match x_mt1 S θ p S.2.2.2.2.2.2 with
    | some θ1 => x_mt S θ1 ps
    | none => none)
/-- an unknown as it is: its range as it is told -/
def x_ck1 (S : zS) (p : Int × Int) (f : zL) : Bool := match f.2 with
  | [(b, c)] => (match zo1 c && zz f.1, x_nth S.1 b with
    | true, some w => zge (w.1 - p.1) && zge (p.2 - w.2)
    | _, _ => false)
  | _ => false
def x_ck2 (S : zS) (p : Int × Int) (f : zL) : Bool := match x_ck1 S p f with
  | true => true
  | false => x_has S (x_inc (-p.1) f) && x_has S (x_inc p.2 (x_scl (-1) f))
def x_ckI (S : zS) : List (Int × Int) → List (Option zL) → Bool
  | [], [] => true
  | p :: ps, some f :: fs => x_ck2 S p f && x_ckI S ps fs
  | _, _ => false
def x_ckR (S : zS) : List (Nat × Bool) → List (Option Nat) → Bool
  | [], [] => true
  | p :: ps, some r :: rs => (match x_nth S.2.1 r with
    | some (lab, nul) => Nat.beq lab p.1 && (!nul || p.2)
    | none => false) && x_ckR S ps rs
  | _, _ => false
/-- the labels of what is bound so far -/
def x_pre (S : zS) : List (Nat × Bool) → List (Option Nat) → Bool
  | p :: ps, some r :: rs => (match x_nth S.2.1 r with
    | some (lab, _) => Nat.beq lab p.1
    | none => false) && x_pre S ps rs
  | _ :: ps, none :: rs => x_pre S ps rs
  | _, _ => true
/-- the state S is one of those that the pattern P tells; how P's unknowns are told by S's -/
def x_mat (LT : List zLab) (S : zS) (θ0 : zTh) (P : zS) : Option (zS × zTh) := match x_mvs S θ0 P.2.2.2.1 S.2.2.2.1 with
  | none => none
  | some θ1 => match x_mvs S θ1 P.2.2.2.2.1 S.2.2.2.2.1 with
    | none => none
    | some θ2 => match x_pre S P.2.1 θ2.2 with
     | false => none
     | true => match x_mf LT S θ2 P.2.2.2.2.2.1 with
      | none => none
      | some (S1, θ3) => match x_mt S1 θ3 P.2.2.2.2.2.2 with
        | none => none
        | some θ => match x_ckI S1 P.1 θ.1 && x_ckR S1 P.2.1 θ.2 && P.2.2.1.all (fun e => match x_se θ e with
          | some f => x_has S1 f
          | none => false) with
          | true => some (S1, θ)
          | false => none
/-- the first n unknowns are the same -/
def x_idO (n nr n2 nr2 : Nat) : zTh := ((List.range n).map (fun b => some (x_b b)) ++ List.replicate (n2 - n) none, (List.range nr).map some ++ List.replicate (nr2 - nr) none)
def x_id (n nr n2 nr2 : Nat) : zTh := (x_up (fun b => some (x_b b)) (x_up (fun _ => none) [] (n2 - n) 0) n 0, x_up some (x_up (fun _ => none) [] (nr2 - nr) 0) nr 0)
theorem x_id_eq : x_id = x_idO := by
  funext n nr n2 nr2
  unfold x_id x_idO
  rw [x_up_rep, x_up_rep, x_up_eq, x_up_eq]
  simp only [Nat.zero_add]
/-- a method read: its number, how it begins (arguments as the stack), how it may end, what it may change; steps, frames, words that it wants -/
abbrev zCtx : Type := Nat × zS × List zS × List zKey × Nat × Nat × Nat
/-- behind a call, by one of its ends -/
def x_asl : zS → List zL → Option zS
  | S, [] => some S
  | S, e :: t => (match x_as S e with
    | some S1 => x_asl S1 t
    | none => none)
def x_rgs : List (Option zL) → List (Int × Int) → List (Int × Int) → Option (List zL)
  | some f :: fs, p :: ps, q :: qs => (match x_rgs fs ps qs with
    | some l => some ((match zge (q.1 - p.1 - 1) with | true => [x_inc (-q.1) f] | false => []) ++ (match zge (p.2 - q.2 - 1) with | true => [x_inc q.2 (x_scl (-1) f)] | false => []) ++ l)
    | none => none)
  | [], [], _ => some []
  | _, _, _ => none
def x_all {α β : Type} (f : α → Option β) : List α → Option (List β)
  | [] => some []
  | a :: t => (match f a, x_all f t with
    | some b, some l => some (b :: l)
    | _, _ => none)
/-- two facts of one slot -/
def x_un (LT : List zLab) (S : zS) (kept : List zFa) : List zFa → List zL
  | [] => []
  | f :: t => match x_find S kept f.1 f.2.1, f.2.2.1, x_lab LT S f.1, f.2.1.1 with
    | some (0, _, w), 0, some (0, _, _, _), false => x_sub f.2.2.2.2 w :: x_sub w f.2.2.2.2 :: x_un LT S kept t
    | some (0, _, w), 0, some (1, _, _, _), true => x_sub f.2.2.2.2 w :: x_sub w f.2.2.2.2 :: x_un LT S kept t
    | some (1, _, w), 1, some (0, _, _, _), false => x_sub f.2.2.2.2 w :: x_sub w f.2.2.2.2 :: x_un LT S kept t
    | some (1, _, w), 1, some (2, _, _, _), true => x_sub f.2.2.2.2 w :: x_sub w f.2.2.2.2 :: x_un LT S kept t
    | _, _, _, _ => x_un LT S kept t
def x_key (lab : Nat) (sl : zSlot) : zKey := match sl.1 with
  | true => (lab, true, 0)
  | false => (lab, false, sl.2.1)
/-- the facts that a change of those keys leaves -/
def x_keep (S : zS) (cl : List zKey) : List zFa := match cl with
  | [] => S.2.2.2.2.2.1
  | _ :: _ => xl_fl (fun f => match x_nth S.2.1 f.1 with
    | some (lab, _) => !(x_kin cl (x_key lab f.2.1))
    | none => false) S.2.2.2.2.2.1
/-- the unknowns of an end: those of the start, then new ones -/
def x_thx (S : zS) (θ : zTh) (P0 P : zS) : zTh := (θ.1 ++ (List.range (P.1.length - P0.1.length)).map (fun j => some (x_b (S.1.length + j))), θ.2 ++ (List.range (P.2.1.length - P0.2.1.length)).map (fun j => some (S.2.1.length + j)))
/-- the state behind a call, before what the end tells of its unknowns is noted -/
def x_mid (TC : zTC) (S : zS) (P0 : zS) (cl : List zKey) (P : zS) (fs : List zFa) (ts : List zTg) (T : List zV) : zS :=
  (S.1 ++ P.1.drop P0.1.length, S.2.1 ++ P.2.1.drop P0.2.1.length, S.2.2.1, S.2.2.2.1, T, fs ++ x_keep S cl, ts ++ xl_fl (fun t => TC t cl) S.2.2.2.2.2.2)
def x_app (LT : List zLab) (TC : zTC) (S : zS) (θ : zTh) (P0 : zS) (cl : List zKey) (P : zS) (rest : List zV) : Option (List zS) :=
  match x_rgs θ.1 P0.1 P.1, x_all (x_se (x_thx S θ P0 P)) P.2.2.1, x_all (x_sf (x_thx S θ P0 P)) P.2.2.2.2.2.1, x_all (x_sg (x_thx S θ P0 P)) P.2.2.2.2.2.2, x_all (x_sv (x_thx S θ P0 P)) P.2.2.2.2.1 with
  | some rg, some cs, some fs, some ts, some vs =>
    (match x_asl (x_mid TC S P0 cl P fs ts (vs ++ rest)) (rg ++ (cs ++ x_un LT (x_mid TC S P0 cl P fs ts (vs ++ rest)) (x_keep S cl) fs)) with
    | some S1 => some [S1]
    | none => some [])
  | _, _, _, _, _ => none
def x_apps (LT : List zLab) (TC : zTC) (S : zS) (θ : zTh) (P0 : zS) (cl : List zKey) (rest : List zV) : List zS → Option (List zS)
  | [] => some []
  | P :: t => (match x_app LT TC S θ P0 cl P rest, x_apps LT TC S θ P0 cl rest t with
    | some a, some b => some (a ++ b)
    | _, _ => none)
def x_cat (v : zV) : Nat := match v.1 with
  | 1 => 2
  | _ => 1
def x_nt (v : zV) : Bool := match v.1 with
  | 0 => true
  | 1 => true
  | 2 => true
  | 3 => true
  | 4 => true
  | _ => false
def x_recv (LT : List zLab) (S : zS) (kd kk own : Nat) (a : List zV) : Bool := match kd, kk, a with
  | 1, 1, _ => true
  | 0, 0, (2, r, _) :: _ => (match x_lab LT S r with
    | some (0, c, _, _) => Nat.beq c own
    | _ => false)
  | 0, 0, (4, k, _) :: _ => Nat.beq own 16 && (Nat.beq k 1 || Nat.beq k 3)
  | _, _, _ => false
/-- a call by one reading of the method -/
def x_call1 (LT : List zLab) (CT : List zCtx) (TC : zTC) (cl : List zKey) (fr lo K : Nat) (S : zS) (kd kk y own na mx : Nat) (c : Nat) : Option (List zS) := match x_nth CT c with
  | some (mid, P0, Ps, cl', F', fr', lo') => (match Nat.beq mid y && Nat.ble na S.2.2.2.2.1.length && Nat.ble (fr' + 1) fr && Nat.ble (lo' + (mx + 19)) lo && Nat.ble F' K && Nat.ble (((S.2.2.2.2.1.drop na).map x_cat).sum) 8 && (S.2.2.2.2.1.all x_nt) && x_recv LT S kd kk own (S.2.2.2.2.1.take na).reverse && Nat.ble (((S.2.2.2.2.1.take na).map x_cat).sum) mx && xl_all (x_kin cl) cl' with
    | true => (match x_mat LT (x_st (x_lc S []) (S.2.2.2.2.1.take na).reverse) (x_id 1 0 P0.1.length P0.2.1.length) P0 with
      | some (S1, θ) => x_apps LT TC (x_lc S1 S.2.2.2.1) θ P0 cl' (S.2.2.2.2.1.drop na) Ps
      | none => none)
    | false => none)
  | none => none
def x_first {α : Type} (f : Nat → Option α) : List Nat → Option α
  | [] => none
  | c :: t => match f c with
    | some a => some a
    | none => x_first f t
/-- what is known of the places of a that are copied, as known of b's -/
def x_cp1 (a b : Nat) (sp dp n : Int) (f : zFa) : Option zFa := match Nat.beq f.1 a && f.2.1.1 && f.2.1.2.2.2.isEmpty && Nat.beq f.2.2.1 0 && zge (f.2.1.2.2.1 - sp) && zge (sp + n - 1 - f.2.1.2.2.1) with
  | true => some (b, (true, 0, x_k (f.2.1.2.2.1 - sp + dp)), f.2.2)
  | false => none
def x_cpf (a b : Nat) (sp dp n : zL) (fs : List zFa) : List zFa := match sp.2.isEmpty && dp.2.isEmpty && n.2.isEmpty with
  | true => fs.filterMap (x_cp1 a b sp.1 dp.1 n.1)
  | false => []
/-- the JDK's: System.arraycopy, Math.max, Math.min of ints -/
def x_jdk (LT : List zLab) (TC : zTC) (cl : List zKey) (q : Nat) (S : zS) : Option zS := match q, S.2.2.2.2.1 with
  | 0, (0, _, n) :: (0, _, dp) :: (2, b, _) :: (0, _, sp) :: (2, a, _) :: t => (match x_nth S.2.1 b, x_lab LT S a, x_lab LT S b with
    | some (lab, _), some (1, 0, l1, [t1]), some (1, 0, l2, [t2]) => (match x_has S sp && x_has S dp && x_has S n && x_has S (x_inc (l1 : Int) (x_scl (-1) (x_add sp n))) && x_has S (x_inc (l2 : Int) (x_scl (-1) (x_add dp n))) && Nat.beq t1.1 0 && Nat.beq t2.1 0 && zge (t1.2.1 - t2.2.1) && zge (t2.2.2 - t1.2.2) && x_kin cl (lab, true, 0) with
      | true => some (x_tg (x_fa (x_st S t) (x_cpf a b sp dp n S.2.2.2.2.2.1 ++ x_keep S [(lab, true, 0)])) (S.2.2.2.2.2.2.filter (fun t => TC t [(lab, true, 0)])))
      | false => none)
    | _, _, _ => none)
  | 2, (0, _, f) :: (0, _, e) :: t => (match x_has S (x_sub e f), x_has S (x_sub f e) with
    | true, _ => some (x_st S (zvI e :: t))
    | false, true => some (x_st S (zvI f :: t))
    | false, false => some (x_int S (match zge (x_lo S.1 e - x_lo S.1 f) with | true => x_lo S.1 e | false => x_lo S.1 f, match zge (x_hi S.1 e - x_hi S.1 f) with | true => x_hi S.1 e | false => x_hi S.1 f) t))
  | 3, (0, _, f) :: (0, _, e) :: t => (match x_has S (x_sub f e), x_has S (x_sub e f) with
    | true, _ => some (x_st S (zvI e :: t))
    | false, true => some (x_st S (zvI f :: t))
    | false, false => some (x_int S (match zge (x_lo S.1 f - x_lo S.1 e) with | true => x_lo S.1 e | false => x_lo S.1 f, match zge (x_hi S.1 f - x_hi S.1 e) with | true => x_hi S.1 e | false => x_hi S.1 f) t))
  | _, _ => none
/-- by which part of x_exec an instruction is taken (0: by any) -/
def x_cls (i : Jvm.ClassFile.Instr) : Nat := match i with
  | .iload_n _ => 1
  | .iload _ => 1
  | .lload_n _ => 1
  | .lload _ => 1
  | .aload_n _ => 1
  | .aload _ => 1
  | .istore_n _ => 2
  | .istore _ => 2
  | .lstore_n _ => 2
  | .lstore _ => 2
  | .astore_n _ => 2
  | .astore _ => 2
  | .iconst _ => 3
  | .bipush _ => 3
  | .sipush _ => 3
  | .lconst _ => 3
  | .aconst_null => 3
  | .iadd => 3
  | .isub => 3
  | .imul => 3
  | .ior => 3
  | .ixor => 3
  | .ishl => 3
  | .ishr => 3
  | .iushr => 3
  | .idiv => 3
  | .irem => 3
  | .ineg => 3
  | .i2b => 3
  | .i2c => 3
  | .i2l => 3
  | .l2i => 3
  | .ladd => 3
  | .lmul => 3
  | .dup => 3
  | .dup2 => 3
  | .pop => 3
  | .goto _ => 4
  | .ifnull _ => 4
  | .ifnonnull _ => 4
  | .ifCond _ _ => 4
  | .if_icmp _ _ => 4
  | .tableswitch _ _ _ _ => 4
  | .iaload => 5
  | .baload => 5
  | .laload => 5
  | .aaload => 5
  | .arraylength => 5
  | .iastore => 6
  | .bastore => 6
  | .lastore => 6
  | .iinc _ _ => 7
  | .getfield _ => 8
  | .putfield _ => 9
  | .invokevirtual _ => 10
  | .invokestatic _ => 10
  | .invokespecial _ => 10
  | .ireturn => 11
  | .return_ => 11
  | .lreturn => 11
  | .areturn => 11
  | .ldc _ => 12
  | .ldc_w _ => 12
  | .ldc2_w _ => 12
  | .getstatic _ => 12
  | _ => 0
/-- a part that is asked only for instructions of its class -/
def x_sk {α : Type} (c m : Nat) (v : Option α) : Option α := match Nat.beq c m with
  | true => v
  | false => match c with
    | 0 => v
    | _ + 1 => none
/-- one instruction that doesn't return: where it may go on, with what -/
def x_exec (LT : List zLab) (CT : List zCtx) (TS : zTS) (TC : zTC) (cl : List zKey) (fr lo K own : Nat) (cs : List (Nat × List Nat)) (i : Jvm.ClassFile.Instr) (len pc : Nat) (S : zS) : zO :=
  x_fn (x_cls i) fun c => match x_sk c 10 (mInv i) with
  | some (idx, kd) => (match mCPf own idx, Nat.beq len 3 with
    | some (7, q, w), true => (match zz (w - (kd : Int)) && Nat.ble 1 fr && Nat.ble 64 lo && Nat.ble ((S.2.2.2.2.1.map x_cat).sum) 16 && S.2.2.2.2.1.all x_nt with
      | true => (x_jdk LT TC cl q S).map fun S1 => [(pc + 3, S1)]
      | false => none)
    | some (1, y, kk), true => (match mME y with
      | some (own', _, na, mx, _, _, _) => (match x_lk pc cs with
        | some l => (x_first (x_call1 LT CT TC cl fr lo K S kd kk.toNat y own' na mx) l).map fun l => l.map fun S1 => (pc + 3, S1)
        | none => none)
      | none => none)
    | _, _ => none)
  | none => match x_sk c 13 (x_and i len pc S) with
    | some l => some l
    | none => match x_sk c 13 (x_lcmp i len pc S) with
    | some l => some l
    | none => match x_sk c 3 (x_s1 i S) with
    | some (n, S1) => (match Nat.beq n len with
      | true => some [(pc + len, S1)]
      | false => none)
    | none => match x_sk c 1 (mLd i) with
      | some (k, kd, n) => (match x_nth S.2.2.2.1 k with
        | some v => (match x_kd v kd && Nat.beq n len with
          | true => some [(pc + len, x_st S (v :: S.2.2.2.2.1))]
          | false => none)
        | none => none)
      | none => match x_sk c 2 (mSt i) with
        | some (k, kd, n) => (match S.2.2.2.2.1 with
          | v :: r => (match x_kd v kd && Nat.beq n len with
            | true => (x_put S k kd v r).map fun S1 => [(pc + len, S1)]
            | false => none)
          | [] => none)
        | none => match x_sk c 4 (x_br i len pc S) with
          | some l => some l
          | none => match x_sk c 5 (x_geta LT i S) with
            | some S1 => (match Nat.beq len 1 with
              | true => some [(pc + 1, S1)]
              | false => none)
            | none => match x_sk c 6 (x_puta LT TS cl i S) with
              | some S1 => (match Nat.beq len 1 with
                | true => some [(pc + 1, S1)]
                | false => none)
              | none => match x_sk c 12 (x_ldc (mCPf own) i) with
                | some (n, v) => (match Nat.beq n len with
                  | true => some [(pc + len, x_st S (v :: S.2.2.2.2.1))]
                  | false => none)
                | none => match i with
                  | .iinc k n => (match x_nth S.2.2.2.1 k, Nat.beq len 3 && zge (n + 32768) && zge (32767 - n) with
                    | some (0, _, e), true => (match x_lin S (x_inc n e) [] with
                      | S1 => match S1.2.2.2.2.1 with
                        | v :: _ => some [(pc + 3, x_st (x_lc S1 (x_p1 S1.2.2.2.1 k v)) S.2.2.2.2.1)]
                        | [] => none)
                    | _, _ => none)
                  | .getfield idx => (match Nat.beq len 3 with
                    | true => (x_getf LT (mCPf own idx) S).map fun S1 => [(pc + 3, S1)]
                    | false => none)
                  | .putfield idx => (match Nat.beq len 3 with
                    | true => (x_putf LT TS cl (mCPf own idx) S).map fun S1 => [(pc + 3, S1)]
                    | false => none)
                  | _ => none
/-- does it return there, and may the answer be so? -/
def x_ret (rt : Nat) (i : Jvm.ClassFile.Instr) (S : zS) : Option Bool := match i, rt, S.2.2.2.2.1 with
  | .return_, 0, [] => some true
  | .ireturn, 1, [(0, _, _)] => some true
  | .ireturn, 2, [(0, _, e)] => some (x_has S e && x_has S (x_inc 1 (x_scl (-1) e)))
  | .ireturn, 5, [(0, _, e)] => some (x_has S (x_inc 128 e) && x_has S (x_inc 127 (x_scl (-1) e)))
  | .ireturn, 6, [(0, _, e)] => some (x_has S e && x_has S (x_inc 65535 (x_scl (-1) e)))
  | .lreturn, 3, [(1, _, _)] => some true
  | .areturn, 4, [(2, _, _)] => some true
  | .areturn, 4, [(3, _, _)] => some true
  | .return_, _, _ => some false
  | .ireturn, _, _ => some false
  | .lreturn, _, _ => some false
  | .areturn, _, _ => some false
  | _, _, _ => none
/-- a place where roads meet: pc, what holds there, how many steps may follow -/
abbrev zN : Type := Nat × zS × zL
def x_rules (RU : zRU) : List Nat → List zS → Option (List zS)
  | [], l => some l
  | n :: t, l => (match x_all (RU n) l with
    | some ll => x_rules RU t ll.flatten
    | none => none)
/-- the roads from one such place (steps left: w; steps gone: k) -/
def x_go (LT : List zLab) (CT : List zCtx) (TS : zTS) (TC : zTC) (RU : zRU) (P0 : zS) (Ps : List zS) (cl : List zKey) (fr lo K own rt : Nat) (cd : List (Nat × List (Nat × Jvm.ClassFile.Instr × Nat))) (cs hs : List (Nat × List Nat)) (ns : List zN) (w : zL) : Nat → Nat → Nat → zS → Bool
  | 0, _, _, _ => false
  | n + 1, k, pc, S => x_fn pc fun pc => x_fn k fun k => (Nat.blt 0 k && ns.any (fun nd => Nat.beq nd.1 pc && (match x_mat LT S (x_id P0.1.length P0.2.1.length nd.2.1.1.length nd.2.1.2.1.length) nd.2.1 with
      | some (S1, θ) => (match x_se θ nd.2.2 with
        | some f => x_has S1 f && x_has S1 (x_inc (-(k : Int)) (x_sub w f))
        | none => false)
      | none => false))) || (match x_lk2 pc cd with
    | none => false
    | some (i, len) => match x_rules RU ((x_lk pc hs).getD []) [S] with
      | none => false
      | some l => l.all fun S1 => match x_sk (x_cls i) 11 (x_ret rt i S1) with
        | some b => b && Nat.beq len 1 && x_has S1 (x_inc (-((k : Int) + 1)) w) && Ps.any (fun P => (x_mat LT (x_lc S1 []) (x_id P0.1.length P0.2.1.length P.1.length P.2.1.length) P).isSome)
        | none => match x_exec LT CT TS TC cl fr lo K own cs i len pc S1 with
          | none => false
          | some l2 => l2.all fun q => x_go LT CT TS TC RU P0 Ps cl fr lo K own rt cd cs hs ns w n (k + 1) q.1 q.2)
def x_lay : List zV → List zV
  | [] => []
  | v :: r => match v.1 with
    | 1 => v :: zvT :: x_lay r
    | _ => v :: x_lay r
/-- a reading of a method, checked: by the readings CT of those that it calls -/
def x_ok (LT : List zLab) (CT : List zCtx) (TS : zTS) (TC : zTC) (RU : zRU) (c : zCtx) (cs hs : List (Nat × List Nat)) (ns : List zN) (w0 : zL) (K N : Nat) : Bool := match c, mME c.1 with
  | (_, P0, Ps, cl, F, fr, lo), some (own, _, na, mx, rt, _, cd) =>
    Nat.beq na P0.2.2.2.2.1.length && Nat.ble (x_lay P0.2.2.2.2.1).length mx && P0.2.2.2.2.1.all x_nt && Nat.ble 1 P0.1.length && w0.2.all (fun t => Nat.blt t.1 P0.1.length) && x_has P0 w0 && x_has P0 (x_inc ((F : Int) - (K : Int)) (x_scl (-1) w0)) && Ps.all (fun P => Nat.ble P0.1.length P.1.length && Nat.ble P0.2.1.length P.2.1.length) &&
    ns.all (fun nd => Nat.ble P0.1.length nd.2.1.1.length && Nat.ble P0.2.1.length nd.2.1.2.1.length && x_go LT CT TS TC RU P0 Ps cl fr lo K own rt (mCDf c.1) cs hs ns nd.2.2 N 0 nd.1 nd.2.1) &&
    x_go LT CT TS TC RU P0 Ps cl fr lo K own rt (mCDf c.1) cs hs ns w0 N 0 0 (x_st (x_lc P0 (x_lay P0.2.2.2.2.1 ++ List.replicate (mx - (x_lay P0.2.2.2.2.1).length) zvT)) [])
  | _, none => false
end
