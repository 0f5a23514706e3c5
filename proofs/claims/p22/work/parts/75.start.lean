noncomputable section
/-! ===== the start: the classes, the words of the premises ===== -/
theorem m_arr {args : Array Value} {s : State} {ty : FieldType} (hr : ∀ C, ty ≠ .object C) (h : (Cond.arrayClass ty).before args s = true) : ∃ cA : ClassId, ArrOfT s cA ty ∧ va_RA s cA ty := by
  obtain ⟨c, k, comp, h1, h2, h3⟩ := Cond.arrayClass_spec h
  refine ⟨c, fun n z => ⟨(fun k h => by cases h), k, h2, comp, h3⟩, ?_⟩
  cases ty <;> first | exact h1 | exact absurd rfl (hr _)
theorem m_K0 {args : Array Value} {s : State} (hts : ∀ w ∈ mWS, w.before args s = true) (hao : (Cond.arrayOver (.object "HairRope$State")).before args s = true) : ∃ (D : va_G) (TA : Nat → ClassId), va_K D mcls (mtys TA) s := by
  have hc : ∀ k : Nat, ∃ z : ClassId × (Nat → Nat), ∀ q : vw_C, mcls[k]? = some q → u_Kn s q.1 q.2.1 q.2.2 z.1 z.2 := by
    intro k
    cases hq : mcls[k]? with
    | none => exact ⟨((0 : Nat), fun _ => 0), fun q h => by cases h⟩
    | some r =>
      obtain ⟨q, hq', rfl⟩ := mcls_inv hq
      obtain ⟨cC, iS, h⟩ := u_known hts (m_cls hq').1 (hts _ (mins_at hq' _ List.mem_cons_self))
      exact ⟨(cC, iS), fun r h' => by cases h'; exact h⟩
  obtain ⟨f, hf⟩ := Classical.axiomOfChoice hc
  obtain ⟨aI, hI⟩ := m_arr (by intro C h; cases h) (hts _ mwx_aI)
  obtain ⟨aJ, hJ⟩ := m_arr (by intro C h; cases h) (hts _ mwx_aJ)
  obtain ⟨aB, hB⟩ := m_arr (by intro C h; cases h) (hts _ mwx_aB)
  obtain ⟨aZ, hZ⟩ := m_arr (by intro C h; cases h) (hts _ mwx_aZ)
  obtain ⟨comp, cO, kO, g1, -, g3, g4, g5⟩ := Cond.arrayOver_spec hao
  refine ⟨(fun k => (f k).1, fun k => (f k).2), fun i => match i with | 0 => aI | 1 => aJ | 2 => aB | 3 => aZ | _ => cO, fun k q hq => hf k q hq, ?_⟩
  intro k q hq
  match k, hq with
  | 0, hq => cases hq; exact hI
  | 1, hq => cases hq; exact hJ
  | 2, hq => cases hq; exact hB
  | 3, hq => cases hq; exact hZ
  | 4, hq => cases hq; exact ⟨fun n z => ⟨(fun k h => by cases h), kO, g3, comp, g4⟩, kO, comp, g3, g4, g1, g5⟩
  | k + 5, hq => simp [mtys] at hq
/-- the leaf of a word's tree at a path (1: the whole; 2 n: the left of n's, 2 n + 1: the right) -/
def mleaf : Nat → Nat → Jvm.Cond → Option Jvm.Cond
  | 0, _, _ => none
  | f + 1, n, T => if n = 1 then some T else match mleaf f (n / 2) T with
    | some (.and a b) => some (if n % 2 = 0 then a else b)
    | _ => none
theorem mleaf_before {args : Array Value} {s : State} {T : Jvm.Cond} (h : T.before args s = true) : ∀ (f n : Nat) (c : Jvm.Cond), mleaf f n T = some c → c.before args s = true := by
  intro f
  induction f with
  | zero => intro n c q; cases q
  | succ f ih =>
    intro n c q
    unfold mleaf at q
    split at q
    · cases q; exact h
    · split at q
      · next a b hab =>
        have g := ih _ _ hab
        rw [Cond.before_and, Bool.and_eq_true] at g
        cases q
        split
        · exact g.1
        · exact g.2
      · cases q
def mp91 : List Nat := [783, 392, 786, 787, 394, 790, 791, 396, 794, 795, 796, 797, 798, 799, 400, 802, 803, 402, 806, 807, 404, 810, 811, 406, 814, 815, 408, 818, 819, 410, 822, 823, 412, 826, 827, 828, 829, 830, 831, 416, 834, 835, 418, 838, 839, 420, 842, 843, 422, 846, 847, 424, 850, 851, 426, 854, 855, 428, 858, 859, 860, 861, 862, 863, 432, 866, 867, 434, 870, 871, 436, 874, 875, 438, 878, 879, 440, 882, 883, 442, 886, 887, 444, 890, 891, 892, 893, 894, 895, 448, 898, 899, 450, 902, 903, 452, 906, 907, 454, 910, 911, 456, 914, 915, 458, 918, 919, 460, 922, 923, 924, 925, 926, 927, 464, 930, 931, 466, 934, 935, 468, 938, 939, 470, 942, 943, 472, 946, 947, 474, 950, 951, 476, 954, 955, 956, 957, 958, 959, 480, 962, 963, 482, 966, 967, 484, 970, 971, 486, 974, 975, 488, 978, 979, 490, 982, 983, 492, 986, 987, 988, 989, 990, 991, 496, 994, 995, 498, 998, 999, 500, 1002, 1003, 1004, 1005, 1006]
def mp77 : List Nat := [506, 1014, 1015, 508, 1018, 1019, 1020, 1021, 1022]
def mgv : List (Nat × Jvm.Cond) := [(771, .eq (.static "java/lang/String" "COMPACT_STRINGS" "Z") (.int 1)),
  (386, .isRef (.static "jdk/internal/util/Preconditions" "SIOOBE_FORMATTER" "Ljava/util/function/BiFunction;")),
  (1007, .exactly (.string "HairRope$Tape" 77) "java/lang/String"),
  (778, .exactly (.string "HairRope$Tape" 91) "java/lang/String"),
  (504, .eq (.field (.string "HairRope$Tape" 77) "java/lang/String" "coder" "B") (.int 0)),
  (779, .eq (.field (.string "HairRope$Tape" 91) "java/lang/String" "coder" "B") (.int 0)),
  (1010, .arrayOf (.field (.string "HairRope$Tape" 77) "java/lang/String" "value" "[B") .byte),
  (390, .arrayOf (.field (.string "HairRope$Tape" 91) "java/lang/String" "value" "[B") .byte),
  (1011, .eq (.length (.field (.string "HairRope$Tape" 77) "java/lang/String" "value" "[B")) (.int 9)),
  (782, .eq (.length (.field (.string "HairRope$Tape" 91) "java/lang/String" "value" "[B")) (.int 176)),
  (1023, .not (.eq (.string "HairRope$Tape" 91) (.string "HairRope$Tape" 77)))]
set_option maxRecDepth 100000 in
theorem mgv_ok : mgv.all (fun q => decide (mleaf 16 q.1 (Jvm.Cond.and given_1 narrow_1) = some q.2)) = true := by decide +kernel
theorem mgv_1 {args : Array Value} {s : State} (h : (Jvm.Cond.and given_1 narrow_1).before args s = true) {n : Nat} {w : Jvm.Cond} (hw : (n, w) ∈ mgv) : w.before args s = true :=
  mleaf_before h 16 n w (of_decide_eq_true (List.all_eq_true.mp mgv_ok _ hw))
set_option maxRecDepth 100000 in
theorem mgv_ok2 : (List.range 9).all (fun j => decide (mleaf 16 (mp77.getD j 0) (Jvm.Cond.and given_1 narrow_1) = some (Jvm.Cond.eq (.elem (.field (.string "HairRope$Tape" 77) "java/lang/String" "value" "[B") (.int (Int32.ofNat j))) (.int (mST0.getD j 0))))) = true := by decide +kernel
set_option maxRecDepth 100000 in
theorem mgv_ok3 : (List.range 176).all (fun j => decide (mleaf 16 (mp91.getD j 0) (Jvm.Cond.and given_1 narrow_1) = some (Jvm.Cond.eq (.elem (.field (.string "HairRope$Tape" 91) "java/lang/String" "value" "[B") (.int (Int32.ofNat j))) (.int (mST1.getD j 0))))) = true := by decide +kernel
theorem mgv_2 {args : Array Value} {s : State} (h : (Jvm.Cond.and given_1 narrow_1).before args s = true) {j : Nat} (hj : j < 9) : (Jvm.Cond.eq (.elem (.field (.string "HairRope$Tape" 77) "java/lang/String" "value" "[B") (.int (Int32.ofNat j))) (.int (mST0.getD j 0))).before args s = true :=
  mleaf_before h 16 _ _ (of_decide_eq_true (List.all_eq_true.mp mgv_ok2 j (List.mem_range.mpr hj)))
theorem mgv_3 {args : Array Value} {s : State} (h : (Jvm.Cond.and given_1 narrow_1).before args s = true) {j : Nat} (hj : j < 176) : (Jvm.Cond.eq (.elem (.field (.string "HairRope$Tape" 91) "java/lang/String" "value" "[B") (.int (Int32.ofNat j))) (.int (mST1.getD j 0))).before args s = true :=
  mleaf_before h 16 _ _ (of_decide_eq_true (List.all_eq_true.mp mgv_ok3 j (List.mem_range.mpr hj)))
set_option maxRecDepth 100000 in
theorem mgw_0 : Jvm.Cond.laysStatic "java/lang/String" "COMPACT_STRINGS" "Z" ∈ lw_tbl := mtb_in 3 _ (List.mem_of_getElem? (i := 79) rfl)
set_option maxRecDepth 100000 in
theorem mgw_1 : Jvm.Cond.initialized "java/lang/String" ∈ lw_tbl := mtb_in 1 _ (List.mem_of_getElem? (i := 15) rfl)
set_option maxRecDepth 100000 in
theorem mgw_2 : Jvm.Cond.laysStatic "jdk/internal/util/Preconditions" "SIOOBE_FORMATTER" "Ljava/util/function/BiFunction;" ∈ lw_tbl := mtb_in 3 _ (List.mem_of_getElem? (i := 99) rfl)
set_option maxRecDepth 100000 in
theorem mgw_3 : Jvm.Cond.initialized "jdk/internal/util/Preconditions" ∈ lw_tbl := mtb_in 1 _ (List.mem_of_getElem? (i := 17) rfl)
end
