/-! ===== the lemmas in plain numbers, by program (gkw.py) ===== -/
set_option maxRecDepth 100000 in
theorem c_div8 : (List.range 22).all (fun (m : Nat) => decide ((mOP 107 (Int32.ofInt (8 * (m : Int))) (Int32.ofInt 8)).toInt = m)) = true := by decide +kernel
theorem t_cl4_1 {c : Int} (h : t_cl 4 c = 1) : t_sg c = c := by
  unfold t_cl at h
  rw [if_neg (by decide), if_neg (by decide), if_neg (by decide), if_pos rfl] at h
  unfold t_sg at h ⊢
  omega
theorem t_cl4_0 {c : Int} (h : t_cl 4 c = 0) : t_sg c = 1 := by
  unfold t_cl at h
  rw [if_neg (by decide), if_neg (by decide), if_neg (by decide), if_pos rfl] at h
  omega
theorem b_low (X : BitVec 32) {k : Nat} (hk : k ≤ 24) : (X >>> k).signExtend 8 = (X.sshiftRight k).signExtend 8 := by
  apply BitVec.eq_of_getLsbD_eq
  intro i hi
  simp only [BitVec.getLsbD_signExtend, BitVec.getLsbD_ushiftRight, BitVec.getLsbD_sshiftRight]
  simp only [show i < 32 by omega, show ¬ 32 ≤ i by omega, show k + i < 32 by omega, if_true, decide_false, Bool.not_false, Bool.true_and]
theorem w4_24 (X : Int32) : (mOP 106 X (Int32.ofInt 24)).toInt8 = (X >>> Int32.ofInt 24).toInt8 ∧ (mOP 105 X (Int32.ofInt 24)).toInt8 = (X >>> Int32.ofInt 24).toInt8 := ⟨Int8.toBitVec_inj.mp (b_low X.toBitVec (k := 24) (by omega)), rfl⟩
theorem w4_16 (X : Int32) : (mOP 106 X (Int32.ofInt 16)).toInt8 = (X >>> Int32.ofInt 16).toInt8 ∧ (mOP 105 X (Int32.ofInt 16)).toInt8 = (X >>> Int32.ofInt 16).toInt8 := ⟨Int8.toBitVec_inj.mp (b_low X.toBitVec (k := 16) (by omega)), rfl⟩
theorem w4_8 (X : Int32) : (mOP 106 X (Int32.ofInt 8)).toInt8 = (X >>> Int32.ofInt 8).toInt8 ∧ (mOP 105 X (Int32.ofInt 8)).toInt8 = (X >>> Int32.ofInt 8).toInt8 := ⟨Int8.toBitVec_inj.mp (b_low X.toBitVec (k := 8) (by omega)), rfl⟩
theorem w4_0 (X : Int32) : (mOP 106 X (Int32.ofInt 0)).toInt8 = (X >>> Int32.ofInt 0).toInt8 ∧ (mOP 105 X (Int32.ofInt 0)).toInt8 = (X >>> Int32.ofInt 0).toInt8 := ⟨Int8.toBitVec_inj.mp (b_low X.toBitVec (k := 0) (by omega)), rfl⟩
theorem w4_x {w u x : Int} {k : Nat} (hk : k < 4) (h1 : (mOP 106 (Int32.ofInt w) (Int32.ofInt (24 - 8 * (k : Int)))).toInt = u) (h2 : (mOP 109 (Int32.ofInt u) (Int32.ofInt 0)).toInt = x) : x = t_w4 w k := by
  rw [← h1, Int32.ofInt_toInt] at h2
  rw [← h2]
  have hc : k = 0 ∨ k = 1 ∨ k = 2 ∨ k = 3 := by omega
  show ((mOP 106 (Int32.ofInt w) (Int32.ofInt (24 - 8 * (k : Int)))).toInt8.toInt32).toInt = _
  unfold t_w4
  rcases hc with rfl | rfl | rfl | rfl
  · exact congrArg (fun y : Int8 => y.toInt32.toInt) (w4_24 _).1
  · exact congrArg (fun y : Int8 => y.toInt32.toInt) (w4_16 _).1
  · exact congrArg (fun y : Int8 => y.toInt32.toInt) (w4_8 _).1
  · exact congrArg (fun y : Int8 => y.toInt32.toInt) (w4_0 _).1
theorem w4_m {w u x : Int} {k : Nat} (hk : k < 4) (h1 : (mOP 105 (Int32.ofInt w) (Int32.ofInt (24 - 8 * (k : Int)))).toInt = u) (h2 : (mOP 109 (Int32.ofInt u) (Int32.ofInt 0)).toInt = x) : x = t_w4 w k := by
  rw [← h1, Int32.ofInt_toInt] at h2
  rw [← h2]
  have hc : k = 0 ∨ k = 1 ∨ k = 2 ∨ k = 3 := by omega
  show ((mOP 105 (Int32.ofInt w) (Int32.ofInt (24 - 8 * (k : Int)))).toInt8.toInt32).toInt = _
  unfold t_w4
  rcases hc with rfl | rfl | rfl | rfl
  · exact congrArg (fun y : Int8 => y.toInt32.toInt) (w4_24 _).2
  · exact congrArg (fun y : Int8 => y.toInt32.toInt) (w4_16 _).2
  · exact congrArg (fun y : Int8 => y.toInt32.toInt) (w4_8 _).2
  · exact congrArg (fun y : Int8 => y.toInt32.toInt) (w4_0 _).2
theorem w4_last {w x : Int} (h2 : (mOP 109 (Int32.ofInt w) (Int32.ofInt 0)).toInt = x) : x = t_w4 w 3 := by
  have h3 : (Int32.ofInt w >>> (0 : Int32)) = Int32.ofInt w := by simp
  rw [← h2]
  unfold t_w4
  show ((Int32.ofInt w).toInt8.toInt32).toInt = ((Int32.ofInt w >>> (0 : Int32)).toInt8.toInt32).toInt
  rw [h3]
theorem k_runs0_0 {V : zVw} {n a : Int} : (True) ∧ (q_runs (t_b V) (0 : Int) n a a ∧ True) := by
  exact ⟨trivial, q_runs_nil, trivial⟩
theorem k_runsS_0 {V : zVw} {n a p b : Int} (T0 : q_runs (t_b V) (0 : Int) n a p) (T1 : t_b V p = b) (T2 : t_cl (0 : Int) b = (1 : Int)) (C0 : 0 ≤ n - p - 1) : (True) ∧ (q_runs (t_b V) (0 : Int) n a (p + 1) ∧ True) := by
  exact ⟨trivial, q_runs_ext T0 (by omega) (by rw [T1]; exact T2), trivial⟩
theorem k_runEa_0 {V : zVw} {n a p : Int} (T0 : q_runs (t_b V) (0 : Int) n a p) (C0 : 0 ≤ p - n) : (True) ∧ (q_rune (t_b V) (0 : Int) n a p ∧ True) := by
  exact ⟨trivial, ⟨T0, Or.inl (by omega)⟩, trivial⟩
theorem k_runEb_0 {V : zVw} {n a p b : Int} (T0 : q_runs (t_b V) (0 : Int) n a p) (T1 : t_b V p = b) (T2 : t_cl (0 : Int) b = (0 : Int)) : (True) ∧ (q_rune (t_b V) (0 : Int) n a p ∧ True) := by
  exact ⟨trivial, ⟨T0, Or.inr (by rw [T1, T2]; decide)⟩, trivial⟩
theorem k_runs0_1 {V : zVw} {n a : Int} : (True) ∧ (q_runs (t_b V) (1 : Int) n a a ∧ True) := by
  exact ⟨trivial, q_runs_nil, trivial⟩
theorem k_runsS_1 {V : zVw} {n a p b : Int} (T0 : q_runs (t_b V) (1 : Int) n a p) (T1 : t_b V p = b) (T2 : t_cl (1 : Int) b = (1 : Int)) (C0 : 0 ≤ n - p - 1) : (True) ∧ (q_runs (t_b V) (1 : Int) n a (p + 1) ∧ True) := by
  exact ⟨trivial, q_runs_ext T0 (by omega) (by rw [T1]; exact T2), trivial⟩
theorem k_runEa_1 {V : zVw} {n a p : Int} (T0 : q_runs (t_b V) (1 : Int) n a p) (C0 : 0 ≤ p - n) : (True) ∧ (q_rune (t_b V) (1 : Int) n a p ∧ True) := by
  exact ⟨trivial, ⟨T0, Or.inl (by omega)⟩, trivial⟩
theorem k_runEb_1 {V : zVw} {n a p b : Int} (T0 : q_runs (t_b V) (1 : Int) n a p) (T1 : t_b V p = b) (T2 : t_cl (1 : Int) b = (0 : Int)) : (True) ∧ (q_rune (t_b V) (1 : Int) n a p ∧ True) := by
  exact ⟨trivial, ⟨T0, Or.inr (by rw [T1, T2]; decide)⟩, trivial⟩
theorem k_runs0_2 {V : zVw} {n a : Int} : (True) ∧ (q_runs (t_b V) (2 : Int) n a a ∧ True) := by
  exact ⟨trivial, q_runs_nil, trivial⟩
theorem k_runsS_2 {V : zVw} {n a p b : Int} (T0 : q_runs (t_b V) (2 : Int) n a p) (T1 : t_b V p = b) (T2 : t_cl (2 : Int) b = (1 : Int)) (C0 : 0 ≤ n - p - 1) : (True) ∧ (q_runs (t_b V) (2 : Int) n a (p + 1) ∧ True) := by
  exact ⟨trivial, q_runs_ext T0 (by omega) (by rw [T1]; exact T2), trivial⟩
theorem k_runEa_2 {V : zVw} {n a p : Int} (T0 : q_runs (t_b V) (2 : Int) n a p) (C0 : 0 ≤ p - n) : (True) ∧ (q_rune (t_b V) (2 : Int) n a p ∧ True) := by
  exact ⟨trivial, ⟨T0, Or.inl (by omega)⟩, trivial⟩
theorem k_runEb_2 {V : zVw} {n a p b : Int} (T0 : q_runs (t_b V) (2 : Int) n a p) (T1 : t_b V p = b) (T2 : t_cl (2 : Int) b = (0 : Int)) : (True) ∧ (q_rune (t_b V) (2 : Int) n a p ∧ True) := by
  exact ⟨trivial, ⟨T0, Or.inr (by rw [T1, T2]; decide)⟩, trivial⟩
theorem k_byt0 {V : zVw} {p b : Int} (C0 : 0 ≤ b) (C1 : 0 ≤ 127 - b) (C2 : 0 ≤ p) (F0 : (0 : Int) ≤ p ∧ (p : Int) < j_len 13 ∧ V 13 (p) = b) : (True) ∧ ((t_b V p = b) ∧ True) := by
  refine ⟨trivial, ?_, trivial⟩
  show V 13 p % 256 = b
  have := F0.2.2
  omega
theorem k_byt1 {V : zVw} {p b v : Int} (C0 : 0 ≤ p) (C1 : 0 ≤ v - b + 256) (C2 : 0 ≤ b - v - 256) (C3 : 0 ≤ 255 - b) (C4 : 0 ≤ b - 128) (F0 : (0 : Int) ≤ p ∧ (p : Int) < j_len 13 ∧ V 13 (p) = v) : (True) ∧ ((t_b V p = b) ∧ True) := by
  refine ⟨trivial, ?_, trivial⟩
  show V 13 p % 256 = b
  have := F0.2.2
  omega
theorem k_sp128 {V : zVw} {c : Int} : ((0 ≤ 127 - c ∧ True) ∧ (True)) ∨ ((0 ≤ c - 128 ∧ True) ∧ (True)) := by
  simp only [and_true]
  omega
theorem k_tri {V : zVw} {a b : Int} : ((0 ≤ a - b - 1 ∧ True) ∧ (True)) ∨ ((0 ≤ a - b ∧ 0 ≤ b - a ∧ True) ∧ (True)) ∨ ((0 ≤ b - a - 1 ∧ True) ∧ (True)) := by
  simp only [and_true]
  omega
theorem k_wpm0 {V : zVw} {word a w : Int} : (True) ∧ (q_wm (t_b V) word a w (0 : Int) ∧ True) := by
  exact ⟨trivial, fun j hj => by omega, trivial⟩
theorem k_wpmSa {V : zVw} {word a w i c d : Int} (T0 : q_wm (t_b V) word a w i) (T1 : (mST1.getD (word + i).toNat 0).toInt = c) (T2 : t_b V (a + i) = d) (C0 : 0 ≤ w - i - 1) (C1 : 0 ≤ c - d) (C2 : 0 ≤ d - c) : (True) ∧ (q_wm (t_b V) word a w (i + 1) ∧ True) := by
  refine ⟨trivial, fun j hj => ?_, trivial⟩
  by_cases c9 : (j : Int) < i
  · exact T0 j c9
  · have e9 : (j : Int) = i := by omega
    rw [e9, if_pos (by omega), T2]
    have h9 : t_W (word + i) = c := T1
    omega
theorem k_wpmSb {V : zVw} {word a w i c : Int} (T0 : q_wm (t_b V) word a w i) (T1 : (mST1.getD (word + i).toNat 0).toInt = c) (C0 : 0 ≤ i - w) (C1 : 0 ≤ c - 32) (C2 : 0 ≤ 32 - c) : (True) ∧ (q_wm (t_b V) word a w (i + 1) ∧ True) := by
  refine ⟨trivial, fun j hj => ?_, trivial⟩
  by_cases c9 : (j : Int) < i
  · exact T0 j c9
  · have e9 : (j : Int) = i := by omega
    rw [e9, if_neg (by omega)]
    have h9 : t_W (word + i) = c := T1
    omega
theorem k_wrs0a1 {V : zVw} {word a w i c d : Int} (T0 : (mST1.getD (word + i).toNat 0).toInt = c) (T1 : t_b V (a + i) = d) (C0 : 0 ≤ w - i - 1) (C1 : 0 ≤ i) (C2 : 0 ≤ 7 - i) (C3 : 0 ≤ c - d - 1) : (True) ∧ ((((0 : Int) = 1 ∧ q_wm (t_b V) word a w 8) ∨ ((0 : Int) = 0 ∧ ¬ q_wm (t_b V) word a w 8)) ∧ True) := by
  refine ⟨trivial, Or.inr ⟨rfl, fun q9 => ?_⟩, trivial⟩
  have h8 := q9 i.toNat (by omega)
  rw [show ((i.toNat : Nat) : Int) = i by omega, if_pos (by omega), T1] at h8
  have h9 : t_W (word + i) = c := T0
  omega
theorem k_wrs0a2 {V : zVw} {word a w i c d : Int} (T0 : (mST1.getD (word + i).toNat 0).toInt = c) (T1 : t_b V (a + i) = d) (C0 : 0 ≤ w - i - 1) (C1 : 0 ≤ i) (C2 : 0 ≤ 7 - i) (C3 : 0 ≤ d - c - 1) : (True) ∧ ((((0 : Int) = 1 ∧ q_wm (t_b V) word a w 8) ∨ ((0 : Int) = 0 ∧ ¬ q_wm (t_b V) word a w 8)) ∧ True) := by
  refine ⟨trivial, Or.inr ⟨rfl, fun q9 => ?_⟩, trivial⟩
  have h8 := q9 i.toNat (by omega)
  rw [show ((i.toNat : Nat) : Int) = i by omega, if_pos (by omega), T1] at h8
  have h9 : t_W (word + i) = c := T0
  omega
theorem k_wrs0b1 {V : zVw} {word a w i c : Int} (T0 : (mST1.getD (word + i).toNat 0).toInt = c) (C0 : 0 ≤ i - w) (C1 : 0 ≤ i) (C2 : 0 ≤ 7 - i) (C3 : 0 ≤ c - 33) : (True) ∧ ((((0 : Int) = 1 ∧ q_wm (t_b V) word a w 8) ∨ ((0 : Int) = 0 ∧ ¬ q_wm (t_b V) word a w 8)) ∧ True) := by
  refine ⟨trivial, Or.inr ⟨rfl, fun q9 => ?_⟩, trivial⟩
  have h8 := q9 i.toNat (by omega)
  rw [show ((i.toNat : Nat) : Int) = i by omega, if_neg (by omega)] at h8
  have h9 : t_W (word + i) = c := T0
  omega
theorem k_wrs0b2 {V : zVw} {word a w i c : Int} (T0 : (mST1.getD (word + i).toNat 0).toInt = c) (C0 : 0 ≤ i - w) (C1 : 0 ≤ i) (C2 : 0 ≤ 7 - i) (C3 : 0 ≤ 31 - c) : (True) ∧ ((((0 : Int) = 1 ∧ q_wm (t_b V) word a w 8) ∨ ((0 : Int) = 0 ∧ ¬ q_wm (t_b V) word a w 8)) ∧ True) := by
  refine ⟨trivial, Or.inr ⟨rfl, fun q9 => ?_⟩, trivial⟩
  have h8 := q9 i.toNat (by omega)
  rw [show ((i.toNat : Nat) : Int) = i by omega, if_neg (by omega)] at h8
  have h9 : t_W (word + i) = c := T0
  omega
theorem k_wrs1 {V : zVw} {word a w i : Int} (T0 : q_wm (t_b V) word a w i) (C0 : 0 ≤ i - 8) : (True) ∧ ((((1 : Int) = 1 ∧ q_wm (t_b V) word a w 8) ∨ ((1 : Int) = 0 ∧ ¬ q_wm (t_b V) word a w 8)) ∧ True) := by
  exact ⟨trivial, Or.inl ⟨rfl, fun j hj => T0 j (by omega)⟩, trivial⟩
theorem k_inr {V : zVw} {n a w i : Int} (C0 : 0 ≤ w - i - 1) (C1 : 0 ≤ n - a - w) : (0 ≤ n - a - i - 1 ∧ True) ∧ (True) := by
  simp only [and_true]
  omega
theorem k_wno0 {V : zVw} {a w : Int} : (True) ∧ ((∃ m_ : Nat, (0 : Int) = 8 * m_ ∧ t_wd (t_b V) a w m_ = -1) ∧ True) := by
  exact ⟨trivial, ⟨0, by omega, rfl⟩, trivial⟩
theorem k_wnoS {V : zVw} {a w word : Int} (T0 : ∃ m_ : Nat, word = 8 * m_ ∧ t_wd (t_b V) a w m_ = -1) (T1 : ((0 : Int) = 1 ∧ q_wm (t_b V) word a w 8) ∨ ((0 : Int) = 0 ∧ ¬ q_wm (t_b V) word a w 8)) : (True) ∧ ((∃ m_ : Nat, (word + 8) = 8 * m_ ∧ t_wd (t_b V) a w m_ = -1) ∧ True) := by
  obtain ⟨m, e9, h9⟩ := T0
  have hn : ¬ q_wm (t_b V) word a w 8 := by
    rcases T1 with q9 | q9
    · have := q9.1
      omega
    · exact q9.2
  refine ⟨trivial, ⟨m + 1, by omega, ?_⟩, trivial⟩
  rw [t_wd, if_neg (by rw [h9]; decide), if_neg (fun c => hn (by rw [e9]; exact t_wb_iff.mp c))]
theorem k_wid0 {V : zVw} {a w word : Int} (T0 : ∃ m_ : Nat, word = 8 * m_ ∧ t_wd (t_b V) a w m_ = -1) (C0 : 0 ≤ word - 169) : (True) ∧ (q_wid (t_b V) a w (-1 : Int) ∧ True) := by
  obtain ⟨m, e9, h9⟩ := T0
  refine ⟨trivial, ?_, trivial⟩
  show (-1 : Int) = t_wd (t_b V) a w 22
  have hr := (t_wd_r (b := t_b V) a w 22).1
  rcases Int.lt_or_le (t_wd (t_b V) a w 22) 0 with c | c
  · omega
  · have := t_wd_keep a w c (m - 22)
    rw [show 22 + (m - 22) = m by omega] at this
    omega
theorem k_wid1 {V : zVw} {a w word u : Int} (T0 : ∃ m_ : Nat, word = 8 * m_ ∧ t_wd (t_b V) a w m_ = -1) (T1 : ((1 : Int) = 1 ∧ q_wm (t_b V) word a w 8) ∨ ((1 : Int) = 0 ∧ ¬ q_wm (t_b V) word a w 8)) (T2 : (mOP 107 (Int32.ofInt word) (Int32.ofInt (8 : Int))).toInt = u) (C0 : 0 ≤ 168 - word) : (0 ≤ u ∧ 0 ≤ 21 - u ∧ True) ∧ (q_wid (t_b V) a w u ∧ True) := by
  obtain ⟨m, e9, h9⟩ := T0
  have hw : q_wm (t_b V) word a w 8 := by
    rcases T1 with q9 | q9
    · exact q9.2
    · have := q9.1
      omega
  have hm : m < 22 := by omega
  have hu : u = m := by
    have := of_decide_eq_true (List.all_eq_true.mp c_div8 m (List.mem_range.mpr hm))
    rw [e9] at T2
    rw [← T2]
    exact this
  have h1 : t_wd (t_b V) a w (m + 1) = m := by
    rw [t_wd, if_neg (by rw [h9]; decide), if_pos (t_wb_iff.mpr (by rw [← e9]; exact hw))]
  have h2 := t_wd_keep (b := t_b V) a w (m := m + 1) (by omega) (22 - (m + 1))
  rw [show m + 1 + (22 - (m + 1)) = 22 by omega] at h2
  refine ⟨⟨by omega, by omega, trivial⟩, ?_, trivial⟩
  show u = t_wd (t_b V) a w 22
  omega
theorem k_tkEnd {V : zVw} {n k p s v kd : Int} (T0 : 0 ≤ n ∧ 0 ≤ k ∧ p = t_p (t_b V) n k.toNat ∧ ∀ j_ : Nat, (j_ : Int) < k → q_ar V n j_) (T1 : s = t_s (t_b V) n k.toNat) (C0 : 0 ≤ s - n) (C1 : 0 ≤ kd) (C2 : 0 ≤ -kd) (F0 : (0 : Int) ≤ k ∧ (k : Int) < j_len 14 ∧ V 14 (k) = kd) (F1 : (0 : Int) ≤ k ∧ (k : Int) < j_len 15 ∧ V 15 (k) = s) (F2 : (0 : Int) ≤ k ∧ (k : Int) < j_len 16 ∧ V 16 (k) = v) : (True) ∧ ((0 ≤ n ∧ 0 ≤ (k + 1) ∧ s = t_p (t_b V) n (k + 1).toNat ∧ ∀ j_ : Nat, (j_ : Int) < (k + 1) → q_ar V n j_) ∧ True) := by
  have hs : s ≤ n := by rw [T1]; exact (t_s_in T0.1 _).2.1
  have hk : t_k (t_b V) n s = 0 := t_k_0.mpr (by omega)
  exact ⟨trivial, c_scn (kd := kd) (x := v) T0 T1 (by unfold t_e; rw [if_pos (by omega)]) (by omega) F0.2.2 F1.2.2 F2.2.2 (fun h => by omega), trivial⟩
theorem k_tkBadW {V : zVw} {n k p s v kd b e : Int} (T0 : 0 ≤ n ∧ 0 ≤ k ∧ p = t_p (t_b V) n k.toNat ∧ ∀ j_ : Nat, (j_ : Int) < k → q_ar V n j_) (T1 : s = t_s (t_b V) n k.toNat) (T2 : t_b V s = b) (T3 : t_cl (1 : Int) b = (1 : Int)) (T4 : q_rune (t_b V) (1 : Int) n s e) (C0 : 0 ≤ e - s - 9) (C1 : 0 ≤ kd - 1) (C2 : 0 ≤ 1 - kd) (F0 : (0 : Int) ≤ k ∧ (k : Int) < j_len 14 ∧ V 14 (k) = kd) (F1 : (0 : Int) ≤ k ∧ (k : Int) < j_len 15 ∧ V 15 (k) = s) (F2 : (0 : Int) ≤ k ∧ (k : Int) < j_len 16 ∧ V 16 (k) = v) : (True) ∧ ((0 ≤ n ∧ 0 ≤ (k + 1) ∧ e = t_p (t_b V) n (k + 1).toNat ∧ ∀ j_ : Nat, (j_ : Int) < (k + 1) → q_ar V n j_) ∧ True) := by
  have hc : t_cl 1 (t_b V s) = 1 := by rw [T2]; exact T3
  have he : t_e1 (t_b V) 1 n s = e := t_e1_eq T4
  have hs : s < n := by have := T4.1.2 s (by omega) (by omega); omega
  have hk := t_k_w hs hc
  rw [he, if_pos (by omega)] at hk
  exact ⟨trivial, c_scn (kd := kd) (x := v) T0 T1 (by rw [t_e_w hs hc, he]) (by omega) F0.2.2 F1.2.2 F2.2.2 (fun h => by omega), trivial⟩
theorem k_tkWord {V : zVw} {n k p s v kd b e r : Int} (T0 : 0 ≤ n ∧ 0 ≤ k ∧ p = t_p (t_b V) n k.toNat ∧ ∀ j_ : Nat, (j_ : Int) < k → q_ar V n j_) (T1 : s = t_s (t_b V) n k.toNat) (T2 : t_b V s = b) (T3 : t_cl (1 : Int) b = (1 : Int)) (T4 : q_rune (t_b V) (1 : Int) n s e) (T5 : s ≤ e ∧ (e - s ≤ 8 → v = t_num (t_b V) 32 96 s (e - s).toNat)) (T6 : q_wid (t_b V) s (e - s) r) (C0 : 0 ≤ s - e + 8) (C1 : 0 ≤ r) (C2 : 0 ≤ n - s - 1) (C3 : 0 ≤ kd - r - 256) (C4 : 0 ≤ r - kd + 256) (F0 : (0 : Int) ≤ k ∧ (k : Int) < j_len 14 ∧ V 14 (k) = kd) (F1 : (0 : Int) ≤ k ∧ (k : Int) < j_len 15 ∧ V 15 (k) = s) (F2 : (0 : Int) ≤ k ∧ (k : Int) < j_len 16 ∧ V 16 (k) = v) : (True) ∧ ((0 ≤ n ∧ 0 ≤ (k + 1) ∧ e = t_p (t_b V) n (k + 1).toNat ∧ ∀ j_ : Nat, (j_ : Int) < (k + 1) → q_ar V n j_) ∧ True) := by
  have hc : t_cl 1 (t_b V s) = 1 := by rw [T2]; exact T3
  have he : t_e1 (t_b V) 1 n s = e := t_e1_eq T4
  have hs : s < n := by omega
  have hk := t_k_w hs hc
  rw [he, show t_wd (t_b V) s (e - s) 22 = r from Eq.symm T6] at hk
  clear T6 T5
  rw [if_neg (by omega), if_pos (by omega)] at hk
  exact ⟨trivial, c_scn (kd := kd) (x := v) T0 T1 (by rw [t_e_w hs hc, he]) (by omega) F0.2.2 F1.2.2 F2.2.2 (fun h => by omega), trivial⟩
theorem k_tkName {V : zVw} {n k p s v kd b e : Int} (T0 : 0 ≤ n ∧ 0 ≤ k ∧ p = t_p (t_b V) n k.toNat ∧ ∀ j_ : Nat, (j_ : Int) < k → q_ar V n j_) (T1 : s = t_s (t_b V) n k.toNat) (T2 : t_b V s = b) (T3 : t_cl (1 : Int) b = (1 : Int)) (T4 : q_rune (t_b V) (1 : Int) n s e) (T5 : s ≤ e ∧ (e - s ≤ 8 → v = t_num (t_b V) 32 96 s (e - s).toNat)) (T6 : q_wid (t_b V) s (e - s) (-1 : Int)) (C0 : 0 ≤ s - e + 8) (C1 : 0 ≤ n - s - 1) (C2 : 0 ≤ kd - 2) (C3 : 0 ≤ 2 - kd) (F0 : (0 : Int) ≤ k ∧ (k : Int) < j_len 14 ∧ V 14 (k) = kd) (F1 : (0 : Int) ≤ k ∧ (k : Int) < j_len 15 ∧ V 15 (k) = s) (F2 : (0 : Int) ≤ k ∧ (k : Int) < j_len 16 ∧ V 16 (k) = v) : (True) ∧ ((0 ≤ n ∧ 0 ≤ (k + 1) ∧ e = t_p (t_b V) n (k + 1).toNat ∧ ∀ j_ : Nat, (j_ : Int) < (k + 1) → q_ar V n j_) ∧ True) := by
  have hc : t_cl 1 (t_b V s) = 1 := by rw [T2]; exact T3
  have he : t_e1 (t_b V) 1 n s = e := t_e1_eq T4
  have hs : s < n := by omega
  have hk := t_k_w hs hc
  rw [he, show t_wd (t_b V) s (e - s) 22 = -1 from Eq.symm T6] at hk
  clear T6
  rw [if_neg (by omega), if_neg (by omega)] at hk
  exact ⟨trivial, c_scn (kd := kd) (x := v) T0 T1 (by rw [t_e_w hs hc, he]) (by omega) F0.2.2 F1.2.2 F2.2.2 (fun h => by unfold t_x; rw [if_pos hc, t_e_w hs hc, he]; exact T5.2 (by omega)), trivial⟩
theorem k_tkInt {V : zVw} {n k p s v kd b e : Int} (T0 : 0 ≤ n ∧ 0 ≤ k ∧ p = t_p (t_b V) n k.toNat ∧ ∀ j_ : Nat, (j_ : Int) < k → q_ar V n j_) (T1 : s = t_s (t_b V) n k.toNat) (T2 : t_b V s = b) (T3 : t_cl (1 : Int) b = (0 : Int)) (T4 : t_cl (2 : Int) b = (1 : Int)) (T5 : q_rune (t_b V) (2 : Int) n s e) (T6 : s ≤ e ∧ (e - s ≤ 4 → v = t_num (t_b V) 10 48 s (e - s).toNat)) (C0 : 0 ≤ s - e + 4) (C1 : 0 ≤ n - s - 1) (C2 : 0 ≤ kd - 3) (C3 : 0 ≤ 3 - kd) (F0 : (0 : Int) ≤ k ∧ (k : Int) < j_len 14 ∧ V 14 (k) = kd) (F1 : (0 : Int) ≤ k ∧ (k : Int) < j_len 15 ∧ V 15 (k) = s) (F2 : (0 : Int) ≤ k ∧ (k : Int) < j_len 16 ∧ V 16 (k) = v) : (True) ∧ ((0 ≤ n ∧ 0 ≤ (k + 1) ∧ e = t_p (t_b V) n (k + 1).toNat ∧ ∀ j_ : Nat, (j_ : Int) < (k + 1) → q_ar V n j_) ∧ True) := by
  have h1 : t_cl 1 (t_b V s) ≠ 1 := by rw [T2, T3]; decide
  have hc : t_cl 2 (t_b V s) = 1 := by rw [T2]; exact T4
  have he : t_e1 (t_b V) 2 n s = e := t_e1_eq T5
  have hs : s < n := by omega
  have hk := t_k_d hs h1 hc
  rw [he, if_neg (by omega)] at hk
  exact ⟨trivial, c_scn (kd := kd) (x := v) T0 T1 (by rw [t_e_d hs h1 hc, he]) (by omega) F0.2.2 F1.2.2 F2.2.2 (fun h => by unfold t_x; rw [if_neg h1, t_e_d hs h1 hc, he]; exact T6.2 (by omega)), trivial⟩
theorem k_tkBadI {V : zVw} {n k p s v kd b e : Int} (T0 : 0 ≤ n ∧ 0 ≤ k ∧ p = t_p (t_b V) n k.toNat ∧ ∀ j_ : Nat, (j_ : Int) < k → q_ar V n j_) (T1 : s = t_s (t_b V) n k.toNat) (T2 : t_b V s = b) (T3 : t_cl (1 : Int) b = (0 : Int)) (T4 : t_cl (2 : Int) b = (1 : Int)) (T5 : q_rune (t_b V) (2 : Int) n s e) (C0 : 0 ≤ e - s - 5) (C1 : 0 ≤ kd - 1) (C2 : 0 ≤ 1 - kd) (F0 : (0 : Int) ≤ k ∧ (k : Int) < j_len 14 ∧ V 14 (k) = kd) (F1 : (0 : Int) ≤ k ∧ (k : Int) < j_len 15 ∧ V 15 (k) = s) (F2 : (0 : Int) ≤ k ∧ (k : Int) < j_len 16 ∧ V 16 (k) = v) : (True) ∧ ((0 ≤ n ∧ 0 ≤ (k + 1) ∧ e = t_p (t_b V) n (k + 1).toNat ∧ ∀ j_ : Nat, (j_ : Int) < (k + 1) → q_ar V n j_) ∧ True) := by
  have h1 : t_cl 1 (t_b V s) ≠ 1 := by rw [T2, T3]; decide
  have hc : t_cl 2 (t_b V s) = 1 := by rw [T2]; exact T4
  have he : t_e1 (t_b V) 2 n s = e := t_e1_eq T5
  have hs : s < n := by have := T5.1.2 s (by omega) (by omega); omega
  have hk := t_k_d hs h1 hc
  rw [he, if_pos (by omega)] at hk
  exact ⟨trivial, c_scn (kd := kd) (x := v) T0 T1 (by rw [t_e_d hs h1 hc, he]) (by omega) F0.2.2 F1.2.2 F2.2.2 (fun h => by omega), trivial⟩
theorem k_tkSign {V : zVw} {n k p s v kd b : Int} (T0 : 0 ≤ n ∧ 0 ≤ k ∧ p = t_p (t_b V) n k.toNat ∧ ∀ j_ : Nat, (j_ : Int) < k → q_ar V n j_) (T1 : s = t_s (t_b V) n k.toNat) (T2 : t_b V s = b) (T3 : t_cl (1 : Int) b = (0 : Int)) (T4 : t_cl (2 : Int) b = (0 : Int)) (T5 : t_cl (4 : Int) b = (1 : Int)) (C0 : 0 ≤ n - s - 1) (C1 : 0 ≤ kd - b) (C2 : 0 ≤ b - kd) (F0 : (0 : Int) ≤ k ∧ (k : Int) < j_len 14 ∧ V 14 (k) = kd) (F1 : (0 : Int) ≤ k ∧ (k : Int) < j_len 15 ∧ V 15 (k) = s) (F2 : (0 : Int) ≤ k ∧ (k : Int) < j_len 16 ∧ V 16 (k) = v) : (True) ∧ ((0 ≤ n ∧ 0 ≤ (k + 1) ∧ (s + 1) = t_p (t_b V) n (k + 1).toNat ∧ ∀ j_ : Nat, (j_ : Int) < (k + 1) → q_ar V n j_) ∧ True) := by
  have h1 : t_cl 1 (t_b V s) ≠ 1 := by rw [T2, T3]; decide
  have h2 : t_cl 2 (t_b V s) ≠ 1 := by rw [T2, T4]; decide
  have hs : s < n := by omega
  have hk := t_k_s hs h1 h2
  rw [T2] at hk
  have hg := t_cl4_1 T5
  have h5 : b ≠ 2 ∧ b ≠ 3 := by unfold t_sg at hg; omega
  exact ⟨trivial, c_scn (kd := kd) (x := v) T0 T1 (by rw [t_e_s hs h1 h2]) (by omega) F0.2.2 F1.2.2 F2.2.2 (fun h => by omega), trivial⟩
theorem k_tkBad {V : zVw} {n k p s v kd b : Int} (T0 : 0 ≤ n ∧ 0 ≤ k ∧ p = t_p (t_b V) n k.toNat ∧ ∀ j_ : Nat, (j_ : Int) < k → q_ar V n j_) (T1 : s = t_s (t_b V) n k.toNat) (T2 : t_b V s = b) (T3 : t_cl (1 : Int) b = (0 : Int)) (T4 : t_cl (2 : Int) b = (0 : Int)) (T5 : t_cl (4 : Int) b = (0 : Int)) (C0 : 0 ≤ n - s - 1) (C1 : 0 ≤ kd - 1) (C2 : 0 ≤ 1 - kd) (F0 : (0 : Int) ≤ k ∧ (k : Int) < j_len 14 ∧ V 14 (k) = kd) (F1 : (0 : Int) ≤ k ∧ (k : Int) < j_len 15 ∧ V 15 (k) = s) (F2 : (0 : Int) ≤ k ∧ (k : Int) < j_len 16 ∧ V 16 (k) = v) : (True) ∧ ((0 ≤ n ∧ 0 ≤ (k + 1) ∧ (s + 1) = t_p (t_b V) n (k + 1).toNat ∧ ∀ j_ : Nat, (j_ : Int) < (k + 1) → q_ar V n j_) ∧ True) := by
  have h1 : t_cl 1 (t_b V s) ≠ 1 := by rw [T2, T3]; decide
  have h2 : t_cl 2 (t_b V s) ≠ 1 := by rw [T2, T4]; decide
  have hs : s < n := by omega
  have hk := t_k_s hs h1 h2
  rw [T2] at hk
  have hg := t_cl4_0 T5
  exact ⟨trivial, c_scn (kd := kd) (x := v) T0 T1 (by rw [t_e_s hs h1 h2]) (by omega) F0.2.2 F1.2.2 F2.2.2 (fun h => by omega), trivial⟩
theorem k_split8 {V : zVw} {e a : Int} : ((0 ≤ a - e + 7 ∧ True) ∧ (True)) ∨ ((0 ≤ e - a - 8 ∧ True) ∧ (True)) := by
  simp only [and_true]
  omega
theorem k_split4 {V : zVw} {e a : Int} : ((0 ≤ a - e + 3 ∧ True) ∧ (True)) ∨ ((0 ≤ e - a - 4 ∧ True) ∧ (True)) := by
  simp only [and_true]
  omega
theorem k_p32_0 {V : zVw} {a : Int} : (True) ∧ ((a ≤ a ∧ (a - a ≤ 8 → (0 : Int) = t_num (t_b V) 32 96 a (a - a).toNat)) ∧ True) := by
  exact ⟨trivial, ⟨Int.le_refl _, fun _ => by rw [Int.sub_self]; rfl⟩, trivial⟩
theorem k_p32_b {V : zVw} {a e v n : Int} (T0 : a ≤ e ∧ (e - a ≤ 8 → v = t_num (t_b V) 32 96 a (e - a).toNat)) (T1 : q_runs (t_b V) (1 : Int) n a e) (C0 : 0 ≤ a - e + 8) : (0 ≤ v ∧ 0 ≤ 1099511627775 - v ∧ True) ∧ (True) := by
  have h1 := T0.2 (by have := T0.1; omega)
  have h2 := t_num_in (b := t_b V) (m := 32) (o := 96) (a := a) (k := (e - a).toNat) (j := 8) (by omega) (by omega) (fun i hi => by have := q_runs_let T1 (k := (e - a).toNat) (by have := T1.1; omega) i hi; omega)
  rw [show (32 : Int) ^ 8 = 1099511627776 by decide] at h2
  exact ⟨⟨by omega, by omega, trivial⟩, trivial⟩
theorem k_p32_s {V : zVw} {a e v w b : Int} (T0 : a ≤ e ∧ (e - a ≤ 8 → v = t_num (t_b V) 32 96 a (e - a).toNat)) (T1 : t_b V e = b) (C0 : 0 ≤ w - 32 * v - b + 96) (C1 : 0 ≤ 32 * v + b - w - 96) : (True) ∧ ((a ≤ (e + 1) ∧ ((e + 1) - a ≤ 8 → w = t_num (t_b V) 32 96 a ((e + 1) - a).toNat)) ∧ True) := by
  have h0 := T0.1
  refine ⟨trivial, ⟨by omega, fun h => ?_⟩, trivial⟩
  have h1 := T0.2 (by omega)
  rw [show (e + 1 - a).toNat = (e - a).toNat + 1 by omega, t_num, ← h1, show a + (((e - a).toNat : Nat) : Int) = e by omega, T1]
  omega
theorem k_p32_x {V : zVw} {a e v w : Int} (T0 : a ≤ e ∧ (e - a ≤ 8 → v = t_num (t_b V) 32 96 a (e - a).toNat)) (C0 : 0 ≤ e - a - 8) : (True) ∧ ((a ≤ (e + 1) ∧ ((e + 1) - a ≤ 8 → w = t_num (t_b V) 32 96 a ((e + 1) - a).toNat)) ∧ True) := by
  have h0 := T0.1
  exact ⟨trivial, ⟨by omega, fun h => by omega⟩, trivial⟩
theorem k_dec_0 {V : zVw} {a : Int} : (True) ∧ ((a ≤ a ∧ (a - a ≤ 4 → (0 : Int) = t_num (t_b V) 10 48 a (a - a).toNat)) ∧ True) := by
  exact ⟨trivial, ⟨Int.le_refl _, fun _ => by rw [Int.sub_self]; rfl⟩, trivial⟩
theorem k_dec_b {V : zVw} {a e v n : Int} (T0 : a ≤ e ∧ (e - a ≤ 4 → v = t_num (t_b V) 10 48 a (e - a).toNat)) (T1 : q_runs (t_b V) (2 : Int) n a e) (C0 : 0 ≤ a - e + 4) : (0 ≤ v ∧ 0 ≤ 9999 - v ∧ True) ∧ (True) := by
  have h1 := T0.2 (by have := T0.1; omega)
  have h2 := t_num_in (b := t_b V) (m := 10) (o := 48) (a := a) (k := (e - a).toNat) (j := 4) (by omega) (by omega) (fun i hi => by have := q_runs_dig T1 (k := (e - a).toNat) (by have := T1.1; omega) i hi; omega)
  rw [show (10 : Int) ^ 4 = 10000 by decide] at h2
  exact ⟨⟨by omega, by omega, trivial⟩, trivial⟩
theorem k_dec_s {V : zVw} {a e v w b : Int} (T0 : a ≤ e ∧ (e - a ≤ 4 → v = t_num (t_b V) 10 48 a (e - a).toNat)) (T1 : t_b V e = b) (C0 : 0 ≤ w - 10 * v - b + 48) (C1 : 0 ≤ 10 * v + b - w - 48) : (True) ∧ ((a ≤ (e + 1) ∧ ((e + 1) - a ≤ 4 → w = t_num (t_b V) 10 48 a ((e + 1) - a).toNat)) ∧ True) := by
  have h0 := T0.1
  refine ⟨trivial, ⟨by omega, fun h => ?_⟩, trivial⟩
  have h1 := T0.2 (by omega)
  rw [show (e + 1 - a).toNat = (e - a).toNat + 1 by omega, t_num, ← h1, show a + (((e - a).toNat : Nat) : Int) = e by omega, T1]
  omega
theorem k_dec_x {V : zVw} {a e v w : Int} (T0 : a ≤ e ∧ (e - a ≤ 4 → v = t_num (t_b V) 10 48 a (e - a).toNat)) (C0 : 0 ≤ e - a - 4) : (True) ∧ ((a ≤ (e + 1) ∧ ((e + 1) - a ≤ 4 → w = t_num (t_b V) 10 48 a ((e + 1) - a).toNat)) ∧ True) := by
  have h0 := T0.1
  exact ⟨trivial, ⟨by omega, fun h => by omega⟩, trivial⟩
theorem k_scn0 {V : zVw} {n : Int} (C0 : 0 ≤ n) : (True) ∧ ((0 ≤ n ∧ 0 ≤ (0 : Int) ∧ (0 : Int) = t_p (t_b V) n (0 : Int).toNat ∧ ∀ j_ : Nat, (j_ : Int) < (0 : Int) → q_ar V n j_) ∧ True) := by
  exact ⟨trivial, ⟨by omega, by omega, rfl, fun j hj => by omega⟩, trivial⟩
theorem k_beg {V : zVw} {n k p s : Int} (T0 : 0 ≤ n ∧ 0 ≤ k ∧ p = t_p (t_b V) n k.toNat ∧ ∀ j_ : Nat, (j_ : Int) < k → q_ar V n j_) (T1 : q_rune (t_b V) (0 : Int) n p s) : (True) ∧ ((s = t_s (t_b V) n k.toNat) ∧ True) := by
  refine ⟨trivial, ?_, trivial⟩
  show s = t_e1 (t_b V) 0 n (t_p (t_b V) n k.toNat)
  rw [← T0.2.2.1]
  exact (t_e1_eq T1).symm
theorem k_scb {V : zVw} {n k s e : Int} (T0 : 0 ≤ n ∧ 0 ≤ (k + 1) ∧ e = t_p (t_b V) n (k + 1).toNat ∧ ∀ j_ : Nat, (j_ : Int) < (k + 1) → q_ar V n j_) (T1 : s = t_s (t_b V) n k.toNat) (C0 : 0 ≤ s - e) (C1 : 0 ≤ k) : (True) ∧ (q_all (t_b V) n (q_ar V n) ∧ True) := by
  have hz : n ≤ s := by
    rcases Int.lt_or_le s n with c9 | c9
    · have h1 := t_e_gt (b := t_b V) c9
      have h2 := T0.2.2.1
      rw [show (k + 1).toNat = k.toNat + 1 by omega, t_p_s, ← T1] at h2
      omega
    · exact c9
  refine ⟨trivial, c_ends (k := k.toNat) T0.1 (fun j hj => T0.2.2.2 j (by omega)) ((tk_0 _).mpr ?_), trivial⟩
  rw [← T1]
  exact hz
theorem k_scb2 {V : zVw} {n k p : Int} (T0 : 0 ≤ n ∧ 0 ≤ k ∧ p = t_p (t_b V) n k.toNat ∧ ∀ j_ : Nat, (j_ : Int) < k → q_ar V n j_) (C0 : 0 ≤ k - 401) : (True) ∧ (q_all (t_b V) n (q_ar V n) ∧ True) := by
  exact ⟨trivial, c_room T0.1 T0.2.2.2 (by omega), trivial⟩
theorem k_stp0 {V : zVw} {n m kd s v : Int} (T0 : q_all (t_b V) n (q_ar V n)) (C0 : 0 ≤ m) (C1 : 0 ≤ -m) (F0 : (0 : Int) ≤ m ∧ (m : Int) < j_len 14 ∧ V 14 (m) = kd) (F1 : (0 : Int) ≤ m ∧ (m : Int) < j_len 15 ∧ V 15 (m) = s) (F2 : (0 : Int) ≤ m ∧ (m : Int) < j_len 16 ∧ V 16 (m) = v) : (0 ≤ kd ∧ 0 ≤ 277 - kd ∧ 0 ≤ s ∧ 0 ≤ n - s ∧ True) ∧ (q_tok (t_b V) n m kd s v ∧ q_upto (t_b V) n m (q_ar V n) ∧ True) := by
  have hm : m = 0 := by omega
  subst hm
  have h9 := c_upto0 T0
  have h8 := c_tok (kd := kd) (s := s) (x := v) (by omega) T0.1 (c_at h9 (by omega) (by omega)) F0.2.2 F1.2.2 F2.2.2
  exact ⟨⟨by omega, by omega, by omega, by omega, trivial⟩, h8.1, h9, trivial⟩
theorem k_stp {V : zVw} {n m kd s v k0 s0 v0 : Int} (T0 : q_upto (t_b V) n (m - 1) (q_ar V n)) (T1 : q_tok (t_b V) n (m - 1) k0 s0 v0) (C0 : 0 ≤ k0 - 1) (C1 : 0 ≤ 400 - m) (F0 : (0 : Int) ≤ m ∧ (m : Int) < j_len 14 ∧ V 14 (m) = kd) (F1 : (0 : Int) ≤ m ∧ (m : Int) < j_len 15 ∧ V 15 (m) = s) (F2 : (0 : Int) ≤ m ∧ (m : Int) < j_len 16 ∧ V 16 (m) = v) : (0 ≤ kd ∧ 0 ≤ 277 - kd ∧ 0 ≤ s ∧ 0 ≤ n - s ∧ True) ∧ (q_tok (t_b V) n m kd s v ∧ q_upto (t_b V) n m (q_ar V n) ∧ True) := by
  have h9 := c_uptoS T0 (by rw [← T1.2.1]; omega) (by omega)
  have h8 := c_tok (kd := kd) (s := s) (x := v) h9.1 T0.2.2.1.1 (c_at h9 h9.1 (by omega)) F0.2.2 F1.2.2 F2.2.2
  exact ⟨⟨by omega, by omega, by omega, by omega, trivial⟩, h8.1, h9, trivial⟩
theorem k_tke_1 {V : zVw} {n c H L W WP kd s v S : Int} (T0 : q_run2 (t_b V) n c (1 : Int) (0 : Int) (0 : Int) H L W WP S) (T1 : q_tok (t_b V) n c kd s v) : (True) ∧ (((kd ≠ (2 : Int) → q_res (t_b V) n 1 s) ∧ (kd = (2 : Int) → q_go (t_b V) n c s)) ∧ True) := by
  have U0 := T0.2
  have T0 := T0.1
  exact ⟨trivial, ⟨fun h => by first | (exfalso; omega) | exact c_res T0 T1.2.1.symm T1.2.2.1.symm (f := 1) (by first | (rw [a_cl_0]; omega) | (rw [a_cl_1 (by omega) (by omega)]; unfold a_one; omega) | (rw [a_cl_e0 (by omega)]; omega) | (rw [a_cl_e1 (by omega), if_neg (by rw [a_p_no (by omega)]; decide), if_pos (by omega)]; omega) | (rw [a_cl_e1 (by omega), if_neg (by rw [a_p_no (by omega)]; decide), if_neg (by omega)]; unfold a_x; omega) | (rw [a_cl_if (by omega) (by omega) (by omega)]; omega)) (Or.inl rfl), fun h => c_go T0 T1.2.1.symm T1.2.2.1.symm (by first | (rw [a_cl_0]; omega) | (rw [a_cl_1 (by omega) (by omega)]; unfold a_one; omega) | (rw [a_cl_e0 (by omega)]; omega) | (rw [a_cl_e1 (by omega), if_pos (a_p_iff.mpr (by omega))]) | (rw [a_cl_e1 (by omega), if_neg (by rw [a_p_no (by omega)]; decide), if_pos (by omega)]; omega) | (rw [a_cl_e1 (by omega), if_neg (by rw [a_p_no (by omega)]; decide), if_neg (by omega)]; unfold a_x; omega) | (rw [a_cl_if (by omega) (by omega) (by omega)]; omega))⟩, trivial⟩
theorem k_tke_2 {V : zVw} {n c H L W WP kd s v S : Int} (T0 : q_run2 (t_b V) n c (2 : Int) (0 : Int) (0 : Int) H L W WP S) (T1 : q_tok (t_b V) n c kd s v) : (True) ∧ (((kd ≠ (3 : Int) → q_res (t_b V) n 1 s) ∧ (kd = (3 : Int) → q_go (t_b V) n c s)) ∧ True) := by
  have U0 := T0.2
  have T0 := T0.1
  exact ⟨trivial, ⟨fun h => by first | (exfalso; omega) | exact c_res T0 T1.2.1.symm T1.2.2.1.symm (f := 1) (by first | (rw [a_cl_0]; omega) | (rw [a_cl_1 (by omega) (by omega)]; unfold a_one; omega) | (rw [a_cl_e0 (by omega)]; omega) | (rw [a_cl_e1 (by omega), if_neg (by rw [a_p_no (by omega)]; decide), if_pos (by omega)]; omega) | (rw [a_cl_e1 (by omega), if_neg (by rw [a_p_no (by omega)]; decide), if_neg (by omega)]; unfold a_x; omega) | (rw [a_cl_if (by omega) (by omega) (by omega)]; omega)) (Or.inl rfl), fun h => c_go T0 T1.2.1.symm T1.2.2.1.symm (by first | (rw [a_cl_0]; omega) | (rw [a_cl_1 (by omega) (by omega)]; unfold a_one; omega) | (rw [a_cl_e0 (by omega)]; omega) | (rw [a_cl_e1 (by omega), if_pos (a_p_iff.mpr (by omega))]) | (rw [a_cl_e1 (by omega), if_neg (by rw [a_p_no (by omega)]; decide), if_pos (by omega)]; omega) | (rw [a_cl_e1 (by omega), if_neg (by rw [a_p_no (by omega)]; decide), if_neg (by omega)]; unfold a_x; omega) | (rw [a_cl_if (by omega) (by omega) (by omega)]; omega))⟩, trivial⟩
theorem k_tke_3 {V : zVw} {n c H L W WP kd s v S : Int} (T0 : q_run2 (t_b V) n c (3 : Int) (0 : Int) (0 : Int) H L W WP S) (T1 : q_tok (t_b V) n c kd s v) : (True) ∧ (((kd ≠ (3 : Int) → q_res (t_b V) n 1 s) ∧ (kd = (3 : Int) → q_go (t_b V) n c s)) ∧ True) := by
  have U0 := T0.2
  have T0 := T0.1
  exact ⟨trivial, ⟨fun h => by first | (exfalso; omega) | exact c_res T0 T1.2.1.symm T1.2.2.1.symm (f := 1) (by first | (rw [a_cl_0]; omega) | (rw [a_cl_1 (by omega) (by omega)]; unfold a_one; omega) | (rw [a_cl_e0 (by omega)]; omega) | (rw [a_cl_e1 (by omega), if_neg (by rw [a_p_no (by omega)]; decide), if_pos (by omega)]; omega) | (rw [a_cl_e1 (by omega), if_neg (by rw [a_p_no (by omega)]; decide), if_neg (by omega)]; unfold a_x; omega) | (rw [a_cl_if (by omega) (by omega) (by omega)]; omega)) (Or.inl rfl), fun h => c_go T0 T1.2.1.symm T1.2.2.1.symm (by first | (rw [a_cl_0]; omega) | (rw [a_cl_1 (by omega) (by omega)]; unfold a_one; omega) | (rw [a_cl_e0 (by omega)]; omega) | (rw [a_cl_e1 (by omega), if_pos (a_p_iff.mpr (by omega))]) | (rw [a_cl_e1 (by omega), if_neg (by rw [a_p_no (by omega)]; decide), if_pos (by omega)]; omega) | (rw [a_cl_e1 (by omega), if_neg (by rw [a_p_no (by omega)]; decide), if_neg (by omega)]; unfold a_x; omega) | (rw [a_cl_if (by omega) (by omega) (by omega)]; omega))⟩, trivial⟩
theorem k_tke_4 {V : zVw} {n c H L W WP kd s v S : Int} (T0 : q_run2 (t_b V) n c (4 : Int) (0 : Int) (0 : Int) H L W WP S) (T1 : q_tok (t_b V) n c kd s v) : (True) ∧ (((kd ≠ (59 : Int) → q_res (t_b V) n 1 s) ∧ (kd = (59 : Int) → q_go (t_b V) n c s)) ∧ True) := by
  have U0 := T0.2
  have T0 := T0.1
  exact ⟨trivial, ⟨fun h => by first | (exfalso; omega) | exact c_res T0 T1.2.1.symm T1.2.2.1.symm (f := 1) (by first | (rw [a_cl_0]; omega) | (rw [a_cl_1 (by omega) (by omega)]; unfold a_one; omega) | (rw [a_cl_e0 (by omega)]; omega) | (rw [a_cl_e1 (by omega), if_neg (by rw [a_p_no (by omega)]; decide), if_pos (by omega)]; omega) | (rw [a_cl_e1 (by omega), if_neg (by rw [a_p_no (by omega)]; decide), if_neg (by omega)]; unfold a_x; omega) | (rw [a_cl_if (by omega) (by omega) (by omega)]; omega)) (Or.inl rfl), fun h => c_go T0 T1.2.1.symm T1.2.2.1.symm (by first | (rw [a_cl_0]; omega) | (rw [a_cl_1 (by omega) (by omega)]; unfold a_one; omega) | (rw [a_cl_e0 (by omega)]; omega) | (rw [a_cl_e1 (by omega), if_pos (a_p_iff.mpr (by omega))]) | (rw [a_cl_e1 (by omega), if_neg (by rw [a_p_no (by omega)]; decide), if_pos (by omega)]; omega) | (rw [a_cl_e1 (by omega), if_neg (by rw [a_p_no (by omega)]; decide), if_neg (by omega)]; unfold a_x; omega) | (rw [a_cl_if (by omega) (by omega) (by omega)]; omega))⟩, trivial⟩
theorem k_tke_5 {V : zVw} {n c H L W WP kd s v S : Int} (T0 : q_run2 (t_b V) n c (5 : Int) (0 : Int) (0 : Int) H L W WP S) (T1 : q_tok (t_b V) n c kd s v) : (True) ∧ (((kd ≠ (2 : Int) → q_res (t_b V) n 1 s) ∧ (kd = (2 : Int) → q_go (t_b V) n c s)) ∧ True) := by
  have U0 := T0.2
  have T0 := T0.1
  exact ⟨trivial, ⟨fun h => by first | (exfalso; omega) | exact c_res T0 T1.2.1.symm T1.2.2.1.symm (f := 1) (by first | (rw [a_cl_0]; omega) | (rw [a_cl_1 (by omega) (by omega)]; unfold a_one; omega) | (rw [a_cl_e0 (by omega)]; omega) | (rw [a_cl_e1 (by omega), if_neg (by rw [a_p_no (by omega)]; decide), if_pos (by omega)]; omega) | (rw [a_cl_e1 (by omega), if_neg (by rw [a_p_no (by omega)]; decide), if_neg (by omega)]; unfold a_x; omega) | (rw [a_cl_if (by omega) (by omega) (by omega)]; omega)) (Or.inl rfl), fun h => c_go T0 T1.2.1.symm T1.2.2.1.symm (by first | (rw [a_cl_0]; omega) | (rw [a_cl_1 (by omega) (by omega)]; unfold a_one; omega) | (rw [a_cl_e0 (by omega)]; omega) | (rw [a_cl_e1 (by omega), if_pos (a_p_iff.mpr (by omega))]) | (rw [a_cl_e1 (by omega), if_neg (by rw [a_p_no (by omega)]; decide), if_pos (by omega)]; omega) | (rw [a_cl_e1 (by omega), if_neg (by rw [a_p_no (by omega)]; decide), if_neg (by omega)]; unfold a_x; omega) | (rw [a_cl_if (by omega) (by omega) (by omega)]; omega))⟩, trivial⟩
theorem k_tke_6 {V : zVw} {n c H L W WP kd s v S : Int} (T0 : q_run2 (t_b V) n c (6 : Int) (0 : Int) (0 : Int) H L W WP S) (T1 : q_tok (t_b V) n c kd s v) : (True) ∧ (((kd ≠ (2 : Int) → q_res (t_b V) n 1 s) ∧ (kd = (2 : Int) → q_go (t_b V) n c s)) ∧ True) := by
  have U0 := T0.2
  have T0 := T0.1
  exact ⟨trivial, ⟨fun h => by first | (exfalso; omega) | exact c_res T0 T1.2.1.symm T1.2.2.1.symm (f := 1) (by first | (rw [a_cl_0]; omega) | (rw [a_cl_1 (by omega) (by omega)]; unfold a_one; omega) | (rw [a_cl_e0 (by omega)]; omega) | (rw [a_cl_e1 (by omega), if_neg (by rw [a_p_no (by omega)]; decide), if_pos (by omega)]; omega) | (rw [a_cl_e1 (by omega), if_neg (by rw [a_p_no (by omega)]; decide), if_neg (by omega)]; unfold a_x; omega) | (rw [a_cl_if (by omega) (by omega) (by omega)]; omega)) (Or.inl rfl), fun h => c_go T0 T1.2.1.symm T1.2.2.1.symm (by first | (rw [a_cl_0]; omega) | (rw [a_cl_1 (by omega) (by omega)]; unfold a_one; omega) | (rw [a_cl_e0 (by omega)]; omega) | (rw [a_cl_e1 (by omega), if_pos (a_p_iff.mpr (by omega))]) | (rw [a_cl_e1 (by omega), if_neg (by rw [a_p_no (by omega)]; decide), if_pos (by omega)]; omega) | (rw [a_cl_e1 (by omega), if_neg (by rw [a_p_no (by omega)]; decide), if_neg (by omega)]; unfold a_x; omega) | (rw [a_cl_if (by omega) (by omega) (by omega)]; omega))⟩, trivial⟩
theorem k_tke_7 {V : zVw} {n c H L W WP kd s v S : Int} (T0 : q_run2 (t_b V) n c (7 : Int) (0 : Int) (0 : Int) H L W WP S) (T1 : q_tok (t_b V) n c kd s v) : (True) ∧ (((kd ≠ (3 : Int) → q_res (t_b V) n 1 s) ∧ (kd = (3 : Int) → q_go (t_b V) n c s)) ∧ True) := by
  have U0 := T0.2
  have T0 := T0.1
  exact ⟨trivial, ⟨fun h => by first | (exfalso; omega) | exact c_res T0 T1.2.1.symm T1.2.2.1.symm (f := 1) (by first | (rw [a_cl_0]; omega) | (rw [a_cl_1 (by omega) (by omega)]; unfold a_one; omega) | (rw [a_cl_e0 (by omega)]; omega) | (rw [a_cl_e1 (by omega), if_neg (by rw [a_p_no (by omega)]; decide), if_pos (by omega)]; omega) | (rw [a_cl_e1 (by omega), if_neg (by rw [a_p_no (by omega)]; decide), if_neg (by omega)]; unfold a_x; omega) | (rw [a_cl_if (by omega) (by omega) (by omega)]; omega)) (Or.inl rfl), fun h => c_go T0 T1.2.1.symm T1.2.2.1.symm (by first | (rw [a_cl_0]; omega) | (rw [a_cl_1 (by omega) (by omega)]; unfold a_one; omega) | (rw [a_cl_e0 (by omega)]; omega) | (rw [a_cl_e1 (by omega), if_pos (a_p_iff.mpr (by omega))]) | (rw [a_cl_e1 (by omega), if_neg (by rw [a_p_no (by omega)]; decide), if_pos (by omega)]; omega) | (rw [a_cl_e1 (by omega), if_neg (by rw [a_p_no (by omega)]; decide), if_neg (by omega)]; unfold a_x; omega) | (rw [a_cl_if (by omega) (by omega) (by omega)]; omega))⟩, trivial⟩
theorem k_tke_8 {V : zVw} {n c H L W WP kd s v S : Int} (T0 : q_run2 (t_b V) n c (8 : Int) (0 : Int) (0 : Int) H L W WP S) (T1 : q_tok (t_b V) n c kd s v) : (True) ∧ (((kd ≠ (59 : Int) → q_res (t_b V) n 1 s) ∧ (kd = (59 : Int) → q_go (t_b V) n c s)) ∧ True) := by
  have U0 := T0.2
  have T0 := T0.1
  exact ⟨trivial, ⟨fun h => by first | (exfalso; omega) | exact c_res T0 T1.2.1.symm T1.2.2.1.symm (f := 1) (by first | (rw [a_cl_0]; omega) | (rw [a_cl_1 (by omega) (by omega)]; unfold a_one; omega) | (rw [a_cl_e0 (by omega)]; omega) | (rw [a_cl_e1 (by omega), if_neg (by rw [a_p_no (by omega)]; decide), if_pos (by omega)]; omega) | (rw [a_cl_e1 (by omega), if_neg (by rw [a_p_no (by omega)]; decide), if_neg (by omega)]; unfold a_x; omega) | (rw [a_cl_if (by omega) (by omega) (by omega)]; omega)) (Or.inl rfl), fun h => c_go T0 T1.2.1.symm T1.2.2.1.symm (by first | (rw [a_cl_0]; omega) | (rw [a_cl_1 (by omega) (by omega)]; unfold a_one; omega) | (rw [a_cl_e0 (by omega)]; omega) | (rw [a_cl_e1 (by omega), if_pos (a_p_iff.mpr (by omega))]) | (rw [a_cl_e1 (by omega), if_neg (by rw [a_p_no (by omega)]; decide), if_pos (by omega)]; omega) | (rw [a_cl_e1 (by omega), if_neg (by rw [a_p_no (by omega)]; decide), if_neg (by omega)]; unfold a_x; omega) | (rw [a_cl_if (by omega) (by omega) (by omega)]; omega))⟩, trivial⟩
theorem k_tke_9 {V : zVw} {n c H L W WP kd s v S : Int} (T0 : q_run2 (t_b V) n c (9 : Int) (0 : Int) (0 : Int) H L W WP S) (T1 : q_tok (t_b V) n c kd s v) : (True) ∧ (((kd ≠ (3 : Int) → q_res (t_b V) n 1 s) ∧ (kd = (3 : Int) → q_go (t_b V) n c s)) ∧ True) := by
  have U0 := T0.2
  have T0 := T0.1
  exact ⟨trivial, ⟨fun h => by first | (exfalso; omega) | exact c_res T0 T1.2.1.symm T1.2.2.1.symm (f := 1) (by first | (rw [a_cl_0]; omega) | (rw [a_cl_1 (by omega) (by omega)]; unfold a_one; omega) | (rw [a_cl_e0 (by omega)]; omega) | (rw [a_cl_e1 (by omega), if_neg (by rw [a_p_no (by omega)]; decide), if_pos (by omega)]; omega) | (rw [a_cl_e1 (by omega), if_neg (by rw [a_p_no (by omega)]; decide), if_neg (by omega)]; unfold a_x; omega) | (rw [a_cl_if (by omega) (by omega) (by omega)]; omega)) (Or.inl rfl), fun h => c_go T0 T1.2.1.symm T1.2.2.1.symm (by first | (rw [a_cl_0]; omega) | (rw [a_cl_1 (by omega) (by omega)]; unfold a_one; omega) | (rw [a_cl_e0 (by omega)]; omega) | (rw [a_cl_e1 (by omega), if_pos (a_p_iff.mpr (by omega))]) | (rw [a_cl_e1 (by omega), if_neg (by rw [a_p_no (by omega)]; decide), if_pos (by omega)]; omega) | (rw [a_cl_e1 (by omega), if_neg (by rw [a_p_no (by omega)]; decide), if_neg (by omega)]; unfold a_x; omega) | (rw [a_cl_if (by omega) (by omega) (by omega)]; omega))⟩, trivial⟩
theorem k_tke_10 {V : zVw} {n c H L W WP kd s v S : Int} (T0 : q_run2 (t_b V) n c (10 : Int) (0 : Int) (0 : Int) H L W WP S) (T1 : q_tok (t_b V) n c kd s v) : (True) ∧ (((kd ≠ (3 : Int) → q_res (t_b V) n 1 s) ∧ (kd = (3 : Int) → q_go (t_b V) n c s)) ∧ True) := by
  have U0 := T0.2
  have T0 := T0.1
  exact ⟨trivial, ⟨fun h => by first | (exfalso; omega) | exact c_res T0 T1.2.1.symm T1.2.2.1.symm (f := 1) (by first | (rw [a_cl_0]; omega) | (rw [a_cl_1 (by omega) (by omega)]; unfold a_one; omega) | (rw [a_cl_e0 (by omega)]; omega) | (rw [a_cl_e1 (by omega), if_neg (by rw [a_p_no (by omega)]; decide), if_pos (by omega)]; omega) | (rw [a_cl_e1 (by omega), if_neg (by rw [a_p_no (by omega)]; decide), if_neg (by omega)]; unfold a_x; omega) | (rw [a_cl_if (by omega) (by omega) (by omega)]; omega)) (Or.inl rfl), fun h => c_go T0 T1.2.1.symm T1.2.2.1.symm (by first | (rw [a_cl_0]; omega) | (rw [a_cl_1 (by omega) (by omega)]; unfold a_one; omega) | (rw [a_cl_e0 (by omega)]; omega) | (rw [a_cl_e1 (by omega), if_pos (a_p_iff.mpr (by omega))]) | (rw [a_cl_e1 (by omega), if_neg (by rw [a_p_no (by omega)]; decide), if_pos (by omega)]; omega) | (rw [a_cl_e1 (by omega), if_neg (by rw [a_p_no (by omega)]; decide), if_neg (by omega)]; unfold a_x; omega) | (rw [a_cl_if (by omega) (by omega) (by omega)]; omega))⟩, trivial⟩
theorem k_tke_11 {V : zVw} {n c H L W WP kd s v S : Int} (T0 : q_run2 (t_b V) n c (11 : Int) (0 : Int) (0 : Int) H L W WP S) (T1 : q_tok (t_b V) n c kd s v) : (True) ∧ (((kd ≠ (3 : Int) → q_res (t_b V) n 1 s) ∧ (kd = (3 : Int) → q_go (t_b V) n c s)) ∧ True) := by
  have U0 := T0.2
  have T0 := T0.1
  exact ⟨trivial, ⟨fun h => by first | (exfalso; omega) | exact c_res T0 T1.2.1.symm T1.2.2.1.symm (f := 1) (by first | (rw [a_cl_0]; omega) | (rw [a_cl_1 (by omega) (by omega)]; unfold a_one; omega) | (rw [a_cl_e0 (by omega)]; omega) | (rw [a_cl_e1 (by omega), if_neg (by rw [a_p_no (by omega)]; decide), if_pos (by omega)]; omega) | (rw [a_cl_e1 (by omega), if_neg (by rw [a_p_no (by omega)]; decide), if_neg (by omega)]; unfold a_x; omega) | (rw [a_cl_if (by omega) (by omega) (by omega)]; omega)) (Or.inl rfl), fun h => c_go T0 T1.2.1.symm T1.2.2.1.symm (by first | (rw [a_cl_0]; omega) | (rw [a_cl_1 (by omega) (by omega)]; unfold a_one; omega) | (rw [a_cl_e0 (by omega)]; omega) | (rw [a_cl_e1 (by omega), if_pos (a_p_iff.mpr (by omega))]) | (rw [a_cl_e1 (by omega), if_neg (by rw [a_p_no (by omega)]; decide), if_pos (by omega)]; omega) | (rw [a_cl_e1 (by omega), if_neg (by rw [a_p_no (by omega)]; decide), if_neg (by omega)]; unfold a_x; omega) | (rw [a_cl_if (by omega) (by omega) (by omega)]; omega))⟩, trivial⟩
theorem k_tke_12 {V : zVw} {n c H L W WP kd s v S : Int} (T0 : q_run2 (t_b V) n c (12 : Int) (0 : Int) (0 : Int) H L W WP S) (T1 : q_tok (t_b V) n c kd s v) : (True) ∧ (((kd ≠ (3 : Int) → q_res (t_b V) n 1 s) ∧ (kd = (3 : Int) → q_go (t_b V) n c s)) ∧ True) := by
  have U0 := T0.2
  have T0 := T0.1
  exact ⟨trivial, ⟨fun h => by first | (exfalso; omega) | exact c_res T0 T1.2.1.symm T1.2.2.1.symm (f := 1) (by first | (rw [a_cl_0]; omega) | (rw [a_cl_1 (by omega) (by omega)]; unfold a_one; omega) | (rw [a_cl_e0 (by omega)]; omega) | (rw [a_cl_e1 (by omega), if_neg (by rw [a_p_no (by omega)]; decide), if_pos (by omega)]; omega) | (rw [a_cl_e1 (by omega), if_neg (by rw [a_p_no (by omega)]; decide), if_neg (by omega)]; unfold a_x; omega) | (rw [a_cl_if (by omega) (by omega) (by omega)]; omega)) (Or.inl rfl), fun h => c_go T0 T1.2.1.symm T1.2.2.1.symm (by first | (rw [a_cl_0]; omega) | (rw [a_cl_1 (by omega) (by omega)]; unfold a_one; omega) | (rw [a_cl_e0 (by omega)]; omega) | (rw [a_cl_e1 (by omega), if_pos (a_p_iff.mpr (by omega))]) | (rw [a_cl_e1 (by omega), if_neg (by rw [a_p_no (by omega)]; decide), if_pos (by omega)]; omega) | (rw [a_cl_e1 (by omega), if_neg (by rw [a_p_no (by omega)]; decide), if_neg (by omega)]; unfold a_x; omega) | (rw [a_cl_if (by omega) (by omega) (by omega)]; omega))⟩, trivial⟩
theorem k_tke_13 {V : zVw} {n c H L W WP kd s v S : Int} (T0 : q_run2 (t_b V) n c (13 : Int) (0 : Int) (0 : Int) H L W WP S) (T1 : q_tok (t_b V) n c kd s v) : (True) ∧ (((kd ≠ (59 : Int) → q_res (t_b V) n 1 s) ∧ (kd = (59 : Int) → q_go (t_b V) n c s)) ∧ True) := by
  have U0 := T0.2
  have T0 := T0.1
  exact ⟨trivial, ⟨fun h => by first | (exfalso; omega) | exact c_res T0 T1.2.1.symm T1.2.2.1.symm (f := 1) (by first | (rw [a_cl_0]; omega) | (rw [a_cl_1 (by omega) (by omega)]; unfold a_one; omega) | (rw [a_cl_e0 (by omega)]; omega) | (rw [a_cl_e1 (by omega), if_neg (by rw [a_p_no (by omega)]; decide), if_pos (by omega)]; omega) | (rw [a_cl_e1 (by omega), if_neg (by rw [a_p_no (by omega)]; decide), if_neg (by omega)]; unfold a_x; omega) | (rw [a_cl_if (by omega) (by omega) (by omega)]; omega)) (Or.inl rfl), fun h => c_go T0 T1.2.1.symm T1.2.2.1.symm (by first | (rw [a_cl_0]; omega) | (rw [a_cl_1 (by omega) (by omega)]; unfold a_one; omega) | (rw [a_cl_e0 (by omega)]; omega) | (rw [a_cl_e1 (by omega), if_pos (a_p_iff.mpr (by omega))]) | (rw [a_cl_e1 (by omega), if_neg (by rw [a_p_no (by omega)]; decide), if_pos (by omega)]; omega) | (rw [a_cl_e1 (by omega), if_neg (by rw [a_p_no (by omega)]; decide), if_neg (by omega)]; unfold a_x; omega) | (rw [a_cl_if (by omega) (by omega) (by omega)]; omega))⟩, trivial⟩
theorem k_tke_20 {V : zVw} {n c H L W WP kd s v S : Int} (T0 : q_run2 (t_b V) n c (20 : Int) (0 : Int) (0 : Int) H L W WP S) (T1 : q_tok (t_b V) n c kd s v) : (True) ∧ (((kd ≠ (61 : Int) → q_res (t_b V) n 1 s) ∧ (kd = (61 : Int) → q_go (t_b V) n c s)) ∧ True) := by
  have U0 := T0.2
  have T0 := T0.1
  exact ⟨trivial, ⟨fun h => by first | (exfalso; omega) | exact c_res T0 T1.2.1.symm T1.2.2.1.symm (f := 1) (by first | (rw [a_cl_0]; omega) | (rw [a_cl_1 (by omega) (by omega)]; unfold a_one; omega) | (rw [a_cl_e0 (by omega)]; omega) | (rw [a_cl_e1 (by omega), if_neg (by rw [a_p_no (by omega)]; decide), if_pos (by omega)]; omega) | (rw [a_cl_e1 (by omega), if_neg (by rw [a_p_no (by omega)]; decide), if_neg (by omega)]; unfold a_x; omega) | (rw [a_cl_if (by omega) (by omega) (by omega)]; omega)) (Or.inl rfl), fun h => c_go T0 T1.2.1.symm T1.2.2.1.symm (by first | (rw [a_cl_0]; omega) | (rw [a_cl_1 (by omega) (by omega)]; unfold a_one; omega) | (rw [a_cl_e0 (by omega)]; omega) | (rw [a_cl_e1 (by omega), if_pos (a_p_iff.mpr (by omega))]) | (rw [a_cl_e1 (by omega), if_neg (by rw [a_p_no (by omega)]; decide), if_pos (by omega)]; omega) | (rw [a_cl_e1 (by omega), if_neg (by rw [a_p_no (by omega)]; decide), if_neg (by omega)]; unfold a_x; omega) | (rw [a_cl_if (by omega) (by omega) (by omega)]; omega))⟩, trivial⟩
theorem k_tke_0h {V : zVw} {n c H L W WP kd s v S : Int} (T0 : q_run2 (t_b V) n c (0 : Int) (0 : Int) (0 : Int) H L W WP S) (T1 : q_tok (t_b V) n c kd s v) (C0 : 0 ≤ kd - 256) (C1 : 0 ≤ 256 - kd) (C2 : 0 ≤ 5 - H) : (True) ∧ (((kd ≠ (256 : Int) → q_res (t_b V) n 1 s) ∧ (kd = (256 : Int) → q_go (t_b V) n c s)) ∧ True) := by
  have U0 := T0.2
  have T0 := T0.1
  exact ⟨trivial, ⟨fun h => by first | (exfalso; omega) | exact c_res T0 T1.2.1.symm T1.2.2.1.symm (f := 1) (by first | (rw [a_cl_0]; omega) | (rw [a_cl_1 (by omega) (by omega)]; unfold a_one; omega) | (rw [a_cl_e0 (by omega)]; omega) | (rw [a_cl_e1 (by omega), if_neg (by rw [a_p_no (by omega)]; decide), if_pos (by omega)]; omega) | (rw [a_cl_e1 (by omega), if_neg (by rw [a_p_no (by omega)]; decide), if_neg (by omega)]; unfold a_x; omega) | (rw [a_cl_if (by omega) (by omega) (by omega)]; omega)) (Or.inl rfl), fun h => c_go T0 T1.2.1.symm T1.2.2.1.symm (by first | (rw [a_cl_0]; omega) | (rw [a_cl_1 (by omega) (by omega)]; unfold a_one; omega) | (rw [a_cl_e0 (by omega)]; omega) | (rw [a_cl_e1 (by omega), if_pos (a_p_iff.mpr (by omega))]) | (rw [a_cl_e1 (by omega), if_neg (by rw [a_p_no (by omega)]; decide), if_pos (by omega)]; omega) | (rw [a_cl_e1 (by omega), if_neg (by rw [a_p_no (by omega)]; decide), if_neg (by omega)]; unfold a_x; omega) | (rw [a_cl_if (by omega) (by omega) (by omega)]; omega))⟩, trivial⟩
theorem k_room_h {V : zVw} {n c H L W WP kd s v S : Int} (T0 : q_run2 (t_b V) n c (0 : Int) (0 : Int) (0 : Int) H L W WP S) (T1 : q_tok (t_b V) n c kd s v) (C0 : 0 ≤ kd - 256) (C1 : 0 ≤ 256 - kd) (C2 : 0 ≤ H - 6) : (True) ∧ (q_res (t_b V) n (2 : Int) s ∧ True) := by
  have U0 := T0.2
  have T0 := T0.1
  exact ⟨trivial, c_res T0 T1.2.1.symm T1.2.2.1.symm (f := 2) (by first | (rw [a_cl_0]; omega) | (rw [a_cl_1 (by omega) (by omega)]; unfold a_one; omega) | (rw [a_cl_e0 (by omega)]; omega) | (rw [a_cl_e1 (by omega), if_neg (by rw [a_p_no (by omega)]; decide), if_pos (by omega)]; omega) | (rw [a_cl_e1 (by omega), if_neg (by rw [a_p_no (by omega)]; decide), if_neg (by omega)]; unfold a_x; omega) | (rw [a_cl_if (by omega) (by omega) (by omega)]; omega)) (by decide), trivial⟩
theorem k_tke_0l {V : zVw} {n c H L W WP kd s v S : Int} (T0 : q_run2 (t_b V) n c (0 : Int) (0 : Int) (0 : Int) H L W WP S) (T1 : q_tok (t_b V) n c kd s v) (C0 : 0 ≤ kd - 257) (C1 : 0 ≤ 257 - kd) (C2 : 0 ≤ 19 - L) : (True) ∧ (((kd ≠ (257 : Int) → q_res (t_b V) n 1 s) ∧ (kd = (257 : Int) → q_go (t_b V) n c s)) ∧ True) := by
  have U0 := T0.2
  have T0 := T0.1
  exact ⟨trivial, ⟨fun h => by first | (exfalso; omega) | exact c_res T0 T1.2.1.symm T1.2.2.1.symm (f := 1) (by first | (rw [a_cl_0]; omega) | (rw [a_cl_1 (by omega) (by omega)]; unfold a_one; omega) | (rw [a_cl_e0 (by omega)]; omega) | (rw [a_cl_e1 (by omega), if_neg (by rw [a_p_no (by omega)]; decide), if_pos (by omega)]; omega) | (rw [a_cl_e1 (by omega), if_neg (by rw [a_p_no (by omega)]; decide), if_neg (by omega)]; unfold a_x; omega) | (rw [a_cl_if (by omega) (by omega) (by omega)]; omega)) (Or.inl rfl), fun h => c_go T0 T1.2.1.symm T1.2.2.1.symm (by first | (rw [a_cl_0]; omega) | (rw [a_cl_1 (by omega) (by omega)]; unfold a_one; omega) | (rw [a_cl_e0 (by omega)]; omega) | (rw [a_cl_e1 (by omega), if_pos (a_p_iff.mpr (by omega))]) | (rw [a_cl_e1 (by omega), if_neg (by rw [a_p_no (by omega)]; decide), if_pos (by omega)]; omega) | (rw [a_cl_e1 (by omega), if_neg (by rw [a_p_no (by omega)]; decide), if_neg (by omega)]; unfold a_x; omega) | (rw [a_cl_if (by omega) (by omega) (by omega)]; omega))⟩, trivial⟩
theorem k_room_l {V : zVw} {n c H L W WP kd s v S : Int} (T0 : q_run2 (t_b V) n c (0 : Int) (0 : Int) (0 : Int) H L W WP S) (T1 : q_tok (t_b V) n c kd s v) (C0 : 0 ≤ kd - 257) (C1 : 0 ≤ 257 - kd) (C2 : 0 ≤ L - 20) : (True) ∧ (q_res (t_b V) n (2 : Int) s ∧ True) := by
  have U0 := T0.2
  have T0 := T0.1
  exact ⟨trivial, c_res T0 T1.2.1.symm T1.2.2.1.symm (f := 2) (by first | (rw [a_cl_0]; omega) | (rw [a_cl_1 (by omega) (by omega)]; unfold a_one; omega) | (rw [a_cl_e0 (by omega)]; omega) | (rw [a_cl_e1 (by omega), if_neg (by rw [a_p_no (by omega)]; decide), if_pos (by omega)]; omega) | (rw [a_cl_e1 (by omega), if_neg (by rw [a_p_no (by omega)]; decide), if_neg (by omega)]; unfold a_x; omega) | (rw [a_cl_if (by omega) (by omega) (by omega)]; omega)) (by decide), trivial⟩
theorem k_tke_0n1 {V : zVw} {n c H L W WP kd s v S : Int} (T0 : q_run2 (t_b V) n c (0 : Int) (0 : Int) (0 : Int) H L W WP S) (T1 : q_tok (t_b V) n c kd s v) (C0 : 0 ≤ kd - 258) (C1 : 0 ≤ 259 - kd) : (True) ∧ (((kd ≠ kd → q_res (t_b V) n 1 s) ∧ (kd = kd → q_go (t_b V) n c s)) ∧ True) := by
  have U0 := T0.2
  have T0 := T0.1
  exact ⟨trivial, ⟨fun h => by first | (exfalso; omega) | exact c_res T0 T1.2.1.symm T1.2.2.1.symm (f := 1) (by first | (rw [a_cl_0]; omega) | (rw [a_cl_1 (by omega) (by omega)]; unfold a_one; omega) | (rw [a_cl_e0 (by omega)]; omega) | (rw [a_cl_e1 (by omega), if_neg (by rw [a_p_no (by omega)]; decide), if_pos (by omega)]; omega) | (rw [a_cl_e1 (by omega), if_neg (by rw [a_p_no (by omega)]; decide), if_neg (by omega)]; unfold a_x; omega) | (rw [a_cl_if (by omega) (by omega) (by omega)]; omega)) (Or.inl rfl), fun h => c_go T0 T1.2.1.symm T1.2.2.1.symm (by first | (rw [a_cl_0]; omega) | (rw [a_cl_1 (by omega) (by omega)]; unfold a_one; omega) | (rw [a_cl_e0 (by omega)]; omega) | (rw [a_cl_e1 (by omega), if_pos (a_p_iff.mpr (by omega))]) | (rw [a_cl_e1 (by omega), if_neg (by rw [a_p_no (by omega)]; decide), if_pos (by omega)]; omega) | (rw [a_cl_e1 (by omega), if_neg (by rw [a_p_no (by omega)]; decide), if_neg (by omega)]; unfold a_x; omega) | (rw [a_cl_if (by omega) (by omega) (by omega)]; omega))⟩, trivial⟩
theorem k_tke_0n2 {V : zVw} {n c H L W WP kd s v S : Int} (T0 : q_run2 (t_b V) n c (0 : Int) (0 : Int) (0 : Int) H L W WP S) (T1 : q_tok (t_b V) n c kd s v) (C0 : 0 ≤ kd - 264) (C1 : 0 ≤ 265 - kd) : (True) ∧ (((kd ≠ kd → q_res (t_b V) n 1 s) ∧ (kd = kd → q_go (t_b V) n c s)) ∧ True) := by
  have U0 := T0.2
  have T0 := T0.1
  exact ⟨trivial, ⟨fun h => by first | (exfalso; omega) | exact c_res T0 T1.2.1.symm T1.2.2.1.symm (f := 1) (by first | (rw [a_cl_0]; omega) | (rw [a_cl_1 (by omega) (by omega)]; unfold a_one; omega) | (rw [a_cl_e0 (by omega)]; omega) | (rw [a_cl_e1 (by omega), if_neg (by rw [a_p_no (by omega)]; decide), if_pos (by omega)]; omega) | (rw [a_cl_e1 (by omega), if_neg (by rw [a_p_no (by omega)]; decide), if_neg (by omega)]; unfold a_x; omega) | (rw [a_cl_if (by omega) (by omega) (by omega)]; omega)) (Or.inl rfl), fun h => c_go T0 T1.2.1.symm T1.2.2.1.symm (by first | (rw [a_cl_0]; omega) | (rw [a_cl_1 (by omega) (by omega)]; unfold a_one; omega) | (rw [a_cl_e0 (by omega)]; omega) | (rw [a_cl_e1 (by omega), if_pos (a_p_iff.mpr (by omega))]) | (rw [a_cl_e1 (by omega), if_neg (by rw [a_p_no (by omega)]; decide), if_pos (by omega)]; omega) | (rw [a_cl_e1 (by omega), if_neg (by rw [a_p_no (by omega)]; decide), if_neg (by omega)]; unfold a_x; omega) | (rw [a_cl_if (by omega) (by omega) (by omega)]; omega))⟩, trivial⟩
theorem k_tke_0law {V : zVw} {n c H L W WP kd s v S : Int} (T0 : q_run2 (t_b V) n c (0 : Int) (0 : Int) (0 : Int) H L W WP S) (T1 : q_tok (t_b V) n c kd s v) (C0 : 0 ≤ kd - 260) (C1 : 0 ≤ 263 - kd) : (True) ∧ (((kd ≠ kd → q_res (t_b V) n 1 s) ∧ (kd = kd → q_go (t_b V) n c s)) ∧ True) := by
  have U0 := T0.2
  have T0 := T0.1
  exact ⟨trivial, ⟨fun h => by first | (exfalso; omega) | exact c_res T0 T1.2.1.symm T1.2.2.1.symm (f := 1) (by first | (rw [a_cl_0]; omega) | (rw [a_cl_1 (by omega) (by omega)]; unfold a_one; omega) | (rw [a_cl_e0 (by omega)]; omega) | (rw [a_cl_e1 (by omega), if_neg (by rw [a_p_no (by omega)]; decide), if_pos (by omega)]; omega) | (rw [a_cl_e1 (by omega), if_neg (by rw [a_p_no (by omega)]; decide), if_neg (by omega)]; unfold a_x; omega) | (rw [a_cl_if (by omega) (by omega) (by omega)]; omega)) (Or.inl rfl), fun h => c_go T0 T1.2.1.symm T1.2.2.1.symm (by first | (rw [a_cl_0]; omega) | (rw [a_cl_1 (by omega) (by omega)]; unfold a_one; omega) | (rw [a_cl_e0 (by omega)]; omega) | (rw [a_cl_e1 (by omega), if_pos (a_p_iff.mpr (by omega))]) | (rw [a_cl_e1 (by omega), if_neg (by rw [a_p_no (by omega)]; decide), if_pos (by omega)]; omega) | (rw [a_cl_e1 (by omega), if_neg (by rw [a_p_no (by omega)]; decide), if_neg (by omega)]; unfold a_x; omega) | (rw [a_cl_if (by omega) (by omega) (by omega)]; omega))⟩, trivial⟩
theorem k_syn_0a {V : zVw} {n c H L W WP kd s v S : Int} (T0 : q_run2 (t_b V) n c (0 : Int) (0 : Int) (0 : Int) H L W WP S) (T1 : q_tok (t_b V) n c kd s v) (C0 : 0 ≤ kd - 1) (C1 : 0 ≤ 255 - kd) : (True) ∧ (q_res (t_b V) n (1 : Int) s ∧ True) := by
  have U0 := T0.2
  have T0 := T0.1
  exact ⟨trivial, c_res T0 T1.2.1.symm T1.2.2.1.symm (f := 1) (by first | (rw [a_cl_0]; omega) | (rw [a_cl_1 (by omega) (by omega)]; unfold a_one; omega) | (rw [a_cl_e0 (by omega)]; omega) | (rw [a_cl_e1 (by omega), if_neg (by rw [a_p_no (by omega)]; decide), if_pos (by omega)]; omega) | (rw [a_cl_e1 (by omega), if_neg (by rw [a_p_no (by omega)]; decide), if_neg (by omega)]; unfold a_x; omega) | (rw [a_cl_if (by omega) (by omega) (by omega)]; omega)) (by decide), trivial⟩
theorem k_syn_0b {V : zVw} {n c H L W WP kd s v S : Int} (T0 : q_run2 (t_b V) n c (0 : Int) (0 : Int) (0 : Int) H L W WP S) (T1 : q_tok (t_b V) n c kd s v) (C0 : 0 ≤ kd - 266) : (True) ∧ (q_res (t_b V) n (1 : Int) s ∧ True) := by
  have U0 := T0.2
  have T0 := T0.1
  exact ⟨trivial, c_res T0 T1.2.1.symm T1.2.2.1.symm (f := 1) (by first | (rw [a_cl_0]; omega) | (rw [a_cl_1 (by omega) (by omega)]; unfold a_one; omega) | (rw [a_cl_e0 (by omega)]; omega) | (rw [a_cl_e1 (by omega), if_neg (by rw [a_p_no (by omega)]; decide), if_pos (by omega)]; omega) | (rw [a_cl_e1 (by omega), if_neg (by rw [a_p_no (by omega)]; decide), if_neg (by omega)]; unfold a_x; omega) | (rw [a_cl_if (by omega) (by omega) (by omega)]; omega)) (by decide), trivial⟩
theorem k_end_0 {V : zVw} {n c H L W WP kd s v S : Int} (T0 : q_run2 (t_b V) n c (0 : Int) (0 : Int) (0 : Int) H L W WP S) (T1 : q_tok (t_b V) n c kd s v) (C0 : 0 ≤ kd) (C1 : 0 ≤ -kd) : (True) ∧ (q_res (t_b V) n W WP ∧ True) := by
  have U0 := T0.2
  have T0 := T0.1
  exact ⟨trivial, c_end T0 T1.2.1.symm (by first | (rw [a_cl_0]; omega) | (rw [a_cl_1 (by omega) (by omega)]; unfold a_one; omega) | (rw [a_cl_e0 (by omega)]; omega) | (rw [a_cl_e1 (by omega), if_neg (by rw [a_p_no (by omega)]; decide), if_pos (by omega)]; omega) | (rw [a_cl_e1 (by omega), if_neg (by rw [a_p_no (by omega)]; decide), if_neg (by omega)]; unfold a_x; omega) | (rw [a_cl_if (by omega) (by omega) (by omega)]; omega)), trivial⟩
theorem k_s_0h {V : zVw} {n d H L W WP s v S : Int} (T0 : q_run2 (t_b V) n (d - 1) (0 : Int) (0 : Int) (0 : Int) H L W WP S) (T1 : q_tok (t_b V) n (d - 1) (256 : Int) s v) (C0 : 0 ≤ 400 - d) (C1 : 0 ≤ 5 - H) : (True) ∧ (q_run2 (t_b V) n d (1 : Int) (0 : Int) (0 : Int) H L W WP S ∧ True) := by
  have U0 := T0.2
  have T0 := T0.1
  have e9 := c_step (kd := 256) (s := s) (x := v) (r := 0) (rq := 0) (st' := 1) (mo' := 0) (op' := 0) (H' := H) (L' := L) (W' := W) (WP' := WP) T0 T1.2.1.symm T1.2.2.1.symm (fun h => (T1.2.2.2 (Or.inr h)).symm) (by omega) (by first | (rw [a_cl_0]; omega) | (rw [a_cl_1 (by omega) (by omega)]; unfold a_one; omega) | (rw [a_cl_e0 (by omega)]; omega) | (rw [a_cl_e1 (by omega), if_pos (a_p_iff.mpr (by omega))]) | (rw [a_cl_e1 (by omega), if_neg (by rw [a_p_no (by omega)]; decide), if_pos (by omega)]; omega) | (rw [a_cl_e1 (by omega), if_neg (by rw [a_p_no (by omega)]; decide), if_neg (by omega)]; unfold a_x; omega) | (rw [a_cl_if (by omega) (by omega) (by omega)]; omega)) (fun h => by unfold a_ef at h; omega) (fun h => by unfold a_ef at h; omega) (by first | decide | (rw [a_ef_s (by omega)]; unfold a_st; omega) | (unfold a_st a_ef; omega) | (rw [a_ef_s (by omega)]; unfold a_st; rw [a_p_no (by omega)]; simp only [Bool.false_eq_true, if_false]; omega) | (rw [a_ef_s (by omega)]; unfold a_st; rw [a_p_iff.mpr (by omega)]; simp only [if_true]; omega)) (by first | decide | (rw [a_ef_s (by omega)]; unfold a_mo; omega) | (unfold a_mo a_ef; omega) | (rw [a_ef_s (by omega)]; unfold a_mo; rw [a_p_no (by omega)]; simp only [Bool.false_eq_true, if_false]; omega) | (rw [a_ef_s (by omega)]; unfold a_mo; rw [a_p_iff.mpr (by omega)]; simp only [if_true]; omega)) (by first | decide | (rw [a_ef_s (by omega)]; unfold a_op; omega) | (unfold a_op a_ef; omega) | (rw [a_ef_s (by omega)]; unfold a_op; rw [a_p_no (by omega)]; simp only [Bool.false_eq_true, if_false]; omega) | (rw [a_ef_s (by omega)]; unfold a_op; rw [a_p_iff.mpr (by omega)]; simp only [if_true]; omega)) (by unfold a_ef; omega) (by unfold a_ef; omega) (by unfold a_ck a_ef a_lo a_hi; omega) (fun h => by omega)
  rw [show d - 1 + 1 = d by omega] at e9
  exact ⟨trivial, ⟨e9, by exact c_S1 U0 e9 (by omega) T0.1⟩, trivial⟩
theorem k_s_0l {V : zVw} {n d H L W WP s v S : Int} (T0 : q_run2 (t_b V) n (d - 1) (0 : Int) (0 : Int) (0 : Int) H L W WP S) (T1 : q_tok (t_b V) n (d - 1) (257 : Int) s v) (C0 : 0 ≤ 400 - d) (C1 : 0 ≤ 19 - L) : (True) ∧ (q_run2 (t_b V) n d (5 : Int) (0 : Int) (0 : Int) H L W WP S ∧ True) := by
  have U0 := T0.2
  have T0 := T0.1
  have e9 := c_step (kd := 257) (s := s) (x := v) (r := 0) (rq := 0) (st' := 5) (mo' := 0) (op' := 0) (H' := H) (L' := L) (W' := W) (WP' := WP) T0 T1.2.1.symm T1.2.2.1.symm (fun h => (T1.2.2.2 (Or.inr h)).symm) (by omega) (by first | (rw [a_cl_0]; omega) | (rw [a_cl_1 (by omega) (by omega)]; unfold a_one; omega) | (rw [a_cl_e0 (by omega)]; omega) | (rw [a_cl_e1 (by omega), if_pos (a_p_iff.mpr (by omega))]) | (rw [a_cl_e1 (by omega), if_neg (by rw [a_p_no (by omega)]; decide), if_pos (by omega)]; omega) | (rw [a_cl_e1 (by omega), if_neg (by rw [a_p_no (by omega)]; decide), if_neg (by omega)]; unfold a_x; omega) | (rw [a_cl_if (by omega) (by omega) (by omega)]; omega)) (fun h => by unfold a_ef at h; omega) (fun h => by unfold a_ef at h; omega) (by first | decide | (rw [a_ef_s (by omega)]; unfold a_st; omega) | (unfold a_st a_ef; omega) | (rw [a_ef_s (by omega)]; unfold a_st; rw [a_p_no (by omega)]; simp only [Bool.false_eq_true, if_false]; omega) | (rw [a_ef_s (by omega)]; unfold a_st; rw [a_p_iff.mpr (by omega)]; simp only [if_true]; omega)) (by first | decide | (rw [a_ef_s (by omega)]; unfold a_mo; omega) | (unfold a_mo a_ef; omega) | (rw [a_ef_s (by omega)]; unfold a_mo; rw [a_p_no (by omega)]; simp only [Bool.false_eq_true, if_false]; omega) | (rw [a_ef_s (by omega)]; unfold a_mo; rw [a_p_iff.mpr (by omega)]; simp only [if_true]; omega)) (by first | decide | (rw [a_ef_s (by omega)]; unfold a_op; omega) | (unfold a_op a_ef; omega) | (rw [a_ef_s (by omega)]; unfold a_op; rw [a_p_no (by omega)]; simp only [Bool.false_eq_true, if_false]; omega) | (rw [a_ef_s (by omega)]; unfold a_op; rw [a_p_iff.mpr (by omega)]; simp only [if_true]; omega)) (by unfold a_ef; omega) (by unfold a_ef; omega) (by unfold a_ck a_ef a_lo a_hi; omega) (fun h => by omega)
  rw [show d - 1 + 1 = d by omega] at e9
  exact ⟨trivial, ⟨e9, by exact c_S1 U0 e9 (by omega) T0.1⟩, trivial⟩
theorem k_s_0_258 {V : zVw} {n d H L W WP s v S : Int} (T0 : q_run2 (t_b V) n (d - 1) (0 : Int) (0 : Int) (0 : Int) H L W WP S) (T1 : q_tok (t_b V) n (d - 1) (258 : Int) s v) (C0 : 0 ≤ 400 - d) : (True) ∧ (q_run2 (t_b V) n d (9 : Int) (0 : Int) (0 : Int) H L W WP S ∧ True) := by
  have U0 := T0.2
  have T0 := T0.1
  have e9 := c_step (kd := 258) (s := s) (x := v) (r := 0) (rq := 0) (st' := 9) (mo' := 0) (op' := 0) (H' := H) (L' := L) (W' := W) (WP' := WP) T0 T1.2.1.symm T1.2.2.1.symm (fun h => (T1.2.2.2 (Or.inr h)).symm) (by omega) (by first | (rw [a_cl_0]; omega) | (rw [a_cl_1 (by omega) (by omega)]; unfold a_one; omega) | (rw [a_cl_e0 (by omega)]; omega) | (rw [a_cl_e1 (by omega), if_pos (a_p_iff.mpr (by omega))]) | (rw [a_cl_e1 (by omega), if_neg (by rw [a_p_no (by omega)]; decide), if_pos (by omega)]; omega) | (rw [a_cl_e1 (by omega), if_neg (by rw [a_p_no (by omega)]; decide), if_neg (by omega)]; unfold a_x; omega) | (rw [a_cl_if (by omega) (by omega) (by omega)]; omega)) (fun h => by unfold a_ef at h; omega) (fun h => by unfold a_ef at h; omega) (by first | decide | (rw [a_ef_s (by omega)]; unfold a_st; omega) | (unfold a_st a_ef; omega) | (rw [a_ef_s (by omega)]; unfold a_st; rw [a_p_no (by omega)]; simp only [Bool.false_eq_true, if_false]; omega) | (rw [a_ef_s (by omega)]; unfold a_st; rw [a_p_iff.mpr (by omega)]; simp only [if_true]; omega)) (by first | decide | (rw [a_ef_s (by omega)]; unfold a_mo; omega) | (unfold a_mo a_ef; omega) | (rw [a_ef_s (by omega)]; unfold a_mo; rw [a_p_no (by omega)]; simp only [Bool.false_eq_true, if_false]; omega) | (rw [a_ef_s (by omega)]; unfold a_mo; rw [a_p_iff.mpr (by omega)]; simp only [if_true]; omega)) (by first | decide | (rw [a_ef_s (by omega)]; unfold a_op; omega) | (unfold a_op a_ef; omega) | (rw [a_ef_s (by omega)]; unfold a_op; rw [a_p_no (by omega)]; simp only [Bool.false_eq_true, if_false]; omega) | (rw [a_ef_s (by omega)]; unfold a_op; rw [a_p_iff.mpr (by omega)]; simp only [if_true]; omega)) (by unfold a_ef; omega) (by unfold a_ef; omega) (by unfold a_ck a_ef a_lo a_hi; omega) (fun h => by omega)
  rw [show d - 1 + 1 = d by omega] at e9
  exact ⟨trivial, ⟨e9, by exact c_S1 U0 e9 (by omega) T0.1⟩, trivial⟩
theorem k_s_0_259 {V : zVw} {n d H L W WP s v S : Int} (T0 : q_run2 (t_b V) n (d - 1) (0 : Int) (0 : Int) (0 : Int) H L W WP S) (T1 : q_tok (t_b V) n (d - 1) (259 : Int) s v) (C0 : 0 ≤ 400 - d) : (True) ∧ (q_run2 (t_b V) n d (10 : Int) (0 : Int) (0 : Int) H L W WP S ∧ True) := by
  have U0 := T0.2
  have T0 := T0.1
  have e9 := c_step (kd := 259) (s := s) (x := v) (r := 0) (rq := 0) (st' := 10) (mo' := 0) (op' := 0) (H' := H) (L' := L) (W' := W) (WP' := WP) T0 T1.2.1.symm T1.2.2.1.symm (fun h => (T1.2.2.2 (Or.inr h)).symm) (by omega) (by first | (rw [a_cl_0]; omega) | (rw [a_cl_1 (by omega) (by omega)]; unfold a_one; omega) | (rw [a_cl_e0 (by omega)]; omega) | (rw [a_cl_e1 (by omega), if_pos (a_p_iff.mpr (by omega))]) | (rw [a_cl_e1 (by omega), if_neg (by rw [a_p_no (by omega)]; decide), if_pos (by omega)]; omega) | (rw [a_cl_e1 (by omega), if_neg (by rw [a_p_no (by omega)]; decide), if_neg (by omega)]; unfold a_x; omega) | (rw [a_cl_if (by omega) (by omega) (by omega)]; omega)) (fun h => by unfold a_ef at h; omega) (fun h => by unfold a_ef at h; omega) (by first | decide | (rw [a_ef_s (by omega)]; unfold a_st; omega) | (unfold a_st a_ef; omega) | (rw [a_ef_s (by omega)]; unfold a_st; rw [a_p_no (by omega)]; simp only [Bool.false_eq_true, if_false]; omega) | (rw [a_ef_s (by omega)]; unfold a_st; rw [a_p_iff.mpr (by omega)]; simp only [if_true]; omega)) (by first | decide | (rw [a_ef_s (by omega)]; unfold a_mo; omega) | (unfold a_mo a_ef; omega) | (rw [a_ef_s (by omega)]; unfold a_mo; rw [a_p_no (by omega)]; simp only [Bool.false_eq_true, if_false]; omega) | (rw [a_ef_s (by omega)]; unfold a_mo; rw [a_p_iff.mpr (by omega)]; simp only [if_true]; omega)) (by first | decide | (rw [a_ef_s (by omega)]; unfold a_op; omega) | (unfold a_op a_ef; omega) | (rw [a_ef_s (by omega)]; unfold a_op; rw [a_p_no (by omega)]; simp only [Bool.false_eq_true, if_false]; omega) | (rw [a_ef_s (by omega)]; unfold a_op; rw [a_p_iff.mpr (by omega)]; simp only [if_true]; omega)) (by unfold a_ef; omega) (by unfold a_ef; omega) (by unfold a_ck a_ef a_lo a_hi; omega) (fun h => by omega)
  rw [show d - 1 + 1 = d by omega] at e9
  exact ⟨trivial, ⟨e9, by exact c_S1 U0 e9 (by omega) T0.1⟩, trivial⟩
theorem k_s_0_264 {V : zVw} {n d H L W WP s v S : Int} (T0 : q_run2 (t_b V) n (d - 1) (0 : Int) (0 : Int) (0 : Int) H L W WP S) (T1 : q_tok (t_b V) n (d - 1) (264 : Int) s v) (C0 : 0 ≤ 400 - d) : (True) ∧ (q_run2 (t_b V) n d (11 : Int) (0 : Int) (0 : Int) H L W WP S ∧ True) := by
  have U0 := T0.2
  have T0 := T0.1
  have e9 := c_step (kd := 264) (s := s) (x := v) (r := 0) (rq := 0) (st' := 11) (mo' := 0) (op' := 0) (H' := H) (L' := L) (W' := W) (WP' := WP) T0 T1.2.1.symm T1.2.2.1.symm (fun h => (T1.2.2.2 (Or.inr h)).symm) (by omega) (by first | (rw [a_cl_0]; omega) | (rw [a_cl_1 (by omega) (by omega)]; unfold a_one; omega) | (rw [a_cl_e0 (by omega)]; omega) | (rw [a_cl_e1 (by omega), if_pos (a_p_iff.mpr (by omega))]) | (rw [a_cl_e1 (by omega), if_neg (by rw [a_p_no (by omega)]; decide), if_pos (by omega)]; omega) | (rw [a_cl_e1 (by omega), if_neg (by rw [a_p_no (by omega)]; decide), if_neg (by omega)]; unfold a_x; omega) | (rw [a_cl_if (by omega) (by omega) (by omega)]; omega)) (fun h => by unfold a_ef at h; omega) (fun h => by unfold a_ef at h; omega) (by first | decide | (rw [a_ef_s (by omega)]; unfold a_st; omega) | (unfold a_st a_ef; omega) | (rw [a_ef_s (by omega)]; unfold a_st; rw [a_p_no (by omega)]; simp only [Bool.false_eq_true, if_false]; omega) | (rw [a_ef_s (by omega)]; unfold a_st; rw [a_p_iff.mpr (by omega)]; simp only [if_true]; omega)) (by first | decide | (rw [a_ef_s (by omega)]; unfold a_mo; omega) | (unfold a_mo a_ef; omega) | (rw [a_ef_s (by omega)]; unfold a_mo; rw [a_p_no (by omega)]; simp only [Bool.false_eq_true, if_false]; omega) | (rw [a_ef_s (by omega)]; unfold a_mo; rw [a_p_iff.mpr (by omega)]; simp only [if_true]; omega)) (by first | decide | (rw [a_ef_s (by omega)]; unfold a_op; omega) | (unfold a_op a_ef; omega) | (rw [a_ef_s (by omega)]; unfold a_op; rw [a_p_no (by omega)]; simp only [Bool.false_eq_true, if_false]; omega) | (rw [a_ef_s (by omega)]; unfold a_op; rw [a_p_iff.mpr (by omega)]; simp only [if_true]; omega)) (by unfold a_ef; omega) (by unfold a_ef; omega) (by unfold a_ck a_ef a_lo a_hi; omega) (fun h => by omega)
  rw [show d - 1 + 1 = d by omega] at e9
  exact ⟨trivial, ⟨e9, by exact c_S1 U0 e9 (by omega) T0.1⟩, trivial⟩
theorem k_s_0_265 {V : zVw} {n d H L W WP s v S : Int} (T0 : q_run2 (t_b V) n (d - 1) (0 : Int) (0 : Int) (0 : Int) H L W WP S) (T1 : q_tok (t_b V) n (d - 1) (265 : Int) s v) (C0 : 0 ≤ 400 - d) : (True) ∧ (q_run2 (t_b V) n d (12 : Int) (0 : Int) (0 : Int) H L W WP S ∧ True) := by
  have U0 := T0.2
  have T0 := T0.1
  have e9 := c_step (kd := 265) (s := s) (x := v) (r := 0) (rq := 0) (st' := 12) (mo' := 0) (op' := 0) (H' := H) (L' := L) (W' := W) (WP' := WP) T0 T1.2.1.symm T1.2.2.1.symm (fun h => (T1.2.2.2 (Or.inr h)).symm) (by omega) (by first | (rw [a_cl_0]; omega) | (rw [a_cl_1 (by omega) (by omega)]; unfold a_one; omega) | (rw [a_cl_e0 (by omega)]; omega) | (rw [a_cl_e1 (by omega), if_pos (a_p_iff.mpr (by omega))]) | (rw [a_cl_e1 (by omega), if_neg (by rw [a_p_no (by omega)]; decide), if_pos (by omega)]; omega) | (rw [a_cl_e1 (by omega), if_neg (by rw [a_p_no (by omega)]; decide), if_neg (by omega)]; unfold a_x; omega) | (rw [a_cl_if (by omega) (by omega) (by omega)]; omega)) (fun h => by unfold a_ef at h; omega) (fun h => by unfold a_ef at h; omega) (by first | decide | (rw [a_ef_s (by omega)]; unfold a_st; omega) | (unfold a_st a_ef; omega) | (rw [a_ef_s (by omega)]; unfold a_st; rw [a_p_no (by omega)]; simp only [Bool.false_eq_true, if_false]; omega) | (rw [a_ef_s (by omega)]; unfold a_st; rw [a_p_iff.mpr (by omega)]; simp only [if_true]; omega)) (by first | decide | (rw [a_ef_s (by omega)]; unfold a_mo; omega) | (unfold a_mo a_ef; omega) | (rw [a_ef_s (by omega)]; unfold a_mo; rw [a_p_no (by omega)]; simp only [Bool.false_eq_true, if_false]; omega) | (rw [a_ef_s (by omega)]; unfold a_mo; rw [a_p_iff.mpr (by omega)]; simp only [if_true]; omega)) (by first | decide | (rw [a_ef_s (by omega)]; unfold a_op; omega) | (unfold a_op a_ef; omega) | (rw [a_ef_s (by omega)]; unfold a_op; rw [a_p_no (by omega)]; simp only [Bool.false_eq_true, if_false]; omega) | (rw [a_ef_s (by omega)]; unfold a_op; rw [a_p_iff.mpr (by omega)]; simp only [if_true]; omega)) (by unfold a_ef; omega) (by unfold a_ef; omega) (by unfold a_ck a_ef a_lo a_hi; omega) (fun h => by omega)
  rw [show d - 1 + 1 = d by omega] at e9
  exact ⟨trivial, ⟨e9, by exact c_S1 U0 e9 (by omega) T0.1⟩, trivial⟩
theorem k_s_0law {V : zVw} {n d H L W WP s v kd S : Int} (T0 : q_run2 (t_b V) n (d - 1) (0 : Int) (0 : Int) (0 : Int) H L W WP S) (T1 : q_tok (t_b V) n (d - 1) kd s v) (C0 : 0 ≤ 400 - d) (C1 : 0 ≤ kd - 260) (C2 : 0 ≤ 263 - kd) : (True) ∧ (q_run2 (t_b V) n d (20 : Int) (0 : Int) (0 : Int) H L W WP S ∧ True) := by
  have U0 := T0.2
  have T0 := T0.1
  have e9 := c_step (kd := kd) (s := s) (x := v) (r := 0) (rq := 0) (st' := 20) (mo' := 0) (op' := 0) (H' := H) (L' := L) (W' := W) (WP' := WP) T0 T1.2.1.symm T1.2.2.1.symm (fun h => (T1.2.2.2 (Or.inr h)).symm) (by omega) (by first | (rw [a_cl_0]; omega) | (rw [a_cl_1 (by omega) (by omega)]; unfold a_one; omega) | (rw [a_cl_e0 (by omega)]; omega) | (rw [a_cl_e1 (by omega), if_pos (a_p_iff.mpr (by omega))]) | (rw [a_cl_e1 (by omega), if_neg (by rw [a_p_no (by omega)]; decide), if_pos (by omega)]; omega) | (rw [a_cl_e1 (by omega), if_neg (by rw [a_p_no (by omega)]; decide), if_neg (by omega)]; unfold a_x; omega) | (rw [a_cl_if (by omega) (by omega) (by omega)]; omega)) (fun h => by unfold a_ef at h; omega) (fun h => by unfold a_ef at h; omega) (by first | decide | (rw [a_ef_s (by omega)]; unfold a_st; omega) | (unfold a_st a_ef; omega) | (rw [a_ef_s (by omega)]; unfold a_st; rw [a_p_no (by omega)]; simp only [Bool.false_eq_true, if_false]; omega) | (rw [a_ef_s (by omega)]; unfold a_st; rw [a_p_iff.mpr (by omega)]; simp only [if_true]; omega)) (by first | decide | (rw [a_ef_s (by omega)]; unfold a_mo; omega) | (unfold a_mo a_ef; omega) | (rw [a_ef_s (by omega)]; unfold a_mo; rw [a_p_no (by omega)]; simp only [Bool.false_eq_true, if_false]; omega) | (rw [a_ef_s (by omega)]; unfold a_mo; rw [a_p_iff.mpr (by omega)]; simp only [if_true]; omega)) (by first | decide | (rw [a_ef_s (by omega)]; unfold a_op; omega) | (unfold a_op a_ef; omega) | (rw [a_ef_s (by omega)]; unfold a_op; rw [a_p_no (by omega)]; simp only [Bool.false_eq_true, if_false]; omega) | (rw [a_ef_s (by omega)]; unfold a_op; rw [a_p_iff.mpr (by omega)]; simp only [if_true]; omega)) (by unfold a_ef; omega) (by unfold a_ef; omega) (by unfold a_ck a_ef a_lo a_hi; omega) (fun h => by omega)
  rw [show d - 1 + 1 = d by omega] at e9
  exact ⟨trivial, ⟨e9, by exact c_S1 U0 e9 (by omega) T0.1⟩, trivial⟩
theorem k_s_4 {V : zVw} {n d H L W WP s v S : Int} (T0 : q_run2 (t_b V) n (d - 1) (4 : Int) (0 : Int) (0 : Int) H L W WP S) (T1 : q_tok (t_b V) n (d - 1) (59 : Int) s v) (C0 : 0 ≤ 400 - d) : (True) ∧ (q_run2 (t_b V) n d (0 : Int) (0 : Int) (0 : Int) (H + 1) L W WP (S + 1) ∧ True) := by
  have U0 := T0.2
  have T0 := T0.1
  have e9 := c_step (kd := 59) (s := s) (x := v) (r := 0) (rq := 0) (st' := 0) (mo' := 0) (op' := 0) (H' := (H + 1)) (L' := L) (W' := W) (WP' := WP) T0 T1.2.1.symm T1.2.2.1.symm (fun h => (T1.2.2.2 (Or.inr h)).symm) (by omega) (by first | (rw [a_cl_0]; omega) | (rw [a_cl_1 (by omega) (by omega)]; unfold a_one; omega) | (rw [a_cl_e0 (by omega)]; omega) | (rw [a_cl_e1 (by omega), if_pos (a_p_iff.mpr (by omega))]) | (rw [a_cl_e1 (by omega), if_neg (by rw [a_p_no (by omega)]; decide), if_pos (by omega)]; omega) | (rw [a_cl_e1 (by omega), if_neg (by rw [a_p_no (by omega)]; decide), if_neg (by omega)]; unfold a_x; omega) | (rw [a_cl_if (by omega) (by omega) (by omega)]; omega)) (fun h => by unfold a_ef at h; omega) (fun h => by unfold a_ef at h; omega) (by first | decide | (rw [a_ef_s (by omega)]; unfold a_st; omega) | (unfold a_st a_ef; omega) | (rw [a_ef_s (by omega)]; unfold a_st; rw [a_p_no (by omega)]; simp only [Bool.false_eq_true, if_false]; omega) | (rw [a_ef_s (by omega)]; unfold a_st; rw [a_p_iff.mpr (by omega)]; simp only [if_true]; omega)) (by first | decide | (rw [a_ef_s (by omega)]; unfold a_mo; omega) | (unfold a_mo a_ef; omega) | (rw [a_ef_s (by omega)]; unfold a_mo; rw [a_p_no (by omega)]; simp only [Bool.false_eq_true, if_false]; omega) | (rw [a_ef_s (by omega)]; unfold a_mo; rw [a_p_iff.mpr (by omega)]; simp only [if_true]; omega)) (by first | decide | (rw [a_ef_s (by omega)]; unfold a_op; omega) | (unfold a_op a_ef; omega) | (rw [a_ef_s (by omega)]; unfold a_op; rw [a_p_no (by omega)]; simp only [Bool.false_eq_true, if_false]; omega) | (rw [a_ef_s (by omega)]; unfold a_op; rw [a_p_iff.mpr (by omega)]; simp only [if_true]; omega)) (by unfold a_ef; omega) (by unfold a_ef; omega) (by unfold a_ck a_ef a_lo a_hi; omega) (fun h => by omega)
  rw [show d - 1 + 1 = d by omega] at e9
  exact ⟨trivial, ⟨e9, by have := c_S0 U0 e9 T0.1; omega⟩, trivial⟩
theorem k_s_8 {V : zVw} {n d H L W WP s v S : Int} (T0 : q_run2 (t_b V) n (d - 1) (8 : Int) (0 : Int) (0 : Int) H L W WP S) (T1 : q_tok (t_b V) n (d - 1) (59 : Int) s v) (C0 : 0 ≤ 400 - d) : (True) ∧ (q_run2 (t_b V) n d (0 : Int) (0 : Int) (0 : Int) H (L + 1) W WP (S + 1) ∧ True) := by
  have U0 := T0.2
  have T0 := T0.1
  have e9 := c_step (kd := 59) (s := s) (x := v) (r := 0) (rq := 0) (st' := 0) (mo' := 0) (op' := 0) (H' := H) (L' := (L + 1)) (W' := W) (WP' := WP) T0 T1.2.1.symm T1.2.2.1.symm (fun h => (T1.2.2.2 (Or.inr h)).symm) (by omega) (by first | (rw [a_cl_0]; omega) | (rw [a_cl_1 (by omega) (by omega)]; unfold a_one; omega) | (rw [a_cl_e0 (by omega)]; omega) | (rw [a_cl_e1 (by omega), if_pos (a_p_iff.mpr (by omega))]) | (rw [a_cl_e1 (by omega), if_neg (by rw [a_p_no (by omega)]; decide), if_pos (by omega)]; omega) | (rw [a_cl_e1 (by omega), if_neg (by rw [a_p_no (by omega)]; decide), if_neg (by omega)]; unfold a_x; omega) | (rw [a_cl_if (by omega) (by omega) (by omega)]; omega)) (fun h => by unfold a_ef at h; omega) (fun h => by unfold a_ef at h; omega) (by first | decide | (rw [a_ef_s (by omega)]; unfold a_st; omega) | (unfold a_st a_ef; omega) | (rw [a_ef_s (by omega)]; unfold a_st; rw [a_p_no (by omega)]; simp only [Bool.false_eq_true, if_false]; omega) | (rw [a_ef_s (by omega)]; unfold a_st; rw [a_p_iff.mpr (by omega)]; simp only [if_true]; omega)) (by first | decide | (rw [a_ef_s (by omega)]; unfold a_mo; omega) | (unfold a_mo a_ef; omega) | (rw [a_ef_s (by omega)]; unfold a_mo; rw [a_p_no (by omega)]; simp only [Bool.false_eq_true, if_false]; omega) | (rw [a_ef_s (by omega)]; unfold a_mo; rw [a_p_iff.mpr (by omega)]; simp only [if_true]; omega)) (by first | decide | (rw [a_ef_s (by omega)]; unfold a_op; omega) | (unfold a_op a_ef; omega) | (rw [a_ef_s (by omega)]; unfold a_op; rw [a_p_no (by omega)]; simp only [Bool.false_eq_true, if_false]; omega) | (rw [a_ef_s (by omega)]; unfold a_op; rw [a_p_iff.mpr (by omega)]; simp only [if_true]; omega)) (by unfold a_ef; omega) (by unfold a_ef; omega) (by unfold a_ck a_ef a_lo a_hi; omega) (fun h => by omega)
  rw [show d - 1 + 1 = d by omega] at e9
  exact ⟨trivial, ⟨e9, by have := c_S0 U0 e9 T0.1; omega⟩, trivial⟩
theorem k_s_13 {V : zVw} {n d H L W WP s v S : Int} (T0 : q_run2 (t_b V) n (d - 1) (13 : Int) (0 : Int) (0 : Int) H L W WP S) (T1 : q_tok (t_b V) n (d - 1) (59 : Int) s v) (C0 : 0 ≤ 400 - d) : (True) ∧ (q_run2 (t_b V) n d (0 : Int) (0 : Int) (0 : Int) H L W WP (S + 1) ∧ True) := by
  have U0 := T0.2
  have T0 := T0.1
  have e9 := c_step (kd := 59) (s := s) (x := v) (r := 0) (rq := 0) (st' := 0) (mo' := 0) (op' := 0) (H' := H) (L' := L) (W' := W) (WP' := WP) T0 T1.2.1.symm T1.2.2.1.symm (fun h => (T1.2.2.2 (Or.inr h)).symm) (by omega) (by first | (rw [a_cl_0]; omega) | (rw [a_cl_1 (by omega) (by omega)]; unfold a_one; omega) | (rw [a_cl_e0 (by omega)]; omega) | (rw [a_cl_e1 (by omega), if_pos (a_p_iff.mpr (by omega))]) | (rw [a_cl_e1 (by omega), if_neg (by rw [a_p_no (by omega)]; decide), if_pos (by omega)]; omega) | (rw [a_cl_e1 (by omega), if_neg (by rw [a_p_no (by omega)]; decide), if_neg (by omega)]; unfold a_x; omega) | (rw [a_cl_if (by omega) (by omega) (by omega)]; omega)) (fun h => by unfold a_ef at h; omega) (fun h => by unfold a_ef at h; omega) (by first | decide | (rw [a_ef_s (by omega)]; unfold a_st; omega) | (unfold a_st a_ef; omega) | (rw [a_ef_s (by omega)]; unfold a_st; rw [a_p_no (by omega)]; simp only [Bool.false_eq_true, if_false]; omega) | (rw [a_ef_s (by omega)]; unfold a_st; rw [a_p_iff.mpr (by omega)]; simp only [if_true]; omega)) (by first | decide | (rw [a_ef_s (by omega)]; unfold a_mo; omega) | (unfold a_mo a_ef; omega) | (rw [a_ef_s (by omega)]; unfold a_mo; rw [a_p_no (by omega)]; simp only [Bool.false_eq_true, if_false]; omega) | (rw [a_ef_s (by omega)]; unfold a_mo; rw [a_p_iff.mpr (by omega)]; simp only [if_true]; omega)) (by first | decide | (rw [a_ef_s (by omega)]; unfold a_op; omega) | (unfold a_op a_ef; omega) | (rw [a_ef_s (by omega)]; unfold a_op; rw [a_p_no (by omega)]; simp only [Bool.false_eq_true, if_false]; omega) | (rw [a_ef_s (by omega)]; unfold a_op; rw [a_p_iff.mpr (by omega)]; simp only [if_true]; omega)) (by unfold a_ef; omega) (by unfold a_ef; omega) (by unfold a_ck a_ef a_lo a_hi; omega) (fun h => by omega)
  rw [show d - 1 + 1 = d by omega] at e9
  exact ⟨trivial, ⟨e9, by have := c_S0 U0 e9 T0.1; omega⟩, trivial⟩
theorem k_s_20 {V : zVw} {n d H L W WP s v S : Int} (T0 : q_run2 (t_b V) n (d - 1) (20 : Int) (0 : Int) (0 : Int) H L W WP S) (T1 : q_tok (t_b V) n (d - 1) (61 : Int) s v) (C0 : 0 ≤ 400 - d) : (True) ∧ (q_run2 (t_b V) n d (30 : Int) (0 : Int) (0 : Int) H L W WP S ∧ True) := by
  have U0 := T0.2
  have T0 := T0.1
  have e9 := c_step (kd := 61) (s := s) (x := v) (r := 0) (rq := 0) (st' := 30) (mo' := 0) (op' := 0) (H' := H) (L' := L) (W' := W) (WP' := WP) T0 T1.2.1.symm T1.2.2.1.symm (fun h => (T1.2.2.2 (Or.inr h)).symm) (by omega) (by first | (rw [a_cl_0]; omega) | (rw [a_cl_1 (by omega) (by omega)]; unfold a_one; omega) | (rw [a_cl_e0 (by omega)]; omega) | (rw [a_cl_e1 (by omega), if_pos (a_p_iff.mpr (by omega))]) | (rw [a_cl_e1 (by omega), if_neg (by rw [a_p_no (by omega)]; decide), if_pos (by omega)]; omega) | (rw [a_cl_e1 (by omega), if_neg (by rw [a_p_no (by omega)]; decide), if_neg (by omega)]; unfold a_x; omega) | (rw [a_cl_if (by omega) (by omega) (by omega)]; omega)) (fun h => by unfold a_ef at h; omega) (fun h => by unfold a_ef at h; omega) (by first | decide | (rw [a_ef_s (by omega)]; unfold a_st; omega) | (unfold a_st a_ef; omega) | (rw [a_ef_s (by omega)]; unfold a_st; rw [a_p_no (by omega)]; simp only [Bool.false_eq_true, if_false]; omega) | (rw [a_ef_s (by omega)]; unfold a_st; rw [a_p_iff.mpr (by omega)]; simp only [if_true]; omega)) (by first | decide | (rw [a_ef_s (by omega)]; unfold a_mo; omega) | (unfold a_mo a_ef; omega) | (rw [a_ef_s (by omega)]; unfold a_mo; rw [a_p_no (by omega)]; simp only [Bool.false_eq_true, if_false]; omega) | (rw [a_ef_s (by omega)]; unfold a_mo; rw [a_p_iff.mpr (by omega)]; simp only [if_true]; omega)) (by first | decide | (rw [a_ef_s (by omega)]; unfold a_op; omega) | (unfold a_op a_ef; omega) | (rw [a_ef_s (by omega)]; unfold a_op; rw [a_p_no (by omega)]; simp only [Bool.false_eq_true, if_false]; omega) | (rw [a_ef_s (by omega)]; unfold a_op; rw [a_p_iff.mpr (by omega)]; simp only [if_true]; omega)) (by unfold a_ef; omega) (by unfold a_ef; omega) (by unfold a_ck a_ef a_lo a_hi; omega) (fun h => by omega)
  rw [show d - 1 + 1 = d by omega] at e9
  exact ⟨trivial, ⟨e9, by exact c_S1 U0 e9 (by omega) T0.1⟩, trivial⟩
theorem k_i2_in {V : zVw} {n d H L W WP s v S : Int} (T0 : q_run2 (t_b V) n (d - 1) (2 : Int) (0 : Int) (0 : Int) H L W WP S) (T1 : q_tok (t_b V) n (d - 1) (3 : Int) s v) (C0 : 0 ≤ 400 - d) (C1 : 0 ≤ v) (C2 : 0 ≤ 20 - v) : (True) ∧ (q_run2 (t_b V) n d (3 : Int) (0 : Int) (0 : Int) H L W WP S ∧ True) := by
  have U0 := T0.2
  have T0 := T0.1
  have e9 := c_step (kd := 3) (s := s) (x := v) (r := 0) (rq := 0) (st' := 3) (mo' := 0) (op' := 0) (H' := H) (L' := L) (W' := W) (WP' := WP) T0 T1.2.1.symm T1.2.2.1.symm (fun h => (T1.2.2.2 (Or.inr h)).symm) (by omega) (by first | (rw [a_cl_0]; omega) | (rw [a_cl_1 (by omega) (by omega)]; unfold a_one; omega) | (rw [a_cl_e0 (by omega)]; omega) | (rw [a_cl_e1 (by omega), if_pos (a_p_iff.mpr (by omega))]) | (rw [a_cl_e1 (by omega), if_neg (by rw [a_p_no (by omega)]; decide), if_pos (by omega)]; omega) | (rw [a_cl_e1 (by omega), if_neg (by rw [a_p_no (by omega)]; decide), if_neg (by omega)]; unfold a_x; omega) | (rw [a_cl_if (by omega) (by omega) (by omega)]; omega)) (fun h => by unfold a_ef at h; omega) (fun h => by unfold a_ef at h; omega) (by first | decide | (rw [a_ef_s (by omega)]; unfold a_st; omega) | (unfold a_st a_ef; omega) | (rw [a_ef_s (by omega)]; unfold a_st; rw [a_p_no (by omega)]; simp only [Bool.false_eq_true, if_false]; omega) | (rw [a_ef_s (by omega)]; unfold a_st; rw [a_p_iff.mpr (by omega)]; simp only [if_true]; omega)) (by first | decide | (rw [a_ef_s (by omega)]; unfold a_mo; omega) | (unfold a_mo a_ef; omega) | (rw [a_ef_s (by omega)]; unfold a_mo; rw [a_p_no (by omega)]; simp only [Bool.false_eq_true, if_false]; omega) | (rw [a_ef_s (by omega)]; unfold a_mo; rw [a_p_iff.mpr (by omega)]; simp only [if_true]; omega)) (by first | decide | (rw [a_ef_s (by omega)]; unfold a_op; omega) | (unfold a_op a_ef; omega) | (rw [a_ef_s (by omega)]; unfold a_op; rw [a_p_no (by omega)]; simp only [Bool.false_eq_true, if_false]; omega) | (rw [a_ef_s (by omega)]; unfold a_op; rw [a_p_iff.mpr (by omega)]; simp only [if_true]; omega)) (by unfold a_ef; omega) (by unfold a_ef; omega) (by unfold a_ck a_ef a_lo a_hi; omega) (fun h => by omega)
  rw [show d - 1 + 1 = d by omega] at e9
  exact ⟨trivial, ⟨e9, by exact c_S1 U0 e9 (by omega) T0.1⟩, trivial⟩
theorem k_i2_w {V : zVw} {n d H L W WP s v S : Int} (T0 : q_run2 (t_b V) n (d - 1) (2 : Int) (0 : Int) (0 : Int) H L W WP S) (T1 : q_tok (t_b V) n (d - 1) (3 : Int) s v) (C0 : 0 ≤ 400 - d) (C1 : 0 ≤ W - 1) : (True) ∧ (q_run2 (t_b V) n d (3 : Int) (0 : Int) (0 : Int) H L W WP S ∧ True) := by
  have U0 := T0.2
  have T0 := T0.1
  have e9 := c_step (kd := 3) (s := s) (x := v) (r := 0) (rq := 0) (st' := 3) (mo' := 0) (op' := 0) (H' := H) (L' := L) (W' := W) (WP' := WP) T0 T1.2.1.symm T1.2.2.1.symm (fun h => (T1.2.2.2 (Or.inr h)).symm) (by omega) (by first | (rw [a_cl_0]; omega) | (rw [a_cl_1 (by omega) (by omega)]; unfold a_one; omega) | (rw [a_cl_e0 (by omega)]; omega) | (rw [a_cl_e1 (by omega), if_pos (a_p_iff.mpr (by omega))]) | (rw [a_cl_e1 (by omega), if_neg (by rw [a_p_no (by omega)]; decide), if_pos (by omega)]; omega) | (rw [a_cl_e1 (by omega), if_neg (by rw [a_p_no (by omega)]; decide), if_neg (by omega)]; unfold a_x; omega) | (rw [a_cl_if (by omega) (by omega) (by omega)]; omega)) (fun h => by unfold a_ef at h; omega) (fun h => by unfold a_ef at h; omega) (by first | decide | (rw [a_ef_s (by omega)]; unfold a_st; omega) | (unfold a_st a_ef; omega) | (rw [a_ef_s (by omega)]; unfold a_st; rw [a_p_no (by omega)]; simp only [Bool.false_eq_true, if_false]; omega) | (rw [a_ef_s (by omega)]; unfold a_st; rw [a_p_iff.mpr (by omega)]; simp only [if_true]; omega)) (by first | decide | (rw [a_ef_s (by omega)]; unfold a_mo; omega) | (unfold a_mo a_ef; omega) | (rw [a_ef_s (by omega)]; unfold a_mo; rw [a_p_no (by omega)]; simp only [Bool.false_eq_true, if_false]; omega) | (rw [a_ef_s (by omega)]; unfold a_mo; rw [a_p_iff.mpr (by omega)]; simp only [if_true]; omega)) (by first | decide | (rw [a_ef_s (by omega)]; unfold a_op; omega) | (unfold a_op a_ef; omega) | (rw [a_ef_s (by omega)]; unfold a_op; rw [a_p_no (by omega)]; simp only [Bool.false_eq_true, if_false]; omega) | (rw [a_ef_s (by omega)]; unfold a_op; rw [a_p_iff.mpr (by omega)]; simp only [if_true]; omega)) (by unfold a_ef; omega) (by unfold a_ef; omega) (by unfold a_ck a_ef a_lo a_hi; omega) (fun h => by omega)
  rw [show d - 1 + 1 = d by omega] at e9
  exact ⟨trivial, ⟨e9, by exact c_S1 U0 e9 (by omega) T0.1⟩, trivial⟩
