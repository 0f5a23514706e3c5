/-! ===== the lemmas in plain numbers, by program ===== -/
theorem k_cli_0 {V : zVw} (T0 : ∀ (i_ : Nat) (x_ : Int × Int), ([(0, 1), (7, 0), (1, 2), (0, 10), (4, 0), (7, 0), (1, 0), (7, 0)] : List (Int × Int))[i_]? = some x_ → (i_ : Int) < (0 : Int) → V 102 i_ = x_.1 ∧ V 103 i_ = x_.2) (F0 : (0 : Int) ≤ 0 ∧ (0 : Int) < j_len 102 ∧ V 102 (0) = 0) (F1 : (0 : Int) ≤ 0 ∧ (0 : Int) < j_len 103 ∧ V 103 (0) = 1) : (True) ∧ ((∀ (i_ : Nat) (x_ : Int × Int), ([(0, 1), (7, 0), (1, 2), (0, 10), (4, 0), (7, 0), (1, 0), (7, 0)] : List (Int × Int))[i_]? = some x_ → (i_ : Int) < (1 : Int) → V 102 i_ = x_.1 ∧ V 103 i_ = x_.2) ∧ True) := by
  refine ⟨trivial, fun i9 x9 h9 g9 => ?_, trivial⟩
  by_cases c9 : (i9 : Int) < 0
  · exact T0 i9 x9 h9 c9
  · have e9 : i9 = 0 := by omega
    subst e9
    have h8 : some ((0 : Int), (1 : Int)) = some x9 := h9
    cases h8
    exact ⟨F0.2.2, F1.2.2⟩
theorem k_cli_1 {V : zVw} (T0 : ∀ (i_ : Nat) (x_ : Int × Int), ([(0, 1), (7, 0), (1, 2), (0, 10), (4, 0), (7, 0), (1, 0), (7, 0)] : List (Int × Int))[i_]? = some x_ → (i_ : Int) < (1 : Int) → V 102 i_ = x_.1 ∧ V 103 i_ = x_.2) (F0 : (0 : Int) ≤ 1 ∧ (1 : Int) < j_len 102 ∧ V 102 (1) = 7) (F1 : (0 : Int) ≤ 1 ∧ (1 : Int) < j_len 103 ∧ V 103 (1) = 0) : (True) ∧ ((∀ (i_ : Nat) (x_ : Int × Int), ([(0, 1), (7, 0), (1, 2), (0, 10), (4, 0), (7, 0), (1, 0), (7, 0)] : List (Int × Int))[i_]? = some x_ → (i_ : Int) < (2 : Int) → V 102 i_ = x_.1 ∧ V 103 i_ = x_.2) ∧ True) := by
  refine ⟨trivial, fun i9 x9 h9 g9 => ?_, trivial⟩
  by_cases c9 : (i9 : Int) < 1
  · exact T0 i9 x9 h9 c9
  · have e9 : i9 = 1 := by omega
    subst e9
    have h8 : some ((7 : Int), (0 : Int)) = some x9 := h9
    cases h8
    exact ⟨F0.2.2, F1.2.2⟩
theorem k_cli_2 {V : zVw} (T0 : ∀ (i_ : Nat) (x_ : Int × Int), ([(0, 1), (7, 0), (1, 2), (0, 10), (4, 0), (7, 0), (1, 0), (7, 0)] : List (Int × Int))[i_]? = some x_ → (i_ : Int) < (2 : Int) → V 102 i_ = x_.1 ∧ V 103 i_ = x_.2) (F0 : (0 : Int) ≤ 2 ∧ (2 : Int) < j_len 102 ∧ V 102 (2) = 1) (F1 : (0 : Int) ≤ 2 ∧ (2 : Int) < j_len 103 ∧ V 103 (2) = 2) : (True) ∧ ((∀ (i_ : Nat) (x_ : Int × Int), ([(0, 1), (7, 0), (1, 2), (0, 10), (4, 0), (7, 0), (1, 0), (7, 0)] : List (Int × Int))[i_]? = some x_ → (i_ : Int) < (3 : Int) → V 102 i_ = x_.1 ∧ V 103 i_ = x_.2) ∧ True) := by
  refine ⟨trivial, fun i9 x9 h9 g9 => ?_, trivial⟩
  by_cases c9 : (i9 : Int) < 2
  · exact T0 i9 x9 h9 c9
  · have e9 : i9 = 2 := by omega
    subst e9
    have h8 : some ((1 : Int), (2 : Int)) = some x9 := h9
    cases h8
    exact ⟨F0.2.2, F1.2.2⟩
theorem k_cli_3 {V : zVw} (T0 : ∀ (i_ : Nat) (x_ : Int × Int), ([(0, 1), (7, 0), (1, 2), (0, 10), (4, 0), (7, 0), (1, 0), (7, 0)] : List (Int × Int))[i_]? = some x_ → (i_ : Int) < (3 : Int) → V 102 i_ = x_.1 ∧ V 103 i_ = x_.2) (F0 : (0 : Int) ≤ 3 ∧ (3 : Int) < j_len 102 ∧ V 102 (3) = 0) (F1 : (0 : Int) ≤ 3 ∧ (3 : Int) < j_len 103 ∧ V 103 (3) = 10) : (True) ∧ ((∀ (i_ : Nat) (x_ : Int × Int), ([(0, 1), (7, 0), (1, 2), (0, 10), (4, 0), (7, 0), (1, 0), (7, 0)] : List (Int × Int))[i_]? = some x_ → (i_ : Int) < (4 : Int) → V 102 i_ = x_.1 ∧ V 103 i_ = x_.2) ∧ True) := by
  refine ⟨trivial, fun i9 x9 h9 g9 => ?_, trivial⟩
  by_cases c9 : (i9 : Int) < 3
  · exact T0 i9 x9 h9 c9
  · have e9 : i9 = 3 := by omega
    subst e9
    have h8 : some ((0 : Int), (10 : Int)) = some x9 := h9
    cases h8
    exact ⟨F0.2.2, F1.2.2⟩
theorem k_cli_4 {V : zVw} (T0 : ∀ (i_ : Nat) (x_ : Int × Int), ([(0, 1), (7, 0), (1, 2), (0, 10), (4, 0), (7, 0), (1, 0), (7, 0)] : List (Int × Int))[i_]? = some x_ → (i_ : Int) < (4 : Int) → V 102 i_ = x_.1 ∧ V 103 i_ = x_.2) (F0 : (0 : Int) ≤ 4 ∧ (4 : Int) < j_len 102 ∧ V 102 (4) = 4) (F1 : (0 : Int) ≤ 4 ∧ (4 : Int) < j_len 103 ∧ V 103 (4) = 0) : (True) ∧ ((∀ (i_ : Nat) (x_ : Int × Int), ([(0, 1), (7, 0), (1, 2), (0, 10), (4, 0), (7, 0), (1, 0), (7, 0)] : List (Int × Int))[i_]? = some x_ → (i_ : Int) < (5 : Int) → V 102 i_ = x_.1 ∧ V 103 i_ = x_.2) ∧ True) := by
  refine ⟨trivial, fun i9 x9 h9 g9 => ?_, trivial⟩
  by_cases c9 : (i9 : Int) < 4
  · exact T0 i9 x9 h9 c9
  · have e9 : i9 = 4 := by omega
    subst e9
    have h8 : some ((4 : Int), (0 : Int)) = some x9 := h9
    cases h8
    exact ⟨F0.2.2, F1.2.2⟩
theorem k_cli_5 {V : zVw} (T0 : ∀ (i_ : Nat) (x_ : Int × Int), ([(0, 1), (7, 0), (1, 2), (0, 10), (4, 0), (7, 0), (1, 0), (7, 0)] : List (Int × Int))[i_]? = some x_ → (i_ : Int) < (5 : Int) → V 102 i_ = x_.1 ∧ V 103 i_ = x_.2) (F0 : (0 : Int) ≤ 5 ∧ (5 : Int) < j_len 102 ∧ V 102 (5) = 7) (F1 : (0 : Int) ≤ 5 ∧ (5 : Int) < j_len 103 ∧ V 103 (5) = 0) : (True) ∧ ((∀ (i_ : Nat) (x_ : Int × Int), ([(0, 1), (7, 0), (1, 2), (0, 10), (4, 0), (7, 0), (1, 0), (7, 0)] : List (Int × Int))[i_]? = some x_ → (i_ : Int) < (6 : Int) → V 102 i_ = x_.1 ∧ V 103 i_ = x_.2) ∧ True) := by
  refine ⟨trivial, fun i9 x9 h9 g9 => ?_, trivial⟩
  by_cases c9 : (i9 : Int) < 5
  · exact T0 i9 x9 h9 c9
  · have e9 : i9 = 5 := by omega
    subst e9
    have h8 : some ((7 : Int), (0 : Int)) = some x9 := h9
    cases h8
    exact ⟨F0.2.2, F1.2.2⟩
theorem k_cli_6 {V : zVw} (T0 : ∀ (i_ : Nat) (x_ : Int × Int), ([(0, 1), (7, 0), (1, 2), (0, 10), (4, 0), (7, 0), (1, 0), (7, 0)] : List (Int × Int))[i_]? = some x_ → (i_ : Int) < (6 : Int) → V 102 i_ = x_.1 ∧ V 103 i_ = x_.2) (F0 : (0 : Int) ≤ 6 ∧ (6 : Int) < j_len 102 ∧ V 102 (6) = 1) (F1 : (0 : Int) ≤ 6 ∧ (6 : Int) < j_len 103 ∧ V 103 (6) = 0) : (True) ∧ ((∀ (i_ : Nat) (x_ : Int × Int), ([(0, 1), (7, 0), (1, 2), (0, 10), (4, 0), (7, 0), (1, 0), (7, 0)] : List (Int × Int))[i_]? = some x_ → (i_ : Int) < (7 : Int) → V 102 i_ = x_.1 ∧ V 103 i_ = x_.2) ∧ True) := by
  refine ⟨trivial, fun i9 x9 h9 g9 => ?_, trivial⟩
  by_cases c9 : (i9 : Int) < 6
  · exact T0 i9 x9 h9 c9
  · have e9 : i9 = 6 := by omega
    subst e9
    have h8 : some ((1 : Int), (0 : Int)) = some x9 := h9
    cases h8
    exact ⟨F0.2.2, F1.2.2⟩
theorem k_cli_7 {V : zVw} (T0 : ∀ (i_ : Nat) (x_ : Int × Int), ([(0, 1), (7, 0), (1, 2), (0, 10), (4, 0), (7, 0), (1, 0), (7, 0)] : List (Int × Int))[i_]? = some x_ → (i_ : Int) < (7 : Int) → V 102 i_ = x_.1 ∧ V 103 i_ = x_.2) (F0 : (0 : Int) ≤ 7 ∧ (7 : Int) < j_len 102 ∧ V 102 (7) = 7) (F1 : (0 : Int) ≤ 7 ∧ (7 : Int) < j_len 103 ∧ V 103 (7) = 0) : (True) ∧ ((∀ (i_ : Nat) (x_ : Int × Int), ([(0, 1), (7, 0), (1, 2), (0, 10), (4, 0), (7, 0), (1, 0), (7, 0)] : List (Int × Int))[i_]? = some x_ → (i_ : Int) < (8 : Int) → V 102 i_ = x_.1 ∧ V 103 i_ = x_.2) ∧ True) := by
  refine ⟨trivial, fun i9 x9 h9 g9 => ?_, trivial⟩
  by_cases c9 : (i9 : Int) < 7
  · exact T0 i9 x9 h9 c9
  · have e9 : i9 = 7 := by omega
    subst e9
    have h8 : some ((7 : Int), (0 : Int)) = some x9 := h9
    cases h8
    exact ⟨F0.2.2, F1.2.2⟩
theorem k_cls_0 {V : zVw} (T0 : ∀ j_ : Int, 0 ≤ j_ → j_ < (0 : Int) → V 104 j_ = if j_ = 2 then 2 else if j_ = 3 then 6 else 0) (F0 : (0 : Int) ≤ 0 ∧ (0 : Int) < j_len 104 ∧ V 104 (0) = 0) : (True) ∧ ((∀ j_ : Int, 0 ≤ j_ → j_ < (1 : Int) → V 104 j_ = if j_ = 2 then 2 else if j_ = 3 then 6 else 0) ∧ True) := by
  refine ⟨trivial, fun j9 h9 g9 => ?_, trivial⟩
  by_cases c9 : j9 < 0
  · exact T0 j9 h9 c9
  · have e9 : j9 = 0 := by omega
    subst e9
    exact F0.2.2.trans (by decide)
theorem k_cls_1 {V : zVw} (T0 : ∀ j_ : Int, 0 ≤ j_ → j_ < (1 : Int) → V 104 j_ = if j_ = 2 then 2 else if j_ = 3 then 6 else 0) (F0 : (0 : Int) ≤ 1 ∧ (1 : Int) < j_len 104 ∧ V 104 (1) = 0) : (True) ∧ ((∀ j_ : Int, 0 ≤ j_ → j_ < (2 : Int) → V 104 j_ = if j_ = 2 then 2 else if j_ = 3 then 6 else 0) ∧ True) := by
  refine ⟨trivial, fun j9 h9 g9 => ?_, trivial⟩
  by_cases c9 : j9 < 1
  · exact T0 j9 h9 c9
  · have e9 : j9 = 1 := by omega
    subst e9
    exact F0.2.2.trans (by decide)
theorem k_cls_2 {V : zVw} (T0 : ∀ j_ : Int, 0 ≤ j_ → j_ < (2 : Int) → V 104 j_ = if j_ = 2 then 2 else if j_ = 3 then 6 else 0) (F0 : (0 : Int) ≤ 2 ∧ (2 : Int) < j_len 104 ∧ V 104 (2) = 2) : (True) ∧ ((∀ j_ : Int, 0 ≤ j_ → j_ < (3 : Int) → V 104 j_ = if j_ = 2 then 2 else if j_ = 3 then 6 else 0) ∧ True) := by
  refine ⟨trivial, fun j9 h9 g9 => ?_, trivial⟩
  by_cases c9 : j9 < 2
  · exact T0 j9 h9 c9
  · have e9 : j9 = 2 := by omega
    subst e9
    exact F0.2.2.trans (by decide)
theorem k_cls_3 {V : zVw} (T0 : ∀ j_ : Int, 0 ≤ j_ → j_ < (3 : Int) → V 104 j_ = if j_ = 2 then 2 else if j_ = 3 then 6 else 0) (F0 : (0 : Int) ≤ 3 ∧ (3 : Int) < j_len 104 ∧ V 104 (3) = 6) : (True) ∧ ((∀ j_ : Int, 0 ≤ j_ → j_ < (4 : Int) → V 104 j_ = if j_ = 2 then 2 else if j_ = 3 then 6 else 0) ∧ True) := by
  refine ⟨trivial, fun j9 h9 g9 => ?_, trivial⟩
  by_cases c9 : j9 < 3
  · exact T0 j9 h9 c9
  · have e9 : j9 = 3 := by omega
    subst e9
    exact F0.2.2.trans (by decide)
theorem k_kdi {V : zVw} {n c s v : Int} (T0 : q_tok (t_b V) n c (3 : Int) s v) : (0 ≤ v ∧ 0 ≤ 9999 - v ∧ True) ∧ (True) := by
  have h9 := tx_3 (b := t_b V) (n := n) (k := c.toNat) T0.2.1.symm
  have h8 := T0.2.2.2 (Or.inr rfl)
  exact ⟨⟨by omega, by omega, trivial⟩, trivial⟩
theorem k_cylen {V : zVw} {n c l v : Int} (T0 : q_cy (t_b V) (V 102) (V 103) (V 104) n c l v) : (0 ≤ c - l + 9 ∧ 0 ≤ l ∧ True) ∧ (True) := by
  have h9 := c_cylen T0
  exact ⟨⟨by omega, by omega, trivial⟩, trivial⟩
theorem k_cylaw {V : zVw} {n d l kd s v H L W P S : Int} (T0 : q_cy (t_b V) (V 102) (V 103) (V 104) n (d - 1) l (0 : Int)) (T1 : q_run2 (t_b V) n (d - 1) (0 : Int) (0 : Int) (0 : Int) H L W P S) (T2 : q_tok (t_b V) n (d - 1) kd s v) (C0 : 0 ≤ 400 - d) (C1 : 0 ≤ kd - 260) (C2 : 0 ≤ 263 - kd) : (True) ∧ (q_cy (t_b V) (V 102) (V 103) (V 104) n d l (0 : Int) ∧ True) := by
  have U1 := T1.2
  have T1 := T1.1
  have h9 := c_cyl T0 T1 T2.2.1.symm (by omega) (by omega)
  exact ⟨trivial, h9, trivial⟩
theorem k_cyeq {V : zVw} {n d l k s v s2 v2 H2 L2 W2 P2 H L W P S S2 : Int} (T0 : q_cy (t_b V) (V 102) (V 103) (V 104) n (d - 1) l (0 : Int)) (T1 : q_run2 (t_b V) n (d - 1) (20 : Int) (0 : Int) (0 : Int) H L W P S) (T2 : q_tok (t_b V) n (d - 1) (61 : Int) s v) (T3 : q_run2 (t_b V) n (d - 2) (0 : Int) (0 : Int) (0 : Int) H2 L2 W2 P2 S2) (T4 : q_tok (t_b V) n (d - 2) (k + 260) s2 v2) (C0 : 0 ≤ 400 - d) (C1 : 0 ≤ k) (C2 : 0 ≤ 3 - k) : (True) ∧ (q_cy (t_b V) (V 102) (V 103) (V 104) n d l (0 : Int) ∧ (p_A (p_w (t_b V) n d) = []) ∧ q_beg (t_b V) n d l k ∧ True) := by
  have U1 := T1.2
  have T1 := T1.1
  have U3 := T3.2
  have T3 := T3.1
  have h9 := c_cyeq T0 T1 T2.2.1.symm T3 T4.2.1.symm (by omega) (by omega)
  exact ⟨trivial, h9.1, h9.2.1, h9.2.2, trivial⟩
theorem k_cyif {V : zVw} {n d l st s v H L W P S : Int} (T0 : q_cy (t_b V) (V 102) (V 103) (V 104) n (d - 1) l (0 : Int)) (T1 : q_run2 (t_b V) n (d - 1) st (0 : Int) (0 : Int) H L W P S) (T2 : q_tok (t_b V) n (d - 1) (266 : Int) s v) (C0 : 0 ≤ 400 - d) (C1 : 0 ≤ st - 30) (C2 : 0 ≤ 33 - st) : (True) ∧ (q_cy (t_b V) (V 102) (V 103) (V 104) n d l (0 : Int) ∧ (p_A (p_w (t_b V) n d) = []) ∧ True) := by
  have U1 := T1.2
  have T1 := T1.1
  have h9 := c_cyif T0 T1 T2.2.1.symm (by omega) (by omega) (by omega)
  exact ⟨trivial, h9.1, h9.2, trivial⟩
theorem k_cylt {V : zVw} {n d l st s v H L W P S : Int} (T0 : q_cy (t_b V) (V 102) (V 103) (V 104) n (d - 1) l (2 : Int)) (T1 : q_run2 (t_b V) n (d - 1) st (1 : Int) (0 : Int) H L W P S) (T2 : q_tok (t_b V) n (d - 1) (60 : Int) s v) (C0 : 0 ≤ 400 - d) (C1 : 0 ≤ st - 200) (C2 : 0 ≤ 204 - st) : (True) ∧ (q_cy (t_b V) (V 102) (V 103) (V 104) n d l (0 : Int) ∧ (p_A (p_w (t_b V) n d) = []) ∧ True) := by
  have U1 := T1.2
  have T1 := T1.1
  have h9 := c_cylt T0 T1 T2.2.1.symm (by omega) (by omega) (by omega)
  exact ⟨trivial, h9.1, h9.2, trivial⟩
theorem k_cyth {V : zVw} {n d l st s v H L W P S : Int} (T0 : q_cy (t_b V) (V 102) (V 103) (V 104) n (d - 1) l (3 : Int)) (T1 : q_run2 (t_b V) n (d - 1) st (1 : Int) (0 : Int) H L W P S) (T2 : q_tok (t_b V) n (d - 1) (267 : Int) s v) (C0 : 0 ≤ 400 - d) (C1 : 0 ≤ st - 300) (C2 : 0 ≤ 304 - st) : (True) ∧ (q_cy (t_b V) (V 102) (V 103) (V 104) n d l (0 : Int) ∧ (p_A (p_w (t_b V) n d) = []) ∧ q_jmp (t_b V) n d (l - 1) ∧ True) := by
  have U1 := T1.2
  have T1 := T1.1
  have h9 := c_cyth T0 T1 T2.2.1.symm (by omega) (by omega) (by omega)
  exact ⟨trivial, h9.1, h9.2.1, h9.2.2, trivial⟩
theorem k_cyul {V : zVw} {n c l st H L W P S : Int} (T0 : q_cy (t_b V) (V 102) (V 103) (V 104) n c (l - 1) (2 : Int)) (T1 : q_run2 (t_b V) n c st (1 : Int) (0 : Int) H L W P S) (C0 : 0 ≤ st - 300) (C1 : 0 ≤ 304 - st) (F0 : (0 : Int) ≤ l - 1 ∧ (l - 1 : Int) < j_len 102 ∧ V 102 (l - 1) = 6) (F1 : (0 : Int) ≤ l - 1 ∧ (l - 1 : Int) < j_len 103 ∧ V 103 (l - 1) = 0) : (True) ∧ (q_cy (t_b V) (V 102) (V 103) (V 104) n c l (3 : Int) ∧ True) := by
  have U1 := T1.2
  have T1 := T1.1
  exact ⟨trivial, c_cye (a := 6) (z := 0) T0 (by decide) rfl F0.2.2 F1.2.2, trivial⟩
theorem k_cyan {V : zVw} {n c l st H L W P S : Int} (T0 : q_cy (t_b V) (V 102) (V 103) (V 104) n c (l - 1) (2 : Int)) (T1 : q_run2 (t_b V) n c st (1 : Int) (0 : Int) H L W P S) (C0 : 0 ≤ st - 400) (C1 : 0 ≤ 504 - st) (F0 : (0 : Int) ≤ l - 1 ∧ (l - 1 : Int) < j_len 102 ∧ V 102 (l - 1) = 7) (F1 : (0 : Int) ≤ l - 1 ∧ (l - 1 : Int) < j_len 103 ∧ V 103 (l - 1) = 0) : (True) ∧ (q_cy (t_b V) (V 102) (V 103) (V 104) n c l (4 : Int) ∧ True) := by
  have U1 := T1.2
  have T1 := T1.1
  exact ⟨trivial, c_cye (a := 7) (z := 0) T0 (by decide) rfl F0.2.2 F1.2.2, trivial⟩
theorem k_cyel {V : zVw} {n d e l j st s v H2 L2 W2 P2 S2 H L W P S : Int} (T0 : q_cy (t_b V) (V 102) (V 103) (V 104) n (d - 1) l (4 : Int)) (T1 : q_run2 (t_b V) n (d - 1) st (1 : Int) (0 : Int) H L W P S) (T2 : q_tok (t_b V) n (d - 1) (268 : Int) s v) (T3 : q_jmp (t_b V) n e j) (T4 : q_run2 (t_b V) n e st (0 : Int) (0 : Int) H2 L2 W2 P2 S2) (C0 : 0 ≤ 400 - d) (C1 : 0 ≤ st - 400) (C2 : 0 ≤ 404 - st) (C3 : 0 ≤ S - S2) (C4 : 0 ≤ S2 - S) : (True) ∧ (q_cyj (t_b V) (V 102) (V 103) (V 104) n d l j ∧ (p_A (p_w (t_b V) n d) = []) ∧ True) := by
  have U1 := T1.2
  have T1 := T1.1
  have U4 := T4.2
  have T4 := T4.1
  have h9 := c_cyel T0 T1 U1 T2.2.1.symm T3 T4 U4 (by omega) (by omega) (by omega) (by omega)
  exact ⟨trivial, h9.1, h9.2, trivial⟩
theorem k_cyj {V : zVw} {n d l j : Int} (T0 : q_cyj (t_b V) (V 102) (V 103) (V 104) n d l j) (F0 : (0 : Int) ≤ j ∧ (j : Int) < j_len 103 ∧ V 103 (j) = l) : (True) ∧ (q_cy (t_b V) (V 102) (V 103) (V 104) n d l (0 : Int) ∧ True) := by
  exact ⟨trivial, c_cyj T0 F0.2.2, trivial⟩
theorem k_cyse {V : zVw} {n d e l b k st st2 s v H2 L2 W2 P2 S2 H L W P S : Int} (T0 : q_cy (t_b V) (V 102) (V 103) (V 104) n (d - 1) l (4 : Int)) (T1 : q_run2 (t_b V) n (d - 1) st (1 : Int) (0 : Int) H L W P S) (T2 : q_tok (t_b V) n (d - 1) (59 : Int) s v) (T3 : q_beg (t_b V) n e b k) (T4 : q_run2 (t_b V) n e st2 (0 : Int) (0 : Int) H2 L2 W2 P2 S2) (C0 : 0 ≤ 400 - d) (C1 : 0 ≤ st - 500) (C2 : 0 ≤ 504 - st) (C3 : 0 ≤ st2 - 30) (C4 : 0 ≤ 34 - st2) (C5 : 0 ≤ S - S2) (C6 : 0 ≤ S2 - S) : (True) ∧ (q_cyb (t_b V) (V 102) (V 103) (V 104) n d l k b ∧ True) := by
  have U1 := T1.2
  have T1 := T1.1
  have U4 := T4.2
  have T4 := T4.1
  have h9 := c_cyse T0 T1 U1 T2.2.1.symm T3 T4 U4 (by omega) (by omega) (by omega) (by omega) (by omega) (by omega)
  exact ⟨trivial, h9, trivial⟩
theorem k_cyb {V : zVw} {n d l k b : Int} (T0 : q_cyb (t_b V) (V 102) (V 103) (V 104) n d l k b) (F0 : (0 : Int) ≤ k ∧ (k : Int) < j_len 104 ∧ V 104 (k) = b) : (True) ∧ (q_cy (t_b V) (V 102) (V 103) (V 104) n d l (0 : Int) ∧ True) := by
  exact ⟨trivial, c_cyb T0 F0.2.2, trivial⟩
theorem k_cy0 {V : zVw} {n H L W P S : Int} (T0 : ∀ (i_ : Nat) (x_ : Int × Int), ([(0, 1), (7, 0), (1, 2), (0, 10), (4, 0), (7, 0), (1, 0), (7, 0)] : List (Int × Int))[i_]? = some x_ → (i_ : Int) < (8 : Int) → V 102 i_ = x_.1 ∧ V 103 i_ = x_.2) (T1 : ∀ j_ : Int, 0 ≤ j_ → j_ < (4 : Int) → V 104 j_ = if j_ = 2 then 2 else if j_ = 3 then 6 else 0) (T2 : q_run2 (t_b V) n (0 : Int) (0 : Int) (0 : Int) (0 : Int) H L W P S) : (True) ∧ (q_cy (t_b V) (V 102) (V 103) (V 104) n (0 : Int) (8 : Int) (0 : Int) ∧ True) := by
  have U2 := T2.2
  have T2 := T2.1
  exact ⟨trivial, c_cy0 T0 T1, trivial⟩
theorem k_cyMa {V : zVw} {n c d l kd s v H2 L2 W2 P2 S2 H L W P S : Int} (T0 : q_cy (t_b V) (V 102) (V 103) (V 104) n c l (0 : Int)) (T1 : q_run2 (t_b V) n c (0 : Int) (0 : Int) (0 : Int) H L W P S) (T2 : q_run2 (t_b V) n d (0 : Int) (0 : Int) (0 : Int) H2 L2 W2 P2 S2) (T3 : q_tok (t_b V) n c kd s v) (C0 : 0 ≤ d - c) (C1 : 0 ≤ S - S2 + 1) (C2 : 0 ≤ S2 - S - 1) (C3 : 0 ≤ 259 - kd) : (True) ∧ (q_cy (t_b V) (V 102) (V 103) (V 104) n d l (0 : Int) ∧ True) := by
  have U1 := T1.2
  have T1 := T1.1
  have U2 := T2.2
  have T2 := T2.1
  have h9 := c_cyM T0 T1 U1 T2 U2 T3.2.1.symm (by omega) (by omega) (by omega)
  exact ⟨trivial, h9, trivial⟩
theorem k_cyMb {V : zVw} {n c d l kd s v H2 L2 W2 P2 S2 H L W P S : Int} (T0 : q_cy (t_b V) (V 102) (V 103) (V 104) n c l (0 : Int)) (T1 : q_run2 (t_b V) n c (0 : Int) (0 : Int) (0 : Int) H L W P S) (T2 : q_run2 (t_b V) n d (0 : Int) (0 : Int) (0 : Int) H2 L2 W2 P2 S2) (T3 : q_tok (t_b V) n c kd s v) (C0 : 0 ≤ d - c) (C1 : 0 ≤ S - S2 + 1) (C2 : 0 ≤ S2 - S - 1) (C3 : 0 ≤ kd - 264) : (True) ∧ (q_cy (t_b V) (V 102) (V 103) (V 104) n d l (0 : Int) ∧ True) := by
  have U1 := T1.2
  have T1 := T1.1
  have U2 := T2.2
  have T2 := T2.1
  have h9 := c_cyM T0 T1 U1 T2 U2 T3.2.1.symm (by omega) (by omega) (by omega)
  exact ⟨trivial, h9, trivial⟩
theorem k_flw {V : zVw} {n c l s v H L W P S : Int} (T0 : q_cy (t_b V) (V 102) (V 103) (V 104) n c l (0 : Int)) (T1 : q_run2 (t_b V) n c (0 : Int) (0 : Int) (0 : Int) H L W P S) (T2 : q_tok (t_b V) n c (0 : Int) s v) : (True) ∧ (q_flw (t_b V) (V 102) (V 103) (V 104) n l ∧ True) := by
  have U1 := T1.2
  have T1 := T1.1
  have h9 := c_flw T0 T1 T2.2.1.symm
  exact ⟨trivial, h9, trivial⟩
theorem k_myi {V : zVw} {n c s k w bb z i st op H L W P S : Int} (T0 : q_my V n c s (k - 1) w bb (0 : Int)) (T1 : q_run2 (t_b V) n c st (0 : Int) op H L W P S) (T2 : 0 ≤ c ∧ 0 ≤ (2 : Int) ∧ (2 : Int) ≤ 41 ∧ t_km (2 : Int) = tk (t_b V) n c.toNat ∧ z = t_s (t_b V) n c.toNat) (T3 : tk (t_b V) n c.toNat = 3 ∧ i = tx (t_b V) n c.toNat) (C0 : 0 ≤ st - 200) (C1 : 0 ≤ op) (F0 : (0 : Int) ≤ k - 1 ∧ (k - 1 : Int) < j_len 72 ∧ V 72 (k - 1) = 0) (F1 : (0 : Int) ≤ k - 1 ∧ (k - 1 : Int) < j_len 73 ∧ V 73 (k - 1) = i) : (True) ∧ (q_my V n c s k w bb (5 : Int) ∧ True) := by
  have U1 := T1.2
  have T1 := T1.1
  exact ⟨trivial, c_myi (a := 0) (z := i) T0 T1 T3.1 (by omega) (by omega) (Or.inl rfl) (by show ((0 : Int), tx (t_b V) n c.toNat) = (0, i); rw [← T3.2]) F0.2.2 F1.2.2, trivial⟩
theorem k_myv {V : zVw} {n c s k w bb u z st op H L W P S : Int} (T0 : q_my V n c s (k - 1) w bb (0 : Int)) (T1 : q_run2 (t_b V) n c st (0 : Int) op H L W P S) (T2 : 0 ≤ c ∧ 0 ≤ u ∧ u ≤ 41 ∧ t_km u = tk (t_b V) n c.toNat ∧ z = t_s (t_b V) n c.toNat) (C0 : 0 ≤ st - 200) (C1 : 0 ≤ op) (C2 : 0 ≤ u - 33) (C3 : 0 ≤ 41 - u) (F0 : (0 : Int) ≤ k - 1 ∧ (k - 1 : Int) < j_len 72 ∧ V 72 (k - 1) = 1) (F1 : (0 : Int) ≤ k - 1 ∧ (k - 1 : Int) < j_len 73 ∧ V 73 (k - 1) = u - 33) : (True) ∧ (q_my V n c s k w bb (5 : Int) ∧ True) := by
  have U1 := T1.2
  have T1 := T1.1
  have hu := t_km_alt T2.2.1 T2.2.2.1
  exact ⟨trivial, c_myi (a := 1) (z := u - 33) T0 T1 T2.2.2.2.1.symm (by omega) (by omega) (by omega) (by unfold p_it; rw [if_neg (by omega), show t_km u - 269 = u - 33 by omega]) F0.2.2 F1.2.2, trivial⟩
theorem k_myt {V : zVw} {n d s k w bb : Int} (T0 : q_my V n (d - 1) s k w bb (5 : Int)) (C0 : 0 ≤ 400 - d) (C1 : 0 ≤ d - 1) : (True) ∧ (q_my V n d s k w bb (0 : Int) ∧ True) := by
  exact ⟨trivial, c_myt T0 (by omega), trivial⟩
theorem k_myo {V : zVw} {n d s k w bb st op z v H L W P S : Int} (T0 : q_my V n (d - 1) s k (w - 1) bb (0 : Int)) (T1 : q_run2 (t_b V) n (d - 1) st (0 : Int) op H L W P S) (T2 : q_tok (t_b V) n (d - 1) (40 : Int) z v) (C0 : 0 ≤ 400 - d) (C1 : 0 ≤ st - 200) (C2 : 0 ≤ op) (C3 : 0 ≤ 5 - op) (F0 : (0 : Int) ≤ w - 1 ∧ (w - 1 : Int) < j_len 74 ∧ V 74 (w - 1) = 6) : (True) ∧ (q_my V n d s k w bb (0 : Int) ∧ True) := by
  have U1 := T1.2
  have T1 := T1.1
  exact ⟨trivial, c_myo T0 T1 T2.2.1.symm (by omega) (by omega) (by omega) F0.2.2, trivial⟩
theorem k_myc {V : zVw} {n d s k w bb st op z v H L W P S : Int} (T0 : q_my V n (d - 1) s k (w + 1) bb (4 : Int)) (T1 : q_run2 (t_b V) n (d - 1) st (1 : Int) op H L W P S) (T2 : q_tok (t_b V) n (d - 1) (41 : Int) z v) (C0 : 0 ≤ 400 - d) (C1 : 0 ≤ st - 200) (C2 : 0 ≤ op - 1) (C3 : 0 ≤ w) : (True) ∧ (q_my V n d s k w bb (0 : Int) ∧ True) := by
  have U1 := T1.2
  have T1 := T1.1
  exact ⟨trivial, c_myc T0 T1 T2.2.1.symm (by omega) (by omega) (by omega) (by omega), trivial⟩
theorem k_myp_8 {V : zVw} {n d s k w bb st op z v H L W P S : Int} (T0 : q_my V n (d - 1) s k (w - 1) bb (4 : Int)) (T1 : q_run2 (t_b V) n (d - 1) st (1 : Int) op H L W P S) (T2 : q_tok (t_b V) n (d - 1) (43 : Int) z v) (C0 : 0 ≤ 400 - d) (C1 : 0 ≤ st - 200) (C2 : 0 ≤ op) (F0 : (0 : Int) ≤ w - 1 ∧ (w - 1 : Int) < j_len 74 ∧ V 74 (w - 1) = 8) : (True) ∧ (q_my V n d s k w bb (0 : Int) ∧ True) := by
  have U1 := T1.2
  have T1 := T1.1
  exact ⟨trivial, c_myp T0 T1 T2.2.1.symm (by omega) (by omega) (by omega) (F0.2.2.trans (by decide)), trivial⟩
theorem k_myp_9 {V : zVw} {n d s k w bb st op z v H L W P S : Int} (T0 : q_my V n (d - 1) s k (w - 1) bb (4 : Int)) (T1 : q_run2 (t_b V) n (d - 1) st (1 : Int) op H L W P S) (T2 : q_tok (t_b V) n (d - 1) (45 : Int) z v) (C0 : 0 ≤ 400 - d) (C1 : 0 ≤ st - 200) (C2 : 0 ≤ op) (F0 : (0 : Int) ≤ w - 1 ∧ (w - 1 : Int) < j_len 74 ∧ V 74 (w - 1) = 9) : (True) ∧ (q_my V n d s k w bb (0 : Int) ∧ True) := by
  have U1 := T1.2
  have T1 := T1.1
  exact ⟨trivial, c_myp T0 T1 T2.2.1.symm (by omega) (by omega) (by omega) (F0.2.2.trans (by decide)), trivial⟩
theorem k_myp_10 {V : zVw} {n d s k w bb st op z v H L W P S : Int} (T0 : q_my V n (d - 1) s k (w - 1) bb (3 : Int)) (T1 : q_run2 (t_b V) n (d - 1) st (1 : Int) op H L W P S) (T2 : q_tok (t_b V) n (d - 1) (42 : Int) z v) (C0 : 0 ≤ 400 - d) (C1 : 0 ≤ st - 200) (C2 : 0 ≤ op) (F0 : (0 : Int) ≤ w - 1 ∧ (w - 1 : Int) < j_len 74 ∧ V 74 (w - 1) = 10) : (True) ∧ (q_my V n d s k w bb (0 : Int) ∧ True) := by
  have U1 := T1.2
  have T1 := T1.1
  exact ⟨trivial, c_myp T0 T1 T2.2.1.symm (by omega) (by omega) (by omega) (F0.2.2.trans (by decide)), trivial⟩
theorem k_myp_15 {V : zVw} {n d s k w bb st op z v H L W P S : Int} (T0 : q_my V n (d - 1) s k (w - 1) bb (3 : Int)) (T1 : q_run2 (t_b V) n (d - 1) st (1 : Int) op H L W P S) (T2 : q_tok (t_b V) n (d - 1) (47 : Int) z v) (C0 : 0 ≤ 400 - d) (C1 : 0 ≤ st - 200) (C2 : 0 ≤ op) (F0 : (0 : Int) ≤ w - 1 ∧ (w - 1 : Int) < j_len 74 ∧ V 74 (w - 1) = 15) : (True) ∧ (q_my V n d s k w bb (0 : Int) ∧ True) := by
  have U1 := T1.2
  have T1 := T1.1
  exact ⟨trivial, c_myp T0 T1 T2.2.1.symm (by omega) (by omega) (by omega) (F0.2.2.trans (by decide)), trivial⟩
theorem k_my_x1 {V : zVw} {n c s k w bb x : Int} (T0 : q_my V n c s k w bb (0 : Int)) (C0 : 0 ≤ x - 1) : (True) ∧ (q_my V n c s k w bb (1 : Int) ∧ True) := by
  exact ⟨trivial, c_myx T0 (Or.inl rfl), trivial⟩
theorem k_my_x0 {V : zVw} {n c s k w bb x : Int} (T0 : q_my V n c s k w bb (0 : Int)) (C0 : 0 ≤ -x) : (True) ∧ (q_my V n c s k w bb (2 : Int) ∧ True) := by
  exact ⟨trivial, c_myx T0 (Or.inr rfl), trivial⟩
theorem k_myr2_8 {V : zVw} {n c s k w bb u : Int} (T0 : q_my V n c s (k - 1) (w + 1) bb (2 : Int)) (C0 : 0 ≤ w) (C1 : 0 ≤ u - 8) (C2 : 0 ≤ 8 - u) (F0 : (0 : Int) ≤ w ∧ (w : Int) < j_len 74 ∧ V 74 (w) = u) (F1 : (0 : Int) ≤ k - 1 ∧ (k - 1 : Int) < j_len 72 ∧ V 72 (k - 1) = 2) (F2 : (0 : Int) ≤ k - 1 ∧ (k - 1 : Int) < j_len 73 ∧ V 73 (k - 1) = 0) : (True) ∧ (q_my V n c s k w bb (2 : Int) ∧ True) := by
  exact ⟨trivial, c_myr (a := 2) (z := 0) T0 (by omega) (by omega) F0.2.2 (fun o ho => by have e : o = 43 := (by unfold t_op at ho; repeat (first | omega | split at ho)); subst e; exact ⟨by decide, fun h => by first | decide | exact absurd h (by decide), rfl⟩) F1.2.2 F2.2.2, trivial⟩
theorem k_myr2_9 {V : zVw} {n c s k w bb u : Int} (T0 : q_my V n c s (k - 1) (w + 1) bb (2 : Int)) (C0 : 0 ≤ w) (C1 : 0 ≤ u - 9) (C2 : 0 ≤ 9 - u) (F0 : (0 : Int) ≤ w ∧ (w : Int) < j_len 74 ∧ V 74 (w) = u) (F1 : (0 : Int) ≤ k - 1 ∧ (k - 1 : Int) < j_len 72 ∧ V 72 (k - 1) = 3) (F2 : (0 : Int) ≤ k - 1 ∧ (k - 1 : Int) < j_len 73 ∧ V 73 (k - 1) = 0) : (True) ∧ (q_my V n c s k w bb (2 : Int) ∧ True) := by
  exact ⟨trivial, c_myr (a := 3) (z := 0) T0 (by omega) (by omega) F0.2.2 (fun o ho => by have e : o = 45 := (by unfold t_op at ho; repeat (first | omega | split at ho)); subst e; exact ⟨by decide, fun h => by first | decide | exact absurd h (by decide), rfl⟩) F1.2.2 F2.2.2, trivial⟩
theorem k_myr1_10 {V : zVw} {n c s k w bb u : Int} (T0 : q_my V n c s (k - 1) (w + 1) bb (1 : Int)) (C0 : 0 ≤ w) (C1 : 0 ≤ u - 10) (C2 : 0 ≤ 10 - u) (F0 : (0 : Int) ≤ w ∧ (w : Int) < j_len 74 ∧ V 74 (w) = u) (F1 : (0 : Int) ≤ k - 1 ∧ (k - 1 : Int) < j_len 72 ∧ V 72 (k - 1) = 4) (F2 : (0 : Int) ≤ k - 1 ∧ (k - 1 : Int) < j_len 73 ∧ V 73 (k - 1) = 0) : (True) ∧ (q_my V n c s k w bb (1 : Int) ∧ True) := by
  exact ⟨trivial, c_myr (a := 4) (z := 0) T0 (by omega) (by omega) F0.2.2 (fun o ho => by have e : o = 42 := (by unfold t_op at ho; repeat (first | omega | split at ho)); subst e; exact ⟨by decide, fun h => by first | decide | exact absurd h (by decide), rfl⟩) F1.2.2 F2.2.2, trivial⟩
theorem k_myr2_10 {V : zVw} {n c s k w bb u : Int} (T0 : q_my V n c s (k - 1) (w + 1) bb (2 : Int)) (C0 : 0 ≤ w) (C1 : 0 ≤ u - 10) (C2 : 0 ≤ 10 - u) (F0 : (0 : Int) ≤ w ∧ (w : Int) < j_len 74 ∧ V 74 (w) = u) (F1 : (0 : Int) ≤ k - 1 ∧ (k - 1 : Int) < j_len 72 ∧ V 72 (k - 1) = 4) (F2 : (0 : Int) ≤ k - 1 ∧ (k - 1 : Int) < j_len 73 ∧ V 73 (k - 1) = 0) : (True) ∧ (q_my V n c s k w bb (2 : Int) ∧ True) := by
  exact ⟨trivial, c_myr (a := 4) (z := 0) T0 (by omega) (by omega) F0.2.2 (fun o ho => by have e : o = 42 := (by unfold t_op at ho; repeat (first | omega | split at ho)); subst e; exact ⟨by decide, fun h => by first | decide | exact absurd h (by decide), rfl⟩) F1.2.2 F2.2.2, trivial⟩
theorem k_myr1_15 {V : zVw} {n c s k w bb u : Int} (T0 : q_my V n c s (k - 1) (w + 1) bb (1 : Int)) (C0 : 0 ≤ w) (C1 : 0 ≤ u - 11) (C2 : 0 ≤ 15 - u) (F0 : (0 : Int) ≤ w ∧ (w : Int) < j_len 74 ∧ V 74 (w) = u) (F1 : (0 : Int) ≤ k - 1 ∧ (k - 1 : Int) < j_len 72 ∧ V 72 (k - 1) = 5) (F2 : (0 : Int) ≤ k - 1 ∧ (k - 1 : Int) < j_len 73 ∧ V 73 (k - 1) = 0) : (True) ∧ (q_my V n c s k w bb (1 : Int) ∧ True) := by
  exact ⟨trivial, c_myr (a := 5) (z := 0) T0 (by omega) (by omega) F0.2.2 (fun o ho => by have e : o ≠ 40 ∧ o ≠ 43 ∧ o ≠ 45 ∧ o ≠ 42 := (by unfold t_op at ho; repeat (first | omega | split at ho)); exact ⟨e.1, fun _ => by unfold p_sg; rw [decide_eq_true_eq]; omega, by unfold p_em; rw [if_neg (by omega), if_neg (by omega), if_neg (by omega)]⟩) F1.2.2 F2.2.2, trivial⟩
theorem k_myr2_15 {V : zVw} {n c s k w bb u : Int} (T0 : q_my V n c s (k - 1) (w + 1) bb (2 : Int)) (C0 : 0 ≤ w) (C1 : 0 ≤ u - 11) (C2 : 0 ≤ 15 - u) (F0 : (0 : Int) ≤ w ∧ (w : Int) < j_len 74 ∧ V 74 (w) = u) (F1 : (0 : Int) ≤ k - 1 ∧ (k - 1 : Int) < j_len 72 ∧ V 72 (k - 1) = 5) (F2 : (0 : Int) ≤ k - 1 ∧ (k - 1 : Int) < j_len 73 ∧ V 73 (k - 1) = 0) : (True) ∧ (q_my V n c s k w bb (2 : Int) ∧ True) := by
  exact ⟨trivial, c_myr (a := 5) (z := 0) T0 (by omega) (by omega) F0.2.2 (fun o ho => by have e : o ≠ 40 ∧ o ≠ 43 ∧ o ≠ 45 ∧ o ≠ 42 := (by unfold t_op at ho; repeat (first | omega | split at ho)); exact ⟨e.1, fun _ => by unfold p_sg; rw [decide_eq_true_eq]; omega, by unfold p_em; rw [if_neg (by omega), if_neg (by omega), if_neg (by omega)]⟩) F1.2.2 F2.2.2, trivial⟩
theorem k_mye0_1 {V : zVw} {n c s k w bb : Int} (T0 : q_my V n c s k w bb (1 : Int)) (C0 : 0 ≤ w) (C1 : 0 ≤ -w) : (True) ∧ (q_my V n c s k w bb (3 : Int) ∧ True) := by
  have h9 := c_mye0 T0 (by omega) (fun X hX => by have e := c_wnil hX (by omega); subst e; exact ⟨fun _ => rfl, fun _ => rfl⟩)
  exact ⟨trivial, h9, trivial⟩
theorem k_mye6_1 {V : zVw} {n c s k w bb : Int} (T0 : q_my V n c s k w bb (1 : Int)) (C0 : 0 ≤ w - 1) (F0 : (0 : Int) ≤ w - 1 ∧ (w - 1 : Int) < j_len 74 ∧ V 74 (w - 1) = 6) : (True) ∧ (q_my V n c s k w bb (3 : Int) ∧ True) := by
  have h9 := c_mye0 T0 (by omega) (fun X hX => by obtain ⟨o, t, e, ho⟩ := c_wtop hX (by omega); rw [F0.2.2] at ho; have e2 : o = 40 := (by unfold t_op at ho; repeat (first | omega | split at ho)); subst e2; subst e; exact ⟨fun _ => rfl, fun _ => rfl⟩)
  exact ⟨trivial, h9, trivial⟩
theorem k_mye0_2 {V : zVw} {n c s k w bb : Int} (T0 : q_my V n c s k w bb (2 : Int)) (C0 : 0 ≤ w) (C1 : 0 ≤ -w) : (True) ∧ (q_my V n c s k w bb (4 : Int) ∧ True) := by
  have h9 := c_mye0 T0 (by omega) (fun X hX => by have e := c_wnil hX (by omega); subst e; exact ⟨fun _ => rfl, fun _ => rfl⟩)
  exact ⟨trivial, h9, trivial⟩
theorem k_mye6_2 {V : zVw} {n c s k w bb : Int} (T0 : q_my V n c s k w bb (2 : Int)) (C0 : 0 ≤ w - 1) (F0 : (0 : Int) ≤ w - 1 ∧ (w - 1 : Int) < j_len 74 ∧ V 74 (w - 1) = 6) : (True) ∧ (q_my V n c s k w bb (4 : Int) ∧ True) := by
  have h9 := c_mye0 T0 (by omega) (fun X hX => by obtain ⟨o, t, e, ho⟩ := c_wtop hX (by omega); rw [F0.2.2] at ho; have e2 : o = 40 := (by unfold t_op at ho; repeat (first | omega | split at ho)); subst e2; subst e; exact ⟨fun _ => rfl, fun _ => rfl⟩)
  exact ⟨trivial, h9, trivial⟩
theorem k_mye8 {V : zVw} {n c s k w bb u : Int} (T0 : q_my V n c s k w bb (1 : Int)) (C0 : 0 ≤ w - 1) (C1 : 0 ≤ u - 8) (C2 : 0 ≤ 8 - u) (F0 : (0 : Int) ≤ w - 1 ∧ (w - 1 : Int) < j_len 74 ∧ V 74 (w - 1) = u) : (True) ∧ (q_my V n c s k w bb (3 : Int) ∧ True) := by
  have h9 := c_mye0 T0 (by omega) (fun X hX => by obtain ⟨o, t, e, ho⟩ := c_wtop hX (by omega); rw [F0.2.2] at ho; have e2 : o = 43 := (by unfold t_op at ho; repeat (first | omega | split at ho)); subst e2; subst e; exact ⟨fun _ => rfl, fun h => absurd h (by decide)⟩)
  exact ⟨trivial, h9, trivial⟩
theorem k_mye9 {V : zVw} {n c s k w bb u : Int} (T0 : q_my V n c s k w bb (1 : Int)) (C0 : 0 ≤ w - 1) (C1 : 0 ≤ u - 9) (C2 : 0 ≤ 9 - u) (F0 : (0 : Int) ≤ w - 1 ∧ (w - 1 : Int) < j_len 74 ∧ V 74 (w - 1) = u) : (True) ∧ (q_my V n c s k w bb (3 : Int) ∧ True) := by
  have h9 := c_mye0 T0 (by omega) (fun X hX => by obtain ⟨o, t, e, ho⟩ := c_wtop hX (by omega); rw [F0.2.2] at ho; have e2 : o = 45 := (by unfold t_op at ho; repeat (first | omega | split at ho)); subst e2; subst e; exact ⟨fun _ => rfl, fun h => absurd h (by decide)⟩)
  exact ⟨trivial, h9, trivial⟩
theorem k_myif {V : zVw} {n d s k w bb st z v H L W P S : Int} (T0 : q_my V n (d - 1) s k w bb (0 : Int)) (T1 : q_run2 (t_b V) n (d - 1) st (0 : Int) (0 : Int) H L W P S) (T2 : q_tok (t_b V) n (d - 1) (266 : Int) z v) (C0 : 0 ≤ 400 - d) (C1 : 0 ≤ st - 30) (C2 : 0 ≤ 33 - st) : (True) ∧ (q_my V n d s k (0 : Int) bb (0 : Int) ∧ q_pb (t_b V) n d s k ∧ True) := by
  have U1 := T1.2
  have T1 := T1.1
  have h9 := c_myif T0 T1 T2.2.1.symm (by omega) (by omega) (by omega)
  exact ⟨trivial, h9.1, h9.2, trivial⟩
theorem k_mylt {V : zVw} {n d s k w bb st z v H L W P S : Int} (T0 : q_my V n (d - 1) s k w bb (4 : Int)) (T1 : q_run2 (t_b V) n (d - 1) st (1 : Int) (0 : Int) H L W P S) (T2 : q_tok (t_b V) n (d - 1) (60 : Int) z v) (C0 : 0 ≤ 400 - d) (C1 : 0 ≤ st - 200) (C2 : 0 ≤ 204 - st) : (True) ∧ (q_my V n d s k (0 : Int) bb (0 : Int) ∧ q_pm (t_b V) n d s k ∧ True) := by
  have U1 := T1.2
  have T1 := T1.1
  have h9 := c_mylt T0 T1 T2.2.1.symm (by omega) (by omega) (by omega)
  exact ⟨trivial, h9.1, h9.2, trivial⟩
theorem k_myth {V : zVw} {n d s k w bb st z v H L W P S : Int} (T0 : q_my V n (d - 1) s k w bb (4 : Int)) (T1 : q_run2 (t_b V) n (d - 1) st (1 : Int) (0 : Int) H L W P S) (T2 : q_tok (t_b V) n (d - 1) (267 : Int) z v) (C0 : 0 ≤ 400 - d) (C1 : 0 ≤ st - 300) (C2 : 0 ≤ 304 - st) : (True) ∧ (q_my V n d s k (0 : Int) bb (0 : Int) ∧ q_pt (t_b V) n d s k ∧ True) := by
  have U1 := T1.2
  have T1 := T1.1
  have h9 := c_myth T0 T1 T2.2.1.symm (by omega) (by omega) (by omega)
  exact ⟨trivial, h9.1, h9.2, trivial⟩
theorem k_mylaw {V : zVw} {n d s k w bb u z H L W P S : Int} (T0 : q_my V n (d - 1) s k w bb (0 : Int)) (T1 : q_run2 (t_b V) n (d - 1) (0 : Int) (0 : Int) (0 : Int) H L W P S) (T2 : 0 ≤ (d - 1) ∧ 0 ≤ u ∧ u ≤ 41 ∧ t_km u = tk (t_b V) n (d - 1).toNat ∧ z = t_s (t_b V) n (d - 1).toNat) (C0 : 0 ≤ 400 - d) (C1 : 0 ≤ d - 1) (C2 : 0 ≤ u - 24) (C3 : 0 ≤ 27 - u) : (True) ∧ (q_my V n d s k (0 : Int) bb (0 : Int) ∧ True) := by
  have U1 := T1.2
  have T1 := T1.1
  have hu := t_km_alt T2.2.1 T2.2.2.1
  exact ⟨trivial, c_mylaw T0 T1 T2.2.2.2.1.symm (by omega) (by omega), trivial⟩
theorem k_myeq {V : zVw} {n d s k w bb z v z2 H2 L2 W2 P2 H L W P S S2 kk : Int} (T0 : q_my V n (d - 1) s k w bb (0 : Int)) (T1 : q_run2 (t_b V) n (d - 1) (20 : Int) (0 : Int) (0 : Int) H L W P S) (T2 : q_tok (t_b V) n (d - 1) (61 : Int) z v) (T3 : q_run2 (t_b V) n (d - 2) (0 : Int) (0 : Int) (0 : Int) H2 L2 W2 P2 S2) (T4 : 0 ≤ (d - 2) ∧ 0 ≤ (kk + 24) ∧ (kk + 24) ≤ 41 ∧ t_km (kk + 24) = tk (t_b V) n (d - 2).toNat ∧ z2 = t_s (t_b V) n (d - 2).toNat) (C0 : 0 ≤ 400 - d) (C1 : 0 ≤ kk) (C2 : 0 ≤ 3 - kk) (C3 : 0 ≤ d - 2) : (True) ∧ (q_my V n d s k (0 : Int) bb (0 : Int) ∧ q_bm (t_b V) n d s kk bb ∧ True) := by
  have U1 := T1.2
  have T1 := T1.1
  have U3 := T3.2
  have T3 := T3.1
  have hu := t_km_alt T4.2.1 T4.2.2.1
  have h9 := c_myeq (j := kk) T0 T1 T2.2.1.symm T3 (by rw [← T4.2.2.2.1]; omega) (by omega) (by omega)
  exact ⟨trivial, h9.1, h9.2, trivial⟩
theorem k_mypb {V : zVw} {n c s k bb st H L W P S : Int} (T0 : q_my V n c s k (0 : Int) bb (0 : Int)) (T1 : q_run2 (t_b V) n c st (0 : Int) (0 : Int) H L W P S) (C0 : 0 ≤ st - 30) (C1 : 0 ≤ 34 - st) : (True) ∧ (q_pb (t_b V) n c s k ∧ True) := by
  have U1 := T1.2
  have T1 := T1.1
  have h9 := c_mypb T0 T1 (by omega) (by omega)
  exact ⟨trivial, h9, trivial⟩
theorem k_myel {V : zVw} {n d s k w bb a m t_ st z v H L W P S e1 st1 H1 L1 W1 P1 S2 e2 st2 H2 L2 W2 P2 S3 e3 st3 H3 L3 W3 P3 S4 b2 : Int} (T0 : q_my V n (d - 1) s k w bb (4 : Int)) (T1 : q_run2 (t_b V) n (d - 1) st (1 : Int) (0 : Int) H L W P S) (T2 : q_tok (t_b V) n (d - 1) (268 : Int) z v) (T3 : q_pb (t_b V) n e1 s a) (T4 : q_run2 (t_b V) n e1 st1 (0 : Int) (0 : Int) H1 L1 W1 P1 S2) (T5 : q_pm (t_b V) n e2 s m) (T6 : q_run2 (t_b V) n e2 st2 (0 : Int) (0 : Int) H2 L2 W2 P2 S3) (T7 : q_pt (t_b V) n e3 s t_) (T8 : q_run2 (t_b V) n e3 st3 (0 : Int) (0 : Int) H3 L3 W3 P3 S4) (C0 : 0 ≤ b2 - bb - 1) (C1 : 0 ≤ bb - b2 + 1) (C2 : 0 ≤ 400 - d) (C3 : 0 ≤ st - 400) (C4 : 0 ≤ 404 - st) (C5 : 0 ≤ S - S2) (C6 : 0 ≤ S2 - S) (C7 : 0 ≤ S - S3) (C8 : 0 ≤ S3 - S) (C9 : 0 ≤ S - S4) (C10 : 0 ≤ S4 - S) (C11 : 0 ≤ st - st1 - 200) (C12 : 0 ≤ st1 - st + 200) (C13 : 0 ≤ st - st2 - 100) (C14 : 0 ≤ st2 - st + 100) (C15 : 0 ≤ st - st3) (C16 : 0 ≤ st3 - st) (F0 : (0 : Int) ≤ bb ∧ (bb : Int) < j_len 67 ∧ V 67 (bb) = 1) (F1 : (0 : Int) ≤ bb ∧ (bb : Int) < j_len 70 ∧ V 70 (bb) = t_) (F2 : (0 : Int) ≤ bb ∧ (bb : Int) < j_len 71 ∧ V 71 (bb) = k) (F3 : (0 : Int) ≤ bb ∧ (bb : Int) < j_len 68 ∧ V 68 (bb) = a) (F4 : (0 : Int) ≤ bb ∧ (bb : Int) < j_len 69 ∧ V 69 (bb) = m) : (True) ∧ (q_my V n d s k (0 : Int) (bb + 1) (0 : Int) ∧ True) := by
  have U1 := T1.2
  have T1 := T1.1
  have U4 := T4.2
  have T4 := T4.1
  have U6 := T6.2
  have T6 := T6.1
  have U8 := T8.2
  have T8 := T8.1
  have e9 : b2 = bb + 1 := by omega
  exact ⟨trivial, c_myel T0 T1 U1 T2.2.1.symm T3 T4 U4 T5 T6 U6 T7 T8 U8 (by omega) (by omega) (by omega) (by omega) (by omega) (by omega) (by omega) (by omega) (by omega) (by omega) F0.2.2 F3.2.2 F4.2.2 F1.2.2 F2.2.2, trivial⟩
theorem k_myse {V : zVw} {n d s k w bb t_ st z v kk f H L W P S e1 st1 H1 L1 W1 P1 S2 e2 st2 H2 L2 W2 P2 S3 b2 : Int} (T0 : q_my V n (d - 1) s k w bb (4 : Int)) (T1 : q_run2 (t_b V) n (d - 1) st (1 : Int) (0 : Int) H L W P S) (T2 : q_tok (t_b V) n (d - 1) (59 : Int) z v) (T3 : q_bm (t_b V) n e1 s kk f) (T4 : q_run2 (t_b V) n e1 st1 (0 : Int) (0 : Int) H1 L1 W1 P1 S2) (T5 : q_pb (t_b V) n e2 s t_) (T6 : q_run2 (t_b V) n e2 st2 (0 : Int) (0 : Int) H2 L2 W2 P2 S3) (C0 : 0 ≤ b2 - bb - 1) (C1 : 0 ≤ bb - b2 + 1) (C2 : 0 ≤ 400 - d) (C3 : 0 ≤ st - 500) (C4 : 0 ≤ 504 - st) (C5 : 0 ≤ st1 - 30) (C6 : 0 ≤ 34 - st1) (C7 : 0 ≤ S - S2) (C8 : 0 ≤ S2 - S) (C9 : 0 ≤ S - S3) (C10 : 0 ≤ S3 - S) (C11 : 0 ≤ st - st2) (C12 : 0 ≤ st2 - st) (F0 : (0 : Int) ≤ bb ∧ (bb : Int) < j_len 67 ∧ V 67 (bb) = 0) (F1 : (0 : Int) ≤ bb ∧ (bb : Int) < j_len 70 ∧ V 70 (bb) = t_) (F2 : (0 : Int) ≤ bb ∧ (bb : Int) < j_len 71 ∧ V 71 (bb) = k) : (True) ∧ (q_myb V false n d s k (0 : Int) (bb + 1) kk (4 * s + kk) f ∧ True) := by
  have U1 := T1.2
  have T1 := T1.1
  have U4 := T4.2
  have T4 := T4.1
  have U6 := T6.2
  have T6 := T6.1
  have e0 : 0 ≤ kk := by
    obtain ⟨-, Q, a1, -, a3, -⟩ := T3
    rw [a3]
    exact p_k0
  exact ⟨trivial, c_myse T0 T1 U1 T2.2.1.symm T3 T4 U4 T5 T6 U6 (by omega) (by omega) (by omega) (by omega) (by omega) e0 (by omega) (by omega) (by omega) (by omega) F0.2.2 F1.2.2 F2.2.2, trivial⟩
theorem k_myb {V : zVw} {n d s k bb kk p f : Int} (T0 : q_myb V false n d s k (0 : Int) bb kk p f) (F0 : (0 : Int) ≤ p ∧ (p : Int) < j_len 65 ∧ V 65 (p) = f) : (True) ∧ (q_myb V true n d s k (0 : Int) bb kk p f ∧ True) := by
  exact ⟨trivial, c_myb T0 F0.2.2, trivial⟩
theorem k_myc2 {V : zVw} {n d s k bb kk p f : Int} (T0 : q_myb V true n d s k (0 : Int) bb kk p f) (F0 : (0 : Int) ≤ p ∧ (p : Int) < j_len 66 ∧ V 66 (p) = bb) : (True) ∧ (q_my V n d s k (0 : Int) bb (0 : Int) ∧ True) := by
  exact ⟨trivial, c_myc2 T0 F0.2.2, trivial⟩
theorem k_myMa {V : zVw} {n c d s k w bb u z H2 L2 W2 P2 S2 H L W P S : Int} (T0 : q_my V n c s k w bb (0 : Int)) (T1 : q_run2 (t_b V) n c (0 : Int) (0 : Int) (0 : Int) H L W P S) (T2 : q_run2 (t_b V) n d (0 : Int) (0 : Int) (0 : Int) H2 L2 W2 P2 S2) (T3 : 0 ≤ c ∧ 0 ≤ u ∧ u ≤ 41 ∧ t_km u = tk (t_b V) n c.toNat ∧ z = t_s (t_b V) n c.toNat) (C0 : 0 ≤ d - c) (C1 : 0 ≤ S - S2 + 1) (C2 : 0 ≤ S2 - S - 1) (C3 : 0 ≤ 23 - u) : (True) ∧ (q_my V n d s k (0 : Int) bb (0 : Int) ∧ True) := by
  have U1 := T1.2
  have T1 := T1.1
  have U2 := T2.2
  have T2 := T2.1
  have hu := t_km_alt T3.2.1 T3.2.2.1
  exact ⟨trivial, c_myM T0 T1 U1 T2 U2 T3.2.2.2.1.symm (by omega) (by omega) (by omega), trivial⟩
theorem k_myMb {V : zVw} {n c d s k w bb u z H2 L2 W2 P2 S2 H L W P S : Int} (T0 : q_my V n c s k w bb (0 : Int)) (T1 : q_run2 (t_b V) n c (0 : Int) (0 : Int) (0 : Int) H L W P S) (T2 : q_run2 (t_b V) n d (0 : Int) (0 : Int) (0 : Int) H2 L2 W2 P2 S2) (T3 : 0 ≤ c ∧ 0 ≤ u ∧ u ≤ 41 ∧ t_km u = tk (t_b V) n c.toNat ∧ z = t_s (t_b V) n c.toNat) (C0 : 0 ≤ d - c) (C1 : 0 ≤ S - S2 + 1) (C2 : 0 ≤ S2 - S - 1) (C3 : 0 ≤ u - 28) : (True) ∧ (q_my V n d s k (0 : Int) bb (0 : Int) ∧ True) := by
  have U1 := T1.2
  have T1 := T1.1
  have U2 := T2.2
  have T2 := T2.1
  have hu := t_km_alt T3.2.1 T3.2.2.1
  exact ⟨trivial, c_myM T0 T1 U1 T2 U2 T3.2.2.2.1.symm (by omega) (by omega) (by omega), trivial⟩
theorem k_my0 {V : zVw} {n s c k bb : Int} (C0 : 0 ≤ n) (C1 : 0 ≤ c) (C2 : 0 ≤ -c) (C3 : 0 ≤ s) (C4 : 0 ≤ 1 - s) (C5 : 0 ≤ k - 420 * s) (C6 : 0 ≤ 420 * s - k) (C7 : 0 ≤ bb - 130 * s) (C8 : 0 ≤ 130 * s - bb) (F0 : (0 : Int) ≤ 4 * s ∧ (4 * s : Int) < j_len 65 ∧ V 65 (4 * s) = 0) (F1 : (0 : Int) ≤ 4 * s + 1 ∧ (4 * s + 1 : Int) < j_len 65 ∧ V 65 (4 * s + 1) = 0) (F2 : (0 : Int) ≤ 4 * s + 2 ∧ (4 * s + 2 : Int) < j_len 65 ∧ V 65 (4 * s + 2) = 0) (F3 : (0 : Int) ≤ 4 * s + 3 ∧ (4 * s + 3 : Int) < j_len 65 ∧ V 65 (4 * s + 3) = 0) (F4 : (0 : Int) ≤ 4 * s ∧ (4 * s : Int) < j_len 66 ∧ V 66 (4 * s) = 0) (F5 : (0 : Int) ≤ 4 * s + 1 ∧ (4 * s + 1 : Int) < j_len 66 ∧ V 66 (4 * s + 1) = 0) (F6 : (0 : Int) ≤ 4 * s + 2 ∧ (4 * s + 2 : Int) < j_len 66 ∧ V 66 (4 * s + 2) = 0) (F7 : (0 : Int) ≤ 4 * s + 3 ∧ (4 * s + 3 : Int) < j_len 66 ∧ V 66 (4 * s + 3) = 0) : (True) ∧ (q_my V n c s k (0 : Int) bb (0 : Int) ∧ True) := by
  exact ⟨trivial, c_my0 (by omega) (by omega) (by omega) (by omega) (by omega) (fun j j0 j1 => by have hc : j = 0 ∨ j = 1 ∨ j = 2 ∨ j = 3 := (by omega); rcases hc with rfl | rfl | rfl | rfl; exact ⟨by rw [Int.add_zero]; exact F0.2.2, by rw [Int.add_zero]; exact F4.2.2⟩; exact ⟨F1.2.2, F5.2.2⟩; exact ⟨F2.2.2, F6.2.2⟩; exact ⟨F3.2.2, F7.2.2⟩), trivial⟩
theorem k_mflw {V : zVw} {n c s k w bb z H L W P S : Int} (T0 : q_my V n c s k w bb (0 : Int)) (T1 : q_run2 (t_b V) n c (0 : Int) (0 : Int) (0 : Int) H L W P S) (T2 : 0 ≤ c ∧ 0 ≤ (0 : Int) ∧ (0 : Int) ≤ 41 ∧ t_km (0 : Int) = tk (t_b V) n c.toNat ∧ z = t_s (t_b V) n c.toNat) (C0 : 0 ≤ 400 - c) (C1 : 0 ≤ c + 520 * s - 4 * bb) : (True) ∧ (q_mflw V n s ∧ True) := by
  have U1 := T1.2
  have T1 := T1.1
  exact ⟨trivial, c_mflw T0 T1 (T2.2.2.2.1.symm.trans (by decide)) (by omega), trivial⟩
theorem k_mylen {V : zVw} {n c s k w bb v : Int} (T0 : q_my V n c s k w bb v) : (0 ≤ k - 420 * s ∧ True) ∧ (True) := by
  have h9 := c_mylen T0
  exact ⟨⟨by omega, trivial⟩, trivial⟩
theorem k_mylenb {V : zVw} {n c s k w bb v : Int} (T0 : q_my V n c s k w bb v) : (0 ≤ bb - 130 * s ∧ True) ∧ (True) := by
  have h9 := c_mylen T0
  exact ⟨⟨by omega, trivial⟩, trivial⟩
theorem k_blo {V : zVw} {bb s : Int} (C0 : 0 ≤ bb - 130 * s) : (True) ∧ (130 * s ≤ bb ∧ True) := by
  exact ⟨trivial, (by omega), trivial⟩
theorem k_bloX {V : zVw} {bb s b2 : Int} (T0 : 130 * s ≤ bb) (C0 : 0 ≤ b2 - bb) : (0 ≤ b2 - 130 * s ∧ True) ∧ (True) := by
  exact ⟨⟨by omega, trivial⟩, trivial⟩
theorem k_leq1 {V : zVw} {n s q : Int} (T0 : q_flw (t_b V) (V 21) (V 22) (V 23) n q) (T1 : q_mflw V n s) (C0 : 0 ≤ n) (C1 : 0 ≤ s) (C2 : 0 ≤ 1 - s) : (True) ∧ (((1 : Int) = 1 → q_leq V s (1 - s) q) ∧ True) := by
  exact ⟨trivial, fun _ => c_leq (by omega) (by omega) (by omega) T0 T1, trivial⟩
theorem k_leqz {V : zVw} {l n q : Int} (T0 : q_flw (t_b V) (V 21) (V 22) (V 23) n q) (C0 : 0 ≤ l) (C1 : 0 ≤ 1 - l) : (True) ∧ (((0 : Int) = 1 → q_leq V l (1 - l) q) ∧ True) := by
  exact ⟨trivial, fun h => absurd h (by decide), trivial⟩
theorem k_rc0 {V : zVw} {q k x : Int} (C0 : 0 ≤ k) (C1 : 0 ≤ 3 - k) (F0 : (0 : Int) ≤ k ∧ (k : Int) < j_len 23 ∧ V 23 (k) = x) : ∃ z : Int, ((-2147483648) ≤ z ∧ z ≤ 2147483647) ∧ ((True) ∧ (q_runc V q z (0 : Int) x (0 : Int) ∧ q_vlc V q k z ∧ True)) := by
  obtain ⟨z9, h0, h1, h2⟩ := c_rc0 (q := q) F0.2.2
  exact ⟨z9, h0, trivial, h1, h2, trivial⟩
theorem k_rcE_i {V : zVw} {q r i x top : Int} (T0 : q_runc V q r i x top) (C0 : 0 ≤ i - 432) : (0 ≤ r ∧ 0 ≤ -r ∧ True) ∧ (True) := by
  have h9 := c_rcE T0 (by omega)
  exact ⟨⟨by omega, by omega, trivial⟩, trivial⟩
theorem k_rcE_n {V : zVw} {q r i x top : Int} (T0 : q_runc V q r i x top) (C0 : 0 ≤ -x - 1) (C1 : 0 ≤ i) : (0 ≤ r ∧ 0 ≤ -r ∧ True) ∧ (True) := by
  have h9 := c_rcE T0 (by omega)
  exact ⟨⟨by omega, by omega, trivial⟩, trivial⟩
theorem k_rcE_r {V : zVw} {q r i x top : Int} (T0 : q_runc V q r i x top) (C0 : 0 ≤ x - 432) (C1 : 0 ≤ i) : (0 ≤ r ∧ 0 ≤ -r ∧ True) ∧ (True) := by
  have h9 := c_rcE T0 (by omega)
  exact ⟨⟨by omega, by omega, trivial⟩, trivial⟩
theorem k_rcE_q {V : zVw} {q r i x top : Int} (T0 : q_runc V q r i x top) (C0 : 0 ≤ x - q) (C1 : 0 ≤ i) : (0 ≤ r ∧ 0 ≤ -r ∧ True) ∧ (True) := by
  have h9 := c_rcE T0 (by omega)
  exact ⟨⟨by omega, by omega, trivial⟩, trivial⟩
theorem k_rcA1 {V : zVw} {q r i x top u : Int} (T0 : q_runc V q r i x top) (C0 : 0 ≤ 431 - i) (C1 : 0 ≤ x) (C2 : 0 ≤ 431 - x) (C3 : 0 ≤ q - x - 1) (C4 : 0 ≤ i) (C5 : 0 ≤ top - 1) (F0 : (0 : Int) ≤ x ∧ (x : Int) < j_len 21 ∧ V 21 (x) = 7) (F1 : (0 : Int) ≤ 0 ∧ (0 : Int) < j_len 24 ∧ V 24 (0) = u) : (0 ≤ r - u ∧ 0 ≤ u - r ∧ True) ∧ (True) := by
  have h9 := c_rcA1 T0 (by omega) (by omega) (by omega) (by omega) F0.2.2 (by omega) F1.2.2
  exact ⟨⟨by omega, by omega, trivial⟩, trivial⟩
theorem k_rcA0 {V : zVw} {q r i x top : Int} (T0 : q_runc V q r i x top) (C0 : 0 ≤ 431 - i) (C1 : 0 ≤ x) (C2 : 0 ≤ 431 - x) (C3 : 0 ≤ q - x - 1) (C4 : 0 ≤ i) (C5 : 0 ≤ -top) (F0 : (0 : Int) ≤ x ∧ (x : Int) < j_len 21 ∧ V 21 (x) = 7) : (0 ≤ r ∧ 0 ≤ -r ∧ True) ∧ (True) := by
  have h9 := c_rcA0 T0 (by omega) (by omega) (by omega) (by omega) F0.2.2 (by omega)
  exact ⟨⟨by omega, by omega, trivial⟩, trivial⟩
theorem k_rcB1 {V : zVw} {q r i x top s : Int} (T0 : q_runc V q r i x top) (C0 : 0 ≤ 431 - i) (C1 : 0 ≤ x) (C2 : 0 ≤ 431 - x) (C3 : 0 ≤ q - x - 1) (C4 : 0 ≤ i) (C5 : 0 ≤ s) (C6 : 0 ≤ 1 - s) (C7 : 0 ≤ top - 22) (F0 : (0 : Int) ≤ x ∧ (x : Int) < j_len 21 ∧ V 21 (x) = s) : (0 ≤ r ∧ 0 ≤ -r ∧ True) ∧ (True) := by
  have h9 := c_rcB T0 (by omega) (by omega) (by omega) (by omega) (by have := F0.2.2; omega) (Or.inl (by omega))
  exact ⟨⟨by omega, by omega, trivial⟩, trivial⟩
theorem k_rcB2 {V : zVw} {q r i x top s a : Int} (T0 : q_runc V q r i x top) (C0 : 0 ≤ 431 - i) (C1 : 0 ≤ x) (C2 : 0 ≤ 431 - x) (C3 : 0 ≤ q - x - 1) (C4 : 0 ≤ i) (C5 : 0 ≤ s) (C6 : 0 ≤ 1 - s) (C7 : 0 ≤ -a - 1) (F0 : (0 : Int) ≤ x ∧ (x : Int) < j_len 21 ∧ V 21 (x) = s) (F1 : (0 : Int) ≤ x ∧ (x : Int) < j_len 22 ∧ V 22 (x) = a) : (0 ≤ r ∧ 0 ≤ -r ∧ True) ∧ (True) := by
  have h9 := c_rcB T0 (by omega) (by omega) (by omega) (by omega) (by have := F0.2.2; omega) (Or.inr (Or.inl (by have := F1.2.2; omega)))
  exact ⟨⟨by omega, by omega, trivial⟩, trivial⟩
theorem k_rcB3 {V : zVw} {q r i x top a : Int} (T0 : q_runc V q r i x top) (C0 : 0 ≤ 431 - i) (C1 : 0 ≤ x) (C2 : 0 ≤ 431 - x) (C3 : 0 ≤ q - x - 1) (C4 : 0 ≤ i) (C5 : 0 ≤ a - 9) (F0 : (0 : Int) ≤ x ∧ (x : Int) < j_len 21 ∧ V 21 (x) = 1) (F1 : (0 : Int) ≤ x ∧ (x : Int) < j_len 22 ∧ V 22 (x) = a) : (0 ≤ r ∧ 0 ≤ -r ∧ True) ∧ (True) := by
  have h9 := c_rcB T0 (by omega) (by omega) (by omega) (by omega) (Or.inr F0.2.2) (Or.inr (Or.inr ⟨F0.2.2, by have := F1.2.2; omega⟩))
  exact ⟨⟨by omega, by omega, trivial⟩, trivial⟩
theorem k_rcN {V : zVw} {q r i x top u : Int} (T0 : q_runc V q r i x top) (C0 : 0 ≤ 431 - i) (C1 : 0 ≤ x) (C2 : 0 ≤ 431 - x) (C3 : 0 ≤ q - x - 1) (C4 : 0 ≤ i) (C5 : 0 ≤ u) (C6 : 0 ≤ 21 - top) (C7 : 0 ≤ u + 2147483648) (C8 : 0 ≤ 2147483647 - u) (F0 : (0 : Int) ≤ x ∧ (x : Int) < j_len 21 ∧ V 21 (x) = 0) (F1 : (0 : Int) ≤ x ∧ (x : Int) < j_len 22 ∧ V 22 (x) = u) (F2 : (0 : Int) ≤ top ∧ (top : Int) < j_len 24 ∧ V 24 (top) = u) : (True) ∧ (q_runc V q r (i + 1) (x + 1) (top + 1) ∧ True) := by
  exact ⟨trivial, c_rcP (u := u) T0 (by omega) (by omega) (by omega) (by omega) (Or.inl F0.2.2) ⟨by have := F1.2.2; omega, fun c => by have := F0.2.2; omega⟩ (by omega) (by rw [if_pos F0.2.2]; exact F1.2.2) (by omega) (by omega) F2.2.2, trivial⟩
theorem k_rcL {V : zVw} {q r i x top a u : Int} (T0 : q_runc V q r i x top) (C0 : 0 ≤ 431 - i) (C1 : 0 ≤ x) (C2 : 0 ≤ 431 - x) (C3 : 0 ≤ q - x - 1) (C4 : 0 ≤ i) (C5 : 0 ≤ a) (C6 : 0 ≤ 8 - a) (C7 : 0 ≤ 21 - top) (C8 : 0 ≤ u + 2147483648) (C9 : 0 ≤ 2147483647 - u) (F0 : (0 : Int) ≤ x ∧ (x : Int) < j_len 21 ∧ V 21 (x) = 1) (F1 : (0 : Int) ≤ x ∧ (x : Int) < j_len 22 ∧ V 22 (x) = a) (F2 : (0 : Int) ≤ a ∧ (a : Int) < j_len 26 ∧ V 26 (a) = u) (F3 : (0 : Int) ≤ top ∧ (top : Int) < j_len 24 ∧ V 24 (top) = u) : (True) ∧ (q_runc V q r (i + 1) (x + 1) (top + 1) ∧ True) := by
  exact ⟨trivial, c_rcP (u := u) T0 (by omega) (by omega) (by omega) (by omega) (Or.inr F0.2.2) ⟨by have := F1.2.2; omega, fun _ => by have := F1.2.2; omega⟩ (by omega) (by rw [if_neg (by rw [F0.2.2]; decide), F1.2.2]; exact F2.2.2) (by omega) (by omega) F3.2.2, trivial⟩
theorem k_rcX1 {V : zVw} {q r i x top s : Int} (T0 : q_runc V q r i x top) (C0 : 0 ≤ 431 - i) (C1 : 0 ≤ x) (C2 : 0 ≤ 431 - x) (C3 : 0 ≤ q - x - 1) (C4 : 0 ≤ i) (C5 : 0 ≤ s - 2) (C6 : 0 ≤ 6 - s) (C7 : 0 ≤ 1 - top) (F0 : (0 : Int) ≤ x ∧ (x : Int) < j_len 21 ∧ V 21 (x) = s) : (0 ≤ r ∧ 0 ≤ -r ∧ True) ∧ (True) := by
  have h9 := c_rcX1 T0 (by omega) (by omega) (by omega) (by omega) (by have := F0.2.2; omega) (by omega)
  exact ⟨⟨by omega, by omega, trivial⟩, trivial⟩
theorem k_rcX2 {V : zVw} {q r i x top : Int} (T0 : q_runc V q r i x top) (C0 : 0 ≤ 431 - i) (C1 : 0 ≤ x) (C2 : 0 ≤ 431 - x) (C3 : 0 ≤ q - x - 1) (C4 : 0 ≤ i) (C5 : 0 ≤ top - 2) (F0 : (0 : Int) ≤ x ∧ (x : Int) < j_len 21 ∧ V 21 (x) = 5) (F1 : (0 : Int) ≤ top - 1 ∧ (top - 1 : Int) < j_len 24 ∧ V 24 (top - 1) = 0) : (0 ≤ r ∧ 0 ≤ -r ∧ True) ∧ (True) := by
  have h9 := c_rcX2 T0 (by omega) (by omega) (by omega) (by omega) F0.2.2 (by omega) F1.2.2
  exact ⟨⟨by omega, by omega, trivial⟩, trivial⟩
theorem k_rcU1 {V : zVw} {q r i x top a y z : Int} (T0 : q_runc V q r i x top) (C0 : 0 ≤ 431 - i) (C1 : 0 ≤ x) (C2 : 0 ≤ 431 - x) (C3 : 0 ≤ q - x - 1) (C4 : 0 ≤ i) (C5 : 0 ≤ top - 2) (C6 : 0 ≤ y - z) (F0 : (0 : Int) ≤ x ∧ (x : Int) < j_len 21 ∧ V 21 (x) = 6) (F1 : (0 : Int) ≤ x ∧ (x : Int) < j_len 22 ∧ V 22 (x) = a) (F2 : (0 : Int) ≤ top - 2 ∧ (top - 2 : Int) < j_len 24 ∧ V 24 (top - 2) = y) (F3 : (0 : Int) ≤ top - 1 ∧ (top - 1 : Int) < j_len 24 ∧ V 24 (top - 1) = z) : (True) ∧ (q_runc V q r (i + 1) a (top - 2) ∧ True) := by
  have h9 := (c_rcU T0 (by omega) (by omega) (by omega) (by omega) F0.2.2 (by omega) F2.2.2 F3.2.2).1 (by omega)
  rw [F1.2.2] at h9
  exact ⟨trivial, h9, trivial⟩
theorem k_rcU0 {V : zVw} {q r i x top y z : Int} (T0 : q_runc V q r i x top) (C0 : 0 ≤ 431 - i) (C1 : 0 ≤ x) (C2 : 0 ≤ 431 - x) (C3 : 0 ≤ q - x - 1) (C4 : 0 ≤ i) (C5 : 0 ≤ top - 2) (C6 : 0 ≤ z - y - 1) (F0 : (0 : Int) ≤ x ∧ (x : Int) < j_len 21 ∧ V 21 (x) = 6) (F1 : (0 : Int) ≤ top - 2 ∧ (top - 2 : Int) < j_len 24 ∧ V 24 (top - 2) = y) (F2 : (0 : Int) ≤ top - 1 ∧ (top - 1 : Int) < j_len 24 ∧ V 24 (top - 1) = z) : (True) ∧ (q_runc V q r (i + 1) (x + 1) (top - 2) ∧ True) := by
  have h9 := (c_rcU T0 (by omega) (by omega) (by omega) (by omega) F0.2.2 (by omega) F1.2.2 F2.2.2).2 (by omega)
  exact ⟨trivial, h9, trivial⟩
theorem k_rcO_2 {V : zVw} {q r i x top y z w : Int} (T0 : q_runc V q r i x top) (T1 : (mOP 110 (Int32.ofInt y) (Int32.ofInt z)).toInt = w) (C0 : 0 ≤ 431 - i) (C1 : 0 ≤ x) (C2 : 0 ≤ 431 - x) (C3 : 0 ≤ q - x - 1) (C4 : 0 ≤ i) (C5 : 0 ≤ top - 2) (F0 : (0 : Int) ≤ x ∧ (x : Int) < j_len 21 ∧ V 21 (x) = 2) (F1 : (0 : Int) ≤ top - 2 ∧ (top - 2 : Int) < j_len 24 ∧ V 24 (top - 2) = y) (F2 : (0 : Int) ≤ top - 1 ∧ (top - 1 : Int) < j_len 24 ∧ V 24 (top - 1) = z) : (True) ∧ (q_run2c V q r (i + 1) (x + 1) (top - 2) w ∧ True) := by
  exact ⟨trivial, c_rcO (o := 2) T0 (by omega) (by omega) (by omega) (by omega) F0.2.2 (by omega) (by omega) F1.2.2 F2.2.2 (fun h => by omega) (show e_op 2 y z = w from T1), trivial⟩
theorem k_rcO_3 {V : zVw} {q r i x top y z w : Int} (T0 : q_runc V q r i x top) (T1 : (mOP 111 (Int32.ofInt y) (Int32.ofInt z)).toInt = w) (C0 : 0 ≤ 431 - i) (C1 : 0 ≤ x) (C2 : 0 ≤ 431 - x) (C3 : 0 ≤ q - x - 1) (C4 : 0 ≤ i) (C5 : 0 ≤ top - 2) (F0 : (0 : Int) ≤ x ∧ (x : Int) < j_len 21 ∧ V 21 (x) = 3) (F1 : (0 : Int) ≤ top - 2 ∧ (top - 2 : Int) < j_len 24 ∧ V 24 (top - 2) = y) (F2 : (0 : Int) ≤ top - 1 ∧ (top - 1 : Int) < j_len 24 ∧ V 24 (top - 1) = z) : (True) ∧ (q_run2c V q r (i + 1) (x + 1) (top - 2) w ∧ True) := by
  exact ⟨trivial, c_rcO (o := 3) T0 (by omega) (by omega) (by omega) (by omega) F0.2.2 (by omega) (by omega) F1.2.2 F2.2.2 (fun h => by omega) (show e_op 3 y z = w from T1), trivial⟩
