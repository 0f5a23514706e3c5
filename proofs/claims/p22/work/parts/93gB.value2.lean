noncomputable section
/-! ===== what LAWS come to: the class's steps and the model's branches alike ===== -/
section ZMC
variable {g h : Int → Int} {q s n l : Int} {e : Int → Int} {v : zVw}
/-- a code, upon a pile; none: a division by 0 -/
def e_L (e : Int → Int) : List (Int × Int) → List Int → Option (List Int)
  | [], s => some s
  | (a, z) :: C, s => if a < 2 then e_L e C (e_i (if a = 0 then z else e z) :: s) else match s with
    | y :: x :: t => if a = 5 ∧ y = 0 then none else e_L e C (e_op a x y :: t)
    | _ => none
theorem e_L_c {a z : Int} {C : List (Int × Int)} {s : List Int} : e_L e ((a, z) :: C) s = if a < 2 then e_L e C (e_i (if a = 0 then z else e z) :: s) else match s with
    | y :: x :: t => if a = 5 ∧ y = 0 then none else e_L e C (e_op a x y :: t)
    | _ => none := rfl
theorem e_T_c {f : Nat} {x : Int} {s : List Int} : e_T g h e (f + 1) x s = if g x < 2 then e_T g h e f (x + 1) (e_i (if g x = 0 then h x else e (h x)) :: s) else match s with
    | b :: a :: t => if g x = 5 ∧ b = 0 then none else e_T g h e f (x + 1) (e_op (g x) a b :: t)
    | _ => none := rfl
theorem e_C_c {f : Nat} {x : Int} {s : List Int} : e_C g h q e (f + 1) x s = if 0 ≤ x ∧ x < 432 ∧ x < q then (if g x = 7 then s.getLast?.getD 0 else if g x = 0 ∨ g x = 1 then (if 22 ≤ s.length ∨ h x < 0 ∨ (g x = 1 ∧ 9 ≤ h x) then 0 else e_C g h q e f (x + 1) (e_i (if g x = 0 then h x else e (h x)) :: s)) else match s with
    | b :: a :: t => if g x = 5 ∧ b = 0 then 0 else if g x = 6 then (if b ≤ a then e_C g h q e f (h x) t else e_C g h q e f (x + 1) t) else e_C g h q e f (x + 1) (e_op (g x) a b :: t)
    | _ => 0) else 0 := rfl
/-- rows that hold a code from x on -/
def e_H (g h : Int → Int) (x : Int) (C : List (Int × Int)) : Prop := ∀ (i : Nat) (y : Int × Int), C[i]? = some y → g (x + i) = y.1 ∧ h (x + i) = y.2
theorem e_H_c {a z x : Int} {C : List (Int × Int)} (H : e_H g h x ((a, z) :: C)) : g x = a ∧ h x = z ∧ e_H g h (x + 1) C := by
  have h0 := H 0 (a, z) rfl
  rw [show x + ((0 : Nat) : Int) = x by omega] at h0
  refine ⟨h0.1, h0.2, fun i y hi => ?_⟩
  have := H (i + 1) y (by rw [List.getElem?_cons_succ]; exact hi)
  rw [show x + ((i + 1 : Nat) : Int) = x + 1 + i by push_cast; omega] at this
  exact this
theorem e_H_l {x : Int} {C C' : List (Int × Int)} (H : e_H g h x (C ++ C')) : e_H g h x C := fun i y hi => H i y (by rw [List.getElem?_append_left (List.getElem?_eq_some_iff.mp hi).1]; exact hi)
theorem e_H_r {x : Int} {C C' : List (Int × Int)} (H : e_H g h x (C ++ C')) : e_H g h (x + C.length) C' := fun i y hi => by
  have := H (C.length + i) y (by rw [List.getElem?_append_right (by omega), Nat.add_sub_cancel_left]; exact hi)
  rw [show x + ((C.length + i : Nat) : Int) = x + C.length + i by push_cast; omega] at this
  exact this
theorem e_T_L : ∀ {C : List (Int × Int)} {x : Int} {s : List Int}, e_H g h x C → e_T g h e C.length x s = e_L e C s
  | [], x, s, _ => rfl
  | (a, z) :: C, x, s, H => by
    obtain ⟨h1, h2, h3⟩ := e_H_c H
    rw [List.length_cons, e_T_c, e_L_c, h1, h2]
    split
    · exact e_T_L h3
    · cases s with
      | nil => rfl
      | cons y s =>
        cases s with
        | nil => rfl
        | cons x' t =>
          dsimp only
          split
          · rfl
          · exact e_T_L h3
theorem e_L_len {K : Nat} : ∀ {C : List (Int × Int)} {s s' : List Int} {m' : Nat}, p_dp K C s.length = some m' → e_L e C s = some s' → s'.length = m'
  | [], s, s', m', h1, h2 => by
    cases h1
    cases h2
    rfl
  | (a, z) :: C, s, s', m', h1, h2 => by
    unfold p_dp at h1
    rw [e_L_c] at h2
    by_cases c1 : a = 0 ∨ a = 1
    · rw [if_pos c1] at h1
      rw [if_pos (by omega)] at h2
      split at h1
      · exact e_L_len (by rw [List.length_cons]; exact h1) h2
      · cases h1
    · rw [if_neg c1] at h1
      split at h1
      · next c2 =>
        rw [if_neg (by omega)] at h2
        cases s with
        | nil => simp at c2
        | cons y s =>
          cases s with
          | nil => simp at c2
          | cons x' t =>
            dsimp only at h2
            split at h2
            · cases h2
            · refine e_L_len (K := K) ?_ h2
              rw [List.length_cons]
              rw [List.length_cons, List.length_cons] at h1
              exact h1
      · cases h1
theorem e_L_up {K : Nat} {s0 : List Int} : ∀ {C : List (Int × Int)} {s : List Int} {m' : Nat}, p_dp K C s.length = some m' → e_L e C (s ++ s0) = (e_L e C s).map fun t => t ++ s0
  | [], s, m', h1 => rfl
  | (a, z) :: C, s, m', h1 => by
    unfold p_dp at h1
    rw [e_L_c, e_L_c]
    by_cases c1 : a = 0 ∨ a = 1
    · rw [if_pos c1] at h1
      rw [if_pos (show a < 2 by omega), if_pos (show a < 2 by omega)]
      split at h1
      · rw [← List.cons_append]
        exact e_L_up (by rw [List.length_cons]; exact h1)
      · cases h1
    · rw [if_neg c1] at h1
      split at h1
      · next c2 =>
        rw [if_neg (show ¬ a < 2 by omega), if_neg (show ¬ a < 2 by omega)]
        cases s with
        | nil => simp at c2
        | cons y s =>
          cases s with
          | nil => simp at c2
          | cons x' t =>
            dsimp only [List.cons_append]
            split
            · rfl
            · rw [← List.cons_append]
              refine e_L_up (K := K) (m' := m') ?_
              rw [List.length_cons]
              rw [List.length_cons, List.length_cons] at h1
              exact h1
      · cases h1
/-- the class's steps over a code -/
theorem e_C_L {K : Nat} (hK : K ≤ 22) (hq : q ≤ 432) : ∀ {C : List (Int × Int)} {x : Int} {s : List Int} {f m' : Nat}, e_H g h x C → p_dp K C s.length = some m' → 0 ≤ x → x + C.length ≤ q → e_C g h q e (f + C.length) x s = match e_L e C s with
    | none => 0
    | some s' => e_C g h q e f (x + C.length) s'
  | [], x, s, f, m', H, hd, h0, hx => by
    show e_C g h q e f x s = e_C g h q e f (x + ((0 : Nat) : Int)) s
    rw [show x + ((0 : Nat) : Int) = x by omega]
  | (a, z) :: C, x, s, f, m', H, hd, h0, hx => by
    obtain ⟨h1, h2, h3⟩ := e_H_c H
    rw [List.length_cons] at hx ⊢
    push_cast at hx
    rw [show f + (C.length + 1) = f + C.length + 1 by omega, e_C_c, if_pos ⟨h0, by omega, by omega⟩, h1, h2, e_L_c, show x + ((C.length + 1 : Nat) : Int) = x + 1 + C.length by push_cast; omega]
    unfold p_dp at hd
    by_cases c1 : a = 0 ∨ a = 1
    · rw [if_pos c1] at hd
      rw [if_neg (by omega), if_pos c1, if_pos (show a < 2 by omega)]
      split at hd
      · next c2 =>
        rw [if_neg (by omega)]
        exact e_C_L hK hq h3 (by rw [List.length_cons]; exact hd) (by omega) (by omega)
      · cases hd
    · rw [if_neg c1] at hd
      split at hd
      · next c2 =>
        rw [if_neg (by omega), if_neg c1, if_neg (show ¬ a < 2 by omega)]
        cases s with
        | nil => simp at c2
        | cons y s =>
          cases s with
          | nil => simp at c2
          | cons x' t =>
            dsimp only
            by_cases c3 : a = 5 ∧ y = 0
            · rw [if_pos c3, if_pos c3]
            · rw [if_neg c3, if_neg c3, if_neg (by omega)]
              refine e_C_L hK hq h3 (m' := m') ?_ (by omega) (by omega)
              rw [List.length_cons]
              rw [List.length_cons, List.length_cons] at hd
              exact hd
      · cases hd
/-- a code's one value -/
def e_1 (e : Int → Int) (C : List (Int × Int)) : Option Int := (e_L e C []).map fun s => s.getLast?.getD 0
theorem e_wf {C : List (Int × Int)} (hw : p_wf C) : e_L e C [] = none ∨ ∃ a, e_L e C [] = some [a] := by
  cases hl : e_L e C [] with
  | none => exact Or.inl rfl
  | some s =>
    have := e_L_len (K := 20) (s := []) hw hl
    cases s with
    | nil => cases this
    | cons a t =>
      cases t with
      | nil => exact Or.inr ⟨a, rfl⟩
      | cons _ _ => simp at this
/-- what a LAW of branches comes to -/
def e_R (e : Int → Int) : List (List (Int × Int) × List (Int × Int) × List (Int × Int)) → List (Int × Int) → Int
  | [], T => (e_1 e T).getD 0
  | (E, F, T0) :: B, T => match e_1 e E, e_1 e F with
    | some a, some b => if b ≤ a then e_R e B T else (e_1 e T0).getD 0
    | _, _ => 0
theorem e_C_end {x : Int} {f : Nat} {s : List Int} (h7 : g x = 7) (h0 : 0 ≤ x) (hx : x < q) (hq : q ≤ 432) : e_C g h q e (f + 1) x s = s.getLast?.getD 0 := by
  rw [e_C_c, if_pos ⟨h0, by omega, hx⟩, if_pos h7]
/-- a last term and its answer -/
theorem e_C_T {x : Int} {f : Nat} {T R : List (Int × Int)} (hq : q ≤ 432) (H : e_H g h x (T ++ (7, 0) :: R)) (hw : p_wf T) (h0 : 0 ≤ x) (hx : x + T.length < q) (hf : T.length + 1 ≤ f) : e_C g h q e f x [] = (e_1 e T).getD 0 := by
  obtain ⟨f', rfl⟩ : ∃ f', f = (f' + 1) + T.length := ⟨f - 1 - T.length, by omega⟩
  rw [e_C_L (K := 20) (s := []) (m' := 1) (by decide) hq (e_H_l H) hw h0 (by omega)]
  have h7 := (e_H_c (e_H_r H)).1
  unfold e_1
  cases hl : e_L e T [] with
  | none => rfl
  | some s' => exact e_C_end h7 (by omega) hx hq
theorem e_C_R (hq : q ≤ 432) : ∀ {B : List (List (Int × Int) × List (Int × Int) × List (Int × Int))} {T R : List (Int × Int)} {x : Int} {f : Nat}, e_H g h x (p_cb x B ++ T ++ (7, 0) :: R) → p_wb B → p_wf T → 0 ≤ x → x + (p_cb x B).length + T.length < q → (p_cb x B).length + T.length + 1 ≤ f → e_C g h q e f x [] = e_R e B T
  | [], T, R, x, f, H, hb, hw, h0, hx, hf => by
    have e0 : p_cb x [] = [] := rfl
    rw [e0] at H hx hf
    rw [List.nil_append] at H
    exact e_C_T hq H hw h0 (by simpa using hx) (by simpa using hf)
  | (E, F, T0) :: B, T, R, x, f, H, hb, hw, h0, hx, hf => by
    obtain ⟨w1, w2, w3⟩ := hb (E, F, T0) List.mem_cons_self
    dsimp only at w1 w2 w3
    rw [p_cb] at H hx hf
    simp only [List.append_assoc, List.cons_append] at H
    have l1 := p_cb_bl (B := B) (p := x + E.length + F.length + T0.length + 2)
    simp only [List.length_append, List.length_cons] at hx hf
    push_cast at hx
    have H1 := e_H_l H
    have H2 := e_H_r H
    have H3 := e_H_l H2
    have H4 := e_H_r H2
    obtain ⟨k1, k2, H5⟩ := e_H_c H4
    have H6 := e_H_r H5
    obtain ⟨k3, k4, H7⟩ := e_H_c H6
    obtain ⟨f1, rfl⟩ : ∃ f1, f = f1 + E.length := ⟨f - E.length, by omega⟩
    rw [e_C_L (K := 20) (s := []) (m' := 1) (by decide) hq H1 w1 h0 (by omega)]
    have he1 : e_1 e E = (e_L e E []).map fun s => s.getLast?.getD 0 := rfl
    have he2 : e_1 e F = (e_L e F []).map fun s => s.getLast?.getD 0 := rfl
    rw [e_R, he1, he2]
    rcases e_wf (e := e) w1 with g1 | ⟨a, g1⟩
    · rw [g1]
      rfl
    · rw [g1]
      dsimp only [Option.map_some]
      obtain ⟨f2, rfl⟩ : ∃ f2, f1 = f2 + F.length := ⟨f1 - F.length, by omega⟩
      have w2' : p_dp 21 F [a].length = some 2 := p_dp_up w2
      rw [e_C_L (K := 21) (by decide) hq H3 w2' (by omega) (by omega)]
      have hup := e_L_up (e := e) (s0 := [a]) (s := []) (K := 20) w2
      rw [List.nil_append] at hup
      rw [hup]
      rcases e_wf (e := e) w2 with g2 | ⟨b, g2⟩
      · rw [g2]
        rfl
      · rw [g2]
        dsimp only [Option.map_some, List.cons_append, List.nil_append]
        obtain ⟨f3, rfl⟩ : ∃ f3, f2 = f3 + 1 := ⟨f2 - 1, by omega⟩
        rw [e_C_c, if_pos ⟨by omega, by omega, by omega⟩, k1, k2, if_neg (by decide), if_neg (by decide)]
        dsimp only
        rw [if_neg (by omega), if_pos rfl]
        have x1 : x + E.length + F.length + 1 + T0.length + 1 = x + E.length + F.length + T0.length + 2 := by omega
        show (if b ≤ a then _ else _) = if b ≤ a then _ else _
        split
        · rw [x1] at H7
          exact e_C_R hq (R := R) (by simpa only [List.append_assoc, List.cons_append] using H7) (fun y hy => hb y (List.mem_cons_of_mem _ hy)) hw (by omega) (by omega) (by omega)
        · exact e_C_T hq H5 w3 (by omega) (by omega) (by omega)
/-! the model's -/
theorem e_V_1 {C : List (Int × Int)} {x z : Int} (H : e_H (v 72) (v 73) x C) (hz : z = x + C.length) : e_V v e x z = e_1 e C := by
  unfold e_V e_1
  rw [show (z - x).toNat = C.length by omega, e_T_L H]
theorem e_B_R {s : Int} : ∀ {B : List (List (Int × Int) × List (Int × Int) × List (Int × Int))} {T R : List (Int × Int)} {x j : Int} {X : List (Int × Int × Int × Int × Int)}, e_H (v 72) (v 73) x (p_mb B ++ T ++ R) → (∀ (i : Nat) (y : Int × Int × Int × Int × Int), (p_eb x B ++ (0, 0, 0, x + (p_mb B).length, x + (p_mb B).length + T.length) :: X)[i]? = some y → p_b1 v (j + i) y) → e_B v e (B.length + 1) j = e_R e B T
  | [], T, R, x, j, X, H, hj => by
    have h0 := hj 0 _ rfl
    rw [show j + ((0 : Nat) : Int) = j by omega] at h0
    obtain ⟨h1, -, h3, h4⟩ := h0
    have e0 : p_mb ([] : List (List (Int × Int) × List (Int × Int) × List (Int × Int))) = [] := rfl
    rw [e0, List.nil_append] at H
    rw [e0] at h3 h4
    rw [List.length_nil, Nat.zero_add, e_B, h1, if_neg (fun g => g rfl), e_R, h3, h4]
    dsimp only [List.length_nil]
    rw [e_V_1 (C := T) (by rw [show x + ((0 : Nat) : Int) = x by omega]; exact e_H_l H) (by omega)]
  | (E, F, T0) :: B, T, R, x, j, X, H, hj => by
    have h0 := hj 0 _ rfl
    rw [show j + ((0 : Nat) : Int) = j by omega] at h0
    obtain ⟨h1, h2, h3, h4⟩ := h0
    dsimp only at h1 h2 h3 h4
    obtain ⟨h5, h6⟩ := h2 rfl
    rw [p_mb] at H
    simp only [List.append_assoc] at H
    have H1 := e_H_l H
    have H2 := e_H_r H
    have H3 := e_H_l H2
    have H4 := e_H_r H2
    have H5 := e_H_l H4
    have H6 := e_H_r H4
    rw [List.length_cons, e_B, h1, if_pos (by decide), e_R, h3, h4, h5, h6, e_V_1 H1 rfl, e_V_1 H3 rfl, e_V_1 H5 rfl]
    have ih := e_B_R (s := s) (B := B) (T := T) (R := R) (x := x + E.length + F.length + T0.length) (j := j + 1) (X := X) (by simpa only [List.append_assoc] using H6) (fun i y hi => by
      have := hj (i + 1) y (by
        rw [p_eb, List.cons_append, List.getElem?_cons_succ, p_mb]
        simp only [List.length_append]
        push_cast
        rw [show x + ((E.length : Int) + F.length + T0.length + (p_mb B).length) = x + E.length + F.length + T0.length + (p_mb B).length by omega]
        exact hi)
      rw [show j + ((i + 1 : Nat) : Int) = j + 1 + i by push_cast; omega] at this
      exact this)
    cases e_1 e E with
    | none => rfl
    | some a =>
      cases e_1 e F with
      | none => rfl
      | some b =>
        dsimp only
        split
        · exact ih
        · rfl
/-! one LAW among those told -/
theorem p_find (k : Int) : ∀ (D : List (Int × List (List (Int × Int) × List (Int × Int) × List (Int × Int)) × List (Int × Int))), (∃ D1 B T D2, D = D1 ++ (k, B, T) :: D2 ∧ ∀ y ∈ D2, y.1 ≠ k) ∨ ∀ y ∈ D, y.1 ≠ k
  | [] => Or.inr fun y h => absurd h List.not_mem_nil
  | (j, B, T) :: D => by
    rcases p_find k D with ⟨D1, B1, T1, D2, h1, h2⟩ | h
    · exact Or.inl ⟨(j, B, T) :: D1, B1, T1, D2, by rw [h1]; rfl, h2⟩
    · by_cases hj : j = k
      · exact Or.inl ⟨[], B, T, D, by rw [hj]; rfl, h⟩
      · refine Or.inr fun y hy => ?_
        rcases List.mem_cons.mp hy with rfl | hy
        · exact hj
        · exact h y hy
theorem p_sD_no {k : Int} : ∀ {D : List (Int × List (List (Int × Int) × List (Int × Int) × List (Int × Int)) × List (Int × Int))} {p d : Int}, (∀ y ∈ D, y.1 ≠ k) → p_sD p D k d = d
  | [], p, d, _ => rfl
  | (j, B, T) :: D, p, d, h => by
    have h1 : j ≠ k := h (j, B, T) List.mem_cons_self
    rw [p_sD, if_neg h1]
    exact p_sD_no fun y hy => h y (List.mem_cons_of_mem _ hy)
theorem p_sD_at {k : Int} {B : List (List (Int × Int) × List (Int × Int) × List (Int × Int))} {T : List (Int × Int)} {D2 : List (Int × List (List (Int × Int) × List (Int × Int) × List (Int × Int)) × List (Int × Int))} (h2 : ∀ y ∈ D2, y.1 ≠ k) : ∀ {D : List (Int × List (List (Int × Int) × List (Int × Int) × List (Int × Int)) × List (Int × Int))} {p d : Int}, p_sD p (D ++ (k, B, T) :: D2) k d = p + (p_cd p D).length ∧ p_cd p (D ++ (k, B, T) :: D2) = p_cd p D ++ (p_cb (p + (p_cd p D).length) B ++ T ++ (7, 0) :: p_cd (p + (p_cd p D).length + (p_cb (p + (p_cd p D).length) B).length + T.length + 1) D2)
  | [], p, d => by
    have e0 : p_cd p ([] : List (Int × List (List (Int × Int) × List (Int × Int) × List (Int × Int)) × List (Int × Int))) = [] := rfl
    rw [List.nil_append, p_sD, if_pos rfl, p_sD_no h2, e0, p_cd]
    simp
  | (j, B1, T1) :: D, p, d => by
    rw [List.cons_append, p_sD, p_cd, p_cd]
    obtain ⟨h3, h4⟩ := p_sD_at h2 (B := B) (T := T) (D := D) (p := p + (p_cb p B1).length + T1.length + 1) (d := if j = k then p else d)
    rw [h3, h4]
    simp only [List.append_assoc, List.cons_append, List.length_append, List.length_cons]
    have ea : p + ((p_cb p B1).length : Int) + T1.length + 1 + ((p_cd (p + (p_cb p B1).length + T1.length + 1) D).length : Int) = p + (((p_cb p B1).length + (T1.length + ((p_cd (p + (p_cb p B1).length + T1.length + 1) D).length + 1)) : Nat) : Int) := by push_cast; omega
    rw [ea]
    exact ⟨rfl, rfl⟩
theorem p_fl_no {k : Int} : ∀ {D : List (Int × List (List (Int × Int) × List (Int × Int) × List (Int × Int)) × List (Int × Int))} {p : Int} {d : Int × Int}, (∀ y ∈ D, y.1 ≠ k) → p_fl p D k d = d
  | [], p, d, _ => rfl
  | (j, B, T) :: D, p, d, h => by
    have h1 : j ≠ k := h (j, B, T) List.mem_cons_self
    rw [p_fl, if_neg h1]
    exact p_fl_no fun y hy => h y (List.mem_cons_of_mem _ hy)
theorem p_fl_at {k : Int} {B : List (List (Int × Int) × List (Int × Int) × List (Int × Int))} {T : List (Int × Int)} {D2 : List (Int × List (List (Int × Int) × List (Int × Int) × List (Int × Int)) × List (Int × Int))} (h2 : ∀ y ∈ D2, y.1 ≠ k) : ∀ {D : List (Int × List (List (Int × Int) × List (Int × Int) × List (Int × Int)) × List (Int × Int))} {p : Int} {d : Int × Int}, p_fl p (D ++ (k, B, T) :: D2) k d = (p + p_ll D, p + p_ll D + B.length + 1)
  | [], p, d => by
    rw [List.nil_append, p_fl, if_pos rfl, p_fl_no h2, p_ll]
    simp
  | (j, B1, T1) :: D, p, d => by
    rw [List.cons_append, p_fl, p_fl_at h2 (D := D), p_ll]
    push_cast
    simp only [Int.add_assoc]
theorem p_md_at {X : Int × List (List (Int × Int) × List (Int × Int) × List (Int × Int)) × List (Int × Int)} {D2 : List (Int × List (List (Int × Int) × List (Int × Int) × List (Int × Int)) × List (Int × Int))} : ∀ {D : List (Int × List (List (Int × Int) × List (Int × Int) × List (Int × Int)) × List (Int × Int))} {p : Int}, p_md (D ++ X :: D2) = p_md D ++ (p_mb X.2.1 ++ X.2.2 ++ p_md D2) ∧ p_ed p (D ++ X :: D2) = p_ed p D ++ p_ed (p + (p_md D).length) (X :: D2)
  | [], p => by
    obtain ⟨j, B, T⟩ := X
    refine ⟨rfl, ?_⟩
    show p_ed p ((j, B, T) :: D2) = p_ed (p + ((0 : Nat) : Int)) ((j, B, T) :: D2)
    rw [show p + ((0 : Nat) : Int) = p by omega]
  | (j, B1, T1) :: D, p => by
    obtain ⟨h3, h4⟩ := p_md_at (X := X) (D2 := D2) (D := D) (p := p + (p_mb B1).length + T1.length)
    rw [List.cons_append, p_md, p_ed, p_md, p_ed, h3, h4]
    simp only [List.append_assoc, List.cons_append, List.length_append]
    refine ⟨trivial, ?_⟩
    rw [show p + ((p_mb B1).length : Int) + T1.length + (p_md D).length = p + (((p_mb B1).length + (T1.length + (p_md D).length) : Nat) : Int) by push_cast; omega]
theorem p_md_dl : ∀ {D : List (Int × List (List (Int × Int) × List (Int × Int) × List (Int × Int)) × List (Int × Int))}, (p_md D).length ≤ p_dl D
  | [] => Nat.le_refl _
  | (j, B, T) :: D => by
    have hb : ∀ B : List (List (Int × Int) × List (Int × Int) × List (Int × Int)), (p_mb B).length ≤ p_bl B := by
      intro B
      induction B with
      | nil => exact Nat.le_refl _
      | cons a B ih =>
        obtain ⟨E, F, T⟩ := a
        rw [p_mb, p_bl]
        simp only [List.length_append]
        omega
    have h1 := hb B
    have h2 := p_md_dl (D := D)
    rw [p_md, p_dl]
    simp only [List.length_append]
    omega
/-- both texts' LAWS are the same -/
theorem c_leq (hn : 0 ≤ n) (hs : 0 ≤ s) (hs1 : s ≤ 1) (hc : q_flw (t_b v) (v 21) (v 22) (v 23) n q) (hm : q_mflw v n s) : q_leq v s (1 - s) q := by
  obtain ⟨c, he, hA, hS⟩ := hc
  obtain ⟨-, c', k', bb, he', hC, hB, hbb, hL⟩ := hm
  have hcc := q_end_u he he'
  subst hcc
  obtain ⟨⟨Q, e0⟩, hz⟩ := he
  have hi2 := p_i2_ok hn e0
  have hlen := p_len e0
  have hcb : c ≤ 400 := by
    cases c with
    | zero => omega
    | succ c =>
      obtain ⟨Q1, -, h4, -⟩ := a_run_pre e0
      omega
  obtain ⟨hw, -⟩ := hi2
  rw [p_cc_len] at hlen
  have hq : q ≤ 432 := by
    have := hA.1
    unfold p_c0 at this
    simp only [List.length_append, List.length_cons, List.length_nil, p_cd_dl] at this
    push_cast at this
    omega
  have hmd := p_md_dl (D := (p_y (t_b v) n c).1)
  exact ⟨hs, by omega, by omega, hq, p_y (t_b v) n c, k', bb, hw, hA, hS, hC, by omega, hB, hbb, hL⟩
/-- they come to the same -/
theorem c_leqV {k : Int} (hh : q_leq v l s q) (k0 : 0 ≤ k) (k1 : k < 4) (e : Int → Int) : e_C (v 21) (v 22) q e 432 (v 23 k) [] = e_M v l k e := by
  obtain ⟨hl, hs, hls, hq, Y, k', bb, hw, hA, hS, hC, hmd, hB, hbb, hL⟩ := hh
  obtain ⟨D, kk, B0, E0, F0, O0, w0⟩ := Y
  dsimp only at hC hB hw
  have hSk := hS k k0 k1
  have hLk := hL k k0 k1
  unfold p_st at hSk
  unfold p_lw at hLk
  dsimp only at hSk hLk
  have hH : e_H (v 21) (v 22) 0 (p_c0 (D, kk, B0, E0, F0, O0, w0)) := fun i y hi => by
    rw [show (0 : Int) + (i : Int) = i by omega]
    exact hA.2 i y hi
  have hql := hA.1
  unfold p_c0 at hH hql
  dsimp only at hH hql
  unfold e_M
  rcases p_find k D with ⟨D1, B, T, D2, h1, h2⟩ | h
  · subst h1
    obtain ⟨hwb, hwf⟩ := hw (k, B, T) (List.mem_append_right _ List.mem_cons_self)
    dsimp only at hwb hwf
    obtain ⟨s1, s2⟩ := p_sD_at h2 (B := B) (T := T) (D := D1) (p := 8) (d := if k = 2 then 2 else if k = 3 then 6 else 0)
    rw [s1] at hSk
    rw [p_fl_at h2] at hLk
    obtain ⟨f1, f2⟩ := hLk
    dsimp only at f1 f2
    obtain ⟨m1, m2⟩ := p_md_at (X := (k, B, T)) (D2 := D2) (D := D1) (p := 420 * l)
    dsimp only at m1
    rw [if_neg (by omega), hSk, show (v 66 (4 * l + k) - v 65 (4 * l + k)).toNat = B.length + 1 by omega, f1]
    rw [s2] at hH hql
    have hH2 := e_H_r (e_H_r hH)
    rw [show (0 : Int) + (([(0, 1), (7, 0), (1, 2), (0, 10), (4, 0), (7, 0), (1, 0), (7, 0)] : List (Int × Int)).length : Int) = 8 by decide] at hH2
    simp only [List.length_append, List.length_cons, List.length_nil] at hql
    push_cast at hql
    rw [e_C_R hq hH2 hwb hwf (by omega) (by omega) (by
      omega)]
    rw [m1] at hC
    rw [m2] at hB
    have hH3 : e_H (v 72) (v 73) (420 * l) (p_md D1 ++ (p_mb B ++ T ++ p_md D2)) := hC.2
    refine (e_B_R (s := l) (R := p_md D2) (X := p_ed (420 * l + (p_md D1).length + (p_mb B).length + T.length) D2) (e_H_r hH3) (fun i y hi => ?_)).symm
    have := hB.2 ((p_ed (420 * l) D1).length + i) y (by
      rw [List.getElem?_append_right (by omega), Nat.add_sub_cancel_left, p_ed]
      exact hi)
    rw [p_ed_len] at this
    rw [show 130 * l + (p_ll D1 : Int) + (i : Int) = 130 * l + ((p_ll D1 + i : Nat) : Int) by push_cast; omega]
    exact this
  · rw [p_sD_no h] at hSk
    rw [p_fl_no h] at hLk
    rw [hLk.1, hLk.2, if_pos rfl, hSk]
    have g0 := hA.2
    have hq8 : 8 ≤ q := by
      simp only [List.length_append, List.length_cons, List.length_nil] at hql
      push_cast at hql
      omega
    have hat : ∀ (i : Nat) (a z : Int), ([(0, 1), (7, 0), (1, 2), (0, 10), (4, 0), (7, 0), (1, 0), (7, 0)] : List (Int × Int))[i]? = some (a, z) → v 21 i = a ∧ v 22 i = z := fun i a z hi => by
      have := e_H_l hH i (a, z) hi
      rw [show (0 : Int) + (i : Int) = i by omega] at this
      exact this
    have i0 := hat 0 0 1 rfl
    have i1 := hat 1 7 0 rfl
    have i2 := hat 2 1 2 rfl
    have i3 := hat 3 0 10 rfl
    have i4 := hat 4 4 0 rfl
    have i5 := hat 5 7 0 rfl
    have i6 := hat 6 1 0 rfl
    have i7 := hat 7 7 0 rfl
    have hk4 : k = 0 ∨ k = 1 ∨ k = 2 ∨ k = 3 := by omega
    have P0 : e_C (v 21) (v 22) q e 432 0 [] = 1 := by
      rw [show (432 : Nat) = 430 + 1 + 1 by rfl, e_C_c, if_pos ⟨by omega, by omega, by omega⟩, show v 21 0 = 0 from i0.1, show v 22 0 = 1 from i0.2, if_neg (by decide), if_pos (Or.inl rfl), if_neg (by decide), if_pos rfl, e_C_c, if_pos ⟨by omega, by omega, by omega⟩, show v 21 (0 + 1) = 7 from i1.1, if_pos rfl]
      rfl
    rcases hk4 with rfl | rfl | rfl | rfl
    · rw [if_neg (by decide), if_neg (by decide), P0]
      rfl
    · rw [if_neg (by decide), if_neg (by decide), P0]
      rfl
    · rw [if_pos rfl, show (432 : Nat) = 428 + 1 + 1 + 1 + 1 by rfl, e_C_c, if_pos ⟨by omega, by omega, by omega⟩, show v 21 2 = 1 from i2.1, show v 22 2 = 2 from i2.2, if_neg (by decide), if_pos (Or.inr rfl), if_neg (by decide), if_neg (by decide), e_C_c, if_pos ⟨by omega, by omega, by omega⟩, show v 21 (2 + 1) = 0 from i3.1, show v 22 (2 + 1) = 10 from i3.2, if_neg (by decide), if_pos (Or.inl rfl), if_neg (by simp), if_pos rfl, e_C_c, if_pos ⟨by omega, by omega, by omega⟩, show v 21 (2 + 1 + 1) = 4 from i4.1, if_neg (by decide), if_neg (by decide)]
      dsimp only
      rw [if_neg (by decide), if_neg (by decide), e_C_c, if_pos ⟨by omega, by omega, by omega⟩, show v 21 (2 + 1 + 1 + 1) = 7 from i5.1, if_pos rfl]
      rfl
    · rw [if_neg (by decide), if_pos rfl, show (432 : Nat) = 430 + 1 + 1 by rfl, e_C_c, if_pos ⟨by omega, by omega, by omega⟩, show v 21 6 = 1 from i6.1, show v 22 6 = 0 from i6.2, if_neg (by decide), if_pos (Or.inr rfl), if_neg (by decide), if_neg (by decide), e_C_c, if_pos ⟨by omega, by omega, by omega⟩, show v 21 (6 + 1) = 7 from i7.1, if_pos rfl]
      rfl
end ZMC
end
