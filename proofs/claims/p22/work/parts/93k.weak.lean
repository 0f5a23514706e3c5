noncomputable section
/-! ===== the weaker labels ===== -/
def l_wk (a b : zLab) : Bool := decide (a = b) || (Nat.beq a.1 0 && Nat.beq b.1 0 && Nat.beq a.2.1 b.2.1 && Nat.beq a.2.2.2.length b.2.2.2.length && (List.range b.2.2.2.length).all fun k => decide (a.2.2.2[k]? = b.2.2.2[k]?) || decide (b.2.2.2[k]? = some (3, 0, 0)))
theorem y_C_wk {Γ : List Nat} {a b : zLab} {c : mC} (h : l_wk a b = true) (q : y_C Γ a c) : y_C Γ b c := by
  unfold l_wk at h
  rw [Bool.or_eq_true, decide_eq_true_eq] at h
  rcases h with rfl | h
  · exact q
  · simp only [Bool.and_eq_true] at h
    obtain ⟨⟨⟨⟨h1, h2⟩, h3⟩, h4⟩, h5⟩ := h
    obtain ⟨a1, a2, a3, a4⟩ := a
    obtain ⟨b1, b2, b3, b4⟩ := b
    dsimp only at h1 h2 h3 h4 h5
    have e1 : a1 = 0 := Nat.eq_of_beq_eq_true h1
    have e2 : b1 = 0 := Nat.eq_of_beq_eq_true h2
    have e3 : a2 = b2 := Nat.eq_of_beq_eq_true h3
    have e4 : a4.length = b4.length := Nat.eq_of_beq_eq_true h4
    subst e1 e2 e3
    unfold y_C at q ⊢
    dsimp only at q ⊢
    obtain ⟨fs, hc, hf⟩ := q
    refine ⟨fs, hc, fun k ft hk => ?_⟩
    have hlt : k < b4.length := (List.getElem?_eq_some_iff.mp hk).1
    have h6 := List.all_eq_true.mp h5 k (List.mem_range.mpr hlt)
    rw [Bool.or_eq_true, decide_eq_true_eq, decide_eq_true_eq] at h6
    rcases h6 with e | e
    · exact hf k ft (by rw [e]; exact hk)
    · rw [hk] at e
      cases e
      obtain ⟨x, hx, -⟩ := hf k _ (List.getElem?_eq_getElem (by omega : k < a4.length))
      exact ⟨x, hx, trivial⟩
set_option maxRecDepth 100000 in
theorem l_wk_all : decide (mLT.length = mLT1.length) = true ∧ (List.range mLT.length).all (fun l => match mLT1[l]?, mLT[l]? with | some a, some b => l_wk a b | _, _ => false) = true := by decide +kernel
theorem y_H_wk {Γ : List Nat} {h : mH} (q : y_H Γ mLT1 h) : y_H Γ mLT h := by
  refine ⟨q.1, fun a l lab c ha hl hc => ?_⟩
  have hlt : l < mLT.length := (List.getElem?_eq_some_iff.mp hl).1
  have h1 := List.all_eq_true.mp l_wk_all.2 l (List.mem_range.mpr hlt)
  rw [hl] at h1
  cases e : mLT1[l]? with
  | none => rw [e] at h1; cases h1
  | some lab1 =>
    rw [e] at h1
    exact y_C_wk h1 (q.2 a l lab1 c ha e hc)
theorem mTS2_ok1 {W : Bool} {X : List Int32} : y_TS (mGw W) mLT1 (J2 W X) mTS2 := fun S σ ρ ls st h h' t r sl v q hH => mTS2_ok S σ ρ ls st h h' t r sl v q (y_H_wk hH)
theorem mTC2_ok1 {W : Bool} {X : List Int32} : y_TC (mGw W) mLT1 (J2 W X) mTC2 := fun t cl h h' zs hx hH hH' => mTC2_ok t cl h h' zs hx (y_H_wk hH) (y_H_wk hH')
theorem mRUp_ok1 {W : Bool} {X : List Int32} : y_RU (mGw W) mLT1 (J2 W X) mRUp := fun k S l σ ρ ls st h hx q hH => mRUp_ok k S l σ ρ ls st h hx q (y_H_wk hH)
end
