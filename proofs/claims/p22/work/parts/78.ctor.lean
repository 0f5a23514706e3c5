noncomputable section
/-! ===== a heap of the small machine against its labels, by program ===== -/
def mX0 : Nat → Option (Nat × List Int32)
  | 2 => some (2, mST0)
  | 4 => some (2, mST1)
  | _ => none
theorem mX0_mono {X : List Int32} : ∀ k v, mX0 k = some v → mXA X k = some v := by
  intro k v h
  unfold mX0 at h
  split at h
  · exact h
  · exact h
  · cases h
def y_FTb (Γ : List Nat) (ft : zFT) (x : mV) : Bool := match ft.1, x with
  | 0, .inl i => decide (ft.2.1 ≤ i.toInt) && decide (i.toInt ≤ ft.2.2)
  | 1, .inr (.inl _) => true
  | 3, _ => true
  | 2, .inr (.inr (.inl none)) => decide (ft.2.2 ≠ 0)
  | 2, .inr (.inr (.inl (some a))) => decide (Γ[a]? = some ft.2.1.toNat)
  | _, _ => false
theorem y_FTb_ok {Γ : List Nat} {ft : zFT} {x : mV} (h : y_FTb Γ ft x = true) : y_FT Γ ft x := by
  obtain ⟨k, p⟩ := ft
  unfold y_FTb at h
  unfold y_FT
  dsimp only at h ⊢
  split at h
  · next i =>
    simp only [Bool.and_eq_true, decide_eq_true_eq] at h
    exact ⟨i, rfl, h.1, h.2⟩
  · next j => exact ⟨j, rfl⟩
  · trivial
  · exact ⟨none, rfl, of_decide_eq_true h⟩
  · next a => exact ⟨some a, rfl, of_decide_eq_true h⟩
  · cases h
def y_FTs (Γ : List Nat) : List zFT → List mV → Bool
  | [], _ => true
  | ft :: r, x :: s => y_FTb Γ ft x && y_FTs Γ r s
  | _ :: _, [] => false
theorem y_FTs_ok {Γ : List Nat} : ∀ {l : List zFT} {fs : List mV}, y_FTs Γ l fs = true → ∀ (k : Nat) (ft : zFT), l[k]? = some ft → ∃ x, fs[k]? = some x ∧ y_FT Γ ft x
  | [], _, _ => fun k ft h => by simp at h
  | f0 :: r, x :: s, h => by
    unfold y_FTs at h
    rw [Bool.and_eq_true] at h
    intro k ft hk
    cases k with
    | zero => cases hk; exact ⟨x, rfl, y_FTb_ok h.1⟩
    | succ k =>
      obtain ⟨y, g1, g2⟩ := y_FTs_ok h.2 k ft (by simpa using hk)
      exact ⟨y, by simpa using g1, g2⟩
  | _ :: _, [], h => by cases h
/-- an array's ints: l has a range for each place, modulo its length -/
def y_Is (l : List zFT) : Nat → List Int32 → Bool
  | _, [] => true
  | j, i :: r => (match l[j % l.length]? with
    | some (0, a, b) => decide (a ≤ i.toInt) && decide (i.toInt ≤ b)
    | _ => true) && y_Is l (j + 1) r
theorem y_Is_ok {l : List zFT} : ∀ {xs : List Int32} {j : Nat}, y_Is l j xs = true → ∀ (k : Nat) (i : Int32), xs[k]? = some i → ∀ ft : zFT, l[(j + k) % l.length]? = some ft → ft.1 = 0 → ft.2.1 ≤ i.toInt ∧ i.toInt ≤ ft.2.2
  | [], _, _ => fun k i h => by simp at h
  | x :: r, j, h => by
    unfold y_Is at h
    rw [Bool.and_eq_true] at h
    intro k i hk ft hf h0
    cases k with
    | zero =>
      cases hk
      obtain ⟨n, a, b⟩ := ft
      dsimp only at h0 ⊢
      subst h0
      have g := h.1
      rw [Nat.add_zero] at hf
      rw [hf] at g
      have g2 : (decide (a ≤ x.toInt) && decide (x.toInt ≤ b)) = true := g
      simp only [Bool.and_eq_true, decide_eq_true_eq] at g2
      exact g2
    | succ k =>
      exact y_Is_ok h.2 k i (by simpa using hk) ft (by rw [show j + 1 + k = j + (k + 1) by omega]; exact hf) h0
/-- an array's references: l has a type for each place, modulo its length -/
def y_Rs (Γ : List Nat) (l : List zFT) : Nat → List (Option Nat) → Bool
  | _, [] => true
  | j, r :: t => (match l[j % l.length]?, r with
    | some ft, none => decide (ft.2.2 ≠ 0)
    | some ft, some a => decide (Γ[a]? = some ft.2.1.toNat)
    | none, _ => true) && y_Rs Γ l (j + 1) t
theorem y_Rs_ok {Γ : List Nat} {l : List zFT} : ∀ {xs : List (Option Nat)} {j : Nat}, y_Rs Γ l j xs = true → ∀ (k : Nat) (r : Option Nat), xs[k]? = some r → ∀ ft : zFT, l[(j + k) % l.length]? = some ft → match r with
    | none => ft.2.2 ≠ 0
    | some a => Γ[a]? = some ft.2.1.toNat
  | [], _, _ => fun k r h => by simp at h
  | x :: t, j, h => by
    unfold y_Rs at h
    rw [Bool.and_eq_true] at h
    intro k r hk ft hf
    cases k with
    | zero =>
      cases hk
      rw [Nat.add_zero] at hf
      have g := h.1
      rw [hf] at g
      cases x with
      | none => exact of_decide_eq_true g
      | some a => exact of_decide_eq_true g
    | succ k => exact y_Rs_ok h.2 k r (by simpa using hk) ft (by rw [show j + 1 + k = j + (k + 1) by omega]; exact hf)
def y_Cb (Γ : List Nat) (lab : zLab) (c : mC) : Bool := match lab.1, c with
  | 0, .inl (ci, fs) => decide (ci = lab.2.1) && y_FTs Γ lab.2.2.2 fs
  | 1, .inr (t, .inl xs) => decide (t = lab.2.1) && decide (xs.length = lab.2.2.1) && decide (xs.length < 2147483648) && y_Is lab.2.2.2 0 xs
  | 2, .inr (t, .inr (.inl xs)) => decide (t = 1) && decide (xs.length = lab.2.2.1) && decide (xs.length < 2147483648)
  | _ + 3, .inr (t, .inr (.inr xs)) => decide (t = 4) && decide (xs.length = lab.2.2.1) && decide (xs.length < 2147483648) && y_Rs Γ lab.2.2.2 0 xs
  | _, _ => false
theorem y_Cb_ok {Γ : List Nat} {lab : zLab} {c : mC} (h : y_Cb Γ lab c = true) : y_C Γ lab c := by
  obtain ⟨k, p, n, l⟩ := lab
  unfold y_Cb at h
  unfold y_C
  dsimp only at h ⊢
  split at h
  · next ci fs =>
    simp only [Bool.and_eq_true, decide_eq_true_eq] at h
    obtain ⟨rfl, h2⟩ := h
    exact ⟨fs, rfl, y_FTs_ok h2⟩
  · next t xs =>
    simp only [Bool.and_eq_true, decide_eq_true_eq] at h
    obtain ⟨⟨⟨rfl, h2⟩, h3⟩, h4⟩ := h
    exact ⟨xs, rfl, h2, h3, fun j i hi ft hf h0 => y_Is_ok h4 j i hi ft (by rw [Nat.zero_add]; exact hf) h0⟩
  · next t xs =>
    simp only [Bool.and_eq_true, decide_eq_true_eq] at h
    obtain ⟨⟨rfl, h2⟩, h3⟩ := h
    exact ⟨xs, rfl, h2, h3⟩
  · next m t xs =>
    simp only [Bool.and_eq_true, decide_eq_true_eq] at h
    obtain ⟨⟨⟨rfl, h2⟩, h3⟩, h4⟩ := h
    exact ⟨xs, rfl, h2, h3, fun j r hr ft hf => y_Rs_ok h4 j r hr ft (by rw [Nat.zero_add]; exact hf)⟩
  · cases h
def y_Hs (Γ : List Nat) (LT : List zLab) : List Nat → List mC → Bool
  | [], [] => true
  | l :: t, c :: r => (match LT[l]? with
    | some lab => y_Cb Γ lab c
    | none => true) && y_Hs Γ LT t r
  | _, _ => false
theorem y_Hs_ok {Γ : List Nat} {LT : List zLab} : ∀ {g : List Nat} {h : List mC}, y_Hs Γ LT g h = true → h.length = g.length ∧ ∀ (a l : Nat) (lab : zLab) (c : mC), g[a]? = some l → LT[l]? = some lab → h[a]? = some c → y_C Γ lab c
  | [], [], _ => ⟨rfl, fun a l lab c h => by simp at h⟩
  | l0 :: t, c0 :: r, h => by
    unfold y_Hs at h
    rw [Bool.and_eq_true] at h
    obtain ⟨g1, g2⟩ := y_Hs_ok h.2
    refine ⟨by simp [g1], fun a l lab c h1 h2 h3 => ?_⟩
    cases a with
    | zero =>
      cases h1
      cases h3
      have g := h.1
      rw [h2] at g
      exact y_Cb_ok g
    | succ a => exact g2 a l lab c (by simpa using h1) h2 (by simpa using h3)
  | [], _ :: _, h => by cases h
  | _ :: _, [], h => by cases h
theorem y_Hb {Γ : List Nat} {LT : List zLab} {h : mH} (q : y_Hs Γ LT Γ h = true) : y_H Γ LT h := y_Hs_ok q
end
