noncomputable section
/-! ===== the sentences: what they say of what arrays hold ===== -/
/-- what the model's array of that label holds at i -/
def j_g (h : mH) (l : Nat) (i : Int) : Int := match h[l + 274]? with
  | some (.inr (_, .inl xs)) => (xs.getD i.toNat 0).toInt
  | _ => 0
def j_st (d k v : Int) : Option Int :=
  if k = 0 then some (d + 1) else if k = 1 then (if 0 ≤ v ∧ v ≤ 8 then some (d + 1) else none) else if 2 ≤ k ∧ k ≤ 5 ∧ 2 ≤ d then some (d - 1) else none
def j_run (g : Nat → Int → Int) (f : Int) : Nat → Option Int
  | 0 => some 0
  | n + 1 => match j_run g f n with
    | some d => j_st d (g 72 (f + n)) (g 73 (f + n))
    | none => none
def j_rp (g : Nat → Int → Int) (f d c : Int) : Prop := 0 ≤ f ∧ f ≤ c ∧ c ≤ 840 ∧ j_run g f (c - f).toNat = some d
def j_ws (q : Int × Int) (x : Int) : Option (Int × Int) :=
  if x = 6 then some (q.1 + 1, 0) else if (x = 8 ∨ x = 9) ∧ q.2 = 0 then some (q.1, 1) else if (x = 10 ∨ x = 15) ∧ q.2 ≤ 1 then some (q.1, q.2 + 2) else none
def j_wr (g : Nat → Int → Int) : Nat → Option (Int × Int)
  | 0 => some (0, 0)
  | n + 1 => match j_wr g n with
    | some q => j_ws q (g 74 n)
    | none => none
def j_w (g : Nat → Int → Int) (w n s : Int) : Prop := 0 ≤ w ∧ w ≤ 64 ∧ j_wr g w.toNat = some (n, s)
def j_gd (g : Nat → Int → Int) (lo C f c : Int) : Prop := lo ≤ f ∧ f ≤ c ∧ c ≤ C ∧ c - f ≤ 398 ∧ j_run g f (c - f).toNat = some 1
def j_br (g : Nat → Int → Int) (lo C x : Int) : Prop := (g 67 x = 0 ∨ (g 67 x = 1 ∧ j_gd g lo C (g 68 x) (g 69 x) ∧ j_gd g lo C (g 69 x) (g 70 x))) ∧ j_gd g lo C (g 70 x) (g 71 x)
def j_ls (g : Nat → Int → Int) (s B C : Int) : Prop := ∀ k x : Int, 0 ≤ k → k < 4 → g 65 (4 * s + k) ≤ x → x < g 66 (4 * s + k) → 130 * s ≤ x ∧ x < B ∧ j_br g (420 * s) C x
def j_cx (g : Nat → Int → Int) (s F B C q x0 x1 : Int) : Prop := (s = 0 ∨ s = 1) ∧ j_ls g (1 - s) (130 * (1 - s) + 130) (420 * (1 - s) + 420) ∧ 130 * s ≤ F ∧ F ≤ B ∧ B ≤ 130 * s + 130 ∧ 420 * s ≤ C ∧ C ≤ 420 * s + 420 ∧ j_ls g s B C ∧ (∀ x, F ≤ x → x < B → j_br g (420 * s) C x) ∧ (1 ≤ q → j_gd g (420 * s) C x0 x1) ∧ (2 ≤ q → j_gd g (420 * s) C x1 C) ∧ ∀ k : Int, 0 ≤ k → k < 4 → g 66 (4 * s + k) ≤ B
def j_b (a : Int) : Int := if 0 < a then 1 else 0
def j_ct (g : Nat → Int → Int) (l : Nat) (b : Int) : Int := j_b (g l b) + j_b (g l (b + 1)) + j_b (g l (b + 2)) + j_b (g l (b + 3)) + j_b (g l (b + 4)) + j_b (g l (b + 5))
def j_ps (g : Nat → Int → Int) (l : Nat) (r : Int) : Prop := g l (33 * r + 24) ≤ j_ct g l (33 * r + 6)
def j_px (g : Nat → Int → Int) (l : Nat) (n u : Int) : Prop := ∀ r : Int, 0 ≤ r → r < n → r ≠ u → j_ps g l r
def j_bn (h x a : Int) : Int := if x = h then 0 else j_b a
def j_cn (g : Nat → Int → Int) (h : Int) : Int := j_bn h 0 (g 78 6) + j_bn h 1 (g 78 7) + j_bn h 2 (g 78 8) + j_bn h 3 (g 78 9) + j_bn h 4 (g 78 10) + j_bn h 5 (g 78 11)
def j_sh (g : Nat → Int → Int) (k : Int) : Prop := 0 ≤ k ∧ (∀ r : Int, 0 ≤ r → r < 40 → r ≠ k / 33 → j_ps g 81 r) ∧ ∀ x : Int, 0 ≤ x → x < k % 33 → g 81 (33 * (k / 33) + x) = g 81 (33 * (k / 33) + 33 + x)
def j_rk (g : Nat → Int → Int) : Nat → Int
  | 0 => 0
  | n + 1 => j_rk g n + (g 87 n + 1) * 7 ^ (6 - n)
def j_or (g : Nat → Int → Int) (m x v : Int) : Prop := 0 ≤ m ∧ m ≤ 6 ∧ x ≤ 6 ∧ v < j_rk g m.toNat + (x + 1) * 7 ^ (6 - m.toNat) ∧ (∀ i : Nat, (i : Int) < m → 0 ≤ g 87 i ∧ g 87 i ≤ 5) ∧ ∀ i j : Nat, i < j → (j : Int) < m → g 87 i ≠ g 87 j
def j_ni (g : Nat → Int → Int) (h i : Int) : Prop := 0 ≤ i ∧ ∀ j : Nat, (j : Int) < i → g 87 j ≠ h
def j_P (X : List Int32) (k : Nat) (zs : List Int) (g : Nat → Int → Int) : Prop := match k, zs with
  | 0, [f, d, c] => j_rp g f d c
  | 1, [w, n, s] => j_w g w n s
  | 2, [s] => (s = 0 ∨ s = 1) ∧ j_ls g s (130 * s + 130) (420 * s + 420)
  | 3, [s, F, B, C, q, x0, x1] => j_cx g s F B C q x0 x1
  | 5, [m] => m ≤ j_ct g 78 6
  | 6, [m, h] => m ≤ j_cn g h
  | 7, [k] => j_sh g k
  | 8, [m, x, v] => j_or g m x v
  | 9, [h, i] => j_ni g h i
  | 10, [u] => j_px g 77 1 u
  | 11, [u] => j_px g 78 1 u
  | 12, [u] => j_px g 81 40 u
  | 13, [u] => j_px g 95 3 u
  | 99, [i, v] => (X.getD i.toNat 0).toInt = v
  | _, _ => True
def mJS (X : List Int32) : Nat → List Int → mH → Prop := fun k zs h => j_P X k zs (j_g h)
section ZJ1
variable {g g' : Nat → Int → Int} {X : List Int32}
/-! what is read alike is told alike -/
theorem j_run_c {f : Int} : ∀ {n : Nat}, (∀ x : Int, f ≤ x → x < f + n → g' 72 x = g 72 x ∧ g' 73 x = g 73 x) → j_run g' f n = j_run g f n
  | 0, _ => rfl
  | n + 1, h => by
    unfold j_run
    rw [j_run_c (n := n) (fun x h1 h2 => h x h1 (by omega))]
    obtain ⟨a, b⟩ := h (f + n) (by omega) (by omega)
    rw [a, b]
theorem j_rp_c {f d c : Int} (h : ∀ x : Int, f ≤ x → x < c → g' 72 x = g 72 x ∧ g' 73 x = g 73 x) (q : j_rp g f d c) : j_rp g' f d c := by
  obtain ⟨a, b, e, r⟩ := q
  refine ⟨a, b, e, ?_⟩
  rw [j_run_c (g := g) (fun x h1 h2 => h x h1 (by omega))]
  exact r
theorem j_wr_c : ∀ {n : Nat}, (∀ x : Int, 0 ≤ x → x < n → g' 74 x = g 74 x) → j_wr g' n = j_wr g n
  | 0, _ => rfl
  | n + 1, h => by
    unfold j_wr
    rw [j_wr_c (n := n) (fun x h1 h2 => h x h1 (by omega)), h n (by omega) (by omega)]
theorem j_w_c {w n s : Int} (h : ∀ x : Int, 0 ≤ x → x < w → g' 74 x = g 74 x) (q : j_w g w n s) : j_w g' w n s := by
  obtain ⟨a, b, r⟩ := q
  refine ⟨a, b, ?_⟩
  rw [j_wr_c (g := g) (fun x h1 h2 => h x h1 (by omega))]
  exact r
theorem j_gd_c {lo C f c : Int} (h : ∀ x : Int, lo ≤ x → x < C → g' 72 x = g 72 x ∧ g' 73 x = g 73 x) (q : j_gd g lo C f c) : j_gd g' lo C f c := by
  obtain ⟨a, b, e, d, r⟩ := q
  refine ⟨a, b, e, d, ?_⟩
  rw [j_run_c (g := g) (fun x h1 h2 => h x (by omega) (by omega))]
  exact r
theorem j_gd_m {lo lo' C C' f c : Int} (h1 : lo' ≤ lo) (h2 : C ≤ C') (q : j_gd g lo C f c) : j_gd g lo' C' f c := ⟨by have := q.1; omega, q.2.1, by have := q.2.2.1; omega, q.2.2.2⟩
theorem j_br_m {lo C C' x : Int} (h2 : C ≤ C') (q : j_br g lo C x) : j_br g lo C' x := by
  obtain ⟨a, b⟩ := q
  refine ⟨?_, j_gd_m (Int.le_refl _) h2 b⟩
  rcases a with a | ⟨a, a1, a2⟩
  · exact Or.inl a
  · exact Or.inr ⟨a, j_gd_m (Int.le_refl _) h2 a1, j_gd_m (Int.le_refl _) h2 a2⟩
theorem j_br_c {lo C x : Int} (h : ∀ x : Int, lo ≤ x → x < C → g' 72 x = g 72 x ∧ g' 73 x = g 73 x) (hb : ∀ l : Nat, 67 ≤ l → l ≤ 71 → g' l x = g l x) (q : j_br g lo C x) : j_br g' lo C x := by
  obtain ⟨a, b⟩ := q
  unfold j_br
  rw [hb 67 (by omega) (by omega), hb 68 (by omega) (by omega), hb 69 (by omega) (by omega), hb 70 (by omega) (by omega), hb 71 (by omega) (by omega)]
  refine ⟨?_, j_gd_c h b⟩
  rcases a with a | ⟨a, a1, a2⟩
  · exact Or.inl a
  · exact Or.inr ⟨a, j_gd_c h a1, j_gd_c h a2⟩
theorem j_ls_c {s B C : Int} (h : ∀ x : Int, 420 * s ≤ x → x < C → g' 72 x = g 72 x ∧ g' 73 x = g 73 x) (hb : ∀ (l : Nat) (x : Int), 67 ≤ l → l ≤ 71 → 130 * s ≤ x → x < B → g' l x = g l x) (hl : ∀ k : Int, 0 ≤ k → k < 4 → g' 65 (4 * s + k) = g 65 (4 * s + k) ∧ g' 66 (4 * s + k) = g 66 (4 * s + k)) (q : j_ls g s B C) : j_ls g' s B C := by
  intro k x k0 k4 h1 h2
  obtain ⟨e1, e2⟩ := hl k k0 k4
  rw [e1] at h1
  rw [e2] at h2
  obtain ⟨a, b, c⟩ := q k x k0 k4 h1 h2
  exact ⟨a, b, j_br_c h (fun l l1 l2 => hb l x l1 l2 a b) c⟩
theorem j_ls_m {s B B' C C' : Int} (h1 : B ≤ B') (h2 : C ≤ C') (q : j_ls g s B C) : j_ls g s B' C' := by
  intro k x k0 k4 e1 e2
  obtain ⟨a, b, c⟩ := q k x k0 k4 e1 e2
  exact ⟨a, by omega, j_br_m h2 c⟩
theorem j_cx_c {s F B C q x0 x1 : Int} (hs : s = 0 ∨ s = 1) (h : ∀ x : Int, (420 * s ≤ x → x < C → g' 72 x = g 72 x ∧ g' 73 x = g 73 x) ∧ (420 * (1 - s) ≤ x → x < 420 * (1 - s) + 420 → g' 72 x = g 72 x ∧ g' 73 x = g 73 x)) (hb : ∀ (l : Nat) (x : Int), 67 ≤ l → l ≤ 71 → (130 * s ≤ x → x < B → g' l x = g l x) ∧ (130 * (1 - s) ≤ x → x < 130 * (1 - s) + 130 → g' l x = g l x)) (hl : ∀ k : Int, 0 ≤ k → k < 4 → (g' 65 (4 * (1 - s) + k) = g 65 (4 * (1 - s) + k) ∧ g' 66 (4 * (1 - s) + k) = g 66 (4 * (1 - s) + k)) ∧ (g' 65 (4 * s + k) = g 65 (4 * s + k) ∧ g' 66 (4 * s + k) = g 66 (4 * s + k))) (p : j_cx g s F B C q x0 x1) : j_cx g' s F B C q x0 x1 := by
  obtain ⟨a, b, c, d, e, f, k, m, n, o1, o2, o3⟩ := p
  exact ⟨a, j_ls_c (fun x => (h x).2) (fun l x l1 l2 => (hb l x l1 l2).2) (fun k k0 k4 => (hl k k0 k4).1) b, c, d, e, f, k, j_ls_c (fun x => (h x).1) (fun l x l1 l2 => (hb l x l1 l2).1) (fun k k0 k4 => (hl k k0 k4).2) m,
    fun x x1 x2 => j_br_c (fun x => (h x).1) (fun l l1 l2 => (hb l x l1 l2).1 (by omega) x2) (n x x1 x2), fun z => j_gd_c (fun x => (h x).1) (o1 z), fun z => j_gd_c (fun x => (h x).1) (o2 z), fun k k0 k4 => by rw [(hl k k0 k4).2.2]; exact o3 k k0 k4⟩
theorem j_ct_c {l : Nat} {b : Int} (h : ∀ x : Int, b ≤ x → x < b + 6 → g' l x = g l x) : j_ct g' l b = j_ct g l b := by
  unfold j_ct
  rw [h b (by omega) (by omega), h (b + 1) (by omega) (by omega), h (b + 2) (by omega) (by omega), h (b + 3) (by omega) (by omega), h (b + 4) (by omega) (by omega), h (b + 5) (by omega) (by omega)]
theorem j_ps_c {l : Nat} {r : Int} (h : ∀ x : Int, 33 * r + 6 ≤ x → x < 33 * r + 12 → g' l x = g l x) (h2 : g' l (33 * r + 24) = g l (33 * r + 24)) (q : j_ps g l r) : j_ps g' l r := by
  unfold j_ps at q ⊢
  rw [h2, j_ct_c (g := g) (fun x a b => h x a (by omega))]
  exact q
theorem j_rk_c : ∀ {n : Nat}, (∀ x : Int, 0 ≤ x → x < n → g' 87 x = g 87 x) → j_rk g' n = j_rk g n
  | 0, _ => rfl
  | n + 1, h => by
    unfold j_rk
    rw [j_rk_c (n := n) (fun x h1 h2 => h x h1 (by omega)), h n (by omega) (by omega)]
theorem j_or_c {m x v : Int} (h : ∀ x : Int, 0 ≤ x → x < m → g' 87 x = g 87 x) (q : j_or g m x v) : j_or g' m x v := by
  obtain ⟨a, b, c, d, e, f⟩ := q
  refine ⟨a, b, c, ?_, fun i hi => ?_, fun i j hij hj => ?_⟩
  · rw [j_rk_c (g := g) (fun x h1 h2 => h x h1 (by omega))]
    exact d
  · rw [h i (by omega) hi]
    exact e i hi
  · rw [h i (by omega) (by omega), h j (by omega) hj]
    exact f i j hij hj
theorem j_ni_c {y i : Int} (h : ∀ x : Int, 0 ≤ x → x < i → g' 87 x = g 87 x) (q : j_ni g y i) : j_ni g' y i := by
  refine ⟨q.1, fun j hj => ?_⟩
  rw [h j (by omega) hj]
  exact q.2 j hj
theorem j_sh_c {k : Int} (h : ∀ x : Int, 0 ≤ x → g' 81 x = g 81 x ∨ x = k) (q : j_sh g k) : j_sh g' k := by
  obtain ⟨a, b, c⟩ := q
  have hh : ∀ x : Int, 0 ≤ x → x ≠ k → g' 81 x = g 81 x := fun x h0 hne => (h x h0).resolve_right hne
  refine ⟨a, fun r r0 r1 hr => j_ps_c (g := g) (fun x h1 h2 => hh x (by omega) (by omega)) (hh _ (by omega) (by omega)) (b r r0 r1 hr), fun x x0 x1 => ?_⟩
  rw [hh _ (by omega) (by omega), hh _ (by omega) (by omega)]
  exact c x x0 x1
def r_dk (k : Nat) : List Nat := match k with
  | 0 => [72, 73]
  | 1 => [74]
  | 2 => [65, 66, 67, 68, 69, 70, 71, 72, 73]
  | 3 => [65, 66, 67, 68, 69, 70, 71, 72, 73]
  | 5 => [78]
  | 6 => [78]
  | 7 => [81]
  | 8 => [87]
  | 9 => [87]
  | 10 => [77]
  | 11 => [78]
  | 12 => [81]
  | 13 => [95]
  | _ => []
theorem j_P_dep {k : Nat} {zs : List Int} (h : ∀ l ∈ r_dk k, g' l = g l) (q : j_P X k zs g) : j_P X k zs g' := by
  unfold j_P at q ⊢
  split at q
  · exact j_rp_c (fun x _ _ => ⟨congrFun (h 72 (by decide)) x, congrFun (h 73 (by decide)) x⟩) q
  · exact j_w_c (fun x _ _ => congrFun (h 74 (by decide)) x) q
  · refine ⟨q.1, j_ls_c (fun x _ _ => ⟨congrFun (h 72 (by decide)) x, congrFun (h 73 (by decide)) x⟩) (fun l x l1 l2 _ _ => congrFun (h l ?_) x) (fun k _ _ => ⟨congrFun (h 65 (by decide)) _, congrFun (h 66 (by decide)) _⟩) q.2⟩
    have : l = 67 ∨ l = 68 ∨ l = 69 ∨ l = 70 ∨ l = 71 := by omega
    rcases this with rfl | rfl | rfl | rfl | rfl <;> decide
  · have hb : ∀ (l : Nat) (x : Int), 67 ≤ l → l ≤ 71 → g' l x = g l x := fun l x l1 l2 => by
      have : l = 67 ∨ l = 68 ∨ l = 69 ∨ l = 70 ∨ l = 71 := by omega
      refine congrFun (h l ?_) x
      rcases this with rfl | rfl | rfl | rfl | rfl <;> decide
    exact j_cx_c q.1 (fun x => ⟨fun _ _ => ⟨congrFun (h 72 (by decide)) x, congrFun (h 73 (by decide)) x⟩, fun _ _ => ⟨congrFun (h 72 (by decide)) x, congrFun (h 73 (by decide)) x⟩⟩) (fun l x l1 l2 => ⟨fun _ _ => hb l x l1 l2, fun _ _ => hb l x l1 l2⟩) (fun k _ _ => ⟨⟨congrFun (h 65 (by decide)) _, congrFun (h 66 (by decide)) _⟩, congrFun (h 65 (by decide)) _, congrFun (h 66 (by decide)) _⟩) q
  · rw [j_ct_c (g := g) (fun x _ _ => congrFun (h 78 (by decide)) x)]
    exact q
  · unfold j_cn at q ⊢
    rw [h 78 (by decide)]
    exact q
  · exact j_sh_c (fun x _ => Or.inl (congrFun (h 81 (by decide)) x)) q
  · exact j_or_c (fun x _ _ => congrFun (h 87 (by decide)) x) q
  · exact j_ni_c (fun x _ _ => congrFun (h 87 (by decide)) x) q
  · exact fun r r0 r1 hr => j_ps_c (fun x _ _ => congrFun (h 77 (by decide)) x) (congrFun (h 77 (by decide)) _) (q r r0 r1 hr)
  · exact fun r r0 r1 hr => j_ps_c (fun x _ _ => congrFun (h 78 (by decide)) x) (congrFun (h 78 (by decide)) _) (q r r0 r1 hr)
  · exact fun r r0 r1 hr => j_ps_c (fun x _ _ => congrFun (h 81 (by decide)) x) (congrFun (h 81 (by decide)) _) (q r r0 r1 hr)
  · exact fun r r0 r1 hr => j_ps_c (fun x _ _ => congrFun (h 95 (by decide)) x) (congrFun (h 95 (by decide)) _) (q r r0 r1 hr)
  · exact q
  · trivial
end ZJ1
end
