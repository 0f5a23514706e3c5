noncomputable section
/-! ===== rules by table: a lemma, a class of bytes, an operation ===== -/
abbrev zRt : Type := Nat × Nat × List Nat
def r_keep (S S1 : zS) : Bool := S1.2.2.2.2.2.2.all fun t => Nat.blt t.1 20 || S.2.2.2.2.2.2.any fun u => u == t
def r_cls (S : zS) (f : Nat) (e : zL) : Bool := zge (300 - (x_hi S.1 e - x_lo S.1 e)) && (List.range ((x_hi S.1 e - x_lo S.1 e).toNat + 1)).all fun (j : Nat) => zz (t_cl f (x_lo S.1 e + (j : Int)) - t_cl f (x_lo S.1 e))
def r_sel2 (S : zS) : List Nat → Option zV
  | [] => some (zvI (x_k 0))
  | s :: _ => x_sel S s
def r_new (LM : Nat → Option zLem) (r : zRt) (S : zS) : Option (List zS) := match r with
  | (0, i, sel) => (match LM i with
    | some lem => x_lem mLT mTC2 lem sel S
    | none => none)
  | (1, f, s :: _) => (match x_sel S s with
    | some (0, _, e) => (match r_cls S f e with
      | true => some [r_addt S 21 [x_k f, e, x_k (t_cl f (x_lo S.1 e))]]
      | false => some [S])
    | _ => some [S])
  | (2, k, s :: t) => (match x_sel S s, r_sel2 S t, Nat.ble 100 k && Nat.ble k 111 with
    | some (0, _, e), some (0, _, f), true => (match x_new S (if k = 109 then (-128, 127) else zI) with
      | (u, S1) => some [r_addt S1 k [e, f, u]])
    | _, _, _ => some [S])
  | _ => none
def mRU2 (LM : Nat → Option zLem) (RT : Nat → Option zRt) : zRU := fun k S => match Nat.blt k 1000000 with
  | true => (match mRU k S with
    | none => none
    | some l => match l.all (r_keep S) with
      | true => some l
      | false => none)
  | false => match RT (k - 1000000) with
    | none => none
    | some r => r_new LM r S
/-! a lemma in plain numbers -/
def l_rg (x : Nat → Int) : List (Int × Int) → Nat → Prop
  | [], _ => True
  | p :: t, k => (p.1 ≤ x k ∧ x k ≤ p.2) ∧ l_rg x t (k + 1)
def l_ge (x : Nat → Int) : List zL → Prop
  | [] => True
  | e :: t => 0 ≤ y_ev x e ∧ l_ge x t
def l_fa (v : zVw) (R : List (Nat × Bool)) (x : Nat → Int) : List zFa → Prop
  | [] => True
  | f :: t => ((match R[f.1]?, f.2.1.1, j_V.any (Nat.beq ((R[f.1]?.getD (0, false)).1)), Nat.ble f.2.2.1 1 with
    | some (l, false), true, true, true => 0 ≤ y_ev x f.2.1.2.2 ∧ y_ev x f.2.1.2.2 < j_len l ∧ v l (y_ev x f.2.1.2.2) = y_ev x f.2.2.2.2
    | _, _, _, _ => True) ∧ (match R[f.1]?, f.2.1.1, j_VO.any (Nat.beq ((R[f.1]?.getD (0, false)).1)), Nat.beq f.2.2.1 0 with
    | some (l, false), false, true, true => v l ((f.2.1.2.1 : Nat) : Int) = y_ev x f.2.2.2.2
    | _, _, _, _ => True)) ∧ l_fa v R x t
def l_tg (v : zVw) (x : Nat → Int) : List zTg → Prop
  | [] => True
  | t :: r => j_N v t.1 (t.2.map (y_ev x)) ∧ l_tg v x r
def l_in (v : zVw) (P : zS) (x : Nat → Int) : Prop := l_rg x P.1 0 ∧ l_ge x P.2.2.1 ∧ l_fa v P.2.1 x P.2.2.2.2.2.1 ∧ l_tg v x P.2.2.2.2.2.2
def l_o (v : zVw) (P : zS) (x : Nat → Int) : Prop := l_rg x P.1 0 ∧ l_ge x P.2.2.1 ∧ l_tg v x P.2.2.2.2.2.2
def l_ex (x : Nat → Int) (n : Nat) (y : Int) : Nat → Int := fun i => if i = n then y else x i
def l_out (v : zVw) (n : Nat) (x : Nat → Int) : List zS → Prop
  | [] => False
  | P :: t => (match Nat.beq P.1.length n with
    | true => l_o v P x
    | false => ∃ y, l_o v P (l_ex x n y)) ∨ l_out v n x t
def l_core (lem : zLem) : Prop := ∀ (v : zVw) (x : Nat → Int), l_in v lem.1 x → l_out v lem.1.1.length x lem.2
def l_sm (n : Nat) (e : zL) : Bool := e.2.all fun t => Nat.blt t.1 n
def l_ok (lem : zLem) : Bool := lem.2.all fun P => (P.2.1 == lem.1.2.1) && P.2.2.2.1.isEmpty && P.2.2.2.2.1.isEmpty && P.2.2.2.2.2.1.isEmpty && Nat.ble lem.1.1.length P.1.length && P.2.2.1.all (l_sm P.1.length) && P.2.2.2.2.2.2.all fun t => Nat.ble 20 t.1 && !(Nat.beq t.1 99) && t.2.all (l_sm P.1.length)
theorem j_P_tr {X : List Int32} {k : Nat} {zs : List Int} {g : Nat → Int → Int} (hk : 20 ≤ k) (h9 : k ≠ 99) : j_P X k zs g := by
  unfold j_P
  split <;> first | trivial | omega
section ZT4
variable {W : Bool} {J : Nat → List Int → mH → Prop} {σ σ' : Nat → Int} {ρ ρ' : Nat → Option Nat} {S S' : zS} {h h' : mH} {ls : mL} {st : List mV} {X : List Int32}
theorem y_l_rg {is : List (Int × Int)} {k : Nat} (q : ∀ (b : Nat) (p : Int × Int), is[b]? = some p → p.1 ≤ σ (k + b) ∧ σ (k + b) ≤ p.2) : l_rg σ is k := by
  induction is generalizing k with
  | nil => trivial
  | cons p t ih =>
    refine ⟨q 0 p rfl, ih (fun b p hb => ?_)⟩
    have := q (b + 1) p (by simpa using hb)
    rw [show k + 1 + b = k + (b + 1) by omega]
    exact this
theorem y_rg_l {is : List (Int × Int)} {k : Nat} (q : l_rg σ is k) : ∀ (b : Nat) (p : Int × Int), is[b]? = some p → p.1 ≤ σ (k + b) ∧ σ (k + b) ≤ p.2 := by
  induction is generalizing k with
  | nil => intro b p hb; simp at hb
  | cons p0 t ih =>
    intro b p hb
    cases b with
    | zero =>
      simp only [List.getElem?_cons_zero, Option.some.injEq] at hb
      subst hb
      exact q.1
    | succ b =>
      have := ih q.2 b p (by simpa using hb)
      rw [show k + (b + 1) = k + 1 + b by omega]
      exact this
theorem y_l_ge {cs : List zL} (q : ∀ e ∈ cs, 0 ≤ y_ev σ e) : l_ge σ cs := by
  induction cs with
  | nil => trivial
  | cons e t ih => exact ⟨q e List.mem_cons_self, ih fun e he => q e (List.mem_cons_of_mem _ he)⟩
theorem y_ge_l {cs : List zL} (q : l_ge σ cs) : ∀ e ∈ cs, 0 ≤ y_ev σ e := by
  induction cs with
  | nil => intro e he; exact absurd he List.not_mem_nil
  | cons e0 t ih =>
    intro e he
    rcases List.mem_cons.mp he with rfl | he
    · exact q.1
    · exact ih q.2 e he
theorem y_l_tg {v : zVw} {ts : List zTg} (q : ∀ t ∈ ts, j_N v t.1 (t.2.map (y_ev σ))) : l_tg v σ ts := by
  induction ts with
  | nil => trivial
  | cons e t ih => exact ⟨q e List.mem_cons_self, ih fun e he => q e (List.mem_cons_of_mem _ he)⟩
theorem y_tg_l {v : zVw} {ts : List zTg} (q : l_tg v σ ts) : ∀ t ∈ ts, j_N v t.1 (t.2.map (y_ev σ)) := by
  induction ts with
  | nil => intro e he; exact absurd he List.not_mem_nil
  | cons e0 t ih =>
    intro e he
    rcases List.mem_cons.mp he with rfl | he
    · exact q.1
    · exact ih q.2 e he
theorem y_l_fa (hH : y_H (mGw W) mLT h) {n nr : Nat} {R : List (Nat × Bool)} (hR : y_rr (mGw W) R ρ) {fs : List zFa} (q : ∀ f ∈ fs, y_F n nr σ ρ h f) : l_fa (j_v W h) R σ fs := by
  induction fs with
  | nil => trivial
  | cons f t ih =>
    refine ⟨⟨?_, ?_⟩, ih fun e he => q e (List.mem_cons_of_mem _ he)⟩
    rotate_left
    · split
      · next l hr hb hv hk =>
        obtain ⟨f1, f2, f3⟩ := q f List.mem_cons_self
        rw [hr] at hv
        have hl : l ∈ j_VO := by
          obtain ⟨l', h1, h2⟩ := List.any_eq_true.mp hv
          rw [show l = l' from Nat.eq_of_beq_eq_true h2]
          exact h1
        have ha := hR _ _ hr
        cases hρ : ρ f.1 with
        | none => rw [hρ] at ha; cases ha
        | some a =>
          rw [hρ] at ha
          have ea := j_adr2 (List.mem_append_right _ hl) ha
          subst ea
          have f4 := f3 _ hρ
          rw [hb] at f4
          obtain ⟨ci, fs, x, f5, f6, f7⟩ := f4
          unfold y_V at f7
          rw [Nat.eq_of_beq_eq_true hk] at f7
          obtain ⟨i', rfl, e5⟩ := f7
          unfold j_v
          rw [f5]
          dsimp only
          rw [show ((f.2.1.2.1 : Nat) : Int).toNat = f.2.1.2.1 by omega, f6]
          exact e5.2.symm
      · trivial
    split
    · next l hr hb hv hk =>
      obtain ⟨f1, f2, f3⟩ := q f List.mem_cons_self
      rw [hr] at hv
      have hl : l ∈ j_V := by
        obtain ⟨l', h1, h2⟩ := List.any_eq_true.mp hv
        rw [show l = l' from Nat.eq_of_beq_eq_true h2]
        exact h1
      have ha := hR _ _ hr
      cases hρ : ρ f.1 with
      | none => rw [hρ] at ha; cases ha
      | some a =>
        rw [hρ] at ha
        have ea := j_adr2 (List.mem_append_left _ hl) ha
        subst ea
        have f4 := f3 _ hρ
        rw [hb] at f4
        obtain ⟨i0, f5, f6⟩ := f4
        have hlt : j_ad W l < h.length := by rw [hH.1]; exact (List.getElem?_eq_some_iff.mp ha).1
        have h2 := List.all_eq_true.mp j_V2 l hl
        have hk2 : f.2.2.1 = 0 ∨ f.2.2.1 = 1 := by
          have := Nat.le_of_ble_eq_true hk
          omega
        cases hlb : mLT[l]? with
        | none => rw [hlb] at h2; cases h2
        | some lab =>
          rw [hlb] at h2
          obtain ⟨k, t', n', ts⟩ := lab
          have hc := hH.2 _ _ _ _ ha hlb (List.getElem?_eq_getElem hlt)
          have hjl : j_len l = n' := by unfold j_len; rw [hlb]
          rw [hjl]
          split at h2
          · next e =>
            cases e
            obtain ⟨xs, e1, e2, -⟩ := hc
            have hc' : h[j_ad W l]? = some (.inr (t', .inl xs)) := by rw [List.getElem?_eq_getElem hlt, e1]
            obtain ⟨i, g1, g2⟩ := f5 _ _ hc'
            have gl := (List.getElem?_eq_some_iff.mp g1).1
            dsimp only at e2
            refine ⟨i0, by omega, ?_⟩
            have ev : j_v W h l (y_ev σ f.2.1.2.2) = i.toInt := by
              unfold j_v
              rw [hc']
              dsimp only
              rw [List.getD_eq_getElem?_getD, g1]
              rfl
            rw [ev]
            unfold y_V at g2
            rcases hk2 with hk2 | hk2
            · rw [hk2] at g2
              obtain ⟨i', e4, e5⟩ := g2
              cases e4
              exact e5.2.symm
            · rw [hk2] at g2
              obtain ⟨i', e4, e5⟩ := g2
              cases e4
          · next e =>
            cases e
            obtain ⟨xs, e1, e2, -⟩ := hc
            have hc' : h[j_ad W l]? = some (.inr (1, .inr (.inl xs))) := by rw [List.getElem?_eq_getElem hlt, e1]
            obtain ⟨i, g1, g2⟩ := f6 _ _ hc'
            have gl := (List.getElem?_eq_some_iff.mp g1).1
            dsimp only at e2
            refine ⟨i0, by omega, ?_⟩
            have ev : j_v W h l (y_ev σ f.2.1.2.2) = i.toInt := by
              unfold j_v
              rw [hc']
              dsimp only
              rw [List.getD_eq_getElem?_getD, g1]
              rfl
            rw [ev]
            unfold y_V at g2
            rcases hk2 with hk2 | hk2
            · rw [hk2] at g2
              obtain ⟨i', e4, e5⟩ := g2
              cases e4
            · rw [hk2] at g2
              obtain ⟨i', e4, e5⟩ := g2
              cases e4
              exact e5.2.symm
          · cases h2
    · trivial
theorem l_sm_in {n : Nat} {e : zL} (q : l_sm n e = true) : y_in n e := fun t ht => Nat.blt_eq.mp (List.all_eq_true.mp q t ht)
theorem y_lem_mk {lem : zLem} (hk : l_ok lem = true) (hc : l_core lem) : y_Lem (mGw W) mLT (J2 W X) lem := by
  intro σ ρ a h hH q
  have hin : l_in (j_v W h) lem.1 σ := by
    refine ⟨y_l_rg (fun b p hb => ?_), y_l_ge fun e he => (q.2.2.1 e he).2, y_l_fa hH q.2.1 q.2.2.2.2.2.1, y_l_tg fun t ht => (q.2.2.2.2.2.2 t ht).2.2⟩
    rw [Nat.zero_add]
    exact q.1 b p hb
  have ho := hc _ _ hin
  have hk := List.all_eq_true.mp hk
  have key : ∀ (Ps : List zS), (∀ P ∈ Ps, P ∈ lem.2) → l_out (j_v W h) lem.1.1.length σ Ps → ∃ P ∈ Ps, ∃ τ : Nat → Int, y_X lem.1.1.length σ τ ∧ l_o (j_v W h) P τ := by
    intro Ps
    induction Ps with
    | nil => intro _ h; exact absurd h id
    | cons P t ih =>
      intro hm ho
      rcases ho with ho | ho
      · split at ho
        · exact ⟨P, List.mem_cons_self, σ, fun _ _ => rfl, ho⟩
        · obtain ⟨y, hy⟩ := ho
          refine ⟨P, List.mem_cons_self, _, fun b hb => ?_, hy⟩
          unfold l_ex
          rw [if_neg (by omega)]
      · obtain ⟨P', h1, h2⟩ := ih (fun P hP => hm P (List.mem_cons_of_mem _ hP)) ho
        exact ⟨P', List.mem_cons_of_mem _ h1, h2⟩
  obtain ⟨P, hP, τ, hτ, o1, o2, o3⟩ := key lem.2 (fun _ h => h) ho
  have hk := hk P hP
  simp only [Bool.and_eq_true, List.isEmpty_iff, beq_iff_eq] at hk
  obtain ⟨⟨⟨⟨⟨⟨k1, k2⟩, k3⟩, k4⟩, k5⟩, k6⟩, k7⟩ := hk
  have k5 := Nat.le_of_ble_eq_true k5
  refine ⟨P, hP, τ, ρ, hτ, fun _ _ => rfl, k5, by rw [k1]; exact Nat.le_refl _, fun b p hb => ?_, by rw [k1]; exact q.2.1, fun e he => ⟨l_sm_in (List.all_eq_true.mp k6 e he), y_ge_l o2 e he⟩, ?_, ?_, ?_, fun t ht => ?_⟩
  · have := y_rg_l o1 b p hb
    rw [Nat.zero_add] at this
    exact this
  · rw [k2]
    exact ⟨rfl, fun i v hv => by simp at hv⟩
  · rw [k3]
    trivial
  · rw [k4]
    intro f hf
    exact absurd hf List.not_mem_nil
  · have k8 := List.all_eq_true.mp k7 t ht
    simp only [Bool.and_eq_true, Bool.not_eq_true'] at k8
    obtain ⟨⟨a1, a2⟩, a3⟩ := k8
    refine ⟨fun e he => l_sm_in (List.all_eq_true.mp a3 e he), j_P_tr (Nat.le_of_ble_eq_true a1) (fun e => ?_), y_tg_l o3 t ht⟩
    rw [e] at a2
    cases a2
theorem J2_opi {k : Nat} (k0 : 100 ≤ k) (k1 : k ≤ 111) {x y : Int32} {h : mH} : J2 W X k [x.toInt, y.toInt, (mOP k x y).toInt] h := by
  have hk : k = 100 ∨ k = 101 ∨ k = 102 ∨ k = 103 ∨ k = 104 ∨ k = 105 ∨ k = 106 ∨ k = 107 ∨ k = 108 ∨ k = 109 ∨ k = 110 ∨ k = 111 := by omega
  refine ⟨j_P_tr (by omega) (by omega), ?_⟩
  rcases hk with rfl | rfl | rfl | rfl | rfl | rfl | rfl | rfl | rfl | rfl | rfl | rfl <;> (first | rw [j_N100] | rw [j_N101] | rw [j_N102] | rw [j_N103] | rw [j_N104] | rw [j_N105] | rw [j_N106] | rw [j_N107] | rw [j_N108] | rw [j_N109] | rw [j_N110] | rw [j_N111]) <;> rw [Int32.ofInt_toInt, Int32.ofInt_toInt]
theorem y_addt2 (q : y_S (mGw W) (J2 W X) S σ ρ ls st h) {k : Nat} {p : List zL} (hp : ∀ e ∈ p, y_in S.1.length e) (hJ : J2 W X k (p.map (y_ev σ)) h) : y_S (mGw W) (J2 W X) (r_addt S k p) σ ρ ls st h :=
  ⟨q.1, q.2.1, q.2.2.1, q.2.2.2.1, q.2.2.2.2.1, q.2.2.2.2.2.1, fun t ht => by
    rcases List.mem_cons.mp ht with rfl | ht
    · exact ⟨hp, hJ⟩
    · exact q.2.2.2.2.2.2 t ht⟩
theorem y_sel1 (q : y_S (mGw W) (J2 W X) S σ ρ ls st h) {s a : Nat} {e : zL} (hx : x_sel S s = some (0, a, e)) : ∃ i : Int32, y_E S.1.length σ e i.toInt := by
  have hs : x_all (x_sel S) [s] = some [(0, a, e)] := by
    unfold x_all
    rw [hx]
    rfl
  obtain ⟨xs, hv⟩ := y_sel q hs (by rfl)
  obtain ⟨x, r, -, ⟨i, -, hi⟩, -⟩ := hv.cons
  exact ⟨i, hi⟩
theorem r_cls_ok (q : y_S (mGw W) (J2 W X) S σ ρ ls st h) {f : Nat} {e : zL} (he : y_in S.1.length e) (hx : r_cls S f e = true) : t_cl f (y_ev σ e) = t_cl f (x_lo S.1 e) := by
  unfold r_cls at hx
  rw [Bool.and_eq_true] at hx
  have := q.rg (y_E.of he)
  have h2 := List.all_eq_true.mp hx.2 (y_ev σ e - x_lo S.1 e).toNat (List.mem_range.mpr (by omega))
  have h3 := zz_iff.mp h2
  rw [show x_lo S.1 e + ((y_ev σ e - x_lo S.1 e).toNat : Int) = y_ev σ e by omega] at h3
  omega
theorem mRU2_ok {LM : Nat → Option zLem} {RT : Nat → Option zRt} (hL : ∀ i lem, LM i = some lem → y_Lem (mGw W) mLT (J2 W X) lem) : y_RU (mGw W) mLT (J2 W X) (mRU2 LM RT) := by
  intro k S l σ ρ ls st h hx q hH
  unfold mRU2 at hx
  split at hx
  · split at hx
    · cases hx
    · next l' hl' =>
      split at hx
      · next hk =>
        cases hx
        obtain ⟨S1, hS1, σ', ρ', q1, hM⟩ := mRU_ok (X := X) k S l σ ρ ls st h hl' q.old hH
        refine ⟨S1, hS1, σ', ρ', ⟨q1.1, q1.2.1, q1.2.2.1, q1.2.2.2.1, q1.2.2.2.2.1, q1.2.2.2.2.2.1, fun t ht => ?_⟩, hM⟩
        obtain ⟨t1, t2⟩ := q1.2.2.2.2.2.2 t ht
        refine ⟨t1, t2, ?_⟩
        have := List.all_eq_true.mp (List.all_eq_true.mp hk S1 hS1) t ht
        rw [Bool.or_eq_true] at this
        rcases this with c | c
        · exact j_N_lt (Nat.blt_eq.mp c)
        · obtain ⟨u, u1, u2⟩ := List.any_eq_true.mp c
          have := eq_of_beq u2
          subst this
          exact ((q.2.2.2.2.2.2 _ u1).ext hM.1 hM.2.2.1).2.2
      · cases hx
  · split at hx
    · cases hx
    · next r hr =>
      have no : ∃ S1 ∈ [S], y_N (mGw W) (J2 W X) S σ ρ S1 ls st h := ⟨S, List.mem_cons_self, .of q y_M.refl⟩
      unfold r_new at hx
      split at hx
      · split at hx
        · next lem hlem => exact y_lem mTC2_ok (hL _ lem hlem) q hH hx
        · cases hx
      · split at hx
        · next f s _ a e hs =>
          obtain ⟨i, hi⟩ := y_sel1 q hs
          split at hx
          · next hc =>
            cases hx
            refine ⟨_, List.mem_cons_self, .of (y_addt2 q ?_ ⟨j_P_tr (by omega) (by omega), ?_⟩) (y_M.of rfl rfl)⟩
            · intro g hg
              simp only [List.mem_cons, List.not_mem_nil, or_false] at hg
              rcases hg with rfl | rfl | rfl
              · exact y_in_k _
              · exact hi.1
              · exact y_in_k _
            · have := r_cls_ok q hi.1 hc
              simp only [List.map_cons, List.map_nil]
              rw [j_N21, y_ev_k, y_ev_k]
              exact this
          · cases hx
            exact no
        · cases hx
          exact no
      · rename_i k s t
        split at hx
        · next a e a' f hs1 hs2 hkk =>
          simp only [Bool.and_eq_true] at hkk
          have k0 := Nat.le_of_ble_eq_true hkk.1
          have k1 := Nat.le_of_ble_eq_true hkk.2
          obtain ⟨i, hi⟩ := y_sel1 q hs1
          have hj : ∃ j : Int32, y_E S.1.length σ f j.toInt := by
            unfold r_sel2 at hs2
            split at hs2
            · cases hs2
              exact ⟨0, y_in_k _, y_ev_k _⟩
            · exact y_sel1 q hs2
          obtain ⟨j, hj⟩ := hj
          have hp : (if k = 109 then ((-128 : Int), (127 : Int)) else zI).1 ≤ (mOP k i j).toInt ∧ (mOP k i j).toInt ≤ (if k = 109 then ((-128 : Int), (127 : Int)) else zI).2 := by
            split
            · next e =>
              subst e
              have : mOP 109 i j = i.toInt8.toInt32 := rfl
              rw [this, Int8.toInt_toInt32]
              have a1 := Int8.le_toInt i.toInt8
              have a2 := Int8.toInt_lt i.toInt8
              dsimp only
              omega
            · have a1 := Int32.le_toInt (mOP k i j)
              have a2 := Int32.toInt_lt (mOP k i j)
              unfold zI
              dsimp only
              omega
          obtain ⟨σ', q1, hM, g1, g2⟩ := y_new q hp
          cases hx
          refine ⟨_, List.mem_cons_self, σ', ρ, y_addt2 q1 ?_ ?_, hM⟩
          · intro g hg
            simp only [List.mem_cons, List.not_mem_nil, or_false] at hg
            rcases hg with rfl | rfl | rfl
            · exact y_in_le hi.1 hM.2.2.1
            · exact y_in_le hj.1 hM.2.2.1
            · exact g1.1
          · simp only [List.map_cons, List.map_nil]
            rw [y_ev_ext hi.1 hM.1, y_ev_ext hj.1 hM.1, hi.2, hj.2]
            have e3 := J2_opi (W := W) (X := X) (h := h) (x := i) (y := j) k0 k1
            rw [← g1.2] at e3
            exact e3
        · cases hx
          exact no
      · cases hx
end ZT4
end
