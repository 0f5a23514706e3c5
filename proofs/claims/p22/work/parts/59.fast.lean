noncomputable section
/-! ===== TABLES cut in pieces, looked up by them ===== -/
/-- a place of a list, by the recursor itself -/
def x_nth {α : Type} (l : List α) : Nat → Option α := List.rec (motive := fun _ => Nat → Option α) (fun _ => none) (fun h _ ih n => Nat.rec (motive := fun _ => Option α) (some h) (fun m _ => ih m) n) l
theorem x_nth_eq {α : Type} : ∀ (l : List α) (n : Nat), x_nth l n = l[n]?
  | [], n => by rw [List.getElem?_nil]; rfl
  | h :: t, 0 => rfl
  | h :: t, n + 1 => by
    show x_nth t n = _
    rw [x_nth_eq t n, List.getElem?_cons_succ]
def x_gt {α : Type} (d : α) (l : List α) : Nat → α := List.rec (motive := fun _ => Nat → α) (fun _ => d) (fun h _ ih n => Nat.rec (motive := fun _ => α) h (fun m _ => ih m) n) l
theorem x_gt_eq {α : Type} (d : α) : ∀ (l : List α) (n : Nat), x_gt d l n = l.getD n d
  | [], n => by rw [List.getD_eq_getElem?_getD, List.getElem?_nil]; rfl
  | h :: t, 0 => rfl
  | h :: t, n + 1 => by
    show x_gt d t n = _
    rw [x_gt_eq d t n, List.getD_cons_succ]
def xl_any {α : Type} (f : α → Bool) (l : List α) : Bool := List.rec (motive := fun _ => Bool) false (fun a _ ih => match f a with
  | true => true
  | false => ih) l
theorem xl_any_eq {α : Type} (f : α → Bool) : ∀ l : List α, xl_any f l = l.any f
  | [] => rfl
  | a :: t => by
    show (match f a with | true => true | false => xl_any f t) = _
    rw [List.any_cons, xl_any_eq f t]
    cases f a <;> rfl
def xl_all {α : Type} (f : α → Bool) (l : List α) : Bool := List.rec (motive := fun _ => Bool) true (fun a _ ih => match f a with
  | true => ih
  | false => false) l
theorem xl_all_eq {α : Type} (f : α → Bool) : ∀ l : List α, xl_all f l = l.all f
  | [] => rfl
  | a :: t => by
    show (match f a with | true => xl_all f t | false => false) = _
    rw [List.all_cons, xl_all_eq f t]
    cases f a <;> rfl
def xl_fr {α β : Type} (f : α → β → β) (b : β) (l : List α) : β := List.rec (motive := fun _ => β) b (fun a _ ih => f a ih) l
theorem xl_fr_eq {α β : Type} (f : α → β → β) (b : β) : ∀ l : List α, xl_fr f b l = l.foldr f b
  | [] => rfl
  | a :: t => by
    show f a (xl_fr f b t) = _
    rw [xl_fr_eq f b t]
    rfl
def xl_fl {α : Type} (f : α → Bool) (l : List α) : List α := List.rec (motive := fun _ => List α) [] (fun a _ ih => match f a with
  | true => a :: ih
  | false => ih) l
theorem xl_fl_eq {α : Type} (f : α → Bool) : ∀ l : List α, xl_fl f l = l.filter f
  | [] => rfl
  | a :: t => by
    show (match f a with | true => a :: xl_fl f t | false => xl_fl f t) = _
    rw [xl_fl_eq f t, List.filter_cons]
    cases f a <;> rfl
theorem xl_mem_fl {α : Type} {f : α → Bool} {l : List α} {a : α} : a ∈ xl_fl f l ↔ a ∈ l ∧ f a = true := by
  rw [xl_fl_eq]
  exact List.mem_filter
def x_sst {α : Type} (l : List α) (n : Nat) (v : α) : List α := List.rec (motive := fun _ => Nat → List α) (fun _ => []) (fun h t ih n => Nat.rec (motive := fun _ => List α) (v :: t) (fun m _ => h :: ih m) n) l n
theorem x_sst_eq {α : Type} : ∀ (l : List α) (n : Nat) (v : α), x_sst l n v = l.set n v
  | [], _, _ => rfl
  | h :: t, 0, v => rfl
  | h :: t, n + 1, v => by
    show h :: x_sst t n v = _
    rw [x_sst_eq t n v]
    rfl
/-- k places, from i on, ahead of t -/
def x_up {α : Type} (f : Nat → α) (t : List α) (k : Nat) : Nat → List α := Nat.rec (motive := fun _ => Nat → List α) (fun _ => t) (fun _ ih i => f i :: ih (i + 1)) k
theorem x_up_eq {α : Type} (f : Nat → α) (t : List α) : ∀ k i : Nat, x_up f t k i = (List.range k).map (fun j => f (i + j)) ++ t
  | 0, _ => rfl
  | k + 1, i => by
    show f i :: x_up f t k (i + 1) = _
    rw [x_up_eq f t k (i + 1), List.range_succ_eq_map, List.map_cons, List.map_map, List.cons_append]
    have e : (fun j => f (i + 1 + j)) = (fun j => f (i + j)) ∘ Nat.succ := by
      funext j
      show f (i + 1 + j) = f (i + (j + 1))
      rw [show i + 1 + j = i + (j + 1) by omega]
    rw [e]
    rfl
theorem x_up_rep {α : Type} (a : α) : ∀ k i : Nat, x_up (fun _ => a) [] k i = List.replicate k a
  | 0, _ => rfl
  | k + 1, i => by
    show a :: x_up (fun _ => a) [] k (i + 1) = _
    rw [x_up_rep a k (i + 1), List.replicate_succ]
/-- a list of numbers as one -/
def x_mk1 {α : Type} (p : α → Bool) (g : α → Nat) (L : List α) : Nat := xl_fr (fun a m => match p a with
  | true => Nat.lor m (2 ^ g a)
  | false => m) 0 L
theorem x_mk1_mem {α : Type} {p : α → Bool} {g : α → Nat} : ∀ {L : List α} {a : α}, a ∈ L → p a = true → Nat.testBit (x_mk1 p g L) (g a) = true
  | [], _, ha, _ => absurd ha List.not_mem_nil
  | b :: t, a, ha, hp => by
    show Nat.testBit (match p b with | true => Nat.lor (x_mk1 p g t) (2 ^ g b) | false => x_mk1 p g t) (g a) = true
    rcases List.mem_cons.mp ha with rfl | ha
    · rw [hp]
      show Nat.testBit (x_mk1 p g t ||| 2 ^ g a) (g a) = true
      rw [Nat.testBit_or, Nat.testBit_two_pow_self, Bool.or_true]
    · have ih := x_mk1_mem (p := p) (g := g) ha hp
      cases p b with
      | false => exact ih
      | true =>
        show Nat.testBit (x_mk1 p g t ||| 2 ^ g b) (g a) = true
        rw [Nat.testBit_or, ih, Bool.true_or]
/-- a place of a list cut in pieces of m -/
def x_nc {α : Type} (m : Nat) (L : List (List α)) (i : Nat) : Option α := match x_nth L (i / m) with
  | some l => x_nth l (i % m)
  | none => none
theorem x_nc_mem {α : Type} {m : Nat} {L : List (List α)} {i : Nat} {a : α} (h : x_nc m L i = some a) : ∃ l ∈ L, a ∈ l := by
  unfold x_nc at h
  split at h
  · next l hl =>
    rw [x_nth_eq] at hl h
    exact ⟨l, List.mem_of_getElem? hl, List.mem_of_getElem? h⟩
  · cases h
def x_lk {β : Type} (k : Nat) (l : List (Nat × β)) : Option β := List.rec (motive := fun _ => Option β) none (fun q _ ih => match Nat.beq q.1 k with
  | true => some q.2
  | false => ih) l
def x_lk2 {β : Type} (k : Nat) (l : List (Nat × List (Nat × β))) : Option β := List.rec (motive := fun _ => Option β) none (fun q _ ih => match Nat.blt k q.1 with
  | true => x_lk k q.2
  | false => ih) l
def x_wf {β : Type} : List (Nat × List (Nat × β)) → Bool
  | [] => true
  | q :: t => q.2.all (fun e => Nat.blt e.1 q.1) && t.all (fun r => r.2.all fun e => Nat.ble q.1 e.1) && x_wf t
/-- a number, looked at ahead of what is done with it -/
def x_fn {α : Type} (n : Nat) (f : Nat → α) : α := match n with
  | 0 => f 0
  | m + 1 => f (m + 1)
theorem x_fn_eq {α : Type} (n : Nat) (f : Nat → α) : x_fn n f = f n := by
  cases n <;> rfl
theorem x_lk_ne {a k : Nat} (h : a ≠ k) : Nat.beq a k = false := by
  cases e : Nat.beq a k with
  | false => rfl
  | true => exact absurd (Nat.eq_of_beq_eq_true e) h
theorem x_lk_self (a : Nat) : Nat.beq a a = true := by
  cases e : Nat.beq a a with
  | true => rfl
  | false => exact absurd rfl (Nat.ne_of_beq_eq_false e)
theorem x_lk_eq {β : Type} (k : Nat) : ∀ l : List (Nat × β), x_lk k l = l.lookup k
  | [] => rfl
  | (a, b) :: t => by
    have ih := x_lk_eq k t
    show (match Nat.beq a k with | true => some b | false => x_lk k t) = (match k == a with | true => some b | false => t.lookup k)
    by_cases e : a = k
    · subst e
      rw [x_lk_self, beq_self_eq_true]
    · rw [x_lk_ne e, show (k == a) = false from beq_eq_false_iff_ne.mpr (fun z => e z.symm)]
      exact ih
theorem x_lk_app {β : Type} (k : Nat) (b : List (Nat × β)) : ∀ a : List (Nat × β), x_lk k (a ++ b) = (match x_lk k a with | some v => some v | none => x_lk k b)
  | [] => rfl
  | q :: t => by
    have ih := x_lk_app k b t
    show (match Nat.beq q.1 k with | true => some q.2 | false => x_lk k (t ++ b)) = (match (match Nat.beq q.1 k with | true => some q.2 | false => x_lk k t) with | some v => some v | none => x_lk k b)
    cases Nat.beq q.1 k with
    | true => rfl
    | false => exact ih
theorem x_lk_none {β : Type} {k : Nat} : ∀ {l : List (Nat × β)}, (∀ e ∈ l, e.1 ≠ k) → x_lk k l = none
  | [], _ => rfl
  | q :: t, h => by
    have ih := x_lk_none (l := t) (fun e he => h e (List.mem_cons_of_mem _ he))
    show (match Nat.beq q.1 k with | true => some q.2 | false => x_lk k t) = none
    rw [x_lk_ne (h q List.mem_cons_self)]
    exact ih
theorem x_lk2_eq {β : Type} (k : Nat) : ∀ T : List (Nat × List (Nat × β)), x_wf T = true → x_lk2 k T = ((T.map Prod.snd).flatten).lookup k
  | [], _ => rfl
  | q :: t, h => by
    unfold x_wf at h
    simp only [Bool.and_eq_true, List.all_eq_true] at h
    obtain ⟨⟨h1, h2⟩, h3⟩ := h
    have ih := x_lk2_eq k t h3
    rw [List.map_cons, List.flatten_cons, ← x_lk_eq, x_lk_app]
    rw [← x_lk_eq] at ih
    show (match Nat.blt k q.1 with | true => x_lk k q.2 | false => x_lk2 k t) = _
    cases hk : Nat.blt k q.1 with
    | true =>
      have hlt : k < q.1 := Nat.blt_eq.mp hk
      have hn : x_lk k ((t.map Prod.snd).flatten) = none := x_lk_none fun e he => by
        obtain ⟨l, hl, hel⟩ := List.mem_flatten.mp he
        obtain ⟨r, hr, rfl⟩ := List.mem_map.mp hl
        have := Nat.le_of_ble_eq_true (h2 r hr e hel)
        omega
      rw [hn]
      cases x_lk k q.2 <;> rfl
    | false =>
      have hn : x_lk k q.2 = none := x_lk_none fun e he => by
        have h4 : e.1 < q.1 := Nat.blt_eq.mp (h1 e he)
        intro z
        rw [z, ← Nat.blt_eq, hk] at h4
        cases h4
      rw [hn]
      exact ih
def mQ0 : List (Nat × List (Nat × mP × mPo)) := [(65, mCP0_0), (100000, mCP0_1)]
theorem mq_0 : (mQ0.map Prod.snd).flatten = mCP0 := by simp only [mQ0, List.map_cons, List.map_nil, List.flatten_cons, List.flatten_nil, List.append_nil, List.append_assoc, mCP0]
def mQ1 : List (Nat × List (Nat × mP × mPo)) := [(66, mCP1_0), (100000, mCP1_1)]
theorem mq_1 : (mQ1.map Prod.snd).flatten = mCP1 := by simp only [mQ1, List.map_cons, List.map_nil, List.flatten_cons, List.flatten_nil, List.append_nil, List.append_assoc, mCP1]
def mQ2 : List (Nat × List (Nat × mP × mPo)) := [(76, mCP2_0), (100000, mCP2_1)]
theorem mq_2 : (mQ2.map Prod.snd).flatten = mCP2 := by simp only [mQ2, List.map_cons, List.map_nil, List.flatten_cons, List.flatten_nil, List.append_nil, List.append_assoc, mCP2]
def mQ3 : List (Nat × List (Nat × mP × mPo)) := [(100000, mCP3_0)]
theorem mq_3 : (mQ3.map Prod.snd).flatten = mCP3 := by simp only [mQ3, List.map_cons, List.map_nil, List.flatten_cons, List.flatten_nil, List.append_nil, List.append_assoc, mCP3]
def mQ4 : List (Nat × List (Nat × mP × mPo)) := [(100000, mCP4_0)]
theorem mq_4 : (mQ4.map Prod.snd).flatten = mCP4 := by simp only [mQ4, List.map_cons, List.map_nil, List.flatten_cons, List.flatten_nil, List.append_nil, List.append_assoc, mCP4]
def mQ5 : List (Nat × List (Nat × mP × mPo)) := [(65, mCP5_0), (123, mCP5_1), (100000, mCP5_2)]
theorem mq_5 : (mQ5.map Prod.snd).flatten = mCP5 := by simp only [mQ5, List.map_cons, List.map_nil, List.flatten_cons, List.flatten_nil, List.append_nil, List.append_assoc, mCP5]
def mQ6 : List (Nat × List (Nat × mP × mPo)) := [(69, mCP6_0), (123, mCP6_1), (100000, mCP6_2)]
theorem mq_6 : (mQ6.map Prod.snd).flatten = mCP6 := by simp only [mQ6, List.map_cons, List.map_nil, List.flatten_cons, List.flatten_nil, List.append_nil, List.append_assoc, mCP6]
def mQ7 : List (Nat × List (Nat × mP × mPo)) := [(74, mCP7_0), (100000, mCP7_1)]
theorem mq_7 : (mQ7.map Prod.snd).flatten = mCP7 := by simp only [mQ7, List.map_cons, List.map_nil, List.flatten_cons, List.flatten_nil, List.append_nil, List.append_assoc, mCP7]
def mQ8 : List (Nat × List (Nat × mP × mPo)) := [(64, mCP8_0), (100000, mCP8_1)]
theorem mq_8 : (mQ8.map Prod.snd).flatten = mCP8 := by simp only [mQ8, List.map_cons, List.map_nil, List.flatten_cons, List.flatten_nil, List.append_nil, List.append_assoc, mCP8]
def mQ9 : List (Nat × List (Nat × mP × mPo)) := [(65, mCP9_0), (100000, mCP9_1)]
theorem mq_9 : (mQ9.map Prod.snd).flatten = mCP9 := by simp only [mQ9, List.map_cons, List.map_nil, List.flatten_cons, List.flatten_nil, List.append_nil, List.append_assoc, mCP9]
def mQ10 : List (Nat × List (Nat × mP × mPo)) := [(58, mCP10_0), (100000, mCP10_1)]
theorem mq_10 : (mQ10.map Prod.snd).flatten = mCP10 := by simp only [mQ10, List.map_cons, List.map_nil, List.flatten_cons, List.flatten_nil, List.append_nil, List.append_assoc, mCP10]
def mQ11 : List (Nat × List (Nat × mP × mPo)) := [(48, mCP11_0), (91, mCP11_1), (144, mCP11_2), (197, mCP11_3), (246, mCP11_4), (298, mCP11_5), (349, mCP11_6), (100000, mCP11_7)]
theorem mq_11 : (mQ11.map Prod.snd).flatten = mCP11 := by simp only [mQ11, List.map_cons, List.map_nil, List.flatten_cons, List.flatten_nil, List.append_nil, List.append_assoc, mCP11]
def mQ12 : List (Nat × List (Nat × mP × mPo)) := [(61, mCP12_0), (110, mCP12_1), (158, mCP12_2), (211, mCP12_3), (260, mCP12_4), (311, mCP12_5), (360, mCP12_6), (409, mCP12_7), (458, mCP12_8), (100000, mCP12_9)]
theorem mq_12 : (mQ12.map Prod.snd).flatten = mCP12 := by simp only [mQ12, List.map_cons, List.map_nil, List.flatten_cons, List.flatten_nil, List.append_nil, List.append_assoc, mCP12]
def mQ13 : List (Nat × List (Nat × mP × mPo)) := [(41, mCP13_0), (74, mCP13_1), (106, mCP13_2), (139, mCP13_3), (174, mCP13_4), (100000, mCP13_5)]
theorem mq_13 : (mQ13.map Prod.snd).flatten = mCP13 := by simp only [mQ13, List.map_cons, List.map_nil, List.flatten_cons, List.flatten_nil, List.append_nil, List.append_assoc, mCP13]
def mQ14 : List (Nat × List (Nat × mP × mPo)) := [(100000, mCP14)]
theorem mq_14 : (mQ14.map Prod.snd).flatten = mCP14 := by simp only [mQ14, List.map_cons, List.map_nil, List.flatten_cons, List.flatten_nil, List.append_nil, List.append_assoc]
def mQ15 : List (Nat × List (Nat × mP × mPo)) := [(100000, mCP15)]
theorem mq_15 : (mQ15.map Prod.snd).flatten = mCP15 := by simp only [mQ15, List.map_cons, List.map_nil, List.flatten_cons, List.flatten_nil, List.append_nil, List.append_assoc]
def mQ16 : List (Nat × List (Nat × mP × mPo)) := [(100000, mCP16_0)]
theorem mq_16 : (mQ16.map Prod.snd).flatten = mCP16 := by simp only [mQ16, List.map_cons, List.map_nil, List.flatten_cons, List.flatten_nil, List.append_nil, List.append_assoc, mCP16]
def mQ17 : List (Nat × List (Nat × mP × mPo)) := [(100000, mCP17_0)]
theorem mq_17 : (mQ17.map Prod.snd).flatten = mCP17 := by simp only [mQ17, List.map_cons, List.map_nil, List.flatten_cons, List.flatten_nil, List.append_nil, List.append_assoc, mCP17]
def mQ18 : List (Nat × List (Nat × mP × mPo)) := [(100000, mCP18)]
theorem mq_18 : (mQ18.map Prod.snd).flatten = mCP18 := by simp only [mQ18, List.map_cons, List.map_nil, List.flatten_cons, List.flatten_nil, List.append_nil, List.append_assoc]
def mQ19 : List (Nat × List (Nat × mP × mPo)) := [(100000, mCP19_0)]
theorem mq_19 : (mQ19.map Prod.snd).flatten = mCP19 := by simp only [mQ19, List.map_cons, List.map_nil, List.flatten_cons, List.flatten_nil, List.append_nil, List.append_assoc, mCP19]
def mQ20 : List (Nat × List (Nat × mP × mPo)) := [(100000, mCP20)]
theorem mq_20 : (mQ20.map Prod.snd).flatten = mCP20 := by simp only [mQ20, List.map_cons, List.map_nil, List.flatten_cons, List.flatten_nil, List.append_nil, List.append_assoc]
def mCPT : List (List (Nat × List (Nat × mP × mPo))) := [mQ0, mQ1, mQ2, mQ3, mQ4, mQ5, mQ6, mQ7, mQ8, mQ9, mQ10, mQ11, mQ12, mQ13, mQ14, mQ15, mQ16, mQ17, mQ18, mQ19, mQ20]
set_option maxRecDepth 100000 in
theorem mCPT_wf : mCPT.all x_wf = true := by decide +kernel
def mCPf (own idx : Nat) : Option mP := (mCPT[own]?).bind fun l => (x_lk2 idx l).map (fun q => q.1)
theorem mCPT_eq : mCPT.map (fun t => (t.map Prod.snd).flatten) = mCPL := by simp only [mCPL, mCPT, List.map_cons, List.map_nil, mq_0, mq_1, mq_2, mq_3, mq_4, mq_5, mq_6, mq_7, mq_8, mq_9, mq_10, mq_11, mq_12, mq_13, mq_14, mq_15, mq_16, mq_17, mq_18, mq_19, mq_20]
theorem mCPf_eq : mCPf = mCP := by
  funext own idx
  unfold mCPf mCP
  rw [← mCPT_eq, List.getElem?_map]
  cases h : mCPT[own]? with
  | none => rfl
  | some t =>
    have w := List.all_eq_true.mp mCPT_wf t (List.mem_of_getElem? h)
    show (x_lk2 idx t).map _ = _
    rw [x_lk2_eq idx t w]
    rfl
def mT0 : List (Nat × List (Nat × mI0 × Nat)) := [(244, mCD0_0), (326, mCD0_1), (400, mCD0_2), (484, mCD0_3), (572, mCD0_4), (652, mCD0_5), (730, mCD0_6), (814, mCD0_7), (892, mCD0_8), (968, mCD0_9), (1034, mCD0_10), (1116, mCD0_11), (1188, mCD0_12), (100000, mCD0_13)]
theorem mt_0 : (mT0.map Prod.snd).flatten = mCD0 := by simp only [mT0, List.map_cons, List.map_nil, List.flatten_cons, List.flatten_nil, List.append_nil, List.append_assoc, mCD0]
def mT1 : List (Nat × List (Nat × mI0 × Nat)) := [(100000, mCD1)]
theorem mt_1 : (mT1.map Prod.snd).flatten = mCD1 := by simp only [mT1, List.map_cons, List.map_nil, List.flatten_cons, List.flatten_nil, List.append_nil, List.append_assoc]
def mT2 : List (Nat × List (Nat × mI0 × Nat)) := [(100000, mCD2)]
theorem mt_2 : (mT2.map Prod.snd).flatten = mCD2 := by simp only [mT2, List.map_cons, List.map_nil, List.flatten_cons, List.flatten_nil, List.append_nil, List.append_assoc]
def mT3 : List (Nat × List (Nat × mI0 × Nat)) := [(100000, mCD3)]
theorem mt_3 : (mT3.map Prod.snd).flatten = mCD3 := by simp only [mT3, List.map_cons, List.map_nil, List.flatten_cons, List.flatten_nil, List.append_nil, List.append_assoc]
def mT4 : List (Nat × List (Nat × mI0 × Nat)) := [(100000, mCD4)]
theorem mt_4 : (mT4.map Prod.snd).flatten = mCD4 := by simp only [mT4, List.map_cons, List.map_nil, List.flatten_cons, List.flatten_nil, List.append_nil, List.append_assoc]
def mT5 : List (Nat × List (Nat × mI0 × Nat)) := [(100000, mCD5)]
theorem mt_5 : (mT5.map Prod.snd).flatten = mCD5 := by simp only [mT5, List.map_cons, List.map_nil, List.flatten_cons, List.flatten_nil, List.append_nil, List.append_assoc]
def mT6 : List (Nat × List (Nat × mI0 × Nat)) := [(100000, mCD6)]
theorem mt_6 : (mT6.map Prod.snd).flatten = mCD6 := by simp only [mT6, List.map_cons, List.map_nil, List.flatten_cons, List.flatten_nil, List.append_nil, List.append_assoc]
def mT7 : List (Nat × List (Nat × mI0 × Nat)) := [(100000, mCD7)]
theorem mt_7 : (mT7.map Prod.snd).flatten = mCD7 := by simp only [mT7, List.map_cons, List.map_nil, List.flatten_cons, List.flatten_nil, List.append_nil, List.append_assoc]
def mT8 : List (Nat × List (Nat × mI0 × Nat)) := [(100000, mCD8)]
theorem mt_8 : (mT8.map Prod.snd).flatten = mCD8 := by simp only [mT8, List.map_cons, List.map_nil, List.flatten_cons, List.flatten_nil, List.append_nil, List.append_assoc]
def mT9 : List (Nat × List (Nat × mI0 × Nat)) := [(100000, mCD9)]
theorem mt_9 : (mT9.map Prod.snd).flatten = mCD9 := by simp only [mT9, List.map_cons, List.map_nil, List.flatten_cons, List.flatten_nil, List.append_nil, List.append_assoc]
def mT10 : List (Nat × List (Nat × mI0 × Nat)) := [(100000, mCD10)]
theorem mt_10 : (mT10.map Prod.snd).flatten = mCD10 := by simp only [mT10, List.map_cons, List.map_nil, List.flatten_cons, List.flatten_nil, List.append_nil, List.append_assoc]
def mT11 : List (Nat × List (Nat × mI0 × Nat)) := [(100000, mCD11)]
theorem mt_11 : (mT11.map Prod.snd).flatten = mCD11 := by simp only [mT11, List.map_cons, List.map_nil, List.flatten_cons, List.flatten_nil, List.append_nil, List.append_assoc]
def mT12 : List (Nat × List (Nat × mI0 × Nat)) := [(100000, mCD12)]
theorem mt_12 : (mT12.map Prod.snd).flatten = mCD12 := by simp only [mT12, List.map_cons, List.map_nil, List.flatten_cons, List.flatten_nil, List.append_nil, List.append_assoc]
def mT13 : List (Nat × List (Nat × mI0 × Nat)) := [(100000, mCD13)]
theorem mt_13 : (mT13.map Prod.snd).flatten = mCD13 := by simp only [mT13, List.map_cons, List.map_nil, List.flatten_cons, List.flatten_nil, List.append_nil, List.append_assoc]
def mT14 : List (Nat × List (Nat × mI0 × Nat)) := [(100000, mCD14)]
theorem mt_14 : (mT14.map Prod.snd).flatten = mCD14 := by simp only [mT14, List.map_cons, List.map_nil, List.flatten_cons, List.flatten_nil, List.append_nil, List.append_assoc]
def mT15 : List (Nat × List (Nat × mI0 × Nat)) := [(100000, mCD15)]
theorem mt_15 : (mT15.map Prod.snd).flatten = mCD15 := by simp only [mT15, List.map_cons, List.map_nil, List.flatten_cons, List.flatten_nil, List.append_nil, List.append_assoc]
def mT16 : List (Nat × List (Nat × mI0 × Nat)) := [(100000, mCD16)]
theorem mt_16 : (mT16.map Prod.snd).flatten = mCD16 := by simp only [mT16, List.map_cons, List.map_nil, List.flatten_cons, List.flatten_nil, List.append_nil, List.append_assoc]
def mT17 : List (Nat × List (Nat × mI0 × Nat)) := [(100000, mCD17)]
theorem mt_17 : (mT17.map Prod.snd).flatten = mCD17 := by simp only [mT17, List.map_cons, List.map_nil, List.flatten_cons, List.flatten_nil, List.append_nil, List.append_assoc]
def mT18 : List (Nat × List (Nat × mI0 × Nat)) := [(100000, mCD18)]
theorem mt_18 : (mT18.map Prod.snd).flatten = mCD18 := by simp only [mT18, List.map_cons, List.map_nil, List.flatten_cons, List.flatten_nil, List.append_nil, List.append_assoc]
def mT19 : List (Nat × List (Nat × mI0 × Nat)) := [(100000, mCD19)]
theorem mt_19 : (mT19.map Prod.snd).flatten = mCD19 := by simp only [mT19, List.map_cons, List.map_nil, List.flatten_cons, List.flatten_nil, List.append_nil, List.append_assoc]
def mT20 : List (Nat × List (Nat × mI0 × Nat)) := [(100000, mCD20)]
theorem mt_20 : (mT20.map Prod.snd).flatten = mCD20 := by simp only [mT20, List.map_cons, List.map_nil, List.flatten_cons, List.flatten_nil, List.append_nil, List.append_assoc]
def mT21 : List (Nat × List (Nat × mI0 × Nat)) := [(100000, mCD21)]
theorem mt_21 : (mT21.map Prod.snd).flatten = mCD21 := by simp only [mT21, List.map_cons, List.map_nil, List.flatten_cons, List.flatten_nil, List.append_nil, List.append_assoc]
def mT22 : List (Nat × List (Nat × mI0 × Nat)) := [(100000, mCD22)]
theorem mt_22 : (mT22.map Prod.snd).flatten = mCD22 := by simp only [mT22, List.map_cons, List.map_nil, List.flatten_cons, List.flatten_nil, List.append_nil, List.append_assoc]
def mT23 : List (Nat × List (Nat × mI0 × Nat)) := [(100000, mCD23)]
theorem mt_23 : (mT23.map Prod.snd).flatten = mCD23 := by simp only [mT23, List.map_cons, List.map_nil, List.flatten_cons, List.flatten_nil, List.append_nil, List.append_assoc]
def mT24 : List (Nat × List (Nat × mI0 × Nat)) := [(100000, mCD24)]
theorem mt_24 : (mT24.map Prod.snd).flatten = mCD24 := by simp only [mT24, List.map_cons, List.map_nil, List.flatten_cons, List.flatten_nil, List.append_nil, List.append_assoc]
def mT25 : List (Nat × List (Nat × mI0 × Nat)) := [(100000, mCD25)]
theorem mt_25 : (mT25.map Prod.snd).flatten = mCD25 := by simp only [mT25, List.map_cons, List.map_nil, List.flatten_cons, List.flatten_nil, List.append_nil, List.append_assoc]
def mT26 : List (Nat × List (Nat × mI0 × Nat)) := [(100000, mCD26)]
theorem mt_26 : (mT26.map Prod.snd).flatten = mCD26 := by simp only [mT26, List.map_cons, List.map_nil, List.flatten_cons, List.flatten_nil, List.append_nil, List.append_assoc]
def mT27 : List (Nat × List (Nat × mI0 × Nat)) := [(100000, mCD27)]
theorem mt_27 : (mT27.map Prod.snd).flatten = mCD27 := by simp only [mT27, List.map_cons, List.map_nil, List.flatten_cons, List.flatten_nil, List.append_nil, List.append_assoc]
def mT28 : List (Nat × List (Nat × mI0 × Nat)) := [(100000, mCD28)]
theorem mt_28 : (mT28.map Prod.snd).flatten = mCD28 := by simp only [mT28, List.map_cons, List.map_nil, List.flatten_cons, List.flatten_nil, List.append_nil, List.append_assoc]
def mT29 : List (Nat × List (Nat × mI0 × Nat)) := [(100000, mCD29)]
theorem mt_29 : (mT29.map Prod.snd).flatten = mCD29 := by simp only [mT29, List.map_cons, List.map_nil, List.flatten_cons, List.flatten_nil, List.append_nil, List.append_assoc]
def mT30 : List (Nat × List (Nat × mI0 × Nat)) := [(100000, mCD30)]
theorem mt_30 : (mT30.map Prod.snd).flatten = mCD30 := by simp only [mT30, List.map_cons, List.map_nil, List.flatten_cons, List.flatten_nil, List.append_nil, List.append_assoc]
def mT31 : List (Nat × List (Nat × mI0 × Nat)) := [(100000, mCD31)]
theorem mt_31 : (mT31.map Prod.snd).flatten = mCD31 := by simp only [mT31, List.map_cons, List.map_nil, List.flatten_cons, List.flatten_nil, List.append_nil, List.append_assoc]
def mT32 : List (Nat × List (Nat × mI0 × Nat)) := [(100000, mCD32)]
theorem mt_32 : (mT32.map Prod.snd).flatten = mCD32 := by simp only [mT32, List.map_cons, List.map_nil, List.flatten_cons, List.flatten_nil, List.append_nil, List.append_assoc]
def mT33 : List (Nat × List (Nat × mI0 × Nat)) := [(100000, mCD33)]
theorem mt_33 : (mT33.map Prod.snd).flatten = mCD33 := by simp only [mT33, List.map_cons, List.map_nil, List.flatten_cons, List.flatten_nil, List.append_nil, List.append_assoc]
def mT34 : List (Nat × List (Nat × mI0 × Nat)) := [(100000, mCD34)]
theorem mt_34 : (mT34.map Prod.snd).flatten = mCD34 := by simp only [mT34, List.map_cons, List.map_nil, List.flatten_cons, List.flatten_nil, List.append_nil, List.append_assoc]
def mT35 : List (Nat × List (Nat × mI0 × Nat)) := [(100000, mCD35)]
theorem mt_35 : (mT35.map Prod.snd).flatten = mCD35 := by simp only [mT35, List.map_cons, List.map_nil, List.flatten_cons, List.flatten_nil, List.append_nil, List.append_assoc]
def mT36 : List (Nat × List (Nat × mI0 × Nat)) := [(100000, mCD36)]
theorem mt_36 : (mT36.map Prod.snd).flatten = mCD36 := by simp only [mT36, List.map_cons, List.map_nil, List.flatten_cons, List.flatten_nil, List.append_nil, List.append_assoc]
def mT37 : List (Nat × List (Nat × mI0 × Nat)) := [(100000, mCD37)]
theorem mt_37 : (mT37.map Prod.snd).flatten = mCD37 := by simp only [mT37, List.map_cons, List.map_nil, List.flatten_cons, List.flatten_nil, List.append_nil, List.append_assoc]
def mT38 : List (Nat × List (Nat × mI0 × Nat)) := [(100000, mCD38)]
theorem mt_38 : (mT38.map Prod.snd).flatten = mCD38 := by simp only [mT38, List.map_cons, List.map_nil, List.flatten_cons, List.flatten_nil, List.append_nil, List.append_assoc]
def mT39 : List (Nat × List (Nat × mI0 × Nat)) := [(100000, mCD39)]
theorem mt_39 : (mT39.map Prod.snd).flatten = mCD39 := by simp only [mT39, List.map_cons, List.map_nil, List.flatten_cons, List.flatten_nil, List.append_nil, List.append_assoc]
def mT40 : List (Nat × List (Nat × mI0 × Nat)) := [(100000, mCD40)]
theorem mt_40 : (mT40.map Prod.snd).flatten = mCD40 := by simp only [mT40, List.map_cons, List.map_nil, List.flatten_cons, List.flatten_nil, List.append_nil, List.append_assoc]
def mT41 : List (Nat × List (Nat × mI0 × Nat)) := [(100000, mCD41)]
theorem mt_41 : (mT41.map Prod.snd).flatten = mCD41 := by simp only [mT41, List.map_cons, List.map_nil, List.flatten_cons, List.flatten_nil, List.append_nil, List.append_assoc]
def mT42 : List (Nat × List (Nat × mI0 × Nat)) := [(100000, mCD42)]
theorem mt_42 : (mT42.map Prod.snd).flatten = mCD42 := by simp only [mT42, List.map_cons, List.map_nil, List.flatten_cons, List.flatten_nil, List.append_nil, List.append_assoc]
def mT43 : List (Nat × List (Nat × mI0 × Nat)) := [(100000, mCD43)]
theorem mt_43 : (mT43.map Prod.snd).flatten = mCD43 := by simp only [mT43, List.map_cons, List.map_nil, List.flatten_cons, List.flatten_nil, List.append_nil, List.append_assoc]
def mT44 : List (Nat × List (Nat × mI0 × Nat)) := [(100000, mCD44)]
theorem mt_44 : (mT44.map Prod.snd).flatten = mCD44 := by simp only [mT44, List.map_cons, List.map_nil, List.flatten_cons, List.flatten_nil, List.append_nil, List.append_assoc]
def mT45 : List (Nat × List (Nat × mI0 × Nat)) := [(100000, mCD45)]
theorem mt_45 : (mT45.map Prod.snd).flatten = mCD45 := by simp only [mT45, List.map_cons, List.map_nil, List.flatten_cons, List.flatten_nil, List.append_nil, List.append_assoc]
def mT46 : List (Nat × List (Nat × mI0 × Nat)) := [(100000, mCD46)]
theorem mt_46 : (mT46.map Prod.snd).flatten = mCD46 := by simp only [mT46, List.map_cons, List.map_nil, List.flatten_cons, List.flatten_nil, List.append_nil, List.append_assoc]
def mT47 : List (Nat × List (Nat × mI0 × Nat)) := [(100000, mCD47)]
theorem mt_47 : (mT47.map Prod.snd).flatten = mCD47 := by simp only [mT47, List.map_cons, List.map_nil, List.flatten_cons, List.flatten_nil, List.append_nil, List.append_assoc]
def mT48 : List (Nat × List (Nat × mI0 × Nat)) := [(100000, mCD48)]
theorem mt_48 : (mT48.map Prod.snd).flatten = mCD48 := by simp only [mT48, List.map_cons, List.map_nil, List.flatten_cons, List.flatten_nil, List.append_nil, List.append_assoc]
def mT49 : List (Nat × List (Nat × mI0 × Nat)) := [(100000, mCD49)]
theorem mt_49 : (mT49.map Prod.snd).flatten = mCD49 := by simp only [mT49, List.map_cons, List.map_nil, List.flatten_cons, List.flatten_nil, List.append_nil, List.append_assoc]
def mT50 : List (Nat × List (Nat × mI0 × Nat)) := [(100000, mCD50)]
theorem mt_50 : (mT50.map Prod.snd).flatten = mCD50 := by simp only [mT50, List.map_cons, List.map_nil, List.flatten_cons, List.flatten_nil, List.append_nil, List.append_assoc]
def mT51 : List (Nat × List (Nat × mI0 × Nat)) := [(115, mCD51_0), (100000, mCD51_1)]
theorem mt_51 : (mT51.map Prod.snd).flatten = mCD51 := by simp only [mT51, List.map_cons, List.map_nil, List.flatten_cons, List.flatten_nil, List.append_nil, List.append_assoc, mCD51]
def mT52 : List (Nat × List (Nat × mI0 × Nat)) := [(100000, mCD52)]
theorem mt_52 : (mT52.map Prod.snd).flatten = mCD52 := by simp only [mT52, List.map_cons, List.map_nil, List.flatten_cons, List.flatten_nil, List.append_nil, List.append_assoc]
def mT53 : List (Nat × List (Nat × mI0 × Nat)) := [(100000, mCD53)]
theorem mt_53 : (mT53.map Prod.snd).flatten = mCD53 := by simp only [mT53, List.map_cons, List.map_nil, List.flatten_cons, List.flatten_nil, List.append_nil, List.append_assoc]
def mT54 : List (Nat × List (Nat × mI0 × Nat)) := [(178, mCD54_0), (100000, mCD54_1)]
theorem mt_54 : (mT54.map Prod.snd).flatten = mCD54 := by simp only [mT54, List.map_cons, List.map_nil, List.flatten_cons, List.flatten_nil, List.append_nil, List.append_assoc, mCD54]
def mT55 : List (Nat × List (Nat × mI0 × Nat)) := [(100000, mCD55)]
theorem mt_55 : (mT55.map Prod.snd).flatten = mCD55 := by simp only [mT55, List.map_cons, List.map_nil, List.flatten_cons, List.flatten_nil, List.append_nil, List.append_assoc]
def mT56 : List (Nat × List (Nat × mI0 × Nat)) := [(100000, mCD56)]
theorem mt_56 : (mT56.map Prod.snd).flatten = mCD56 := by simp only [mT56, List.map_cons, List.map_nil, List.flatten_cons, List.flatten_nil, List.append_nil, List.append_assoc]
def mT57 : List (Nat × List (Nat × mI0 × Nat)) := [(100000, mCD57)]
theorem mt_57 : (mT57.map Prod.snd).flatten = mCD57 := by simp only [mT57, List.map_cons, List.map_nil, List.flatten_cons, List.flatten_nil, List.append_nil, List.append_assoc]
def mT58 : List (Nat × List (Nat × mI0 × Nat)) := [(100000, mCD58)]
theorem mt_58 : (mT58.map Prod.snd).flatten = mCD58 := by simp only [mT58, List.map_cons, List.map_nil, List.flatten_cons, List.flatten_nil, List.append_nil, List.append_assoc]
def mT59 : List (Nat × List (Nat × mI0 × Nat)) := [(100000, mCD59)]
theorem mt_59 : (mT59.map Prod.snd).flatten = mCD59 := by simp only [mT59, List.map_cons, List.map_nil, List.flatten_cons, List.flatten_nil, List.append_nil, List.append_assoc]
def mT60 : List (Nat × List (Nat × mI0 × Nat)) := [(100000, mCD60)]
theorem mt_60 : (mT60.map Prod.snd).flatten = mCD60 := by simp only [mT60, List.map_cons, List.map_nil, List.flatten_cons, List.flatten_nil, List.append_nil, List.append_assoc]
def mT61 : List (Nat × List (Nat × mI0 × Nat)) := [(100000, mCD61)]
theorem mt_61 : (mT61.map Prod.snd).flatten = mCD61 := by simp only [mT61, List.map_cons, List.map_nil, List.flatten_cons, List.flatten_nil, List.append_nil, List.append_assoc]
def mT62 : List (Nat × List (Nat × mI0 × Nat)) := [(118, mCD62_0), (100000, mCD62_1)]
theorem mt_62 : (mT62.map Prod.snd).flatten = mCD62 := by simp only [mT62, List.map_cons, List.map_nil, List.flatten_cons, List.flatten_nil, List.append_nil, List.append_assoc, mCD62]
def mT63 : List (Nat × List (Nat × mI0 × Nat)) := [(100000, mCD63)]
theorem mt_63 : (mT63.map Prod.snd).flatten = mCD63 := by simp only [mT63, List.map_cons, List.map_nil, List.flatten_cons, List.flatten_nil, List.append_nil, List.append_assoc]
def mT64 : List (Nat × List (Nat × mI0 × Nat)) := [(100000, mCD64)]
theorem mt_64 : (mT64.map Prod.snd).flatten = mCD64 := by simp only [mT64, List.map_cons, List.map_nil, List.flatten_cons, List.flatten_nil, List.append_nil, List.append_assoc]
def mT65 : List (Nat × List (Nat × mI0 × Nat)) := [(100000, mCD65)]
theorem mt_65 : (mT65.map Prod.snd).flatten = mCD65 := by simp only [mT65, List.map_cons, List.map_nil, List.flatten_cons, List.flatten_nil, List.append_nil, List.append_assoc]
def mT66 : List (Nat × List (Nat × mI0 × Nat)) := [(100000, mCD66)]
theorem mt_66 : (mT66.map Prod.snd).flatten = mCD66 := by simp only [mT66, List.map_cons, List.map_nil, List.flatten_cons, List.flatten_nil, List.append_nil, List.append_assoc]
def mT67 : List (Nat × List (Nat × mI0 × Nat)) := [(100000, mCD67)]
theorem mt_67 : (mT67.map Prod.snd).flatten = mCD67 := by simp only [mT67, List.map_cons, List.map_nil, List.flatten_cons, List.flatten_nil, List.append_nil, List.append_assoc]
def mT68 : List (Nat × List (Nat × mI0 × Nat)) := [(100000, mCD68)]
theorem mt_68 : (mT68.map Prod.snd).flatten = mCD68 := by simp only [mT68, List.map_cons, List.map_nil, List.flatten_cons, List.flatten_nil, List.append_nil, List.append_assoc]
def mT69 : List (Nat × List (Nat × mI0 × Nat)) := [(100000, mCD69)]
theorem mt_69 : (mT69.map Prod.snd).flatten = mCD69 := by simp only [mT69, List.map_cons, List.map_nil, List.flatten_cons, List.flatten_nil, List.append_nil, List.append_assoc]
def mT70 : List (Nat × List (Nat × mI0 × Nat)) := [(100000, mCD70)]
theorem mt_70 : (mT70.map Prod.snd).flatten = mCD70 := by simp only [mT70, List.map_cons, List.map_nil, List.flatten_cons, List.flatten_nil, List.append_nil, List.append_assoc]
def mT71 : List (Nat × List (Nat × mI0 × Nat)) := [(100000, mCD71)]
theorem mt_71 : (mT71.map Prod.snd).flatten = mCD71 := by simp only [mT71, List.map_cons, List.map_nil, List.flatten_cons, List.flatten_nil, List.append_nil, List.append_assoc]
def mT72 : List (Nat × List (Nat × mI0 × Nat)) := [(100000, mCD72)]
theorem mt_72 : (mT72.map Prod.snd).flatten = mCD72 := by simp only [mT72, List.map_cons, List.map_nil, List.flatten_cons, List.flatten_nil, List.append_nil, List.append_assoc]
def mT73 : List (Nat × List (Nat × mI0 × Nat)) := [(100000, mCD73)]
theorem mt_73 : (mT73.map Prod.snd).flatten = mCD73 := by simp only [mT73, List.map_cons, List.map_nil, List.flatten_cons, List.flatten_nil, List.append_nil, List.append_assoc]
def mT74 : List (Nat × List (Nat × mI0 × Nat)) := [(100, mCD74_0), (100000, mCD74_1)]
theorem mt_74 : (mT74.map Prod.snd).flatten = mCD74 := by simp only [mT74, List.map_cons, List.map_nil, List.flatten_cons, List.flatten_nil, List.append_nil, List.append_assoc, mCD74]
def mT75 : List (Nat × List (Nat × mI0 × Nat)) := [(100000, mCD75)]
theorem mt_75 : (mT75.map Prod.snd).flatten = mCD75 := by simp only [mT75, List.map_cons, List.map_nil, List.flatten_cons, List.flatten_nil, List.append_nil, List.append_assoc]
def mT76 : List (Nat × List (Nat × mI0 × Nat)) := [(100000, mCD76)]
theorem mt_76 : (mT76.map Prod.snd).flatten = mCD76 := by simp only [mT76, List.map_cons, List.map_nil, List.flatten_cons, List.flatten_nil, List.append_nil, List.append_assoc]
def mT77 : List (Nat × List (Nat × mI0 × Nat)) := [(100000, mCD77)]
theorem mt_77 : (mT77.map Prod.snd).flatten = mCD77 := by simp only [mT77, List.map_cons, List.map_nil, List.flatten_cons, List.flatten_nil, List.append_nil, List.append_assoc]
def mT78 : List (Nat × List (Nat × mI0 × Nat)) := [(100000, mCD78)]
theorem mt_78 : (mT78.map Prod.snd).flatten = mCD78 := by simp only [mT78, List.map_cons, List.map_nil, List.flatten_cons, List.flatten_nil, List.append_nil, List.append_assoc]
def mT79 : List (Nat × List (Nat × mI0 × Nat)) := [(100000, mCD79)]
theorem mt_79 : (mT79.map Prod.snd).flatten = mCD79 := by simp only [mT79, List.map_cons, List.map_nil, List.flatten_cons, List.flatten_nil, List.append_nil, List.append_assoc]
def mT80 : List (Nat × List (Nat × mI0 × Nat)) := [(115, mCD80_0), (100000, mCD80_1)]
theorem mt_80 : (mT80.map Prod.snd).flatten = mCD80 := by simp only [mT80, List.map_cons, List.map_nil, List.flatten_cons, List.flatten_nil, List.append_nil, List.append_assoc, mCD80]
def mT81 : List (Nat × List (Nat × mI0 × Nat)) := [(100000, mCD81)]
theorem mt_81 : (mT81.map Prod.snd).flatten = mCD81 := by simp only [mT81, List.map_cons, List.map_nil, List.flatten_cons, List.flatten_nil, List.append_nil, List.append_assoc]
def mT82 : List (Nat × List (Nat × mI0 × Nat)) := [(100000, mCD82)]
theorem mt_82 : (mT82.map Prod.snd).flatten = mCD82 := by simp only [mT82, List.map_cons, List.map_nil, List.flatten_cons, List.flatten_nil, List.append_nil, List.append_assoc]
def mT83 : List (Nat × List (Nat × mI0 × Nat)) := [(100000, mCD83)]
theorem mt_83 : (mT83.map Prod.snd).flatten = mCD83 := by simp only [mT83, List.map_cons, List.map_nil, List.flatten_cons, List.flatten_nil, List.append_nil, List.append_assoc]
def mT84 : List (Nat × List (Nat × mI0 × Nat)) := [(100000, mCD84)]
theorem mt_84 : (mT84.map Prod.snd).flatten = mCD84 := by simp only [mT84, List.map_cons, List.map_nil, List.flatten_cons, List.flatten_nil, List.append_nil, List.append_assoc]
def mT85 : List (Nat × List (Nat × mI0 × Nat)) := [(100000, mCD85)]
theorem mt_85 : (mT85.map Prod.snd).flatten = mCD85 := by simp only [mT85, List.map_cons, List.map_nil, List.flatten_cons, List.flatten_nil, List.append_nil, List.append_assoc]
def mT86 : List (Nat × List (Nat × mI0 × Nat)) := [(100000, mCD86)]
theorem mt_86 : (mT86.map Prod.snd).flatten = mCD86 := by simp only [mT86, List.map_cons, List.map_nil, List.flatten_cons, List.flatten_nil, List.append_nil, List.append_assoc]
def mT87 : List (Nat × List (Nat × mI0 × Nat)) := [(100000, mCD87)]
theorem mt_87 : (mT87.map Prod.snd).flatten = mCD87 := by simp only [mT87, List.map_cons, List.map_nil, List.flatten_cons, List.flatten_nil, List.append_nil, List.append_assoc]
def mT88 : List (Nat × List (Nat × mI0 × Nat)) := [(100000, mCD88)]
theorem mt_88 : (mT88.map Prod.snd).flatten = mCD88 := by simp only [mT88, List.map_cons, List.map_nil, List.flatten_cons, List.flatten_nil, List.append_nil, List.append_assoc]
def mT89 : List (Nat × List (Nat × mI0 × Nat)) := [(100000, mCD89)]
theorem mt_89 : (mT89.map Prod.snd).flatten = mCD89 := by simp only [mT89, List.map_cons, List.map_nil, List.flatten_cons, List.flatten_nil, List.append_nil, List.append_assoc]
def mT90 : List (Nat × List (Nat × mI0 × Nat)) := [(100000, mCD90)]
theorem mt_90 : (mT90.map Prod.snd).flatten = mCD90 := by simp only [mT90, List.map_cons, List.map_nil, List.flatten_cons, List.flatten_nil, List.append_nil, List.append_assoc]
def mT91 : List (Nat × List (Nat × mI0 × Nat)) := [(100000, mCD91)]
theorem mt_91 : (mT91.map Prod.snd).flatten = mCD91 := by simp only [mT91, List.map_cons, List.map_nil, List.flatten_cons, List.flatten_nil, List.append_nil, List.append_assoc]
def mT92 : List (Nat × List (Nat × mI0 × Nat)) := [(100000, mCD92)]
theorem mt_92 : (mT92.map Prod.snd).flatten = mCD92 := by simp only [mT92, List.map_cons, List.map_nil, List.flatten_cons, List.flatten_nil, List.append_nil, List.append_assoc]
def mT93 : List (Nat × List (Nat × mI0 × Nat)) := [(100000, mCD93)]
theorem mt_93 : (mT93.map Prod.snd).flatten = mCD93 := by simp only [mT93, List.map_cons, List.map_nil, List.flatten_cons, List.flatten_nil, List.append_nil, List.append_assoc]
def mT94 : List (Nat × List (Nat × mI0 × Nat)) := [(100000, mCD94)]
theorem mt_94 : (mT94.map Prod.snd).flatten = mCD94 := by simp only [mT94, List.map_cons, List.map_nil, List.flatten_cons, List.flatten_nil, List.append_nil, List.append_assoc]
def mT95 : List (Nat × List (Nat × mI0 × Nat)) := [(100000, mCD95)]
theorem mt_95 : (mT95.map Prod.snd).flatten = mCD95 := by simp only [mT95, List.map_cons, List.map_nil, List.flatten_cons, List.flatten_nil, List.append_nil, List.append_assoc]
def mT96 : List (Nat × List (Nat × mI0 × Nat)) := [(100000, mCD96)]
theorem mt_96 : (mT96.map Prod.snd).flatten = mCD96 := by simp only [mT96, List.map_cons, List.map_nil, List.flatten_cons, List.flatten_nil, List.append_nil, List.append_assoc]
def mT97 : List (Nat × List (Nat × mI0 × Nat)) := [(100000, mCD97)]
theorem mt_97 : (mT97.map Prod.snd).flatten = mCD97 := by simp only [mT97, List.map_cons, List.map_nil, List.flatten_cons, List.flatten_nil, List.append_nil, List.append_assoc]
def mT98 : List (Nat × List (Nat × mI0 × Nat)) := [(100000, mCD98)]
theorem mt_98 : (mT98.map Prod.snd).flatten = mCD98 := by simp only [mT98, List.map_cons, List.map_nil, List.flatten_cons, List.flatten_nil, List.append_nil, List.append_assoc]
def mT99 : List (Nat × List (Nat × mI0 × Nat)) := [(100000, mCD99)]
theorem mt_99 : (mT99.map Prod.snd).flatten = mCD99 := by simp only [mT99, List.map_cons, List.map_nil, List.flatten_cons, List.flatten_nil, List.append_nil, List.append_assoc]
def mT100 : List (Nat × List (Nat × mI0 × Nat)) := [(100000, mCD100)]
theorem mt_100 : (mT100.map Prod.snd).flatten = mCD100 := by simp only [mT100, List.map_cons, List.map_nil, List.flatten_cons, List.flatten_nil, List.append_nil, List.append_assoc]
def mT101 : List (Nat × List (Nat × mI0 × Nat)) := [(100000, mCD101)]
theorem mt_101 : (mT101.map Prod.snd).flatten = mCD101 := by simp only [mT101, List.map_cons, List.map_nil, List.flatten_cons, List.flatten_nil, List.append_nil, List.append_assoc]
def mT102 : List (Nat × List (Nat × mI0 × Nat)) := [(100000, mCD102)]
theorem mt_102 : (mT102.map Prod.snd).flatten = mCD102 := by simp only [mT102, List.map_cons, List.map_nil, List.flatten_cons, List.flatten_nil, List.append_nil, List.append_assoc]
def mT103 : List (Nat × List (Nat × mI0 × Nat)) := [(100000, mCD103)]
theorem mt_103 : (mT103.map Prod.snd).flatten = mCD103 := by simp only [mT103, List.map_cons, List.map_nil, List.flatten_cons, List.flatten_nil, List.append_nil, List.append_assoc]
def mT104 : List (Nat × List (Nat × mI0 × Nat)) := [(100000, mCD104)]
theorem mt_104 : (mT104.map Prod.snd).flatten = mCD104 := by simp only [mT104, List.map_cons, List.map_nil, List.flatten_cons, List.flatten_nil, List.append_nil, List.append_assoc]
def mT105 : List (Nat × List (Nat × mI0 × Nat)) := [(100000, mCD105)]
theorem mt_105 : (mT105.map Prod.snd).flatten = mCD105 := by simp only [mT105, List.map_cons, List.map_nil, List.flatten_cons, List.flatten_nil, List.append_nil, List.append_assoc]
def mT106 : List (Nat × List (Nat × mI0 × Nat)) := [(100000, mCD106)]
theorem mt_106 : (mT106.map Prod.snd).flatten = mCD106 := by simp only [mT106, List.map_cons, List.map_nil, List.flatten_cons, List.flatten_nil, List.append_nil, List.append_assoc]
def mT107 : List (Nat × List (Nat × mI0 × Nat)) := [(100000, mCD107)]
theorem mt_107 : (mT107.map Prod.snd).flatten = mCD107 := by simp only [mT107, List.map_cons, List.map_nil, List.flatten_cons, List.flatten_nil, List.append_nil, List.append_assoc]
def mT108 : List (Nat × List (Nat × mI0 × Nat)) := [(100000, mCD108)]
theorem mt_108 : (mT108.map Prod.snd).flatten = mCD108 := by simp only [mT108, List.map_cons, List.map_nil, List.flatten_cons, List.flatten_nil, List.append_nil, List.append_assoc]
def mT109 : List (Nat × List (Nat × mI0 × Nat)) := [(100000, mCD109)]
theorem mt_109 : (mT109.map Prod.snd).flatten = mCD109 := by simp only [mT109, List.map_cons, List.map_nil, List.flatten_cons, List.flatten_nil, List.append_nil, List.append_assoc]
def mT110 : List (Nat × List (Nat × mI0 × Nat)) := [(100000, mCD110)]
theorem mt_110 : (mT110.map Prod.snd).flatten = mCD110 := by simp only [mT110, List.map_cons, List.map_nil, List.flatten_cons, List.flatten_nil, List.append_nil, List.append_assoc]
def mT111 : List (Nat × List (Nat × mI0 × Nat)) := [(100000, mCD111)]
theorem mt_111 : (mT111.map Prod.snd).flatten = mCD111 := by simp only [mT111, List.map_cons, List.map_nil, List.flatten_cons, List.flatten_nil, List.append_nil, List.append_assoc]
def mT112 : List (Nat × List (Nat × mI0 × Nat)) := [(100000, mCD112)]
theorem mt_112 : (mT112.map Prod.snd).flatten = mCD112 := by simp only [mT112, List.map_cons, List.map_nil, List.flatten_cons, List.flatten_nil, List.append_nil, List.append_assoc]
def mT113 : List (Nat × List (Nat × mI0 × Nat)) := [(100000, mCD113)]
theorem mt_113 : (mT113.map Prod.snd).flatten = mCD113 := by simp only [mT113, List.map_cons, List.map_nil, List.flatten_cons, List.flatten_nil, List.append_nil, List.append_assoc]
def mT114 : List (Nat × List (Nat × mI0 × Nat)) := [(100000, mCD114)]
theorem mt_114 : (mT114.map Prod.snd).flatten = mCD114 := by simp only [mT114, List.map_cons, List.map_nil, List.flatten_cons, List.flatten_nil, List.append_nil, List.append_assoc]
def mT115 : List (Nat × List (Nat × mI0 × Nat)) := [(100000, mCD115)]
theorem mt_115 : (mT115.map Prod.snd).flatten = mCD115 := by simp only [mT115, List.map_cons, List.map_nil, List.flatten_cons, List.flatten_nil, List.append_nil, List.append_assoc]
def mT116 : List (Nat × List (Nat × mI0 × Nat)) := [(100000, mCD116)]
theorem mt_116 : (mT116.map Prod.snd).flatten = mCD116 := by simp only [mT116, List.map_cons, List.map_nil, List.flatten_cons, List.flatten_nil, List.append_nil, List.append_assoc]
def mT117 : List (Nat × List (Nat × mI0 × Nat)) := [(100000, mCD117)]
theorem mt_117 : (mT117.map Prod.snd).flatten = mCD117 := by simp only [mT117, List.map_cons, List.map_nil, List.flatten_cons, List.flatten_nil, List.append_nil, List.append_assoc]
def mT118 : List (Nat × List (Nat × mI0 × Nat)) := [(100000, mCD118)]
theorem mt_118 : (mT118.map Prod.snd).flatten = mCD118 := by simp only [mT118, List.map_cons, List.map_nil, List.flatten_cons, List.flatten_nil, List.append_nil, List.append_assoc]
def mT119 : List (Nat × List (Nat × mI0 × Nat)) := [(100000, mCD119)]
theorem mt_119 : (mT119.map Prod.snd).flatten = mCD119 := by simp only [mT119, List.map_cons, List.map_nil, List.flatten_cons, List.flatten_nil, List.append_nil, List.append_assoc]
def mT120 : List (Nat × List (Nat × mI0 × Nat)) := [(100000, mCD120)]
theorem mt_120 : (mT120.map Prod.snd).flatten = mCD120 := by simp only [mT120, List.map_cons, List.map_nil, List.flatten_cons, List.flatten_nil, List.append_nil, List.append_assoc]
def mT121 : List (Nat × List (Nat × mI0 × Nat)) := [(100000, mCD121)]
theorem mt_121 : (mT121.map Prod.snd).flatten = mCD121 := by simp only [mT121, List.map_cons, List.map_nil, List.flatten_cons, List.flatten_nil, List.append_nil, List.append_assoc]
def mT122 : List (Nat × List (Nat × mI0 × Nat)) := [(100000, mCD122)]
theorem mt_122 : (mT122.map Prod.snd).flatten = mCD122 := by simp only [mT122, List.map_cons, List.map_nil, List.flatten_cons, List.flatten_nil, List.append_nil, List.append_assoc]
def mT123 : List (Nat × List (Nat × mI0 × Nat)) := [(100000, mCD123)]
theorem mt_123 : (mT123.map Prod.snd).flatten = mCD123 := by simp only [mT123, List.map_cons, List.map_nil, List.flatten_cons, List.flatten_nil, List.append_nil, List.append_assoc]
def mT124 : List (Nat × List (Nat × mI0 × Nat)) := [(100000, mCD124)]
theorem mt_124 : (mT124.map Prod.snd).flatten = mCD124 := by simp only [mT124, List.map_cons, List.map_nil, List.flatten_cons, List.flatten_nil, List.append_nil, List.append_assoc]
def mT125 : List (Nat × List (Nat × mI0 × Nat)) := [(100000, mCD125)]
theorem mt_125 : (mT125.map Prod.snd).flatten = mCD125 := by simp only [mT125, List.map_cons, List.map_nil, List.flatten_cons, List.flatten_nil, List.append_nil, List.append_assoc]
def mT126 : List (Nat × List (Nat × mI0 × Nat)) := [(100000, mCD126)]
theorem mt_126 : (mT126.map Prod.snd).flatten = mCD126 := by simp only [mT126, List.map_cons, List.map_nil, List.flatten_cons, List.flatten_nil, List.append_nil, List.append_assoc]
def mT127 : List (Nat × List (Nat × mI0 × Nat)) := [(100000, mCD127)]
theorem mt_127 : (mT127.map Prod.snd).flatten = mCD127 := by simp only [mT127, List.map_cons, List.map_nil, List.flatten_cons, List.flatten_nil, List.append_nil, List.append_assoc]
def mT128 : List (Nat × List (Nat × mI0 × Nat)) := [(100000, mCD128)]
theorem mt_128 : (mT128.map Prod.snd).flatten = mCD128 := by simp only [mT128, List.map_cons, List.map_nil, List.flatten_cons, List.flatten_nil, List.append_nil, List.append_assoc]
def mT129 : List (Nat × List (Nat × mI0 × Nat)) := [(100000, mCD129)]
theorem mt_129 : (mT129.map Prod.snd).flatten = mCD129 := by simp only [mT129, List.map_cons, List.map_nil, List.flatten_cons, List.flatten_nil, List.append_nil, List.append_assoc]
def mT130 : List (Nat × List (Nat × mI0 × Nat)) := [(100000, mCD130)]
theorem mt_130 : (mT130.map Prod.snd).flatten = mCD130 := by simp only [mT130, List.map_cons, List.map_nil, List.flatten_cons, List.flatten_nil, List.append_nil, List.append_assoc]
def mT131 : List (Nat × List (Nat × mI0 × Nat)) := [(100000, mCD131)]
theorem mt_131 : (mT131.map Prod.snd).flatten = mCD131 := by simp only [mT131, List.map_cons, List.map_nil, List.flatten_cons, List.flatten_nil, List.append_nil, List.append_assoc]
def mT132 : List (Nat × List (Nat × mI0 × Nat)) := [(100000, mCD132)]
theorem mt_132 : (mT132.map Prod.snd).flatten = mCD132 := by simp only [mT132, List.map_cons, List.map_nil, List.flatten_cons, List.flatten_nil, List.append_nil, List.append_assoc]
def mT133 : List (Nat × List (Nat × mI0 × Nat)) := [(100000, mCD133)]
theorem mt_133 : (mT133.map Prod.snd).flatten = mCD133 := by simp only [mT133, List.map_cons, List.map_nil, List.flatten_cons, List.flatten_nil, List.append_nil, List.append_assoc]
def mT134 : List (Nat × List (Nat × mI0 × Nat)) := [(100000, mCD134)]
theorem mt_134 : (mT134.map Prod.snd).flatten = mCD134 := by simp only [mT134, List.map_cons, List.map_nil, List.flatten_cons, List.flatten_nil, List.append_nil, List.append_assoc]
def mT135 : List (Nat × List (Nat × mI0 × Nat)) := [(100000, mCD135)]
theorem mt_135 : (mT135.map Prod.snd).flatten = mCD135 := by simp only [mT135, List.map_cons, List.map_nil, List.flatten_cons, List.flatten_nil, List.append_nil, List.append_assoc]
def mT136 : List (Nat × List (Nat × mI0 × Nat)) := [(100000, mCD136)]
theorem mt_136 : (mT136.map Prod.snd).flatten = mCD136 := by simp only [mT136, List.map_cons, List.map_nil, List.flatten_cons, List.flatten_nil, List.append_nil, List.append_assoc]
def mT137 : List (Nat × List (Nat × mI0 × Nat)) := [(100000, mCD137)]
theorem mt_137 : (mT137.map Prod.snd).flatten = mCD137 := by simp only [mT137, List.map_cons, List.map_nil, List.flatten_cons, List.flatten_nil, List.append_nil, List.append_assoc]
def mT138 : List (Nat × List (Nat × mI0 × Nat)) := [(100000, mCD138)]
theorem mt_138 : (mT138.map Prod.snd).flatten = mCD138 := by simp only [mT138, List.map_cons, List.map_nil, List.flatten_cons, List.flatten_nil, List.append_nil, List.append_assoc]
def mT139 : List (Nat × List (Nat × mI0 × Nat)) := [(100000, mCD139)]
theorem mt_139 : (mT139.map Prod.snd).flatten = mCD139 := by simp only [mT139, List.map_cons, List.map_nil, List.flatten_cons, List.flatten_nil, List.append_nil, List.append_assoc]
def mT140 : List (Nat × List (Nat × mI0 × Nat)) := [(100000, mCD140)]
theorem mt_140 : (mT140.map Prod.snd).flatten = mCD140 := by simp only [mT140, List.map_cons, List.map_nil, List.flatten_cons, List.flatten_nil, List.append_nil, List.append_assoc]
def mT141 : List (Nat × List (Nat × mI0 × Nat)) := [(100000, mCD141)]
theorem mt_141 : (mT141.map Prod.snd).flatten = mCD141 := by simp only [mT141, List.map_cons, List.map_nil, List.flatten_cons, List.flatten_nil, List.append_nil, List.append_assoc]
def mT142 : List (Nat × List (Nat × mI0 × Nat)) := [(156, mCD142_0), (100000, mCD142_1)]
theorem mt_142 : (mT142.map Prod.snd).flatten = mCD142 := by simp only [mT142, List.map_cons, List.map_nil, List.flatten_cons, List.flatten_nil, List.append_nil, List.append_assoc, mCD142]
def mT143 : List (Nat × List (Nat × mI0 × Nat)) := [(100000, mCD143)]
theorem mt_143 : (mT143.map Prod.snd).flatten = mCD143 := by simp only [mT143, List.map_cons, List.map_nil, List.flatten_cons, List.flatten_nil, List.append_nil, List.append_assoc]
def mT144 : List (Nat × List (Nat × mI0 × Nat)) := [(100000, mCD144)]
theorem mt_144 : (mT144.map Prod.snd).flatten = mCD144 := by simp only [mT144, List.map_cons, List.map_nil, List.flatten_cons, List.flatten_nil, List.append_nil, List.append_assoc]
def mT145 : List (Nat × List (Nat × mI0 × Nat)) := [(100000, mCD145)]
theorem mt_145 : (mT145.map Prod.snd).flatten = mCD145 := by simp only [mT145, List.map_cons, List.map_nil, List.flatten_cons, List.flatten_nil, List.append_nil, List.append_assoc]
def mT146 : List (Nat × List (Nat × mI0 × Nat)) := [(100000, mCD146)]
theorem mt_146 : (mT146.map Prod.snd).flatten = mCD146 := by simp only [mT146, List.map_cons, List.map_nil, List.flatten_cons, List.flatten_nil, List.append_nil, List.append_assoc]
def mT147 : List (Nat × List (Nat × mI0 × Nat)) := [(100000, mCD147)]
theorem mt_147 : (mT147.map Prod.snd).flatten = mCD147 := by simp only [mT147, List.map_cons, List.map_nil, List.flatten_cons, List.flatten_nil, List.append_nil, List.append_assoc]
def mT148 : List (Nat × List (Nat × mI0 × Nat)) := [(100000, mCD148)]
theorem mt_148 : (mT148.map Prod.snd).flatten = mCD148 := by simp only [mT148, List.map_cons, List.map_nil, List.flatten_cons, List.flatten_nil, List.append_nil, List.append_assoc]
def mT149 : List (Nat × List (Nat × mI0 × Nat)) := [(100000, mCD149)]
theorem mt_149 : (mT149.map Prod.snd).flatten = mCD149 := by simp only [mT149, List.map_cons, List.map_nil, List.flatten_cons, List.flatten_nil, List.append_nil, List.append_assoc]
def mT150 : List (Nat × List (Nat × mI0 × Nat)) := [(100000, mCD150)]
theorem mt_150 : (mT150.map Prod.snd).flatten = mCD150 := by simp only [mT150, List.map_cons, List.map_nil, List.flatten_cons, List.flatten_nil, List.append_nil, List.append_assoc]
def mT151 : List (Nat × List (Nat × mI0 × Nat)) := [(100000, mCD151)]
theorem mt_151 : (mT151.map Prod.snd).flatten = mCD151 := by simp only [mT151, List.map_cons, List.map_nil, List.flatten_cons, List.flatten_nil, List.append_nil, List.append_assoc]
def mT152 : List (Nat × List (Nat × mI0 × Nat)) := [(100000, mCD152)]
theorem mt_152 : (mT152.map Prod.snd).flatten = mCD152 := by simp only [mT152, List.map_cons, List.map_nil, List.flatten_cons, List.flatten_nil, List.append_nil, List.append_assoc]
def mT153 : List (Nat × List (Nat × mI0 × Nat)) := [(100000, mCD153)]
theorem mt_153 : (mT153.map Prod.snd).flatten = mCD153 := by simp only [mT153, List.map_cons, List.map_nil, List.flatten_cons, List.flatten_nil, List.append_nil, List.append_assoc]
def mT154 : List (Nat × List (Nat × mI0 × Nat)) := [(100000, mCD154)]
theorem mt_154 : (mT154.map Prod.snd).flatten = mCD154 := by simp only [mT154, List.map_cons, List.map_nil, List.flatten_cons, List.flatten_nil, List.append_nil, List.append_assoc]
def mT155 : List (Nat × List (Nat × mI0 × Nat)) := [(100000, mCD155)]
theorem mt_155 : (mT155.map Prod.snd).flatten = mCD155 := by simp only [mT155, List.map_cons, List.map_nil, List.flatten_cons, List.flatten_nil, List.append_nil, List.append_assoc]
def mT156 : List (Nat × List (Nat × mI0 × Nat)) := [(100000, mCD156)]
theorem mt_156 : (mT156.map Prod.snd).flatten = mCD156 := by simp only [mT156, List.map_cons, List.map_nil, List.flatten_cons, List.flatten_nil, List.append_nil, List.append_assoc]
def mT157 : List (Nat × List (Nat × mI0 × Nat)) := [(100000, mCD157)]
theorem mt_157 : (mT157.map Prod.snd).flatten = mCD157 := by simp only [mT157, List.map_cons, List.map_nil, List.flatten_cons, List.flatten_nil, List.append_nil, List.append_assoc]
def mT158 : List (Nat × List (Nat × mI0 × Nat)) := [(100000, mCD158)]
theorem mt_158 : (mT158.map Prod.snd).flatten = mCD158 := by simp only [mT158, List.map_cons, List.map_nil, List.flatten_cons, List.flatten_nil, List.append_nil, List.append_assoc]
def mT159 : List (Nat × List (Nat × mI0 × Nat)) := [(100000, mCD159)]
theorem mt_159 : (mT159.map Prod.snd).flatten = mCD159 := by simp only [mT159, List.map_cons, List.map_nil, List.flatten_cons, List.flatten_nil, List.append_nil, List.append_assoc]
def mT160 : List (Nat × List (Nat × mI0 × Nat)) := [(100000, mCD160)]
theorem mt_160 : (mT160.map Prod.snd).flatten = mCD160 := by simp only [mT160, List.map_cons, List.map_nil, List.flatten_cons, List.flatten_nil, List.append_nil, List.append_assoc]
def mT161 : List (Nat × List (Nat × mI0 × Nat)) := [(100000, mCD161)]
theorem mt_161 : (mT161.map Prod.snd).flatten = mCD161 := by simp only [mT161, List.map_cons, List.map_nil, List.flatten_cons, List.flatten_nil, List.append_nil, List.append_assoc]
def mT162 : List (Nat × List (Nat × mI0 × Nat)) := [(100000, mCD162)]
theorem mt_162 : (mT162.map Prod.snd).flatten = mCD162 := by simp only [mT162, List.map_cons, List.map_nil, List.flatten_cons, List.flatten_nil, List.append_nil, List.append_assoc]
def mT163 : List (Nat × List (Nat × mI0 × Nat)) := [(100000, mCD163)]
theorem mt_163 : (mT163.map Prod.snd).flatten = mCD163 := by simp only [mT163, List.map_cons, List.map_nil, List.flatten_cons, List.flatten_nil, List.append_nil, List.append_assoc]
def mT164 : List (Nat × List (Nat × mI0 × Nat)) := [(100000, mCD164)]
theorem mt_164 : (mT164.map Prod.snd).flatten = mCD164 := by simp only [mT164, List.map_cons, List.map_nil, List.flatten_cons, List.flatten_nil, List.append_nil, List.append_assoc]
def mT165 : List (Nat × List (Nat × mI0 × Nat)) := [(100000, mCD165)]
theorem mt_165 : (mT165.map Prod.snd).flatten = mCD165 := by simp only [mT165, List.map_cons, List.map_nil, List.flatten_cons, List.flatten_nil, List.append_nil, List.append_assoc]
def mT166 : List (Nat × List (Nat × mI0 × Nat)) := [(100000, mCD166)]
theorem mt_166 : (mT166.map Prod.snd).flatten = mCD166 := by simp only [mT166, List.map_cons, List.map_nil, List.flatten_cons, List.flatten_nil, List.append_nil, List.append_assoc]
def mT167 : List (Nat × List (Nat × mI0 × Nat)) := [(100000, mCD167)]
theorem mt_167 : (mT167.map Prod.snd).flatten = mCD167 := by simp only [mT167, List.map_cons, List.map_nil, List.flatten_cons, List.flatten_nil, List.append_nil, List.append_assoc]
def mT168 : List (Nat × List (Nat × mI0 × Nat)) := [(100000, mCD168)]
theorem mt_168 : (mT168.map Prod.snd).flatten = mCD168 := by simp only [mT168, List.map_cons, List.map_nil, List.flatten_cons, List.flatten_nil, List.append_nil, List.append_assoc]
def mT169 : List (Nat × List (Nat × mI0 × Nat)) := [(100000, mCD169)]
theorem mt_169 : (mT169.map Prod.snd).flatten = mCD169 := by simp only [mT169, List.map_cons, List.map_nil, List.flatten_cons, List.flatten_nil, List.append_nil, List.append_assoc]
def mT170 : List (Nat × List (Nat × mI0 × Nat)) := [(100000, mCD170)]
theorem mt_170 : (mT170.map Prod.snd).flatten = mCD170 := by simp only [mT170, List.map_cons, List.map_nil, List.flatten_cons, List.flatten_nil, List.append_nil, List.append_assoc]
def mT171 : List (Nat × List (Nat × mI0 × Nat)) := [(100000, mCD171)]
theorem mt_171 : (mT171.map Prod.snd).flatten = mCD171 := by simp only [mT171, List.map_cons, List.map_nil, List.flatten_cons, List.flatten_nil, List.append_nil, List.append_assoc]
def mT172 : List (Nat × List (Nat × mI0 × Nat)) := [(100000, mCD172)]
theorem mt_172 : (mT172.map Prod.snd).flatten = mCD172 := by simp only [mT172, List.map_cons, List.map_nil, List.flatten_cons, List.flatten_nil, List.append_nil, List.append_assoc]
def mT173 : List (Nat × List (Nat × mI0 × Nat)) := [(100000, mCD173)]
theorem mt_173 : (mT173.map Prod.snd).flatten = mCD173 := by simp only [mT173, List.map_cons, List.map_nil, List.flatten_cons, List.flatten_nil, List.append_nil, List.append_assoc]
def mT174 : List (Nat × List (Nat × mI0 × Nat)) := [(100000, mCD174)]
theorem mt_174 : (mT174.map Prod.snd).flatten = mCD174 := by simp only [mT174, List.map_cons, List.map_nil, List.flatten_cons, List.flatten_nil, List.append_nil, List.append_assoc]
def mT175 : List (Nat × List (Nat × mI0 × Nat)) := [(100000, mCD175)]
theorem mt_175 : (mT175.map Prod.snd).flatten = mCD175 := by simp only [mT175, List.map_cons, List.map_nil, List.flatten_cons, List.flatten_nil, List.append_nil, List.append_assoc]
def mT176 : List (Nat × List (Nat × mI0 × Nat)) := [(100000, mCD176)]
theorem mt_176 : (mT176.map Prod.snd).flatten = mCD176 := by simp only [mT176, List.map_cons, List.map_nil, List.flatten_cons, List.flatten_nil, List.append_nil, List.append_assoc]
def mT177 : List (Nat × List (Nat × mI0 × Nat)) := [(100000, mCD177)]
theorem mt_177 : (mT177.map Prod.snd).flatten = mCD177 := by simp only [mT177, List.map_cons, List.map_nil, List.flatten_cons, List.flatten_nil, List.append_nil, List.append_assoc]
def mT178 : List (Nat × List (Nat × mI0 × Nat)) := [(100000, mCD178)]
theorem mt_178 : (mT178.map Prod.snd).flatten = mCD178 := by simp only [mT178, List.map_cons, List.map_nil, List.flatten_cons, List.flatten_nil, List.append_nil, List.append_assoc]
def mT179 : List (Nat × List (Nat × mI0 × Nat)) := [(100000, mCD179)]
theorem mt_179 : (mT179.map Prod.snd).flatten = mCD179 := by simp only [mT179, List.map_cons, List.map_nil, List.flatten_cons, List.flatten_nil, List.append_nil, List.append_assoc]
def mT180 : List (Nat × List (Nat × mI0 × Nat)) := [(100000, mCD180)]
theorem mt_180 : (mT180.map Prod.snd).flatten = mCD180 := by simp only [mT180, List.map_cons, List.map_nil, List.flatten_cons, List.flatten_nil, List.append_nil, List.append_assoc]
def mT181 : List (Nat × List (Nat × mI0 × Nat)) := [(100000, mCD181)]
theorem mt_181 : (mT181.map Prod.snd).flatten = mCD181 := by simp only [mT181, List.map_cons, List.map_nil, List.flatten_cons, List.flatten_nil, List.append_nil, List.append_assoc]
def mT182 : List (Nat × List (Nat × mI0 × Nat)) := [(100000, mCD182)]
theorem mt_182 : (mT182.map Prod.snd).flatten = mCD182 := by simp only [mT182, List.map_cons, List.map_nil, List.flatten_cons, List.flatten_nil, List.append_nil, List.append_assoc]
def mT183 : List (Nat × List (Nat × mI0 × Nat)) := [(100000, mCD183)]
theorem mt_183 : (mT183.map Prod.snd).flatten = mCD183 := by simp only [mT183, List.map_cons, List.map_nil, List.flatten_cons, List.flatten_nil, List.append_nil, List.append_assoc]
def mT184 : List (Nat × List (Nat × mI0 × Nat)) := [(100000, mCD184)]
theorem mt_184 : (mT184.map Prod.snd).flatten = mCD184 := by simp only [mT184, List.map_cons, List.map_nil, List.flatten_cons, List.flatten_nil, List.append_nil, List.append_assoc]
def mT185 : List (Nat × List (Nat × mI0 × Nat)) := [(206, mCD185_0), (100000, mCD185_1)]
theorem mt_185 : (mT185.map Prod.snd).flatten = mCD185 := by simp only [mT185, List.map_cons, List.map_nil, List.flatten_cons, List.flatten_nil, List.append_nil, List.append_assoc, mCD185]
def mT186 : List (Nat × List (Nat × mI0 × Nat)) := [(121, mCD186_0), (246, mCD186_1), (367, mCD186_2), (474, mCD186_3), (583, mCD186_4), (688, mCD186_5), (796, mCD186_6), (100000, mCD186_7)]
theorem mt_186 : (mT186.map Prod.snd).flatten = mCD186 := by simp only [mT186, List.map_cons, List.map_nil, List.flatten_cons, List.flatten_nil, List.append_nil, List.append_assoc, mCD186]
def mT187 : List (Nat × List (Nat × mI0 × Nat)) := [(100000, mCD187)]
theorem mt_187 : (mT187.map Prod.snd).flatten = mCD187 := by simp only [mT187, List.map_cons, List.map_nil, List.flatten_cons, List.flatten_nil, List.append_nil, List.append_assoc]
def mT188 : List (Nat × List (Nat × mI0 × Nat)) := [(100000, mCD188)]
theorem mt_188 : (mT188.map Prod.snd).flatten = mCD188 := by simp only [mT188, List.map_cons, List.map_nil, List.flatten_cons, List.flatten_nil, List.append_nil, List.append_assoc]
def mT189 : List (Nat × List (Nat × mI0 × Nat)) := [(100000, mCD189)]
theorem mt_189 : (mT189.map Prod.snd).flatten = mCD189 := by simp only [mT189, List.map_cons, List.map_nil, List.flatten_cons, List.flatten_nil, List.append_nil, List.append_assoc]
def mT190 : List (Nat × List (Nat × mI0 × Nat)) := [(100000, mCD190)]
theorem mt_190 : (mT190.map Prod.snd).flatten = mCD190 := by simp only [mT190, List.map_cons, List.map_nil, List.flatten_cons, List.flatten_nil, List.append_nil, List.append_assoc]
def mT191 : List (Nat × List (Nat × mI0 × Nat)) := [(100000, mCD191)]
theorem mt_191 : (mT191.map Prod.snd).flatten = mCD191 := by simp only [mT191, List.map_cons, List.map_nil, List.flatten_cons, List.flatten_nil, List.append_nil, List.append_assoc]
def mT192 : List (Nat × List (Nat × mI0 × Nat)) := [(100000, mCD192)]
theorem mt_192 : (mT192.map Prod.snd).flatten = mCD192 := by simp only [mT192, List.map_cons, List.map_nil, List.flatten_cons, List.flatten_nil, List.append_nil, List.append_assoc]
def mT193 : List (Nat × List (Nat × mI0 × Nat)) := [(100000, mCD193)]
theorem mt_193 : (mT193.map Prod.snd).flatten = mCD193 := by simp only [mT193, List.map_cons, List.map_nil, List.flatten_cons, List.flatten_nil, List.append_nil, List.append_assoc]
def mT194 : List (Nat × List (Nat × mI0 × Nat)) := [(100000, mCD194)]
theorem mt_194 : (mT194.map Prod.snd).flatten = mCD194 := by simp only [mT194, List.map_cons, List.map_nil, List.flatten_cons, List.flatten_nil, List.append_nil, List.append_assoc]
def mT195 : List (Nat × List (Nat × mI0 × Nat)) := [(108, mCD195_0), (100000, mCD195_1)]
theorem mt_195 : (mT195.map Prod.snd).flatten = mCD195 := by simp only [mT195, List.map_cons, List.map_nil, List.flatten_cons, List.flatten_nil, List.append_nil, List.append_assoc, mCD195]
def mT196 : List (Nat × List (Nat × mI0 × Nat)) := [(109, mCD196_0), (222, mCD196_1), (100000, mCD196_2)]
theorem mt_196 : (mT196.map Prod.snd).flatten = mCD196 := by simp only [mT196, List.map_cons, List.map_nil, List.flatten_cons, List.flatten_nil, List.append_nil, List.append_assoc, mCD196]
def mT197 : List (Nat × List (Nat × mI0 × Nat)) := [(100000, mCD197)]
theorem mt_197 : (mT197.map Prod.snd).flatten = mCD197 := by simp only [mT197, List.map_cons, List.map_nil, List.flatten_cons, List.flatten_nil, List.append_nil, List.append_assoc]
def mT198 : List (Nat × List (Nat × mI0 × Nat)) := [(100000, mCD198)]
theorem mt_198 : (mT198.map Prod.snd).flatten = mCD198 := by simp only [mT198, List.map_cons, List.map_nil, List.flatten_cons, List.flatten_nil, List.append_nil, List.append_assoc]
def mT199 : List (Nat × List (Nat × mI0 × Nat)) := [(100000, mCD199)]
theorem mt_199 : (mT199.map Prod.snd).flatten = mCD199 := by simp only [mT199, List.map_cons, List.map_nil, List.flatten_cons, List.flatten_nil, List.append_nil, List.append_assoc]
def mT200 : List (Nat × List (Nat × mI0 × Nat)) := [(100000, mCD200)]
theorem mt_200 : (mT200.map Prod.snd).flatten = mCD200 := by simp only [mT200, List.map_cons, List.map_nil, List.flatten_cons, List.flatten_nil, List.append_nil, List.append_assoc]
def mT201 : List (Nat × List (Nat × mI0 × Nat)) := [(100000, mCD201)]
theorem mt_201 : (mT201.map Prod.snd).flatten = mCD201 := by simp only [mT201, List.map_cons, List.map_nil, List.flatten_cons, List.flatten_nil, List.append_nil, List.append_assoc]
def mT202 : List (Nat × List (Nat × mI0 × Nat)) := [(100000, mCD202)]
theorem mt_202 : (mT202.map Prod.snd).flatten = mCD202 := by simp only [mT202, List.map_cons, List.map_nil, List.flatten_cons, List.flatten_nil, List.append_nil, List.append_assoc]
def mT203 : List (Nat × List (Nat × mI0 × Nat)) := [(170, mCD203_0), (100000, mCD203_1)]
theorem mt_203 : (mT203.map Prod.snd).flatten = mCD203 := by simp only [mT203, List.map_cons, List.map_nil, List.flatten_cons, List.flatten_nil, List.append_nil, List.append_assoc, mCD203]
def mT204 : List (Nat × List (Nat × mI0 × Nat)) := [(100000, mCD204)]
theorem mt_204 : (mT204.map Prod.snd).flatten = mCD204 := by simp only [mT204, List.map_cons, List.map_nil, List.flatten_cons, List.flatten_nil, List.append_nil, List.append_assoc]
def mT205 : List (Nat × List (Nat × mI0 × Nat)) := [(100000, mCD205)]
theorem mt_205 : (mT205.map Prod.snd).flatten = mCD205 := by simp only [mT205, List.map_cons, List.map_nil, List.flatten_cons, List.flatten_nil, List.append_nil, List.append_assoc]
def mT206 : List (Nat × List (Nat × mI0 × Nat)) := [(100000, mCD206)]
theorem mt_206 : (mT206.map Prod.snd).flatten = mCD206 := by simp only [mT206, List.map_cons, List.map_nil, List.flatten_cons, List.flatten_nil, List.append_nil, List.append_assoc]
def mT207 : List (Nat × List (Nat × mI0 × Nat)) := [(101, mCD207_0), (100000, mCD207_1)]
theorem mt_207 : (mT207.map Prod.snd).flatten = mCD207 := by simp only [mT207, List.map_cons, List.map_nil, List.flatten_cons, List.flatten_nil, List.append_nil, List.append_assoc, mCD207]
def mT208 : List (Nat × List (Nat × mI0 × Nat)) := [(100000, mCD208)]
theorem mt_208 : (mT208.map Prod.snd).flatten = mCD208 := by simp only [mT208, List.map_cons, List.map_nil, List.flatten_cons, List.flatten_nil, List.append_nil, List.append_assoc]
def mT209 : List (Nat × List (Nat × mI0 × Nat)) := [(100000, mCD209)]
theorem mt_209 : (mT209.map Prod.snd).flatten = mCD209 := by simp only [mT209, List.map_cons, List.map_nil, List.flatten_cons, List.flatten_nil, List.append_nil, List.append_assoc]
def mT210 : List (Nat × List (Nat × mI0 × Nat)) := [(100000, mCD210)]
theorem mt_210 : (mT210.map Prod.snd).flatten = mCD210 := by simp only [mT210, List.map_cons, List.map_nil, List.flatten_cons, List.flatten_nil, List.append_nil, List.append_assoc]
def mT211 : List (Nat × List (Nat × mI0 × Nat)) := [(100000, mCD211)]
theorem mt_211 : (mT211.map Prod.snd).flatten = mCD211 := by simp only [mT211, List.map_cons, List.map_nil, List.flatten_cons, List.flatten_nil, List.append_nil, List.append_assoc]
def mT212 : List (Nat × List (Nat × mI0 × Nat)) := [(100000, mCD212)]
theorem mt_212 : (mT212.map Prod.snd).flatten = mCD212 := by simp only [mT212, List.map_cons, List.map_nil, List.flatten_cons, List.flatten_nil, List.append_nil, List.append_assoc]
def mT213 : List (Nat × List (Nat × mI0 × Nat)) := [(100000, mCD213)]
theorem mt_213 : (mT213.map Prod.snd).flatten = mCD213 := by simp only [mT213, List.map_cons, List.map_nil, List.flatten_cons, List.flatten_nil, List.append_nil, List.append_assoc]
def mT214 : List (Nat × List (Nat × mI0 × Nat)) := [(113, mCD214_0), (100000, mCD214_1)]
theorem mt_214 : (mT214.map Prod.snd).flatten = mCD214 := by simp only [mT214, List.map_cons, List.map_nil, List.flatten_cons, List.flatten_nil, List.append_nil, List.append_assoc, mCD214]
def mT215 : List (Nat × List (Nat × mI0 × Nat)) := [(114, mCD215_0), (230, mCD215_1), (100000, mCD215_2)]
theorem mt_215 : (mT215.map Prod.snd).flatten = mCD215 := by simp only [mT215, List.map_cons, List.map_nil, List.flatten_cons, List.flatten_nil, List.append_nil, List.append_assoc, mCD215]
def mT216 : List (Nat × List (Nat × mI0 × Nat)) := [(100000, mCD216)]
theorem mt_216 : (mT216.map Prod.snd).flatten = mCD216 := by simp only [mT216, List.map_cons, List.map_nil, List.flatten_cons, List.flatten_nil, List.append_nil, List.append_assoc]
def mT217 : List (Nat × List (Nat × mI0 × Nat)) := [(100000, mCD217)]
theorem mt_217 : (mT217.map Prod.snd).flatten = mCD217 := by simp only [mT217, List.map_cons, List.map_nil, List.flatten_cons, List.flatten_nil, List.append_nil, List.append_assoc]
def mT218 : List (Nat × List (Nat × mI0 × Nat)) := [(100000, mCD218)]
theorem mt_218 : (mT218.map Prod.snd).flatten = mCD218 := by simp only [mT218, List.map_cons, List.map_nil, List.flatten_cons, List.flatten_nil, List.append_nil, List.append_assoc]
def mT219 : List (Nat × List (Nat × mI0 × Nat)) := [(100000, mCD219)]
theorem mt_219 : (mT219.map Prod.snd).flatten = mCD219 := by simp only [mT219, List.map_cons, List.map_nil, List.flatten_cons, List.flatten_nil, List.append_nil, List.append_assoc]
def mT220 : List (Nat × List (Nat × mI0 × Nat)) := [(100000, mCD220)]
theorem mt_220 : (mT220.map Prod.snd).flatten = mCD220 := by simp only [mT220, List.map_cons, List.map_nil, List.flatten_cons, List.flatten_nil, List.append_nil, List.append_assoc]
def mT221 : List (Nat × List (Nat × mI0 × Nat)) := [(100000, mCD221)]
theorem mt_221 : (mT221.map Prod.snd).flatten = mCD221 := by simp only [mT221, List.map_cons, List.map_nil, List.flatten_cons, List.flatten_nil, List.append_nil, List.append_assoc]
def mT222 : List (Nat × List (Nat × mI0 × Nat)) := [(100000, mCD222)]
theorem mt_222 : (mT222.map Prod.snd).flatten = mCD222 := by simp only [mT222, List.map_cons, List.map_nil, List.flatten_cons, List.flatten_nil, List.append_nil, List.append_assoc]
def mT223 : List (Nat × List (Nat × mI0 × Nat)) := [(100000, mCD223)]
theorem mt_223 : (mT223.map Prod.snd).flatten = mCD223 := by simp only [mT223, List.map_cons, List.map_nil, List.flatten_cons, List.flatten_nil, List.append_nil, List.append_assoc]
def mT224 : List (Nat × List (Nat × mI0 × Nat)) := [(100000, mCD224)]
theorem mt_224 : (mT224.map Prod.snd).flatten = mCD224 := by simp only [mT224, List.map_cons, List.map_nil, List.flatten_cons, List.flatten_nil, List.append_nil, List.append_assoc]
def mT225 : List (Nat × List (Nat × mI0 × Nat)) := [(100000, mCD225)]
theorem mt_225 : (mT225.map Prod.snd).flatten = mCD225 := by simp only [mT225, List.map_cons, List.map_nil, List.flatten_cons, List.flatten_nil, List.append_nil, List.append_assoc]
def mT226 : List (Nat × List (Nat × mI0 × Nat)) := [(100000, mCD226)]
theorem mt_226 : (mT226.map Prod.snd).flatten = mCD226 := by simp only [mT226, List.map_cons, List.map_nil, List.flatten_cons, List.flatten_nil, List.append_nil, List.append_assoc]
def mT227 : List (Nat × List (Nat × mI0 × Nat)) := [(100000, mCD227)]
theorem mt_227 : (mT227.map Prod.snd).flatten = mCD227 := by simp only [mT227, List.map_cons, List.map_nil, List.flatten_cons, List.flatten_nil, List.append_nil, List.append_assoc]
def mT228 : List (Nat × List (Nat × mI0 × Nat)) := [(100000, mCD228)]
theorem mt_228 : (mT228.map Prod.snd).flatten = mCD228 := by simp only [mT228, List.map_cons, List.map_nil, List.flatten_cons, List.flatten_nil, List.append_nil, List.append_assoc]
def mT229 : List (Nat × List (Nat × mI0 × Nat)) := [(100000, mCD229)]
theorem mt_229 : (mT229.map Prod.snd).flatten = mCD229 := by simp only [mT229, List.map_cons, List.map_nil, List.flatten_cons, List.flatten_nil, List.append_nil, List.append_assoc]
def mT230 : List (Nat × List (Nat × mI0 × Nat)) := [(100000, mCD230)]
theorem mt_230 : (mT230.map Prod.snd).flatten = mCD230 := by simp only [mT230, List.map_cons, List.map_nil, List.flatten_cons, List.flatten_nil, List.append_nil, List.append_assoc]
def mT231 : List (Nat × List (Nat × mI0 × Nat)) := [(101, mCD231_0), (100000, mCD231_1)]
theorem mt_231 : (mT231.map Prod.snd).flatten = mCD231 := by simp only [mT231, List.map_cons, List.map_nil, List.flatten_cons, List.flatten_nil, List.append_nil, List.append_assoc, mCD231]
def mT232 : List (Nat × List (Nat × mI0 × Nat)) := [(108, mCD232_0), (100000, mCD232_1)]
theorem mt_232 : (mT232.map Prod.snd).flatten = mCD232 := by simp only [mT232, List.map_cons, List.map_nil, List.flatten_cons, List.flatten_nil, List.append_nil, List.append_assoc, mCD232]
def mT233 : List (Nat × List (Nat × mI0 × Nat)) := [(100000, mCD233)]
theorem mt_233 : (mT233.map Prod.snd).flatten = mCD233 := by simp only [mT233, List.map_cons, List.map_nil, List.flatten_cons, List.flatten_nil, List.append_nil, List.append_assoc]
def mT234 : List (Nat × List (Nat × mI0 × Nat)) := [(100000, mCD234)]
theorem mt_234 : (mT234.map Prod.snd).flatten = mCD234 := by simp only [mT234, List.map_cons, List.map_nil, List.flatten_cons, List.flatten_nil, List.append_nil, List.append_assoc]
def mT235 : List (Nat × List (Nat × mI0 × Nat)) := [(100000, mCD235)]
theorem mt_235 : (mT235.map Prod.snd).flatten = mCD235 := by simp only [mT235, List.map_cons, List.map_nil, List.flatten_cons, List.flatten_nil, List.append_nil, List.append_assoc]
def mT236 : List (Nat × List (Nat × mI0 × Nat)) := [(100000, mCD236)]
theorem mt_236 : (mT236.map Prod.snd).flatten = mCD236 := by simp only [mT236, List.map_cons, List.map_nil, List.flatten_cons, List.flatten_nil, List.append_nil, List.append_assoc]
def mT237 : List (Nat × List (Nat × mI0 × Nat)) := [(100000, mCD237)]
theorem mt_237 : (mT237.map Prod.snd).flatten = mCD237 := by simp only [mT237, List.map_cons, List.map_nil, List.flatten_cons, List.flatten_nil, List.append_nil, List.append_assoc]
def mT238 : List (Nat × List (Nat × mI0 × Nat)) := [(100000, mCD238)]
theorem mt_238 : (mT238.map Prod.snd).flatten = mCD238 := by simp only [mT238, List.map_cons, List.map_nil, List.flatten_cons, List.flatten_nil, List.append_nil, List.append_assoc]
def mT239 : List (Nat × List (Nat × mI0 × Nat)) := [(100000, mCD239)]
theorem mt_239 : (mT239.map Prod.snd).flatten = mCD239 := by simp only [mT239, List.map_cons, List.map_nil, List.flatten_cons, List.flatten_nil, List.append_nil, List.append_assoc]
def mT240 : List (Nat × List (Nat × mI0 × Nat)) := [(100000, mCD240)]
theorem mt_240 : (mT240.map Prod.snd).flatten = mCD240 := by simp only [mT240, List.map_cons, List.map_nil, List.flatten_cons, List.flatten_nil, List.append_nil, List.append_assoc]
def mT241 : List (Nat × List (Nat × mI0 × Nat)) := [(100000, mCD241)]
theorem mt_241 : (mT241.map Prod.snd).flatten = mCD241 := by simp only [mT241, List.map_cons, List.map_nil, List.flatten_cons, List.flatten_nil, List.append_nil, List.append_assoc]
def mT242 : List (Nat × List (Nat × mI0 × Nat)) := [(100000, mCD242)]
theorem mt_242 : (mT242.map Prod.snd).flatten = mCD242 := by simp only [mT242, List.map_cons, List.map_nil, List.flatten_cons, List.flatten_nil, List.append_nil, List.append_assoc]
def mT243 : List (Nat × List (Nat × mI0 × Nat)) := [(100000, mCD243)]
theorem mt_243 : (mT243.map Prod.snd).flatten = mCD243 := by simp only [mT243, List.map_cons, List.map_nil, List.flatten_cons, List.flatten_nil, List.append_nil, List.append_assoc]
def mT244 : List (Nat × List (Nat × mI0 × Nat)) := [(100000, mCD244)]
theorem mt_244 : (mT244.map Prod.snd).flatten = mCD244 := by simp only [mT244, List.map_cons, List.map_nil, List.flatten_cons, List.flatten_nil, List.append_nil, List.append_assoc]
def mT245 : List (Nat × List (Nat × mI0 × Nat)) := [(100000, mCD245)]
theorem mt_245 : (mT245.map Prod.snd).flatten = mCD245 := by simp only [mT245, List.map_cons, List.map_nil, List.flatten_cons, List.flatten_nil, List.append_nil, List.append_assoc]
def mT246 : List (Nat × List (Nat × mI0 × Nat)) := [(100000, mCD246)]
theorem mt_246 : (mT246.map Prod.snd).flatten = mCD246 := by simp only [mT246, List.map_cons, List.map_nil, List.flatten_cons, List.flatten_nil, List.append_nil, List.append_assoc]
def mT247 : List (Nat × List (Nat × mI0 × Nat)) := [(100000, mCD247)]
theorem mt_247 : (mT247.map Prod.snd).flatten = mCD247 := by simp only [mT247, List.map_cons, List.map_nil, List.flatten_cons, List.flatten_nil, List.append_nil, List.append_assoc]
def mT248 : List (Nat × List (Nat × mI0 × Nat)) := [(100000, mCD248)]
theorem mt_248 : (mT248.map Prod.snd).flatten = mCD248 := by simp only [mT248, List.map_cons, List.map_nil, List.flatten_cons, List.flatten_nil, List.append_nil, List.append_assoc]
def mT249 : List (Nat × List (Nat × mI0 × Nat)) := [(100000, mCD249)]
theorem mt_249 : (mT249.map Prod.snd).flatten = mCD249 := by simp only [mT249, List.map_cons, List.map_nil, List.flatten_cons, List.flatten_nil, List.append_nil, List.append_assoc]
def mT250 : List (Nat × List (Nat × mI0 × Nat)) := [(100000, mCD250)]
theorem mt_250 : (mT250.map Prod.snd).flatten = mCD250 := by simp only [mT250, List.map_cons, List.map_nil, List.flatten_cons, List.flatten_nil, List.append_nil, List.append_assoc]
def mT251 : List (Nat × List (Nat × mI0 × Nat)) := [(100000, mCD251)]
theorem mt_251 : (mT251.map Prod.snd).flatten = mCD251 := by simp only [mT251, List.map_cons, List.map_nil, List.flatten_cons, List.flatten_nil, List.append_nil, List.append_assoc]
def mT252 : List (Nat × List (Nat × mI0 × Nat)) := [(100000, mCD252)]
theorem mt_252 : (mT252.map Prod.snd).flatten = mCD252 := by simp only [mT252, List.map_cons, List.map_nil, List.flatten_cons, List.flatten_nil, List.append_nil, List.append_assoc]
def mT253 : List (Nat × List (Nat × mI0 × Nat)) := [(100000, mCD253)]
theorem mt_253 : (mT253.map Prod.snd).flatten = mCD253 := by simp only [mT253, List.map_cons, List.map_nil, List.flatten_cons, List.flatten_nil, List.append_nil, List.append_assoc]
def mT254 : List (Nat × List (Nat × mI0 × Nat)) := [(100000, mCD254)]
theorem mt_254 : (mT254.map Prod.snd).flatten = mCD254 := by simp only [mT254, List.map_cons, List.map_nil, List.flatten_cons, List.flatten_nil, List.append_nil, List.append_assoc]
def mT255 : List (Nat × List (Nat × mI0 × Nat)) := [(100000, mCD255)]
theorem mt_255 : (mT255.map Prod.snd).flatten = mCD255 := by simp only [mT255, List.map_cons, List.map_nil, List.flatten_cons, List.flatten_nil, List.append_nil, List.append_assoc]
def mT256 : List (Nat × List (Nat × mI0 × Nat)) := [(101, mCD256_0), (100000, mCD256_1)]
theorem mt_256 : (mT256.map Prod.snd).flatten = mCD256 := by simp only [mT256, List.map_cons, List.map_nil, List.flatten_cons, List.flatten_nil, List.append_nil, List.append_assoc, mCD256]
def mT257 : List (Nat × List (Nat × mI0 × Nat)) := [(100000, mCD257)]
theorem mt_257 : (mT257.map Prod.snd).flatten = mCD257 := by simp only [mT257, List.map_cons, List.map_nil, List.flatten_cons, List.flatten_nil, List.append_nil, List.append_assoc]
def mT258 : List (Nat × List (Nat × mI0 × Nat)) := [(100000, mCD258)]
theorem mt_258 : (mT258.map Prod.snd).flatten = mCD258 := by simp only [mT258, List.map_cons, List.map_nil, List.flatten_cons, List.flatten_nil, List.append_nil, List.append_assoc]
def mT259 : List (Nat × List (Nat × mI0 × Nat)) := [(100000, mCD259)]
theorem mt_259 : (mT259.map Prod.snd).flatten = mCD259 := by simp only [mT259, List.map_cons, List.map_nil, List.flatten_cons, List.flatten_nil, List.append_nil, List.append_assoc]
def mT260 : List (Nat × List (Nat × mI0 × Nat)) := [(100000, mCD260)]
theorem mt_260 : (mT260.map Prod.snd).flatten = mCD260 := by simp only [mT260, List.map_cons, List.map_nil, List.flatten_cons, List.flatten_nil, List.append_nil, List.append_assoc]
def mT261 : List (Nat × List (Nat × mI0 × Nat)) := [(100000, mCD261)]
theorem mt_261 : (mT261.map Prod.snd).flatten = mCD261 := by simp only [mT261, List.map_cons, List.map_nil, List.flatten_cons, List.flatten_nil, List.append_nil, List.append_assoc]
def mT262 : List (Nat × List (Nat × mI0 × Nat)) := [(100000, mCD262)]
theorem mt_262 : (mT262.map Prod.snd).flatten = mCD262 := by simp only [mT262, List.map_cons, List.map_nil, List.flatten_cons, List.flatten_nil, List.append_nil, List.append_assoc]
def mT263 : List (Nat × List (Nat × mI0 × Nat)) := [(100000, mCD263)]
theorem mt_263 : (mT263.map Prod.snd).flatten = mCD263 := by simp only [mT263, List.map_cons, List.map_nil, List.flatten_cons, List.flatten_nil, List.append_nil, List.append_assoc]
def mT264 : List (Nat × List (Nat × mI0 × Nat)) := [(100000, mCD264)]
theorem mt_264 : (mT264.map Prod.snd).flatten = mCD264 := by simp only [mT264, List.map_cons, List.map_nil, List.flatten_cons, List.flatten_nil, List.append_nil, List.append_assoc]
def mT265 : List (Nat × List (Nat × mI0 × Nat)) := [(100000, mCD265)]
theorem mt_265 : (mT265.map Prod.snd).flatten = mCD265 := by simp only [mT265, List.map_cons, List.map_nil, List.flatten_cons, List.flatten_nil, List.append_nil, List.append_assoc]
def mT266 : List (Nat × List (Nat × mI0 × Nat)) := [(100000, mCD266)]
theorem mt_266 : (mT266.map Prod.snd).flatten = mCD266 := by simp only [mT266, List.map_cons, List.map_nil, List.flatten_cons, List.flatten_nil, List.append_nil, List.append_assoc]
def mT267 : List (Nat × List (Nat × mI0 × Nat)) := [(100000, mCD267)]
theorem mt_267 : (mT267.map Prod.snd).flatten = mCD267 := by simp only [mT267, List.map_cons, List.map_nil, List.flatten_cons, List.flatten_nil, List.append_nil, List.append_assoc]
def mT268 : List (Nat × List (Nat × mI0 × Nat)) := [(100000, mCD268)]
theorem mt_268 : (mT268.map Prod.snd).flatten = mCD268 := by simp only [mT268, List.map_cons, List.map_nil, List.flatten_cons, List.flatten_nil, List.append_nil, List.append_assoc]
def mT269 : List (Nat × List (Nat × mI0 × Nat)) := [(100000, mCD269)]
theorem mt_269 : (mT269.map Prod.snd).flatten = mCD269 := by simp only [mT269, List.map_cons, List.map_nil, List.flatten_cons, List.flatten_nil, List.append_nil, List.append_assoc]
def mT270 : List (Nat × List (Nat × mI0 × Nat)) := [(100000, mCD270)]
theorem mt_270 : (mT270.map Prod.snd).flatten = mCD270 := by simp only [mT270, List.map_cons, List.map_nil, List.flatten_cons, List.flatten_nil, List.append_nil, List.append_assoc]
def mT271 : List (Nat × List (Nat × mI0 × Nat)) := [(100000, mCD271)]
theorem mt_271 : (mT271.map Prod.snd).flatten = mCD271 := by simp only [mT271, List.map_cons, List.map_nil, List.flatten_cons, List.flatten_nil, List.append_nil, List.append_assoc]
def mT272 : List (Nat × List (Nat × mI0 × Nat)) := [(100000, mCD272)]
theorem mt_272 : (mT272.map Prod.snd).flatten = mCD272 := by simp only [mT272, List.map_cons, List.map_nil, List.flatten_cons, List.flatten_nil, List.append_nil, List.append_assoc]
def mT273 : List (Nat × List (Nat × mI0 × Nat)) := [(107, mCD273_0), (100000, mCD273_1)]
theorem mt_273 : (mT273.map Prod.snd).flatten = mCD273 := by simp only [mT273, List.map_cons, List.map_nil, List.flatten_cons, List.flatten_nil, List.append_nil, List.append_assoc, mCD273]
def mT274 : List (Nat × List (Nat × mI0 × Nat)) := [(100000, mCD274)]
theorem mt_274 : (mT274.map Prod.snd).flatten = mCD274 := by simp only [mT274, List.map_cons, List.map_nil, List.flatten_cons, List.flatten_nil, List.append_nil, List.append_assoc]
def mT275 : List (Nat × List (Nat × mI0 × Nat)) := [(100000, mCD275)]
theorem mt_275 : (mT275.map Prod.snd).flatten = mCD275 := by simp only [mT275, List.map_cons, List.map_nil, List.flatten_cons, List.flatten_nil, List.append_nil, List.append_assoc]
def mT276 : List (Nat × List (Nat × mI0 × Nat)) := [(100000, mCD276)]
theorem mt_276 : (mT276.map Prod.snd).flatten = mCD276 := by simp only [mT276, List.map_cons, List.map_nil, List.flatten_cons, List.flatten_nil, List.append_nil, List.append_assoc]
def mT277 : List (Nat × List (Nat × mI0 × Nat)) := [(93, mCD277_0), (100000, mCD277_1)]
theorem mt_277 : (mT277.map Prod.snd).flatten = mCD277 := by simp only [mT277, List.map_cons, List.map_nil, List.flatten_cons, List.flatten_nil, List.append_nil, List.append_assoc, mCD277]
def mT278 : List (Nat × List (Nat × mI0 × Nat)) := [(100000, mCD278)]
theorem mt_278 : (mT278.map Prod.snd).flatten = mCD278 := by simp only [mT278, List.map_cons, List.map_nil, List.flatten_cons, List.flatten_nil, List.append_nil, List.append_assoc]
def mT279 : List (Nat × List (Nat × mI0 × Nat)) := [(100000, mCD279)]
theorem mt_279 : (mT279.map Prod.snd).flatten = mCD279 := by simp only [mT279, List.map_cons, List.map_nil, List.flatten_cons, List.flatten_nil, List.append_nil, List.append_assoc]
def mT280 : List (Nat × List (Nat × mI0 × Nat)) := [(100000, mCD280)]
theorem mt_280 : (mT280.map Prod.snd).flatten = mCD280 := by simp only [mT280, List.map_cons, List.map_nil, List.flatten_cons, List.flatten_nil, List.append_nil, List.append_assoc]
def mT281 : List (Nat × List (Nat × mI0 × Nat)) := [(100000, mCD281)]
theorem mt_281 : (mT281.map Prod.snd).flatten = mCD281 := by simp only [mT281, List.map_cons, List.map_nil, List.flatten_cons, List.flatten_nil, List.append_nil, List.append_assoc]
def mT282 : List (Nat × List (Nat × mI0 × Nat)) := [(100000, mCD282)]
theorem mt_282 : (mT282.map Prod.snd).flatten = mCD282 := by simp only [mT282, List.map_cons, List.map_nil, List.flatten_cons, List.flatten_nil, List.append_nil, List.append_assoc]
def mT283 : List (Nat × List (Nat × mI0 × Nat)) := [(100000, mCD283)]
theorem mt_283 : (mT283.map Prod.snd).flatten = mCD283 := by simp only [mT283, List.map_cons, List.map_nil, List.flatten_cons, List.flatten_nil, List.append_nil, List.append_assoc]
def mT284 : List (Nat × List (Nat × mI0 × Nat)) := [(106, mCD284_0), (100000, mCD284_1)]
theorem mt_284 : (mT284.map Prod.snd).flatten = mCD284 := by simp only [mT284, List.map_cons, List.map_nil, List.flatten_cons, List.flatten_nil, List.append_nil, List.append_assoc, mCD284]
def mT285 : List (Nat × List (Nat × mI0 × Nat)) := [(100000, mCD285)]
theorem mt_285 : (mT285.map Prod.snd).flatten = mCD285 := by simp only [mT285, List.map_cons, List.map_nil, List.flatten_cons, List.flatten_nil, List.append_nil, List.append_assoc]
def mT286 : List (Nat × List (Nat × mI0 × Nat)) := [(100000, mCD286)]
theorem mt_286 : (mT286.map Prod.snd).flatten = mCD286 := by simp only [mT286, List.map_cons, List.map_nil, List.flatten_cons, List.flatten_nil, List.append_nil, List.append_assoc]
def mT287 : List (Nat × List (Nat × mI0 × Nat)) := [(100000, mCD287)]
theorem mt_287 : (mT287.map Prod.snd).flatten = mCD287 := by simp only [mT287, List.map_cons, List.map_nil, List.flatten_cons, List.flatten_nil, List.append_nil, List.append_assoc]
def mT288 : List (Nat × List (Nat × mI0 × Nat)) := [(100000, mCD288)]
theorem mt_288 : (mT288.map Prod.snd).flatten = mCD288 := by simp only [mT288, List.map_cons, List.map_nil, List.flatten_cons, List.flatten_nil, List.append_nil, List.append_assoc]
def mT289 : List (Nat × List (Nat × mI0 × Nat)) := [(100000, mCD289)]
theorem mt_289 : (mT289.map Prod.snd).flatten = mCD289 := by simp only [mT289, List.map_cons, List.map_nil, List.flatten_cons, List.flatten_nil, List.append_nil, List.append_assoc]
def mT290 : List (Nat × List (Nat × mI0 × Nat)) := [(100000, mCD290)]
theorem mt_290 : (mT290.map Prod.snd).flatten = mCD290 := by simp only [mT290, List.map_cons, List.map_nil, List.flatten_cons, List.flatten_nil, List.append_nil, List.append_assoc]
def mT291 : List (Nat × List (Nat × mI0 × Nat)) := [(100000, mCD291)]
theorem mt_291 : (mT291.map Prod.snd).flatten = mCD291 := by simp only [mT291, List.map_cons, List.map_nil, List.flatten_cons, List.flatten_nil, List.append_nil, List.append_assoc]
def mT292 : List (Nat × List (Nat × mI0 × Nat)) := [(100000, mCD292)]
theorem mt_292 : (mT292.map Prod.snd).flatten = mCD292 := by simp only [mT292, List.map_cons, List.map_nil, List.flatten_cons, List.flatten_nil, List.append_nil, List.append_assoc]
def mT293 : List (Nat × List (Nat × mI0 × Nat)) := [(100000, mCD293)]
theorem mt_293 : (mT293.map Prod.snd).flatten = mCD293 := by simp only [mT293, List.map_cons, List.map_nil, List.flatten_cons, List.flatten_nil, List.append_nil, List.append_assoc]
def mT294 : List (Nat × List (Nat × mI0 × Nat)) := [(100000, mCD294)]
theorem mt_294 : (mT294.map Prod.snd).flatten = mCD294 := by simp only [mT294, List.map_cons, List.map_nil, List.flatten_cons, List.flatten_nil, List.append_nil, List.append_assoc]
def mT295 : List (Nat × List (Nat × mI0 × Nat)) := [(100000, mCD295)]
theorem mt_295 : (mT295.map Prod.snd).flatten = mCD295 := by simp only [mT295, List.map_cons, List.map_nil, List.flatten_cons, List.flatten_nil, List.append_nil, List.append_assoc]
def mT296 : List (Nat × List (Nat × mI0 × Nat)) := [(100000, mCD296)]
theorem mt_296 : (mT296.map Prod.snd).flatten = mCD296 := by simp only [mT296, List.map_cons, List.map_nil, List.flatten_cons, List.flatten_nil, List.append_nil, List.append_assoc]
def mT297 : List (Nat × List (Nat × mI0 × Nat)) := [(100000, mCD297)]
theorem mt_297 : (mT297.map Prod.snd).flatten = mCD297 := by simp only [mT297, List.map_cons, List.map_nil, List.flatten_cons, List.flatten_nil, List.append_nil, List.append_assoc]
def mT298 : List (Nat × List (Nat × mI0 × Nat)) := [(100000, mCD298)]
theorem mt_298 : (mT298.map Prod.snd).flatten = mCD298 := by simp only [mT298, List.map_cons, List.map_nil, List.flatten_cons, List.flatten_nil, List.append_nil, List.append_assoc]
def mT299 : List (Nat × List (Nat × mI0 × Nat)) := [(100000, mCD299)]
theorem mt_299 : (mT299.map Prod.snd).flatten = mCD299 := by simp only [mT299, List.map_cons, List.map_nil, List.flatten_cons, List.flatten_nil, List.append_nil, List.append_assoc]
def mT300 : List (Nat × List (Nat × mI0 × Nat)) := [(100000, mCD300)]
theorem mt_300 : (mT300.map Prod.snd).flatten = mCD300 := by simp only [mT300, List.map_cons, List.map_nil, List.flatten_cons, List.flatten_nil, List.append_nil, List.append_assoc]
def mT301 : List (Nat × List (Nat × mI0 × Nat)) := [(100000, mCD301)]
theorem mt_301 : (mT301.map Prod.snd).flatten = mCD301 := by simp only [mT301, List.map_cons, List.map_nil, List.flatten_cons, List.flatten_nil, List.append_nil, List.append_assoc]
def mT302 : List (Nat × List (Nat × mI0 × Nat)) := [(100000, mCD302)]
theorem mt_302 : (mT302.map Prod.snd).flatten = mCD302 := by simp only [mT302, List.map_cons, List.map_nil, List.flatten_cons, List.flatten_nil, List.append_nil, List.append_assoc]
def mT303 : List (Nat × List (Nat × mI0 × Nat)) := [(100000, mCD303)]
theorem mt_303 : (mT303.map Prod.snd).flatten = mCD303 := by simp only [mT303, List.map_cons, List.map_nil, List.flatten_cons, List.flatten_nil, List.append_nil, List.append_assoc]
def mT304 : List (Nat × List (Nat × mI0 × Nat)) := [(100000, mCD304)]
theorem mt_304 : (mT304.map Prod.snd).flatten = mCD304 := by simp only [mT304, List.map_cons, List.map_nil, List.flatten_cons, List.flatten_nil, List.append_nil, List.append_assoc]
def mT305 : List (Nat × List (Nat × mI0 × Nat)) := [(100000, mCD305)]
theorem mt_305 : (mT305.map Prod.snd).flatten = mCD305 := by simp only [mT305, List.map_cons, List.map_nil, List.flatten_cons, List.flatten_nil, List.append_nil, List.append_assoc]
def mT306 : List (Nat × List (Nat × mI0 × Nat)) := [(103, mCD306_0), (100000, mCD306_1)]
theorem mt_306 : (mT306.map Prod.snd).flatten = mCD306 := by simp only [mT306, List.map_cons, List.map_nil, List.flatten_cons, List.flatten_nil, List.append_nil, List.append_assoc, mCD306]
def mT307 : List (Nat × List (Nat × mI0 × Nat)) := [(114, mCD307_0), (100000, mCD307_1)]
theorem mt_307 : (mT307.map Prod.snd).flatten = mCD307 := by simp only [mT307, List.map_cons, List.map_nil, List.flatten_cons, List.flatten_nil, List.append_nil, List.append_assoc, mCD307]
def mT308 : List (Nat × List (Nat × mI0 × Nat)) := [(100000, mCD308)]
theorem mt_308 : (mT308.map Prod.snd).flatten = mCD308 := by simp only [mT308, List.map_cons, List.map_nil, List.flatten_cons, List.flatten_nil, List.append_nil, List.append_assoc]
def mT309 : List (Nat × List (Nat × mI0 × Nat)) := [(100000, mCD309)]
theorem mt_309 : (mT309.map Prod.snd).flatten = mCD309 := by simp only [mT309, List.map_cons, List.map_nil, List.flatten_cons, List.flatten_nil, List.append_nil, List.append_assoc]
def mT310 : List (Nat × List (Nat × mI0 × Nat)) := [(175, mCD310_0), (278, mCD310_1), (100000, mCD310_2)]
theorem mt_310 : (mT310.map Prod.snd).flatten = mCD310 := by simp only [mT310, List.map_cons, List.map_nil, List.flatten_cons, List.flatten_nil, List.append_nil, List.append_assoc, mCD310]
def mT311 : List (Nat × List (Nat × mI0 × Nat)) := [(100000, mCD311)]
theorem mt_311 : (mT311.map Prod.snd).flatten = mCD311 := by simp only [mT311, List.map_cons, List.map_nil, List.flatten_cons, List.flatten_nil, List.append_nil, List.append_assoc]
def mCDT : List (List (Nat × List (Nat × mI0 × Nat))) := [mT0, mT1, mT2, mT3, mT4, mT5, mT6, mT7, mT8, mT9, mT10, mT11, mT12, mT13, mT14, mT15, mT16, mT17, mT18, mT19, mT20, mT21, mT22, mT23, mT24, mT25, mT26, mT27, mT28, mT29, mT30, mT31, mT32, mT33, mT34, mT35, mT36, mT37, mT38, mT39, mT40, mT41, mT42, mT43, mT44, mT45, mT46, mT47, mT48, mT49, mT50, mT51, mT52, mT53, mT54, mT55, mT56, mT57, mT58, mT59, mT60, mT61, mT62, mT63, mT64, mT65, mT66, mT67, mT68, mT69, mT70, mT71, mT72, mT73, mT74, mT75, mT76, mT77, mT78, mT79, mT80, mT81, mT82, mT83, mT84, mT85, mT86, mT87, mT88, mT89, mT90, mT91, mT92, mT93, mT94, mT95, mT96, mT97, mT98, mT99, mT100, mT101, mT102, mT103, mT104, mT105, mT106, mT107, mT108, mT109, mT110, mT111, mT112, mT113, mT114, mT115, mT116, mT117, mT118, mT119, mT120, mT121, mT122, mT123, mT124, mT125, mT126, mT127, mT128, mT129, mT130, mT131, mT132, mT133, mT134, mT135, mT136, mT137, mT138, mT139, mT140, mT141, mT142, mT143, mT144, mT145, mT146, mT147, mT148, mT149, mT150, mT151, mT152, mT153, mT154, mT155, mT156, mT157, mT158, mT159, mT160, mT161, mT162, mT163, mT164, mT165, mT166, mT167, mT168, mT169, mT170, mT171, mT172, mT173, mT174, mT175, mT176, mT177, mT178, mT179, mT180, mT181, mT182, mT183, mT184, mT185, mT186, mT187, mT188, mT189, mT190, mT191, mT192, mT193, mT194, mT195, mT196, mT197, mT198, mT199, mT200, mT201, mT202, mT203, mT204, mT205, mT206, mT207, mT208, mT209, mT210, mT211, mT212, mT213, mT214, mT215, mT216, mT217, mT218, mT219, mT220, mT221, mT222, mT223, mT224, mT225, mT226, mT227, mT228, mT229, mT230, mT231, mT232, mT233, mT234, mT235, mT236, mT237, mT238, mT239, mT240, mT241, mT242, mT243, mT244, mT245, mT246, mT247, mT248, mT249, mT250, mT251, mT252, mT253, mT254, mT255, mT256, mT257, mT258, mT259, mT260, mT261, mT262, mT263, mT264, mT265, mT266, mT267, mT268, mT269, mT270, mT271, mT272, mT273, mT274, mT275, mT276, mT277, mT278, mT279, mT280, mT281, mT282, mT283, mT284, mT285, mT286, mT287, mT288, mT289, mT290, mT291, mT292, mT293, mT294, mT295, mT296, mT297, mT298, mT299, mT300, mT301, mT302, mT303, mT304, mT305, mT306, mT307, mT308, mT309, mT310, mT311]
set_option maxRecDepth 100000 in
theorem mCDT_wf : mCDT.all x_wf = true := by decide +kernel
set_option maxRecDepth 100000 in
theorem mCDT_eq : mMEL.map (fun m => m.2.2.2.2.2.2) = mCDT.map (fun t => (t.map Prod.snd).flatten) := by simp only [mMEL, mCDT, List.map_cons, List.map_nil, mt_0, mt_1, mt_2, mt_3, mt_4, mt_5, mt_6, mt_7, mt_8, mt_9, mt_10, mt_11, mt_12, mt_13, mt_14, mt_15, mt_16, mt_17, mt_18, mt_19, mt_20, mt_21, mt_22, mt_23, mt_24, mt_25, mt_26, mt_27, mt_28, mt_29, mt_30, mt_31, mt_32, mt_33, mt_34, mt_35, mt_36, mt_37, mt_38, mt_39, mt_40, mt_41, mt_42, mt_43, mt_44, mt_45, mt_46, mt_47, mt_48, mt_49, mt_50, mt_51, mt_52, mt_53, mt_54, mt_55, mt_56, mt_57, mt_58, mt_59, mt_60, mt_61, mt_62, mt_63, mt_64, mt_65, mt_66, mt_67, mt_68, mt_69, mt_70, mt_71, mt_72, mt_73, mt_74, mt_75, mt_76, mt_77, mt_78, mt_79, mt_80, mt_81, mt_82, mt_83, mt_84, mt_85, mt_86, mt_87, mt_88, mt_89, mt_90, mt_91, mt_92, mt_93, mt_94, mt_95, mt_96, mt_97, mt_98, mt_99, mt_100, mt_101, mt_102, mt_103, mt_104, mt_105, mt_106, mt_107, mt_108, mt_109, mt_110, mt_111, mt_112, mt_113, mt_114, mt_115, mt_116, mt_117, mt_118, mt_119, mt_120, mt_121, mt_122, mt_123, mt_124, mt_125, mt_126, mt_127, mt_128, mt_129, mt_130, mt_131, mt_132, mt_133, mt_134, mt_135, mt_136, mt_137, mt_138, mt_139, mt_140, mt_141, mt_142, mt_143, mt_144, mt_145, mt_146, mt_147, mt_148, mt_149, mt_150, mt_151, mt_152, mt_153, mt_154, mt_155, mt_156, mt_157, mt_158, mt_159, mt_160, mt_161, mt_162, mt_163, mt_164, mt_165, mt_166, mt_167, mt_168, mt_169, mt_170, mt_171, mt_172, mt_173, mt_174, mt_175, mt_176, mt_177, mt_178, mt_179, mt_180, mt_181, mt_182, mt_183, mt_184, mt_185, mt_186, mt_187, mt_188, mt_189, mt_190, mt_191, mt_192, mt_193, mt_194, mt_195, mt_196, mt_197, mt_198, mt_199, mt_200, mt_201, mt_202, mt_203, mt_204, mt_205, mt_206, mt_207, mt_208, mt_209, mt_210, mt_211, mt_212, mt_213, mt_214, mt_215, mt_216, mt_217, mt_218, mt_219, mt_220, mt_221, mt_222, mt_223, mt_224, mt_225, mt_226, mt_227, mt_228, mt_229, mt_230, mt_231, mt_232, mt_233, mt_234, mt_235, mt_236, mt_237, mt_238, mt_239, mt_240, mt_241, mt_242, mt_243, mt_244, mt_245, mt_246, mt_247, mt_248, mt_249, mt_250, mt_251, mt_252, mt_253, mt_254, mt_255, mt_256, mt_257, mt_258, mt_259, mt_260, mt_261, mt_262, mt_263, mt_264, mt_265, mt_266, mt_267, mt_268, mt_269, mt_270, mt_271, mt_272, mt_273, mt_274, mt_275, mt_276, mt_277, mt_278, mt_279, mt_280, mt_281, mt_282, mt_283, mt_284, mt_285, mt_286, mt_287, mt_288, mt_289, mt_290, mt_291, mt_292, mt_293, mt_294, mt_295, mt_296, mt_297, mt_298, mt_299, mt_300, mt_301, mt_302, mt_303, mt_304, mt_305, mt_306, mt_307, mt_308, mt_309, mt_310, mt_311]
def mCDf (mid : Nat) : List (Nat × List (Nat × mI0 × Nat)) := (mCDT[mid]?).getD []
theorem mCDf_eq {mid own na mx rt : Nat} {stt ini : Bool} {cd : List (Nat × Jvm.ClassFile.Instr × Nat)} (h : mME mid = some (own, stt, na, mx, rt, ini, cd)) (pc : Nat) : x_lk2 pc (mCDf mid) = cd.lookup pc := by
  have e := congrArg (fun l => l[mid]?) mCDT_eq
  simp only [List.getElem?_map] at e
  unfold mME at h
  rw [h] at e
  simp only [Option.map_some] at e
  unfold mCDf
  cases h2 : mCDT[mid]? with
  | none => rw [h2] at e; cases e
  | some t =>
    rw [h2] at e
    simp only [Option.map_some, Option.some.injEq] at e
    rw [e]
    exact x_lk2_eq pc t (List.all_eq_true.mp mCDT_wf t (List.mem_of_getElem? h2))
end
