/-! ===== the cores of the lemmas: the class's and the model's TOKENS, the automaton's ways, names ===== -/
section ZM2
variable {b : Int → Int} {v : zVw} {n c k p s e x kd st mo op H L W WP u w i j r rq d : Int}
/-! TOKENS kept -/
theorem c_scn (h : 0 ≤ n ∧ 0 ≤ k ∧ p = t_p (t_b v) n k.toNat ∧ ∀ j : Nat, (j : Int) < k → q_ar v n j) (hs : s = t_s (t_b v) n k.toNat) (he : e = t_e (t_b v) n s) (hk : kd = t_k (t_b v) n s) (h1 : v 14 k = kd) (h2 : v 15 k = s) (h3 : v 16 k = x) (hx : kd = 2 ∨ kd = 3 → x = t_x (t_b v) n s) : 0 ≤ n ∧ 0 ≤ k + 1 ∧ e = t_p (t_b v) n (k + 1).toNat ∧ ∀ j : Nat, (j : Int) < k + 1 → q_ar v n j := by
  have ek : (k + 1).toNat = k.toNat + 1 := by omega
  refine ⟨h.1, by omega, ?_, fun j hj => ?_⟩
  · rw [ek, t_p_s, ← hs]
    exact he
  · by_cases cj : (j : Int) < k
    · exact h.2.2.2 j cj
    · have ej : (j : Int) = k := by omega
      have ej2 : j = k.toNat := by omega
      subst hs
      subst ej2
      unfold q_ar
      rw [ej]
      refine ⟨?_, ?_, fun h => ?_⟩
      · rw [h1, hk]
        rfl
      · rw [h2]
      · rw [h3]
        refine hx ?_
        rw [hk]
        exact h
theorem c_mcn {kk : Int} (h : 0 ≤ n ∧ 0 ≤ kk - 1 ∧ i ≤ n ∧ t_e1 (t_b v) 0 n i = t_s (t_b v) n (kk - 1).toNat ∧ ∀ j : Nat, (j : Int) < kk - 1 → q_mr v n j) (hi : t_e1 (t_b v) 0 n i = i) (he : e = t_e (t_b v) n i) (hle : e ≤ n) (hk : t_km u = t_k (t_b v) n i) (hu : 0 ≤ u ∧ u ≤ 41) (h0 : v 50 (kk - 1) = u) (h1 : v 51 (kk - 1) = i) (h2 : t_k (t_b v) n i = 3 → v 52 (kk - 1) = t_x (t_b v) n i) (h3 : t_k (t_b v) n i = 2 → v 53 (kk - 1) = t_y (t_b v) n i) : 0 ≤ n ∧ 0 ≤ kk ∧ e ≤ n ∧ t_e1 (t_b v) 0 n e = t_s (t_b v) n kk.toNat ∧ ∀ j : Nat, (j : Int) < kk → q_mr v n j := by
  have ek : kk.toNat = (kk - 1).toNat + 1 := by omega
  have hs : i = t_s (t_b v) n (kk - 1).toNat := by rw [← h.2.2.2.1]; exact hi.symm
  refine ⟨h.1, by omega, hle, ?_, fun j hj => ?_⟩
  · rw [ek]
    show _ = t_e1 (t_b v) 0 n (t_p (t_b v) n ((kk - 1).toNat + 1))
    rw [t_p_s, ← hs, ← he]
  · by_cases cj : (j : Int) < kk - 1
    · exact h.2.2.2.2 j cj
    · have ej : (j : Int) = kk - 1 := by omega
      have ej2 : j = (kk - 1).toNat := by omega
      subst hs
      subst ej2
      unfold q_mr
      rw [ej, h0, h1]
      exact ⟨hu.1, hu.2, hk, rfl, h2, h3⟩
theorem c_ends {R : Nat → Prop} {k : Nat} (h0 : 0 ≤ n) (h : ∀ j : Nat, j ≤ k → R j) (hz : tk b n k = 0) : q_all b n R :=
  ⟨h0, fun j hj hnz => by
    rcases Nat.lt_or_ge k j with c | c
    · exact absurd hz (hnz k c)
    · exact h j c⟩
theorem c_room {R : Nat → Prop} (h0 : 0 ≤ n) (h : ∀ j : Nat, (j : Int) < k → R j) (hk : 401 ≤ k) : q_all b n R :=
  ⟨h0, fun j hj _ => h j (by omega)⟩
theorem c_upto0 {R : Nat → Prop} (h : q_all b n R) : q_upto b n 0 R := ⟨by omega, by omega, h, fun j hj => by omega⟩
theorem c_uptoS {R : Nat → Prop} (h : q_upto b n (d - 1) R) (hk : tk b n (d - 1).toNat ≠ 0) (h4 : d ≤ 400) : q_upto b n d R :=
  ⟨by have := h.1; omega, h4, h.2.2.1, fun j hj => by
    by_cases c : (j : Int) < d - 1
    · exact h.2.2.2 j c
    · have : j = (d - 1).toNat := by omega
      rw [this]
      exact hk⟩
theorem c_at {R : Nat → Prop} (h : q_upto b n d R) (h0 : 0 ≤ c) (hc : c ≤ d) : R c.toNat := h.2.2.1.2 c.toNat (by have := h.2.1; omega) fun i hi => h.2.2.2 i (by omega)
theorem c_tok (h0 : 0 ≤ c) (hn : 0 ≤ n) (h : q_ar v n c.toNat) (h1 : v 14 c = kd) (h2 : v 15 c = s) (h3 : v 16 c = x) : q_tok (t_b v) n c kd s x ∧ 0 ≤ kd ∧ kd ≤ 277 ∧ 0 ≤ s ∧ s ≤ n := by
  have e : ((c.toNat : Nat) : Int) = c := by omega
  unfold q_ar at h
  rw [e, h1, h2, h3] at h
  have a1 := tk_r (b := t_b v) (n := n) c.toNat
  have a2 := t_s_in (b := t_b v) hn c.toNat
  rw [← h.1] at a1
  rw [← h.2.1] at a2
  refine ⟨⟨h0, h.1, h.2.1, fun hk => h.2.2 (by rw [← h.1]; exact hk)⟩, a1.1, a1.2, a2.2.2, a2.2.1⟩
theorem c_mto (h0 : 0 ≤ c) (hn : 0 ≤ n) (h : q_mr v n c.toNat) (h1 : v 50 c = u) (h2 : v 51 c = s) : (0 ≤ c ∧ 0 ≤ u ∧ u ≤ 41 ∧ t_km u = tk (t_b v) n c.toNat ∧ s = t_s (t_b v) n c.toNat) ∧ 0 ≤ u ∧ u ≤ 41 ∧ 0 ≤ s ∧ s ≤ n := by
  have e : ((c.toNat : Nat) : Int) = c := by omega
  unfold q_mr at h
  rw [e, h1, h2] at h
  have a2 := t_s_in (b := t_b v) hn c.toNat
  rw [← h.2.2.2.1] at a2
  exact ⟨⟨h0, h.1, h.2.1, h.2.2.1, h.2.2.2.1⟩, h.1, h.2.1, a2.2.2, a2.2.1⟩
/-! the automaton's ways -/
theorem a_ef_s (h : st < 30 ∨ 35 ≤ st) : a_ef st kd = st := by unfold a_ef; omega
theorem a_cl_1 (h : 1 ≤ st) (h2 : st < 30) : a_cl (a_ef st kd) mo op H L kd = if kd = a_one st then 0 else 1 := by
  rw [a_ef_s (by omega)]
  unfold a_cl
  rw [if_neg (by omega), if_pos h2]
theorem a_cl_0 : a_cl (a_ef 0 kd) mo op H L kd = (if kd = 0 then 3 else if kd = 256 then (if H ≤ 5 then 0 else 2) else if kd = 257 then (if L ≤ 19 then 0 else 2) else if 258 ≤ kd ∧ kd ≤ 265 then 0 else 1) := by
  rw [a_ef_s (by omega)]
  unfold a_cl
  rw [if_pos rfl]
theorem a_cl_e0 (h : 200 ≤ st) : a_cl (a_ef st kd) 0 op H L kd = (if kd = 40 then (if op ≤ 5 then 0 else 2) else if kd = 3 ∨ (269 ≤ kd ∧ kd ≤ 277) then 0 else 1) := by
  rw [a_ef_s (by omega)]
  unfold a_cl
  rw [if_neg (by omega), if_neg (by omega), if_neg (by omega), if_pos rfl]
theorem a_cl_e1 (h : 200 ≤ st) : a_cl (a_ef st kd) 1 op H L kd = (if a_p kd then 0 else if 1 ≤ op then (if kd = 41 then 0 else 1) else if kd = a_x st then 0 else 1) := by
  rw [a_ef_s (by omega)]
  unfold a_cl
  rw [if_neg (by omega), if_neg (by omega), if_neg (by omega), if_neg (by decide)]
theorem a_cl_if (h : 30 ≤ st) (h2 : st ≤ 34) (hk : kd = 266) : a_cl (a_ef st kd) mo op H L kd = (if st ≤ 33 then 0 else 2) := by
  have : a_ef st kd = st := by unfold a_ef; omega
  rw [this]
  unfold a_cl
  rw [if_neg (by omega), if_neg (by omega), if_pos (by omega), if_pos hk]
theorem a_p_iff : a_p kd = true ↔ (kd = 43 ∨ kd = 45 ∨ kd = 42 ∨ kd = 47) := by unfold a_p; rw [decide_eq_true_eq]
theorem a_p_no (h : kd ≠ 43 ∧ kd ≠ 45 ∧ kd ≠ 42 ∧ kd ≠ 47) : a_p kd = false := by
  cases e : a_p kd with
  | false => rfl
  | true =>
    have := a_p_iff.mp e
    omega
theorem a_p_no' (h : a_p kd = false) : kd ≠ 43 ∧ kd ≠ 45 ∧ kd ≠ 42 ∧ kd ≠ 47 := by
  refine ⟨?_, ?_, ?_, ?_⟩ <;> (intro e; rw [e] at h; exact absurd h (by decide))
theorem c_fnd_ex (h : q_run b n c st mo op H L W WP) : ∃ r, q_fnd b n c r := by
  obtain ⟨-, q, e, -⟩ := h
  exact ⟨_, q, e, rfl⟩
/-- the run ahead of it -/
theorem a_run_pre {k : Nat} {q : zQ} (h : a_run b n (k + 1) = some q) : ∃ q', a_run b n k = some q' ∧ k < 400 ∧ a_at b n q' k = 0 ∧ q = a_nx b n q' k := by
  unfold a_run at h
  split at h
  · cases h
  · next q0 h0 =>
    split at h
    · next hc =>
      cases h
      exact ⟨q0, h0, hc.1, hc.2, rfl⟩
    · cases h
theorem c_fnd_ex1 (h : q_run b n c st mo op H L W WP) (hc : 1 ≤ c) : ∃ r, q_fnd b n (c - 1) r := by
  obtain ⟨-, q, e, -⟩ := h
  rw [show c.toNat = (c - 1).toNat + 1 by omega] at e
  obtain ⟨q', e', -⟩ := a_run_pre e
  exact ⟨_, q', e', rfl⟩
theorem c_pos (h : q_run b n c st mo op H L W WP) (hs : st ≠ 0) (h2 : st < 30 ∨ 35 ≤ st) (hn : tk b n c.toNat = kd) (h3 : a_ef st kd ≠ 470) : 1 ≤ c := by
  obtain ⟨h0, q, e, e1, -⟩ := h
  rcases Int.lt_or_le 0 c with hc | hc
  · omega
  · have : c.toNat = 0 := by omega
    rw [this] at e
    cases e
    rw [a_ef_s h2] at e1
    dsimp only at e1
    have : a_ef 0 (tk b n c.toNat) = 0 := a_ef_s (by omega)
    omega
/-- a run that goes on knows all that it knew -/
theorem a_run_le : ∀ {k j : Nat} {q : zQ}, a_run b n (j + k) = some q → ∃ q', a_run b n j = some q' ∧ ∃ l, q.2.2.2.2.2.2.2 = q'.2.2.2.2.2.2.2 ++ l
  | 0, j, q, h => ⟨q, h, [], by simp⟩
  | k + 1, j, q, h => by
    obtain ⟨q0, h0, -, -, e⟩ := a_run_pre (k := j + k) h
    obtain ⟨q', h1, l, h2⟩ := a_run_le h0
    refine ⟨q', h1, ?_⟩
    obtain ⟨st0, mo0, op0, H0, L0, W0, WP0, ns⟩ := q0
    subst e
    unfold a_nx
    dsimp only at h2 ⊢
    split
    · exact ⟨l ++ [j + k - 3], by rw [h2, List.append_assoc]⟩
    · exact ⟨l, h2⟩
theorem c_nmsM {f : Nat → Int} {g : Int → Int} {st2 mo2 op2 L2 W2 WP2 : Int} (h : q_nms b n c H f g) (h1 : q_run b n d st mo op H L W WP) (h2 : q_run b n c st2 mo2 op2 H L2 W2 WP2) (hc : c ≤ d) : q_nms b n d H f g := by
  obtain ⟨q, e, e1, e2⟩ := h
  obtain ⟨-, q1, f0, -, -, -, f1, -⟩ := h1
  have ed : d.toNat = c.toNat + (d.toNat - c.toNat) := by have := h2.1; omega
  rw [ed] at f0
  obtain ⟨q', g0, l, g1⟩ := a_run_le f0
  rw [e] at g0
  cases g0
  have hl := a_run_H f0
  have hl2 := a_run_H e
  have hz : l = [] := by
    have : q1.2.2.2.2.2.2.2.length = q.2.2.2.2.2.2.2.length := by
      rw [← Int.ofNat_inj, ← hl, ← hl2, f1, e1]
    rw [g1, List.length_append] at this
    exact List.length_eq_zero_iff.mp (by omega)
  rw [hz, List.append_nil] at g1
  refine ⟨q1, by rw [ed]; exact f0, f1, fun i m hm => ?_⟩
  rw [g1] at hm
  exact e2 i m hm
theorem c_nmsH {f : Nat → Int} {g : Int → Int} (h : q_nms b n (d - 1) H f g) (h1 : q_run b n (d - 1) 4 0 0 H L W WP) (hk : tk b n (d - 1).toNat = 59) (h4 : d ≤ 400) (h2 : tk b n (d - 4).toNat = 2) (hg : g H = f (d - 4).toNat) : q_nms b n d (H + 1) f g := by
  obtain ⟨q, e, e1, e2⟩ := h
  obtain ⟨q0, q1, f0, f1, f2, f3, f4, f5, -⟩ := h1
  rw [e] at f0
  cases f0
  rw [hk, a_ef_s (st := 4) (by omega)] at f1
  have fe : q.1 = 4 := by
    have := a_ef_lt (st := q.1) (kd := 59) (by omega)
    omega
  have hrun : a_run b n d.toNat = some (a_nx b n q (d - 1).toNat) := by
    rw [show d.toNat = (d - 1).toNat + 1 by omega, a_run, e]
    dsimp only
    rw [if_pos]
    refine ⟨by omega, ?_⟩
    unfold a_at
    rw [hk, fe, a_cl_1 (by omega) (by omega)]
    rfl
  have hl := a_run_H e
  obtain ⟨st0, mo0, op0, H0, L0, W0, WP0, ns⟩ := q
  dsimp only at e1 e2 f4 fe hl
  subst fe
  refine ⟨_, hrun, ?_, fun i m hm => ?_⟩
  · unfold a_nx
    dsimp only
    rw [hk, a_ef_s (st := 4) (by omega), if_pos rfl, e1]
  · unfold a_nx at hm
    dsimp only at hm
    rw [hk, a_ef_s (st := 4) (by omega), if_pos rfl] at hm
    rcases Nat.lt_trichotomy i ns.length with c | c | c
    · rw [List.getElem?_append_left c] at hm
      exact e2 i m hm
    · rw [c, List.getElem?_append_right (Nat.le_refl _), Nat.sub_self] at hm
      have em : (d - 1).toNat - 3 = m := by simpa using hm
      have em2 : m = (d - 4).toNat := by omega
      rw [em2, c, ← hl, e1]
      exact ⟨h2, hg⟩
    · rw [List.getElem?_append_right (by omega)] at hm
      simp only [List.getElem?_cons, List.getElem?_nil] at hm
      rw [if_neg (by omega)] at hm
      cases hm
theorem c_nfd0 {f : Nat → Int} {g : Int → Int} (h : q_nms b n c H f g) : q_nfd b n c 0 := by
  obtain ⟨q, e, -, -⟩ := h
  exact ⟨by omega, q, e, fun i m hi _ => by omega⟩
/-- the name told as number j -/
theorem c_nth {f : Nat → Int} {g : Int → Int} (h : q_nms b n c H f g) (h0 : 0 ≤ j) (hj : j < H) : ∃ q m, a_run b n c.toNat = some q ∧ q.2.2.2.2.2.2.2[j.toNat]? = some m ∧ tk b n m = 2 ∧ g j = f m := by
  obtain ⟨q, e, e1, e2⟩ := h
  have hl := a_run_H e
  have hlt : j.toNat < q.2.2.2.2.2.2.2.length := by
    rw [e1] at hl
    omega
  refine ⟨q, _, e, List.getElem?_eq_getElem hlt, ?_⟩
  have := e2 j.toNat _ (List.getElem?_eq_getElem hlt)
  rw [show ((j.toNat : Nat) : Int) = j by omega] at this
  exact this
theorem c_nfdS {f : Nat → Int} {g : Int → Int} (h : q_nms b n c H f g) (h1 : q_nfd b n c j) (hj : j < H) (hx : ∀ m, tk b n m = 2 → f m = g j → tx b n m ≠ tx b n c.toNat) : q_nfd b n c (j + 1) := by
  obtain ⟨h0, q, e, e1⟩ := h1
  obtain ⟨q', m, f0, f1, f2, f3⟩ := c_nth h h0 hj
  rw [e] at f0
  cases f0
  refine ⟨by omega, q, e, fun i m' hi hm => ?_⟩
  by_cases ci : (i : Int) < j
  · exact e1 i m' ci hm
  · rw [show i = j.toNat by omega, f1] at hm
    cases hm
    exact hx m f2 f3.symm
theorem a_fd_no {x : Int} : ∀ {l : List Nat} {i : Int}, (∀ m ∈ l, tx b n m ≠ x) → a_fd b n x l i = -1
  | [], _, _ => rfl
  | m :: t, i, h => by
    unfold a_fd
    rw [if_neg (h m List.mem_cons_self)]
    exact a_fd_no fun m hm => h m (List.mem_cons_of_mem _ hm)
theorem a_fd_at {x : Int} : ∀ {l : List Nat} {i : Int} {k m : Nat}, l[k]? = some m → tx b n m = x → (∀ (j m : Nat), j < k → l[j]? = some m → tx b n m ≠ x) → a_fd b n x l i = i + k
  | [], _, k, m, h, _, _ => by simp at h
  | m' :: t, i, 0, m, h, hx, _ => by
    simp only [List.getElem?_cons_zero, Option.some.injEq] at h
    unfold a_fd
    rw [h, if_pos hx]
    omega
  | m' :: t, i, k + 1, m, h, hx, hn => by
    unfold a_fd
    rw [if_neg (hn 0 m' (by omega) rfl), a_fd_at (k := k) (by simpa using h) hx fun j m hj hm => hn (j + 1) m (by omega) (by simpa using hm)]
    omega
theorem a_fd_ge {x : Int} : ∀ {l : List Nat} {i : Int}, 0 ≤ i → (∃ m ∈ l, tx b n m = x) → 0 ≤ a_fd b n x l i
  | [], _, _, h => by obtain ⟨m, hm, -⟩ := h; exact absurd hm List.not_mem_nil
  | m' :: t, i, hi, h => by
    unfold a_fd
    split
    · exact hi
    · next hc =>
      refine a_fd_ge (by omega) ?_
      obtain ⟨m, hm, hx⟩ := h
      rcases List.mem_cons.mp hm with rfl | hm
      · exact absurd hx hc
      · exact ⟨m, hm, hx⟩
theorem c_fndY {f : Nat → Int} {g : Int → Int} (h : q_nms b n c H f g) (h1 : q_nfd b n c j) (hj : j < H) (hx : ∀ m, tk b n m = 2 → f m = g j → tx b n m = tx b n c.toNat) : q_fnd b n c j := by
  obtain ⟨h0, q, e, e1⟩ := h1
  obtain ⟨q', m, f0, f1, f2, f3⟩ := c_nth h h0 hj
  rw [e] at f0
  cases f0
  refine ⟨q, e, ?_⟩
  rw [a_fd_at f1 (hx m f2 f3.symm) fun i m' hi hm => e1 i m' (by omega) hm]
  omega
theorem c_fndN {f : Nat → Int} {g : Int → Int} (h : q_nms b n c H f g) (h1 : q_nfd b n c j) (hj : H ≤ j) : q_fnd b n c (-1) := by
  obtain ⟨h0, q, e, e1⟩ := h1
  obtain ⟨q', f0, f1, f2⟩ := h
  rw [e] at f0
  cases f0
  refine ⟨q, e, ?_⟩
  rw [a_fd_no]
  intro m hm
  obtain ⟨i, hi⟩ := List.getElem?_of_mem hm
  have hl := a_run_H e
  have := (List.getElem?_eq_some_iff.mp hi).1
  exact e1 i m (by omega) hi
theorem c_hit {f : Nat → Int} {g : Int → Int} (h : q_nms b n c H f g) (h0 : 0 ≤ j) (hj : j < H) (hx : ∀ m, tk b n m = 2 → f m = g j → tx b n m = tx b n c.toNat) : q_hit b n c := by
  obtain ⟨q', m, f0, f1, f2, f3⟩ := c_nth h h0 hj
  exact ⟨q', f0, m, List.mem_of_getElem? f1, hx m f2 f3.symm⟩
theorem c_hit_fnd (h : q_hit b n c) : ∃ r, q_fnd b n c r ∧ 0 ≤ r := by
  obtain ⟨q, e, h⟩ := h
  exact ⟨_, ⟨q, e, rfl⟩, a_fd_ge (by omega) h⟩
/-- a fault told lies ahead of the TOKEN that stands next -/
theorem a_wp (hn : 0 ≤ n) : ∀ {k : Nat} {q : zQ}, a_run b n k = some q → q.2.2.2.2.2.1 ≠ 0 → q.2.2.2.2.2.2.1 < t_s b n k
  | 0, q, h, hw => by cases h; exact absurd rfl hw
  | k + 1, q, h, hw => by
    obtain ⟨q0, h0, h4, ha, e⟩ := a_run_pre h
    have ih := a_wp hn h0
    have hk : tk b n k ≠ 0 := by
      intro z
      obtain ⟨st0, mo0, op0, H0, L0, W0, WP0, ns⟩ := q0
      unfold a_at at ha
      rw [z] at ha
      dsimp only at ha
      generalize a_ef st0 0 = E at ha
      unfold a_cl at ha
      split at ha
      · rw [if_pos rfl] at ha
        cases ha
      · split at ha
        · next h1 h2 =>
          split at ha
          · next h3 =>
            unfold a_one at h3
            omega
          · cases ha
        · split at ha
          · rw [if_neg (by decide)] at ha
            cases ha
          · split at ha
            · rw [if_neg (by decide), if_neg (by decide)] at ha
              cases ha
            · rw [if_neg (by decide)] at ha
              split at ha
              · rw [if_neg (by decide)] at ha
                cases ha
              · split at ha
                · next h3 =>
                  unfold a_x at h3
                  omega
                · cases ha
    have hlt := t_s_lt (b := b) hn hk
    obtain ⟨st0, mo0, op0, H0, L0, W0, WP0, ns⟩ := q0
    subst e
    unfold a_nx at hw ⊢
    dsimp only at hw ih ⊢
    by_cases w0 : W0 = 0
    · rw [if_pos w0] at hw
      rw [if_pos ⟨w0, hw⟩]
      exact hlt
    · rw [if_neg (fun h => w0 h.1)]
      have := ih w0
      omega
theorem c_wp (hn : 0 ≤ n) (h : q_run b n c st mo op H L W WP) (hs : s = t_s b n c.toNat) (hw : 1 ≤ W) : WP < s := by
  obtain ⟨-, q, e, -, -, -, -, -, e1, e2⟩ := h
  have := a_wp hn e (by omega)
  rw [e2 (by omega)] at this
  omega
/-- what comes out is one -/
theorem a_run_stop {j k : Nat} {q q' : zQ} {f p : Int} (h : a_run b n j = some q) (hr : q_resc b n j q f p) (h' : a_run b n (j + k) = some q') : k = 0 := by
  cases k with
  | zero => rfl
  | succ k =>
    exfalso
    have : ∀ {k : Nat} {q' : zQ}, a_run b n (j + 1 + k) = some q' → ∃ q'', a_run b n (j + 1) = some q'' := by
      intro k
      induction k with
      | zero => intro q' h; exact ⟨q', h⟩
      | succ k ih =>
        intro q' h
        obtain ⟨q'', h2, -⟩ := a_run_pre (k := j + 1 + k) h
        exact ih h2
    obtain ⟨q'', h2⟩ := this (k := k) (q' := q') (by rw [show j + 1 + k = j + (k + 1) by omega]; exact h')
    obtain ⟨q0, g0, g1, g2, -⟩ := a_run_pre h2
    rw [h] at g0
    cases g0
    rcases hr.1 with c | c
    · exact c g2
    · omega
theorem c_resU {f f' p p' : Int} (h : q_res b n f p) (h' : q_res b n f' p') : f = f' ∧ (f ≠ 0 → p = p') := by
  obtain ⟨j, q, e, g⟩ := h
  obtain ⟨j', q', e', g'⟩ := h'
  have hj : j = j' := by
    rcases Nat.le_total j j' with c | c
    · have := a_run_stop (k := j' - j) e g (q' := q') (by rw [show j + (j' - j) = j' by omega]; exact e')
      omega
    · have := a_run_stop (k := j - j') e' g' (q' := q) (by rw [show j' + (j - j') = j by omega]; exact e)
      omega
  subst hj
  rw [e] at e'
  cases e'
  have hf : f = f' := by rw [g.2.1, g'.2.1]
  refine ⟨hf, fun h0 => ?_⟩
  rw [g.2.2 h0, g'.2.2 (by rw [← hf]; exact h0)]
theorem c_finU {f f' q q' : Int} (h : q_fin b n f q) (h' : q_fin b n f' q') : f = f' ∧ q = q' := by
  obtain ⟨p, h1, h2⟩ := h
  obtain ⟨p', h1', h2'⟩ := h'
  obtain ⟨g1, g2⟩ := c_resU h1 h1'
  refine ⟨g1, ?_⟩
  rw [h2, h2', ← g1]
  split
  · rfl
  · next hf => exact g2 hf
end ZM2
