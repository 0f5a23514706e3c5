noncomputable section
/-! ===== the sentences of TOKENS and of both parsers: what they say (wip/v2/DESIGN.md, 5) ===== -/
abbrev zVw : Type := Nat → Int → Int
def t_b (v : zVw) : Int → Int := fun i => v 13 i % 256
def t_sg (c : Int) : Int := if c = 59 ∨ c = 61 ∨ c = 43 ∨ c = 45 ∨ c = 42 ∨ c = 47 ∨ c = 60 ∨ c = 40 ∨ c = 41 then c else 1
def t_km (u : Int) : Int := if u = 0 then 0 else if u = 1 then 2 else if u = 2 then 3 else if u = 3 then 1 else if u = 4 then 59 else if u = 5 then 61 else if u = 6 then 40 else if u = 7 then 41 else if u = 8 then 43 else if u = 9 then 45 else if u = 10 then 42 else if u = 13 then 60 else if u = 15 then 47 else if 20 ≤ u then u + 236 else 1000 + u
def t_cl (f c : Int) : Int := if f = 0 then (if c = 9 ∨ c = 10 ∨ c = 13 ∨ c = 32 then 1 else 0) else if f = 1 then (if 97 ≤ c ∧ c ≤ 122 then 1 else 0) else if f = 2 then (if 48 ≤ c ∧ c ≤ 57 then 1 else 0) else if f = 4 then (if t_sg c = 1 then 0 else 1) else if f = 5 then t_km c else t_sg c
section ZT1
variable (b : Int → Int)
/-- the end of a run of bytes of class f from a on -/
def t_end (f n : Int) : Nat → Int → Int
  | 0, a => a
  | k + 1, a => if a < n ∧ t_cl f (b a) = 1 then t_end f n k (a + 1) else a
def t_e1 (f n a : Int) : Int := t_end b f n (n - a).toNat a
def q_runs (f n a p : Int) : Prop := a ≤ p ∧ ∀ i : Int, a ≤ i → i < p → i < n ∧ t_cl f (b i) = 1
def q_rune (f n a p : Int) : Prop := q_runs b f n a p ∧ (n ≤ p ∨ t_cl f (b p) ≠ 1)
def t_num (m o a : Int) : Nat → Int
  | 0 => 0
  | k + 1 => m * t_num m o a k + b (a + k) - o
def t_W (j : Int) : Int := (mST1.getD j.toNat 0).toInt
def q_wm (x a w i : Int) : Prop := ∀ j : Nat, (j : Int) < i → (if (j : Int) < w then b (a + j) else 32) = t_W (x + j)
def t_wb (x a w : Int) : Bool := (List.range 8).all fun (j : Nat) => decide ((if (j : Int) < w then b (a + j) else 32) = t_W (x + j))
/-- the word among the first m, or -1 -/
def t_wd (a w : Int) : Nat → Int
  | 0 => -1
  | m + 1 => if 0 ≤ t_wd a w m then t_wd a w m else if t_wb b (8 * (m : Int)) a w then m else -1
/-! the TOKEN at s -/
def t_k (n s : Int) : Int := if n ≤ s then 0 else if t_cl 1 (b s) = 1 then (if 8 < t_e1 b 1 n s - s then 1 else if 0 ≤ t_wd b s (t_e1 b 1 n s - s) 22 then 256 + t_wd b s (t_e1 b 1 n s - s) 22 else 2) else if t_cl 2 (b s) = 1 then (if 4 < t_e1 b 2 n s - s then 1 else 3) else t_sg (b s)
def t_e (n s : Int) : Int := if n ≤ s then s else if t_cl 1 (b s) = 1 then t_e1 b 1 n s else if t_cl 2 (b s) = 1 then t_e1 b 2 n s else s + 1
def t_x (n s : Int) : Int := if t_cl 1 (b s) = 1 then t_num b 32 96 s (t_e b n s - s).toNat else t_num b 10 48 s (t_e b n s - s).toNat
def t_y (n s : Int) : Int := t_num b 27 96 s (t_e b n s - s).toNat
def t_p (n : Int) : Nat → Int
  | 0 => 0
  | k + 1 => t_e b n (t_e1 b 0 n (t_p n k))
def t_s (n : Int) (k : Nat) : Int := t_e1 b 0 n (t_p b n k)
def tk (n : Int) (k : Nat) : Int := t_k b n (t_s b n k)
def tx (n : Int) (k : Nat) : Int := t_x b n (t_s b n k)
def ty (n : Int) (k : Nat) : Int := t_y b n (t_s b n k)
/-! the automaton -/
abbrev zQ : Type := Int × Int × Int × Int × Int × Int × Int × List Nat
def a_ef (st kd : Int) : Int := if 30 ≤ st ∧ st ≤ 34 ∧ kd ≠ 266 then st + 470 else st
def a_one (st : Int) : Int := if st = 1 then 2 else if st = 2 then 3 else if st = 3 then 3 else if st = 4 then 59 else if st = 5 then 2 else if st = 6 then 2 else if st = 7 then 3 else if st = 8 then 59 else if 9 ≤ st ∧ st ≤ 12 then 3 else if st = 13 then 59 else if st = 20 then 61 else -1
def a_x (st : Int) : Int := if st ≤ 204 then 60 else if st ≤ 304 then 267 else if st ≤ 404 then 268 else 59
def a_p (kd : Int) : Bool := decide (kd = 43 ∨ kd = 45 ∨ kd = 42 ∨ kd = 47)
/-- 0 it fits, 1 SYNTAX, 2 ROOM, 3 the end -/
def a_cl (st mo op H L kd : Int) : Int :=
  if st = 0 then (if kd = 0 then 3 else if kd = 256 then (if H ≤ 5 then 0 else 2) else if kd = 257 then (if L ≤ 19 then 0 else 2) else if 258 ≤ kd ∧ kd ≤ 265 then 0 else 1)
  else if st < 30 then (if kd = a_one st then 0 else 1)
  else if st < 200 then (if kd = 266 then (if st ≤ 33 then 0 else 2) else 1)
  else if mo = 0 then (if kd = 40 then (if op ≤ 5 then 0 else 2) else if kd = 3 ∨ (269 ≤ kd ∧ kd ≤ 277) then 0 else 1)
  else if a_p kd then 0 else if 1 ≤ op then (if kd = 41 then 0 else 1) else if kd = a_x st then 0 else 1
def a_st (st mo op kd : Int) : Int :=
  if st = 0 then (if kd = 256 then 1 else if kd = 257 then 5 else if kd = 258 then 9 else if kd = 259 then 10 else if kd = 264 then 11 else if kd = 265 then 12 else 20)
  else if st < 20 then (if st = 4 ∨ st = 8 ∨ st = 13 then 0 else if 9 ≤ st then 13 else st + 1)
  else if st = 20 then 30 else if st < 200 then st + 171
  else if mo = 0 then st else if a_p kd then st else if 1 ≤ op then st else if st ≤ 304 then st + 100 else if st ≤ 404 then st - 370 else 0
def a_mo (st mo op kd : Int) : Int := if st < 200 then 0 else if mo = 0 then (if kd = 40 then 0 else 1) else if a_p kd then 0 else if 1 ≤ op then 1 else 0
def a_op (st mo op kd : Int) : Int := if st < 200 then op else if mo = 0 then (if kd = 40 then op + 1 else op) else if a_p kd then op else if 1 ≤ op then op - 1 else op
def a_lo (st : Int) : Int := if st = 3 ∨ st = 9 then 1 else 0
def a_hi (st : Int) : Int := if st = 2 then 20 else if st = 3 ∨ st = 9 ∨ st = 10 then 99 else if st = 7 then 9 else if st = 11 then 100 else 9999
/-- the fault that a TOKEN that fits makes -/
def a_ck (st x r rq : Int) : Int := if st = 1 then (if 0 ≤ r then 3 else 0) else if st = 5 then (if r < 0 then 4 else 0) else if st = 6 then (if r < 0 then 4 else if r = rq then 3 else 0) else if st = 2 ∨ st = 3 ∨ st = 7 ∨ (9 ≤ st ∧ st ≤ 12) then (if a_lo st ≤ x ∧ x ≤ a_hi st then 0 else 5) else 0
/-- the first of the names told that is alike -/
def a_fd (n x : Int) : List Nat → Int → Int
  | [], _ => -1
  | m :: t, i => if tx b n m = x then i else a_fd n x t (i + 1)
def a_nx (n : Int) (q : zQ) (c : Nat) : zQ := match q, tk b n c with
  | (st0, mo, op, H, L, W, WP, ns), kd => match a_ef st0 kd with
    | st => match a_ck st (tx b n c) (a_fd b n (tx b n c) ns 0) (a_fd b n (tx b n (c - 1)) ns 0) with
      | ck => (a_st st mo op kd, a_mo st mo op kd, a_op st mo op kd, (if st = 4 then H + 1 else H), (if st = 8 then L + 1 else L), (if W = 0 then ck else W), (if W = 0 ∧ ck ≠ 0 then t_s b n c else WP), if st = 4 then ns ++ [c - 3] else ns)
/-- what the TOKEN c is to it -/
def a_at (n : Int) (q : zQ) (c : Nat) : Int := a_cl (a_ef q.1 (tk b n c)) q.2.1 q.2.2.1 q.2.2.2.1 q.2.2.2.2.1 (tk b n c)
def a_run (n : Int) : Nat → Option zQ
  | 0 => some (0, 0, 0, 0, 0, 0, 0, [])
  | c + 1 => match a_run n c with
    | none => none
    | some q => if c < 400 ∧ a_at b n q c = 0 then some (a_nx b n q c) else none
def a_up (f : Int → Int → Int) (r q x : Int) : Int → Int → Int := fun a b => if (0 ≤ r ∧ r < 6 ∧ 0 ≤ q ∧ q < 6) ∧ ((a = r ∧ b = q) ∨ (a = q ∧ b = r)) then x else f a b
/-- LIKES as told by the first TOKENS -/
def a_lk (n : Int) : Nat → Int → Int → Int
  | 0 => fun _ _ => 5
  | c + 1 => match a_run b n c with
    | none => a_lk n c
    | some q => if a_ef q.1 (tk b n c) = 8 then a_up (a_lk n c) (a_fd b n (tx b n (c - 3)) q.2.2.2.2.2.2.2 0) (a_fd b n (tx b n (c - 2)) q.2.2.2.2.2.2.2 0) (tx b n (c - 1)) else a_lk n c
def q_end (n : Int) (c : Nat) : Prop := (∃ q, a_run b n c = some q) ∧ tk b n c = 0
def q_fih (n H : Int) : Prop := ∃ c q, a_run b n c = some q ∧ tk b n c = 0 ∧ q.2.2.2.1 = H
def q_run (n c st mo op H L W WP : Int) : Prop := 0 ≤ c ∧ ∃ q, a_run b n c.toNat = some q ∧ a_ef q.1 (tk b n c.toNat) = a_ef st (tk b n c.toNat) ∧ q.2.1 = mo ∧ q.2.2.1 = op ∧ q.2.2.2.1 = H ∧ q.2.2.2.2.1 = L ∧ q.2.2.2.2.2.1 = W ∧ (W ≠ 0 → q.2.2.2.2.2.2.1 = WP)
def q_resc (n : Int) (c : Nat) (q : zQ) (f p : Int) : Prop := (a_at b n q c ≠ 0 ∨ 400 ≤ c) ∧ f = (if a_at b n q c = 3 then q.2.2.2.2.2.1 else if a_at b n q c = 0 then 2 else a_at b n q c) ∧ (f ≠ 0 → p = if a_at b n q c = 3 then q.2.2.2.2.2.2.1 else t_s b n c)
def q_res (n f p : Int) : Prop := ∃ c q, a_run b n c = some q ∧ q_resc b n c q f p
def q_tok (n c kd s x : Int) : Prop := 0 ≤ c ∧ kd = tk b n c.toNat ∧ s = t_s b n c.toNat ∧ (kd = 2 ∨ kd = 3 → x = tx b n c.toNat)
def q_go (n c s : Int) : Prop := 400 ≤ c → q_res b n 2 s
def q_fnd (n c r : Int) : Prop := ∃ q, a_run b n c.toNat = some q ∧ r = a_fd b n (tx b n c.toNat) q.2.2.2.2.2.2.2 0
def q_nfd (n c j : Int) : Prop := 0 ≤ j ∧ ∃ q, a_run b n c.toNat = some q ∧ ∀ (i m : Nat), (i : Int) < j → q.2.2.2.2.2.2.2[i]? = some m → tx b n m ≠ tx b n c.toNat
def q_hit (n c : Int) : Prop := ∃ q, a_run b n c.toNat = some q ∧ ∃ m ∈ q.2.2.2.2.2.2.2, tx b n m = tx b n c.toNat
/-- g holds what f says of the names told, H of them -/
def q_nms (n c H : Int) (f : Nat → Int) (g : Int → Int) : Prop := ∃ q, a_run b n c.toNat = some q ∧ q.2.2.2.1 = H ∧ ∀ (i m : Nat), q.2.2.2.2.2.2.2[i]? = some m → tk b n m = 2 ∧ g i = f m
def q_fin (n f q : Int) : Prop := ∃ p, q_res b n f p ∧ q = if f = 0 then -1 else p
def q_wid (a w r : Int) : Prop := r = t_wd b a w 22
/-- how many statements are told by the first TOKENS -/
def a_S (n : Int) : Nat → Int
  | 0 => 0
  | c + 1 => match a_run b n (c + 1) with
    | none => a_S n c
    | some q => if q.1 = 0 then a_S n c + 1 else a_S n c
/-! the LAWS: a fold over TOKENS. Items (what, with what): 0 an INT, 1 a VAR, 2 + 3 - 4 * 5 / 6 unless less 7 answer -/
def p_em (o : Int) : Int × Int := (if o = 43 then 2 else if o = 45 then 3 else if o = 42 then 4 else 5, 0)
/-- an operation that waits and binds more: * / -/
def p_sg (o : Int) : Bool := decide (o ≠ 40 ∧ o ≠ 43 ∧ o ≠ 45)
/-- of those that wait (the last one first): what comes out, what waits on -/
def p_S : List Int → List (Int × Int)
  | [] => []
  | o :: t => if p_sg o = true then p_em o :: p_S t else []
def p_Sr : List Int → List Int
  | [] => []
  | o :: t => if p_sg o = true then p_Sr t else o :: t
def p_A : List Int → List (Int × Int)
  | [] => []
  | o :: t => if o = 40 then [] else p_em o :: p_A t
def p_Ar : List Int → List Int
  | [] => []
  | o :: t => if o = 40 then o :: t else p_Ar t
/-- LAWS told (which one, its branches: test's parts and term, the last term), the LAW under way (which one, its branches), the branch under way: its test's parts, what is out of the last expression, what waits -/
abbrev zYd : Type := List (Int × List (List (Int × Int) × List (Int × Int) × List (Int × Int)) × List (Int × Int)) × Int × List (List (Int × Int) × List (Int × Int) × List (Int × Int)) × List (Int × Int) × List (Int × Int) × List (Int × Int) × List Int
def p_it (kd x : Int) : Int × Int := if kd = 3 then (0, x) else (1, kd - 269)
def p_nx (y : zYd) (st mo op kd x : Int) : zYd := match y with
  | (D, k, B, E, F, O, w) =>
    if st = 0 then (if 260 ≤ kd ∧ kd ≤ 263 then (D, kd - 260, [], [], [], [], []) else y)
    else if st < 30 then y
    else if st < 200 then (D, k, B, [], [], [], [])
    else if mo = 0 then (if kd = 40 then (D, k, B, E, F, O, 40 :: w) else (D, k, B, E, F, O ++ [p_it kd x], w))
    else if a_p kd = true then (if p_sg kd = true then (D, k, B, E, F, O ++ p_S w, kd :: p_Sr w) else (D, k, B, E, F, O ++ p_A w, kd :: p_Ar w))
    else if 1 ≤ op then (D, k, B, E, F, O ++ p_A w, (p_Ar w).tail)
    else if st ≤ 204 then (D, k, B, O ++ p_A w, [], [], [])
    else if st ≤ 304 then (D, k, B, E, O ++ p_A w, [], [])
    else if st ≤ 404 then (D, k, B ++ [(E, F, O ++ p_A w)], [], [], [], [])
    else (D ++ [(k, B, O ++ p_A w)], k, [], [], [], [], [])
def p_y (n : Int) : Nat → zYd
  | 0 => ([], 0, [], [], [], [], [])
  | c + 1 => match a_run b n c with
    | none => p_y n c
    | some q => p_nx (p_y n c) (a_ef q.1 (tk b n c)) q.2.1 q.2.2.1 (tk b n c) (tx b n c)
/-- the class's steps: of a LAW's branches from place p on; of LAWS; of all told so far -/
def p_cb (p : Int) : List (List (Int × Int) × List (Int × Int) × List (Int × Int)) → List (Int × Int)
  | [] => []
  | (E, F, T) :: B => E ++ F ++ (6, p + E.length + F.length + T.length + 2) :: T ++ (7, 0) :: p_cb (p + E.length + F.length + T.length + 2) B
def p_cd (p : Int) : List (Int × List (List (Int × Int) × List (Int × Int) × List (Int × Int)) × List (Int × Int)) → List (Int × Int)
  | [] => []
  | (_, B, T) :: D => p_cb p B ++ T ++ (7, 0) :: p_cd (p + (p_cb p B).length + T.length + 1) D
def p_c0 (y : zYd) : List (Int × Int) := [(0, 1), (7, 0), (1, 2), (0, 10), (4, 0), (7, 0), (1, 0), (7, 0)] ++ p_cd 8 y.1
def p_c2 (y : zYd) : List (Int × Int) := p_c0 y ++ p_cb (p_c0 y).length y.2.2.1 ++ y.2.2.2.1 ++ y.2.2.2.2.1
def p_ph (st : Int) : List (Int × Int) := if 400 ≤ st ∧ st ≤ 404 then [(6, 0)] else []
def p_cc (y : zYd) (st : Int) : List (Int × Int) := p_c2 y ++ p_ph st ++ y.2.2.2.2.2.1
/-- where the last told LAW k begins -/
def p_sD (p : Int) : List (Int × List (List (Int × Int) × List (Int × Int) × List (Int × Int)) × List (Int × Int)) → Int → Int → Int
  | [], _, d => d
  | (j, B, T) :: D, k, d => p_sD (p + (p_cb p B).length + T.length + 1) D k (if j = k then p else d)
def p_st (y : zYd) (k : Int) : Int := p_sD 8 y.1 k (if k = 2 then 2 else if k = 3 then 6 else 0)
/-- two rows of numbers hold a code, l long -/
def p_ar (f g : Int → Int) (l : Int) (C : List (Int × Int)) : Prop := l = C.length ∧ ∀ (i : Nat) (x : Int × Int), C[i]? = some x → f i = x.1 ∧ g i = x.2
def p_ex (u : Int) (w : List Int) (kd x : Int) : List (Int × Int) := if u = 1 then p_S w else if u = 2 then p_A w else if u = 3 then p_A w ++ [(6, 0)] else if u = 4 then p_A w ++ [(7, 0)] else if u = 5 then [p_it kd x] else []
/-- an operand stands there, and may -/
def p_od (q : zQ) (kd : Int) : Prop := 200 ≤ a_ef q.1 kd ∧ q.2.1 = 0 ∧ 0 ≤ q.2.2.1 ∧ (kd = 3 ∨ (269 ≤ kd ∧ kd ≤ 277))
def q_cy (f g h : Int → Int) (n c l u : Int) : Prop := 0 ≤ c ∧ ∃ q, a_run b n c.toNat = some q ∧ (u = 5 → p_od q (tk b n c.toNat)) ∧ p_ar f g l (p_cc (p_y b n c.toNat) q.1 ++ p_ex u (p_y b n c.toNat).2.2.2.2.2.2 (tk b n c.toNat) (tx b n c.toNat)) ∧ ∀ k : Int, 0 ≤ k → k < 4 → h k = p_st (p_y b n c.toNat) k
def q_cyj (f g h : Int → Int) (n c l j : Int) : Prop := 0 ≤ c ∧ 0 ≤ j ∧ ∃ q C, a_run b n c.toNat = some q ∧ C = p_cc (p_y b n c.toNat) q.1 ∧ l = C.length ∧ (∀ x : Int × Int, C[j.toNat]? = some x → x.2 = l) ∧ (∀ (i : Nat) (x : Int × Int), C[i]? = some x → f i = x.1 ∧ ((i : Int) ≠ j → g i = x.2)) ∧ ∀ k : Int, 0 ≤ k → k < 4 → h k = p_st (p_y b n c.toNat) k
def q_cyb (f g h : Int → Int) (n c l k p : Int) : Prop := 0 ≤ c ∧ ∃ q, a_run b n c.toNat = some q ∧ p_ar f g l (p_cc (p_y b n c.toNat) q.1) ∧ p = p_st (p_y b n c.toNat) k ∧ ∀ j : Int, 0 ≤ j → j < 4 → j ≠ k → h j = p_st (p_y b n c.toNat) j
/-- what waits, there -/
def p_w (n c : Int) : List Int := (p_y b n c.toNat).2.2.2.2.2.2
def q_uex (n c d : Int) : Prop := p_w b n d = p_w b n c
def q_pex (n c d : Int) : Prop := p_Sr (p_w b n d) = p_w b n c ∧ p_S (p_w b n c) = []
def q_eex (n c d : Int) : Prop := p_Ar (p_w b n d) = p_w b n c ∧ p_A (p_w b n c) = []
def q_beg (n c l k : Int) : Prop := 0 ≤ c ∧ ∃ q, a_run b n c.toNat = some q ∧ 30 ≤ q.1 ∧ k = (p_y b n c.toNat).2.1 ∧ l = (p_c0 (p_y b n c.toNat)).length
def q_jmp (n c j : Int) : Prop := 0 ≤ c ∧ ∃ q, a_run b n c.toNat = some q ∧ 400 ≤ q.1 ∧ q.1 ≤ 404 ∧ j = (p_c2 (p_y b n c.toNat)).length
/-- the whole text's LAWS -/
def q_flw (f g h : Int → Int) (n l : Int) : Prop := ∃ c : Nat, q_end b n c ∧ p_ar f g l (p_c0 (p_y b n c)) ∧ ∀ k : Int, 0 ≤ k → k < 4 → h k = p_st (p_y b n c) k
/-! the model's: code, branches (a test, from where to where, the term), first and last branches -/
def p_mb : List (List (Int × Int) × List (Int × Int) × List (Int × Int)) → List (Int × Int)
  | [] => []
  | (E, F, T) :: B => E ++ F ++ T ++ p_mb B
def p_md : List (Int × List (List (Int × Int) × List (Int × Int) × List (Int × Int)) × List (Int × Int)) → List (Int × Int)
  | [] => []
  | (_, B, T) :: D => p_mb B ++ T ++ p_md D
def p_m1 (y : zYd) : List (Int × Int) := p_md y.1 ++ p_mb y.2.2.1
def p_mc (y : zYd) : List (Int × Int) := p_m1 y ++ y.2.2.2.1 ++ y.2.2.2.2.1 ++ y.2.2.2.2.2.1
def p_eb (p : Int) : List (List (Int × Int) × List (Int × Int) × List (Int × Int)) → List (Int × Int × Int × Int × Int)
  | [] => []
  | (E, F, T) :: B => (1, p, p + E.length, p + E.length + F.length, p + E.length + F.length + T.length) :: p_eb (p + E.length + F.length + T.length) B
def p_ed (p : Int) : List (Int × List (List (Int × Int) × List (Int × Int) × List (Int × Int)) × List (Int × Int)) → List (Int × Int × Int × Int × Int)
  | [] => []
  | (_, B, T) :: D => p_eb p B ++ (0, 0, 0, p + (p_mb B).length, p + (p_mb B).length + T.length) :: p_ed (p + (p_mb B).length + T.length) D
def p_en (s : Int) (y : zYd) : List (Int × Int × Int × Int × Int) := p_ed (420 * s) y.1 ++ p_eb (420 * s + (p_md y.1).length) y.2.2.1
def p_fl (i : Int) : List (Int × List (List (Int × Int) × List (Int × Int) × List (Int × Int)) × List (Int × Int)) → Int → Int × Int → Int × Int
  | [], _, d => d
  | (j, B, _) :: D, k, d => p_fl (i + B.length + 1) D k (if j = k then (i, i + B.length + 1) else d)
def t_op (o : Int) : Int := if o = 40 then 6 else if o = 43 then 8 else if o = 45 then 9 else if o = 42 then 10 else 15
/-- from what waited, u1 is out; W waits on -/
def p_mo (u : Int) (u1 W : List Int) : Prop := if u = 1 then ∀ o ∈ u1, p_sg o = true else if u = 2 then ∀ o ∈ u1, o ≠ 40 else if u = 3 then (∀ o ∈ u1, p_sg o = true) ∧ p_S W = [] else if u = 4 then (∀ o ∈ u1, o ≠ 40) ∧ p_A W = [] else u1 = []
def p_me (u : Int) (u1 : List Int) (kd x : Int) : List (Int × Int) := if u = 5 then [p_it kd x] else u1.map p_em
/-! numbers told: the sort k (9 WELL, 10 WATER, 11 BLIGHT, 12 SEED) -/
def a_sn (kd : Int) : Int := if kd = 258 then 9 else if kd = 259 then 10 else if kd = 264 then 11 else if kd = 265 then 12 else 0
def a_nu (n : Int) : Nat → Int → Int
  | 0 => fun k => if k = 9 then 20 else if k = 10 then 10 else 0
  | c + 1 => match a_run b n c with
    | none => a_nu n c
    | some q => if a_ef q.1 (tk b n c) = 13 then fun k => if a_sn (tk b n (c - 2)) = k then tx b n (c - 1) else a_nu n c k else a_nu n c
/-- HAIR and STRONG of the H HOUSES told -/
def q_hs (n c H : Int) (f g : Int → Int) : Prop := q_nms b n c H (fun m => tx b n (m + 1)) f ∧ q_nms b n c H (fun m => tx b n (m + 2)) g
def q_fhs (n H : Int) (f g : Int → Int) : Prop := ∃ c : Nat, q_end b n c ∧ q_hs b n c H f g
def q_run2 (n c st mo op H L W WP S : Int) : Prop := q_run b n c st mo op H L W WP ∧ S = a_S b n c.toNat
end ZT1
/-- the place j of the class's TOKENS is right -/
def q_ar (v : zVw) (n : Int) (j : Nat) : Prop := v 14 j = tk (t_b v) n j ∧ v 15 j = t_s (t_b v) n j ∧ (tk (t_b v) n j = 2 ∨ tk (t_b v) n j = 3 → v 16 j = tx (t_b v) n j)
/-- and of the model's -/
def q_mr (v : zVw) (n : Int) (j : Nat) : Prop := 0 ≤ v 50 j ∧ v 50 j ≤ 41 ∧ t_km (v 50 j) = tk (t_b v) n j ∧ v 51 j = t_s (t_b v) n j ∧ (tk (t_b v) n j = 3 → v 52 j = tx (t_b v) n j) ∧ (tk (t_b v) n j = 2 → v 53 j = ty (t_b v) n j)
def q_all (b : Int → Int) (n : Int) (R : Nat → Prop) : Prop := 0 ≤ n ∧ ∀ j : Nat, j ≤ 400 → (∀ i : Nat, i < j → tk b n i ≠ 0) → R j
def q_upto (b : Int → Int) (n c : Int) (R : Nat → Prop) : Prop := 0 ≤ c ∧ c ≤ 400 ∧ q_all b n R ∧ ∀ j : Nat, (j : Int) < c → tk b n j ≠ 0
/-- the word k as its letters' number -/
def t_key (k : Nat) : Int := (((List.range 8).map fun (j : Nat) => t_W (8 * k + j)).takeWhile fun c => decide (c ≠ 32)).foldl (fun a c => 27 * a + c - 96) 0
def t_kw (x : Int) : Nat → Int
  | 0 => 1
  | k + 1 => if x = t_key k then 20 + k else t_kw x k
def t_w4 (w : Int) (i : Nat) : Int := ((Int32.ofInt w >>> (Int32.ofInt (24 - 8 * i))).toInt8.toInt32).toInt
/-! the model's rows of the LAWS of side s -/
def p_ao (v : zVw) (s k : Int) (C : List (Int × Int)) : Prop := k = 420 * s + C.length ∧ ∀ (i : Nat) (x : Int × Int), C[i]? = some x → v 72 (420 * s + i) = x.1 ∧ v 73 (420 * s + i) = x.2
def p_wt (v : zVw) (w : Int) (W : List Int) : Prop := w = W.length ∧ ∀ (i : Nat) (o : Int), W.reverse[i]? = some o → v 74 i = t_op o
def p_b1 (v : zVw) (j : Int) (e : Int × Int × Int × Int × Int) : Prop := v 67 j = e.1 ∧ (e.1 = 1 → v 68 j = e.2.1 ∧ v 69 j = e.2.2.1) ∧ v 70 j = e.2.2.2.1 ∧ v 71 j = e.2.2.2.2
def p_bt (v : zVw) (s bb : Int) (E : List (Int × Int × Int × Int × Int)) : Prop := bb = 130 * s + E.length ∧ ∀ (i : Nat) (e : Int × Int × Int × Int × Int), E[i]? = some e → p_b1 v (130 * s + i) e
def p_lw (v : zVw) (s : Int) (y : zYd) (j : Int) : Prop := v 65 (4 * s + j) = (p_fl (130 * s) y.1 j (0, 0)).1 ∧ v 66 (4 * s + j) = (p_fl (130 * s) y.1 j (0, 0)).2
def p_l4 (P : Int → Prop) : Prop := ∀ j : Int, 0 ≤ j → j < 4 → P j
def q_my (v : zVw) (n c s k w bb u : Int) : Prop := 0 ≤ c ∧ 0 ≤ s ∧ ∃ q u1 W, a_run (t_b v) n c.toNat = some q ∧ (u = 5 → p_od q (tk (t_b v) n c.toNat)) ∧ p_w (t_b v) n c = u1 ++ W ∧ p_mo u u1 W ∧ p_ao v s k (p_mc (p_y (t_b v) n c.toNat) ++ p_me u u1 (tk (t_b v) n c.toNat) (tx (t_b v) n c.toNat)) ∧ p_wt v w W ∧ p_bt v s bb (p_en s (p_y (t_b v) n c.toNat)) ∧ p_l4 (p_lw v s (p_y (t_b v) n c.toNat))
def q_myb (v : zVw) (z : Bool) (n c s k w bb kk p f : Int) : Prop := 0 ≤ c ∧ 0 ≤ s ∧ ∃ q, a_run (t_b v) n c.toNat = some q ∧ p_w (t_b v) n c = [] ∧ w = 0 ∧ 0 ≤ kk ∧ p = 4 * s + kk ∧ p_fl (130 * s) (p_y (t_b v) n c.toNat).1 kk (0, 0) = (f, bb) ∧ p_ao v s k (p_mc (p_y (t_b v) n c.toNat)) ∧ p_bt v s bb (p_en s (p_y (t_b v) n c.toNat)) ∧ p_l4 (fun j => j ≠ kk → p_lw v s (p_y (t_b v) n c.toNat) j) ∧ (z = true → v 65 p = f)
def q_pb (b : Int → Int) (n c s k : Int) : Prop := 0 ≤ c ∧ ∃ q, a_run b n c.toNat = some q ∧ 30 ≤ q.1 ∧ k = 420 * s + (p_m1 (p_y b n c.toNat)).length
def q_pm (b : Int → Int) (n c s k : Int) : Prop := 0 ≤ c ∧ ∃ q, a_run b n c.toNat = some q ∧ 300 ≤ q.1 ∧ q.1 ≤ 404 ∧ k = 420 * s + (p_m1 (p_y b n c.toNat)).length + (p_y b n c.toNat).2.2.2.1.length
def q_pt (b : Int → Int) (n c s k : Int) : Prop := 0 ≤ c ∧ ∃ q, a_run b n c.toNat = some q ∧ 400 ≤ q.1 ∧ q.1 ≤ 404 ∧ k = 420 * s + (p_m1 (p_y b n c.toNat)).length + (p_y b n c.toNat).2.2.2.1.length + (p_y b n c.toNat).2.2.2.2.1.length
def q_bm (b : Int → Int) (n c s k f : Int) : Prop := 0 ≤ c ∧ ∃ q, a_run b n c.toNat = some q ∧ 30 ≤ q.1 ∧ k = (p_y b n c.toNat).2.1 ∧ f = 130 * s + (p_ed (420 * s) (p_y b n c.toNat).1).length
def q_mflw (v : zVw) (n s : Int) : Prop := 0 ≤ s ∧ ∃ c k bb, q_end (t_b v) n c ∧ p_ao v s k (p_md (p_y (t_b v) n c).1) ∧ p_bt v s bb (p_ed (420 * s) (p_y (t_b v) n c).1) ∧ bb ≤ 130 * s + 130 ∧ p_l4 (p_lw v s (p_y (t_b v) n c))
/-- how many values a code leaves upon m, K at most, each item one that may be -/
def p_dp (K : Nat) : List (Int × Int) → Nat → Option Nat
  | [], m => some m
  | (a, z) :: C, m => if a = 0 ∨ a = 1 then (if 0 ≤ z ∧ (a = 1 → z < 9) ∧ m < K then p_dp K C (m + 1) else none) else if 2 ≤ a ∧ a ≤ 5 ∧ 2 ≤ m then p_dp K C (m - 1) else none
/-- a code of one value -/
def p_wf (C : List (Int × Int)) : Prop := p_dp 20 C 0 = some 1
def p_wb (B : List (List (Int × Int) × List (Int × Int) × List (Int × Int))) : Prop := ∀ y ∈ B, p_wf y.1 ∧ p_wf y.2.1 ∧ p_wf y.2.2
def p_wd (D : List (Int × List (List (Int × Int) × List (Int × Int) × List (Int × Int)) × List (Int × Int))) : Prop := ∀ y ∈ D, p_wb y.2.1 ∧ p_wf y.2.2
/-! what LAWS come to: e tells what is looked at; a pile has its top ahead -/
/-- as an int -/
def e_i (z : Int) : Int := (Int32.ofInt z).toInt
def e_op (o a b : Int) : Int := (mOP (if o = 2 then 110 else if o = 3 then 111 else if o = 4 then 100 else 107) (Int32.ofInt a) (Int32.ofInt b)).toInt
/-- the class's: f steps at most, from place x on -/
def e_C (g h : Int → Int) (q : Int) (e : Int → Int) : Nat → Int → List Int → Int
  | 0, _, _ => 0
  | f + 1, x, s => if 0 ≤ x ∧ x < 432 ∧ x < q then (if g x = 7 then s.getLast?.getD 0 else if g x = 0 ∨ g x = 1 then (if 22 ≤ s.length ∨ h x < 0 ∨ (g x = 1 ∧ 9 ≤ h x) then 0 else e_C g h q e f (x + 1) (e_i (if g x = 0 then h x else e (h x)) :: s)) else match s with
    | b :: a :: t => if g x = 5 ∧ b = 0 then 0 else if g x = 6 then (if b ≤ a then e_C g h q e f (h x) t else e_C g h q e f (x + 1) t) else e_C g h q e f (x + 1) (e_op (g x) a b :: t)
    | _ => 0) else 0
/-- the model's: f items from place x on -/
def e_T (g h : Int → Int) (e : Int → Int) : Nat → Int → List Int → Option (List Int)
  | 0, _, s => some s
  | f + 1, x, s => if g x < 2 then e_T g h e f (x + 1) (e_i (if g x = 0 then h x else e (h x)) :: s) else match s with
    | b :: a :: t => if g x = 5 ∧ b = 0 then none else e_T g h e f (x + 1) (e_op (g x) a b :: t)
    | _ => none
def e_V (v : zVw) (e : Int → Int) (x z : Int) : Option Int := (e_T (v 72) (v 73) e (z - x).toNat x []).map fun s => s.getLast?.getD 0
/-- f branches from j on -/
def e_B (v : zVw) (e : Int → Int) : Nat → Int → Int
  | 0, _ => 0
  | f + 1, j => if v 67 j ≠ 0 then (match e_V v e (v 68 j) (v 69 j), e_V v e (v 69 j) (v 70 j) with
    | some a, some b => if b ≤ a then e_B v e f (j + 1) else (e_V v e (v 70 j) (v 71 j)).getD 0
    | _, _ => 0) else (e_V v e (v 70 j) (v 71 j)).getD 0
/-- a LAW untold -/
def e_P (k : Int) (e : Int → Int) : Int := if k = 0 ∨ k = 1 then 1 else if k = 2 then e_op 4 (e_i (e 2)) (e_i 10) else e_i (e 0)
def e_M (v : zVw) (s k : Int) (e : Int → Int) : Int := if v 65 (4 * s + k) = v 66 (4 * s + k) then e_P k e else e_B v e (v 66 (4 * s + k) - v 65 (4 * s + k)).toNat (v 65 (4 * s + k))
/-- both texts' LAWS are the same: the class's live ones (q steps), the model's of side l -/
def q_leq (v : zVw) (l s q : Int) : Prop := 0 ≤ l ∧ 0 ≤ s ∧ l + s = 1 ∧ q ≤ 432 ∧ ∃ (y : zYd) (k bb : Int), p_wd y.1 ∧ p_ar (v 21) (v 22) q (p_c0 y) ∧ p_l4 (fun j => v 23 j = p_st y j) ∧ p_ao v l k (p_md y.1) ∧ (p_md y.1).length ≤ 420 ∧ p_bt v l bb (p_ed (420 * l) y.1) ∧ bb ≤ 130 * l + 130 ∧ p_l4 (p_lw v l y)
/-! a LAW under way -/
/-- a pile lies in row l, its top ahead -/
def e_pl (v : zVw) (l : Nat) (top : Int) (s : List Int) : Prop := top = s.length ∧ ∀ (i : Nat) (x : Int), s.reverse[i]? = some x → v l i = x
def e_w (o : Option Int) : Int := match o with
  | none => 2147483648
  | some u => u
def q_runc (v : zVw) (q r i x top : Int) : Prop := 0 ≤ i ∧ ∃ s, e_pl v 24 top s ∧ e_C (v 21) (v 22) q (v 26) (432 - i).toNat x s = r
def q_run2c (v : zVw) (q r i x top z : Int) : Prop := 0 ≤ i ∧ ∃ s, e_pl v 24 top s ∧ e_C (v 21) (v 22) q (v 26) (432 - i).toNat x (z :: s) = r
def q_vlc (v : zVw) (q k r : Int) : Prop := e_C (v 21) (v 22) q (v 26) 432 (v 23 k) [] = r
def q_runt (v : zVw) (r j m top : Int) : Prop := 0 ≤ j ∧ ∃ s, e_pl v 76 top s ∧ e_w ((e_T (v 72) (v 73) (v 75) (m - j).toNat j s).map fun s => s.getLast?.getD 0) = r
def q_runt2 (v : zVw) (r j m top z : Int) : Prop := 0 ≤ j ∧ ∃ s, e_pl v 76 top s ∧ e_w ((e_T (v 72) (v 73) (v 75) (m - j).toNat j (z :: s)).map fun s => s.getLast?.getD 0) = r
def q_val (v : zVw) (a b r : Int) : Prop := e_w (e_V v (v 75) a b) = r
def q_runb (v : zVw) (r j l : Int) : Prop := e_B v (v 75) (l - j).toNat j = r
def q_vlm (v : zVw) (s k p r : Int) : Prop := (if v 65 (4 * s + k) = v 66 (4 * s + k) then p else e_B v (v 75) (v 66 (4 * s + k) - v 65 (4 * s + k)).toNat (v 65 (4 * s + k))) = r
/-- nine things looked at -/
def e_9 (e0 e1 e2 e3 e4 e5 e6 e7 e8 : Int) : Int → Int := fun i => if i = 0 then e0 else if i = 1 then e1 else if i = 2 then e2 else if i = 3 then e3 else if i = 4 then e4 else if i = 5 then e5 else if i = 6 then e6 else if i = 7 then e7 else if i = 8 then e8 else 0
def q_plc (v : zVw) (q k r : Int) (e : Int → Int) : Prop := e_C (v 21) (v 22) q e 432 (v 23 k) [] = r
/-! ===== rows of 33 numbers: what goes on ===== -/
/-- the first of n places that holds h, or -1 -/
def g_pl (w : Int → Int) (h : Int) : Nat → Int
  | 0 => -1
  | n + 1 => if 0 ≤ g_pl w h n then g_pl w h n else if w n = h then n else -1
def g_rv (ha gi wh le sr : Int → Int) (H p y d : Int) : Int → Int := fun i =>
  if i < 0 then 0 else if i < 6 then (if i < H then ha i else 0)
  else if i < 12 then (if 0 ≤ g_pl wh (i - 6) p.toNat then le (g_pl wh (i - 6) p.toNat) else 0)
  else if i < 18 then (if 0 ≤ g_pl wh (i - 12) p.toNat then sr (g_pl wh (i - 12) p.toNat) else 0)
  else if i < 24 then (if i - 18 < H then gi (i - 18) else 0)
  else if i = 24 then p else if i < 31 then (if i - 25 < p then wh (i - 25) else 0)
  else if i = 31 then y else if i = 32 then d else 0
/-- a row within an array, from place o on -/
def g_b (f : Int → Int) (o : Int) : Int → Int := fun i => if 0 ≤ i ∧ i < 33 then f (o + i) else 0
/-- families of States: 0 the live one -/
def g_l (f j : Nat) : Nat := if f = 0 then 26 + j else 100 + 6 * f + j
def g_sv (v : zVw) (f : Nat) (H p y d : Int) : Int → Int := g_rv (v (g_l f 1)) (v (g_l f 2)) (v (g_l f 3)) (v (g_l f 4)) (v (g_l f 5)) H p y d
def g_fv (v : zVw) (f : Nat) : Int → Int := g_sv v f (v (g_l f 0) 5) (v (g_l f 0) 6) (v (g_l f 0) 7) (v (g_l f 0) 8)
def g_at (A : Int → Int) (h u : Int) : Prop := (0 ≤ u ∧ u < A 24 ∧ A (25 + u) = h ∧ ∀ i : Int, 0 ≤ i → i < u → A (25 + i) ≠ h) ∨ (u = -1 ∧ ∀ i : Int, 0 ≤ i → i < A 24 → A (25 + i) ≠ h)
def g_wf (H : Int) (A : Int → Int) : Prop := (0 ≤ H ∧ H ≤ 6) ∧ (0 ≤ A 24 ∧ A 24 ≤ 6) ∧ (∀ i : Int, 0 ≤ i → i < A 24 → 0 ≤ A (25 + i) ∧ A (25 + i) < H) ∧ (∀ i j : Int, 0 ≤ i → i < A 24 → 0 ≤ j → j < A 24 → A (25 + i) = A (25 + j) → i = j) ∧ (∀ i : Int, A 24 ≤ i → i < 6 → A (25 + i) = 0) ∧ (∀ h : Int, 0 ≤ h → h < 6 → (1 ≤ A (6 + h) ∧ ∃ i : Int, 0 ≤ i ∧ i < A 24 ∧ A (25 + i) = h) ∨ (A (6 + h) = 0 ∧ A (12 + h) = 0 ∧ ∀ i : Int, 0 ≤ i → i < A 24 → A (25 + i) ≠ h)) ∧ (∀ h : Int, 0 ≤ h → h < 6 → 0 ≤ A h ∧ A h ≤ 99 ∧ A (6 + h) ≤ 99 ∧ 0 ≤ A (12 + h) ∧ A (12 + h) ≤ 99) ∧ (∀ h : Int, H ≤ h → h < 6 → A h = 0 ∧ A (18 + h) = 0)
/-- STRONG as told at first -/
def g_sb (v : zVw) (H : Int) : Prop := ∀ h : Int, 0 ≤ h → h < H → 0 ≤ v 20 h ∧ v 20 h ≤ 99
def g_op (k : Nat) (a b : Int) : Int := (mOP k (Int32.ofInt a) (Int32.ofInt b)).toInt
def g_cl (m u : Int) : Int := if u < 0 then 0 else if m < u then m else u
def g_pA (A : Int → Int) (h : Int) : Int := g_pl (fun i => A (25 + i)) h (A 24).toNat
def g_p0 (A : Int → Int) (h : Int) : Int := if 0 ≤ g_pA A h then g_pA A h else 0
def g_sg (S A : Int → Int) (h : Int) : Int := if 1 ≤ A (6 + h) then A (12 + h) else S h
def g_lk (S A : Int → Int) (h like other : Int) : Int → Int := e_9 (A h) (g_sg S A h) like (A 31) (g_p0 A h) h (A 24) (A (18 + h)) other
def g_raw (v : zVw) (q k : Int) (A : Int → Int) (h like other : Int) : Int := e_C (v 21) (v 22) q (g_lk (v 20) A h like other) 432 (v 23 k) []
def g_lw (v : zVw) (q k : Int) (A : Int → Int) (h : Int) : Int := g_cl 99 (g_raw v q k A h 0 0)
def g_rj (v : zVw) (q : Int) (A : Int → Int) (a b : Int) : Int := g_raw v q 2 A a (v 18 (6 * a + b)) (g_sg (v 20) A b)
def g_jo (v : zVw) (q : Int) (A : Int → Int) (a b : Int) : Int := g_cl 999 (g_rj v q A a b)
def g_mx (h it : Int) : Int := g_op 103 (g_op 110 (g_op 100 (g_op 103 h it) 1103515245) 12345) (g_op 106 (g_op 110 (g_op 100 (g_op 103 h it) 1103515245) 12345) 15)
def g_lot (z w : Int) : Int := g_op 108 (g_op 106 (g_mx (g_mx z 219) w) 1) 100
def g_bli (b s : Int) (A : Int → Int) (h : Int) : Int := if g_lot s (g_op 110 (g_op 100 8 (A 31)) h) < b then 1 else 0
def g_nha (v : zVw) (q b s : Int) (A : Int → Int) (h : Int) : Int := if g_bli b s A h = 1 then g_op 107 (A h) 2 else if A h + g_lw v q 0 A h ≤ 99 then A h + g_lw v q 0 A h else 99
def g_nst (v : zVw) (q : Int) (A : Int → Int) (h : Int) : Int := if 1 ≤ A (6 + h) then (if 0 ≤ A (12 + h) - g_lw v q 1 A h then A (12 + h) - g_lw v q 1 A h else 0) else 0
def g_y1 (v : zVw) (q b s : Int) (A : Int → Int) (h : Int) : Int → Int := fun i => if i = h then g_nha v q b s A h else if i = 12 + h then g_nst v q A h else A i
def g_yi (A : Int → Int) : Int → Int := fun i => if i = 31 then g_op 110 (A 31) 1 else A i
def g_ya (v : zVw) (q b s : Int) (A : Int → Int) : Nat → Int → Int
  | 0 => A
  | n + 1 => g_y1 v q b s (g_ya v q b s A n) n
def g_yr (v : zVw) (q b s H : Int) (A : Int → Int) : Nat → Int → Int
  | 0 => A
  | n + 1 => g_yi (g_ya v q b s (g_yr v q b s H A n) H.toNat)
def g_ys (v : zVw) (q b s h : Int) (A : Int → Int) : Nat → Int → Int
  | 0 => A
  | n + 1 => g_yi (g_y1 v q b s (g_ys v q b s h A n) h)
def g_spl (v : zVw) (h : Int) (A : Int → Int) : Int → Int := fun i => if i = h then 0 else if i = 6 + h then A h else if i = 12 + h then v 20 h else if i = 18 + h then g_op 110 (A (18 + h)) 1 else if i = 24 then A 24 + 1 else if i = 25 + A 24 then h else A i
def g_los (j : Int) (A : Int → Int) : Int → Int := fun i => if i = 24 then j else if 25 ≤ i ∧ i < 31 then (if i - 25 < j then A i else 0) else if 6 ≤ i ∧ i < 12 then (if 0 ≤ g_pl (fun t => A (25 + t)) (i - 6) j.toNat then A i else 0) else if 12 ≤ i ∧ i < 18 then (if 0 ≤ g_pl (fun t => A (25 + t)) (i - 12) j.toNat then A i else 0) else A i
def g_ex (a b : Int) (A : Int → Int) : Int → Int := fun i => if i = 25 + a then A (25 + b) else if i = 25 + b then A (25 + a) else A i
def g_drw (w : Int) (A : Int → Int) : Int → Int := fun i => if i = 32 then g_op 110 (A 32) w else A i
/-- all HAIR of a HOUSE given, where it is due: at every e-th YEAR, and at the N-th -/
def g_hx (e N h k : Int) (B : Int → Int) : Int → Int := fun i => if i = h ∧ (g_op 108 k e ≤ 0 ∨ N ≤ k) then 0 else B i
def g_h7 (v : zVw) (q b s h e N : Int) (A : Int → Int) : Nat → Int → Int
  | 0 => A
  | n + 1 => g_hx e N h ((n : Int) + 1) (g_yi (g_y1 v q b s (g_h7 v q b s h e N A n) h))
def g_h8 (v : zVw) (q b s H h e N : Int) (A : Int → Int) : Nat → Int → Int
  | 0 => A
  | n + 1 => g_hx e N h ((n : Int) + 1) (g_yi (g_ya v q b s (g_h8 v q b s H h e N A n) H.toNat))
/-- what it comes to in the first n YEARS -/
def g_hv (v : zVw) (q h e N : Int) (A : Int → Int) : Nat → Int
  | 0 => 0
  | n + 1 => g_hv v q h e N A n + if g_op 108 ((n : Int) + 1) e ≤ 0 ∨ N ≤ (n : Int) + 1 then g_y1 v q 0 0 (g_h7 v q 0 0 h e N A n) h h else 0
/-- of the first n steps the best, and what it comes to -/
def g_hb (v : zVw) (q h N : Int) (A : Int → Int) : Nat → Int × Int
  | 0 => (0, -1)
  | n + 1 => if (g_hb v q h N A n).2 < g_hv v q h ((n : Int) + 1) N A N.toNat then ((n : Int) + 1, g_hv v q h ((n : Int) + 1) N A N.toNat) else g_hb v q h N A n
/-- what is done: 0 nothing, 1 HOUSE a1 spliced, 2 the PLAITS from a1 on gone, 3 a1 drawn, 4 a1 YEARS (of a3 HOUSES) and one more of the first a2, 5 a1 YEARS of HOUSE a2 alone (a3 1: the next YEAR's, too), 6 the places a1, a2 exchanged -/
def g_F (v : zVw) (q b s o a1 a2 a3 : Int) (A : Int → Int) : Int → Int :=
  if o = 1 then g_spl v a1 A else if o = 2 then g_los a1 A else if o = 3 then g_drw a1 A
  else if o = 4 then g_ya v q b s (g_yr v q b s a3 A a1.toNat) a2.toNat
  else if o = 5 then (if a3 = 1 then g_y1 v q b s (g_ys v q b s a2 A a1.toNat) a2 else g_ys v q b s a2 A a1.toNat)
  else if o = 6 then g_ex a1 a2 A
  else if o = 7 then (if a2 < 8 then g_h7 v q b s a2 (a3 % 64) (a3 / 64) A a1.toNat else if a2 < 16 then g_y1 v q b s (g_h7 v q b s (a2 - 8) (a3 % 64) (a3 / 64) A a1.toNat) (a2 - 8) else g_yi (g_y1 v q b s (g_h7 v q b s (a2 - 16) (a3 % 64) (a3 / 64) A a1.toNat) (a2 - 16)))
  else if o = 8 then (if a2 < 8 then g_ya v q b s (g_h8 v q b s (a3 % 8) (a3 / 8 % 8) (a3 / 64 % 64) (a3 / 4096) A a1.toNat) a2.toNat else g_yi (g_ya v q b s (g_h8 v q b s (a3 % 8) (a3 / 8 % 8) (a3 / 64 % 64) (a3 / 4096) A a1.toNat) (a2 - 8).toNat))
  else A
def g_nw (v : zVw) : Int → Int := g_b (v 77) 0
def g_su (A : Int → Int) (a : Int) : Nat → Int
  | 0 => 0
  | n + 1 => g_su A a n + A (6 + A (25 + (a + n)))
def g_sp (v : zVw) (q : Int) (A : Int → Int) (k : Int) : Int := if k % 2 = 1 then A (12 + A (25 + k / 2)) - g_su A (k / 2 + 1) (A 24 - (k / 2 + 1)).toNat else if k = 0 then 9999 else g_jo v q A (A (24 + k / 2)) (A (25 + k / 2)) - g_su A (k / 2) (A 24 - k / 2).toNat
def g_br (v : zVw) (q : Int) (A : Int → Int) (w u : Int) : Prop := (0 ≤ u ∧ u < 2 * A 24 ∧ g_sp v q A u < w ∧ ∀ k : Int, 0 ≤ k → k < u → w ≤ g_sp v q A k) ∨ (u = -1 ∧ ∀ k : Int, 0 ≤ k → k < 2 * A 24 → w ≤ g_sp v q A k)
/-- the least of c and f 0 .. f (n - 1) -/
def g_mi (f : Int → Int) (c : Int) : Nat → Int
  | 0 => c
  | n + 1 => if f n < g_mi f c n then f n else g_mi f c n
/-- where the least of f a .. f (a + n - 1) is first, and it -/
def g_ar (f : Int → Int) (a : Int) : Nat → Int × Int
  | 0 => (-2, -2)
  | n + 1 => if (g_ar f a n).1 < 0 ∨ f (a + n) < (g_ar f a n).2 then (a + n, f (a + n)) else g_ar f a n
def g_mo (f : Int → Int) (p : Int) : Int := if g_mi f 9999 (2 * p).toNat < 0 then -2 else if 999 < g_mi f 9999 (2 * p).toNat then 999 else g_mi f 9999 (2 * p).toNat
/-- of f 0 .. f (n - 1) how many are w or more -/
def g_ye (f : Int → Int) (w : Int) : Nat → Int
  | 0 => 0
  | n + 1 => g_ye f w n + if w ≤ f n then 1 else 0
/-- ints added one behind another -/
def g_sw (f : Int → Int) : Nat → Int
  | 0 => 0
  | n + 1 => g_op 110 (g_sw f n) (f n)
def g_sx (A : Int → Int) : Nat → Int
  | 0 => 0
  | n + 1 => g_sx A n + A (12 + A (25 + n))
def g_2 : Nat → Int
  | 0 => 1
  | n + 1 => 2 * g_2 n
/-- bits -/
def g_bt (f : Int → Int) : Nat → Int
  | 0 => 0
  | n + 1 => g_bt f n + if f n = 1 then g_2 n else 0
def g_i6 (A : Int → Int) (k : Nat) (h : Int) : Int := if 0 ≤ g_pl (fun t => A (25 + t)) h k then 1 else 0
def g_is (A : Int → Int) (k : Nat) : Int := g_i6 A k 0 + 2 * g_i6 A k 1 + 4 * g_i6 A k 2 + 8 * g_i6 A k 3 + 16 * g_i6 A k 4 + 32 * g_i6 A k 5
/-- the best of what exchanges come to: of those of i and lower places -/
def g_s1 (f : Int → Int → Int) (i : Int) (s : Int × Int) : Nat → Int × Int
  | 0 => s
  | n + 1 => if (g_s1 f i s n).1 < f i (i + 1 + n) then (f i (i + 1 + n), 10 * i + (i + 1 + n)) else g_s1 f i s n
def g_s2 (f : Int → Int → Int) (p m : Int) : Nat → Int × Int
  | 0 => (m, -2)
  | n + 1 => g_s1 f n (g_s2 f p m n) (p - 1 - n).toNat
def g_st (f : Int → Int → Int) (p m i j : Int) : Int × Int := g_s1 f i (g_s2 f p m i.toNat) (j - i - 1).toNat
/-- what a HOUSE has -/
def g_ha (A : Int → Int) (h : Int) : Int := if 1 ≤ A (6 + h) then A (6 + h) else A h
/-- what those of a set have, of the first n -/
def g_ss (A : Int → Int) (x : Int) : Nat → Int
  | 0 => 0
  | n + 1 => g_ss A x n + if x / g_2 n % 2 = 1 then g_ha A n else 0
/-- who has anything -/
def g_ab (A : Int → Int) (n : Nat) : Int := g_bt (fun h => if 1 ≤ g_ha A h then 1 else 0) n
def g_px (A : Int → Int) (n : Int) : Int := g_op 101 (g_ab A 6) (g_op 103 (g_op 104 1 n) (-1))
/-- without whom the others have less than w, of the first n -/
def g_pv (A : Int → Int) (w : Int) : Nat → Int
  | 0 => 0
  | n + 1 => if g_ss A (g_px A n) 6 < w then g_op 102 (g_pv A w n) (g_op 104 1 n) else g_pv A w n
/-- what giving costs a HOUSE -/
def g_co (v : zVw) (q : Int) (A : Int → Int) (h : Int) : Int := if 1 ≤ A (6 + h) then 0 else g_lw v q 3 A h
/-- what a HOUSE has when a set gives (w WELL, z WATER) -/
def g_gn (v : zVw) (q : Int) (A : Int → Int) (w z x h : Int) : Int := (if w ≤ g_ss A x 6 then z else 0) - (if x / g_2 h.toNat % 2 = 1 then g_co v q A h else 0)
/-- 1: none of the first n has more by doing otherwise -/
def g_ri (v : zVw) (q : Int) (A : Int → Int) (w z x : Int) : Nat → Int
  | 0 => 1
  | n + 1 => if g_ri v q A w z x n = 1 ∧ (g_ab A 6 / g_2 n % 2 = 1 → g_gn v q A w z (g_op 103 x (g_op 104 1 n)) n ≤ g_gn v q A w z x n) then 1 else 0
/-- of the first n bits how many are set -/
def g_bc (x : Int) : Nat → Int
  | 0 => 0
  | n + 1 => g_bc x n + x / g_2 n % 2
/-- of the sets below n how many are rests; the first of the smallest -/
def g_rr (v : zVw) (q : Int) (A : Int → Int) (w z : Int) : Nat → Int × Int
  | 0 => (0, -2)
  | n + 1 => if g_op 101 n (g_op 103 (g_ab A 6) (-1)) = 0 ∧ g_ri v q A w z n 6 = 1 then ((g_rr v q A w z n).1 + 1, if (g_rr v q A w z n).2 < 0 ∨ g_bc n 6 < g_bc (g_rr v q A w z n).2 6 then (n : Int) else (g_rr v q A w z n).2) else g_rr v q A w z n
/-! ===== orders of PLAITS ===== -/
def o_m (a b : Int) : Int := if b < a then b else a
/-- the set of a list, as a number -/
def o_z : List Int → Int
  | [] => 0
  | h :: l => g_2 h.toNat + o_z l
/-- what the joins of t hold above a list -/
def o_j (J : Int → Int → Int) (t e b : Int) : List Int → Int
  | [] => e
  | u :: _ => o_m e (J t u - b)
/-- what a list has (c: what a set has) -/
def o_s (c : Int → Int) : List Int → Int
  | [] => 0
  | h :: l => c (o_z (h :: l))
/-- what a list bears, the top first (c: what a set has, st: STRONG) -/
def o_h (c st : Int → Int) (J : Int → Int → Int) : List Int → Int
  | [] => 999
  | t :: l => o_m (o_j J t (o_h c st J l) (o_s c l) l) (st t - o_s c l)
/-- it reaches w, and bears x or more -/
def o_P (c st : Int → Int) (J : Int → Int → Int) (w x : Int) (l : List Int) : Prop := w ≤ o_s c l ∧ x ≤ o_h c st J l
noncomputable def o_n {A : Type} (P : A → Prop) : List A → Int
  | [] => 0
  | a :: l => o_n P l + @ite Int (P a) (Classical.propDecidable _) 1 0
def o_J (f : Int → Int) (i j : Int) : Int := f (6 * i + j)
/-- of the rows of HOUSES -/
def o_c (A : Int → Int) (x : Int) : Int := g_ss A x 6
def o_S (v : zVw) (A : Int → Int) (i : Int) : Int := g_sg (v 20) A i
def o_ab (A : Int → Int) (h : Int) : Prop := (0 ≤ h ∧ h < 6) ∧ 1 ≤ g_ha A h
def o_a (A : Int → Int) : List Int := ([0, 1, 2, 3, 4, 5] : List Int).filter fun h => decide (1 ≤ g_ha A h)
/-- who may come behind the list r (turned round), from x on -/
def o_f (a r : List Int) (x : Int) : List Int := a.filter fun h => decide (x ≤ h) && !(r.contains h)
/-- all longer ones that begin with r, each ahead of those it begins -/
def o_e (a : List Int) : Nat → List Int → List (List Int)
  | 0, _ => []
  | n + 1, r => (o_f a r 0).flatMap fun h => (h :: r) :: o_e a n (h :: r)
def o_b (a : List Int) (n : Nat) (r : List Int) (x : Int) : List (List Int) := (o_f a r x).flatMap fun h => (h :: r) :: o_e a n (h :: r)
/-- what is still to come behind r, from x on -/
def o_r (a : List Int) : List Int → Int → List (List Int)
  | [], x => o_b a 6 [] x
  | h :: r, x => o_b a (5 - r.length) (h :: r) x ++ o_r a r (h + 1)
def o_A (a : List Int) : List (List Int) := o_r a [] 0
/-- the first m of f, turned round -/
def o_l (f : Int → Int) : Nat → List Int
  | 0 => []
  | m + 1 => f m :: o_l f m
/-- n of f from i on -/
def o_u (f : Int → Int) (i : Int) : Nat → List Int
  | 0 => []
  | n + 1 => f i :: o_u f (i + 1) n
/-- the set, as it comes by -/
def o_t : List Int → Int
  | [] => 0
  | h :: r => g_op 102 (o_t r) (g_op 104 1 h)
/-- what the joins of two hold that like one another most -/
def g_j9 (v : zVw) (q : Int) (A : Int → Int) (a b : Int) : Int := g_cl 999 (g_raw v q 2 A a 9 (g_sg (v 20) A b))
def g_pc (i k : Int) : Int := if i < k then 10 * i + k else 10 * k + i
/-- joins, when two pairs (y: one, and 100 times the other; each one more than its number, 0: none) like one another most -/
def g_jy (v : zVw) (q : Int) (A : Int → Int) (y i k : Int) : Int := if y % 100 - 1 = g_pc i k ∨ y / 100 - 1 = g_pc i k then g_j9 v q A i k else g_jo v q A i k
def o_Q (v : zVw) (K : Int → Int → Int) (A : Int → Int) (w x : Int) (r : List Int) : Prop := o_P (o_c A) (o_S v A) K w x r.reverse
/-- of some lists: the most that those bear that reach W (-2: none) -/
def o_x (v : zVw) (K : Int → Int → Int) (A : Int → Int) (W u : Int) (X : List (List Int)) : Prop := (∀ r ∈ X, o_Q v K A W 0 r → o_h (o_c A) (o_S v A) K r.reverse ≤ u) ∧ (u = -2 ∨ 0 ≤ u ∧ ∃ r ∈ X, o_Q v K A W 0 r ∧ o_h (o_c A) (o_S v A) K r.reverse = u)
/-- of some lists: who is in all of those that hold (e: there is none) -/
def o_i (v : zVw) (K : Int → Int → Int) (A : Int → Int) (w W e u : Int) (X : List (List Int)) : Prop := (u = e ∧ ∀ r ∈ X, ¬ o_Q v K A W w r) ∨ ((0 ≤ u ∧ u < 64) ∧ (∃ r ∈ X, o_Q v K A W w r) ∧ ∀ h : Int, 0 ≤ h → h < 6 → (u / g_2 h.toNat % 2 = 1 ↔ ∀ r ∈ X, o_Q v K A W w r → h ∈ r))
/-- some order holds -/
def o_E (v : zVw) (K : Int → Int → Int) (A : Int → Int) (w W : Int) : Prop := ∃ r ∈ o_A (o_a A), o_Q v K A W w r
/-- two of a number (10 the lesser and the other) that can be in a rope -/
def o_pr (A : Int → Int) (c : Int) : Prop := ∃ t z : Int, o_ab A t ∧ o_ab A z ∧ t < z ∧ c = 10 * t + z
def o_pn (n c d x : Int) : Int := if x = 0 then n else if x = 1 then c else d
/-- the first pair with which some order holds; the first two -/
def o_f1 (v : zVw) (A : Int → Int) (J : Int → Int → Int → Int) (w W c : Int) : Prop := o_pr A c ∧ o_E v (J (c + 1)) A w W ∧ ∀ k : Int, o_pr A k → k < c → ¬ o_E v (J (k + 1)) A w W
def o_n1 (v : zVw) (A : Int → Int) (J : Int → Int → Int → Int) (w W : Int) : Prop := ∀ k : Int, o_pr A k → ¬ o_E v (J (k + 1)) A w W
def o_f2 (v : zVw) (A : Int → Int) (J : Int → Int → Int → Int) (w W c d : Int) : Prop := (o_pr A c ∧ o_pr A d ∧ c < d) ∧ o_E v (J (c + 100 * d + 101)) A w W ∧ ∀ k l : Int, o_pr A k → o_pr A l → k < l → (k < c ∨ k = c ∧ l < d) → ¬ o_E v (J (k + 100 * l + 101)) A w W
def o_n2 (v : zVw) (A : Int → Int) (J : Int → Int → Int → Int) (w W : Int) : Prop := ∀ k l : Int, o_pr A k → o_pr A l → k < l → ¬ o_E v (J (k + 100 * l + 101)) A w W
def o_pce (v : zVw) (A : Int → Int) (J : Int → Int → Int → Int) (w W x u : Int) : Prop := (o_E v (J 0) A w W ∧ u = o_pn 0 (-1) (-1) x) ∨ (¬ o_E v (J 0) A w W ∧ ∃ c : Int, o_f1 v A J w W c ∧ u = o_pn 1 c (-1) x) ∨ (¬ o_E v (J 0) A w W ∧ o_n1 v A J w W ∧ ∃ c d : Int, o_f2 v A J w W c d ∧ u = o_pn 2 c d x) ∨ (¬ o_E v (J 0) A w W ∧ o_n1 v A J w W ∧ o_n2 v A J w W ∧ u = -2)
/-- what is asked -/
def q_Q (v : zVw) (q b s : Int) (A : Int → Int) (c x1 x2 u : Int) : Prop :=
  if c = 1 then u = g_su A x1 (x2 - x1).toNat
  else if c = 2 then u = g_sp v q A x1
  else if c = 3 then g_br v q A x1 u
  else if c = 4 then u = g_lw v q x1 A x2
  else if c = 5 then u = g_jo v q A x1 x2
  else if c = 6 then g_at A x1 u
  else if c = 7 then u = g_sg (v 20) A x1
  else if c = 8 then u = A x1
  else if c = 9 then u = (if 0 ≤ x1 ∧ x1 < x2 ∧ A (6 + x1) = 0 ∧ 1 ≤ A x1 then 1 else 0)
  else if c = 12 then ∀ i : Int, 0 ≤ i → i < x2 → A (25 + i) ≠ x1
  else if c = 13 then u = g_raw v q x1 A x2 0 0
  else if c = 14 then u = g_rj v q A x1 x2
  else if c = 16 then u = g_p0 A x1
  else if c = 17 then u = g_jo v q A (A (24 + x1)) (A (25 + x1))
  else if c = 18 then u = A (12 + A (25 + x1))
  else if c = 19 then u = A (6 + A (25 + x1))
  else if c = 20 then u = g_nha v q b s A x1
  else if c = 21 then u = g_nst v q A x1
  else if c = 22 then ∃ k : Int, g_br v q A x1 k ∧ u = g_op 107 k 2
  else if c = 24 then ∀ k : Int, 0 ≤ k → k < x2 → x1 ≤ g_sp v q A k
  else if c = 25 then u = g_bli b s A x1
  else if c = 26 then u = g_mi (g_sp v q A) x1 x2.toNat
  else if c = 27 then u = g_mo (g_sp v q A) (A 24)
  else if c = 28 then g_ar (fun i => g_jo v q A (A (24 + i)) (A (25 + i))) 1 ((if x1 < A 24 then x1 else A 24) - 1).toNat = (x2, u)
  else if c = 29 then g_ar (fun i => A (12 + A (25 + i))) 0 ((if x1 < A 24 then x1 else A 24) - 0).toNat = (x2, u)
  else if c = 30 then (g_ar (fun i => A (12 + A (25 + i))) 0 ((if x1 < A 24 then x1 else A 24) - 0).toNat).1 = x2
  else if c = 31 then u = g_sw (fun k => A (x1 + k)) x2.toNat
  else if c = 32 then u = g_sx A x1.toNat
  else if c = 33 then u = g_bt (fun h => if 1 ≤ A (6 + h) then 1 else 0) x1.toNat
  else if c = 34 then u = g_is A x1.toNat
  else if c = 35 then u = g_bt (fun h => if A h = 0 then 1 else 0) x1.toNat
  else if c = 40 then u = g_ye (fun k => g_ys v q b (s + k) (x1 % 6) A (x1 / 600).toNat (x1 % 6)) (x1 / 6 % 100) x2.toNat
  else if c = 41 then ∀ k : Int, 0 ≤ k → k < x2 → g_br v q (g_yr v q 0 0 (x1 % 10) A k.toNat) (x1 / 10) (-1)
  else if c = 42 then (0 ≤ u ∧ u ≤ 60 ∧ (∀ k : Int, 0 ≤ k → k < u → g_br v q (g_yr v q 0 0 (x1 % 10) A k.toNat) (x1 / 10) (-1)) ∧ ∃ i : Int, 0 ≤ i ∧ g_br v q (g_yr v q 0 0 (x1 % 10) A u.toNat) (x1 / 10) i) ∨ (u = -2 ∧ ∀ k : Int, 0 ≤ k → k < 61 → g_br v q (g_yr v q 0 0 (x1 % 10) A k.toNat) (x1 / 10) (-1))
  else if c = 43 then g_st (fun i j => g_mo (g_sp v q (g_ex i j A)) (A 24)) (A 24) (g_mo (g_sp v q A) (A 24)) (x1 / 10) (x1 % 10) = (x2, u)
  else if c = 44 then u = (g_s2 (fun i j => g_mo (g_sp v q (g_ex i j A)) (A 24)) (A 24) (g_mo (g_sp v q A) (A 24)) (A 24).toNat).2
  else if c = 45 then u = g_ha A x1
  else if c = 46 then u = g_ab A x1.toNat
  else if c = 47 then u = g_ss A x1 x2.toNat
  else if c = 48 then u = g_pv A x1 x2.toNat
  else if c = 49 then u = g_co v q A x1
  else if c = 50 then u = g_gn v q A (x1 % 10000) (x1 / 10000) (x2 % 64) (x2 / 64)
  else if c = 51 then u = g_ri v q A (x1 % 10000) (x1 / 10000) (x2 % 64) (x2 / 64).toNat
  else if c = 52 then u = (g_rr v q A (x1 % 10000) (x1 / 10000) x2.toNat).1
  else if c = 53 then u = (g_rr v q A (x1 % 10000) (x1 / 10000) x2.toNat).2
  else if c = 54 then u = g_hv v q (x1 % 8) (x1 / 8 % 64) (x1 / 512) A x2.toNat
  else if c = 55 then g_hb v q (x1 % 8) (x1 / 8 % 64) A (x1 / 512).toNat = (x2, u)
  else if c = 56 then u = (if x2 = 0 then (g_hb v q (x1 % 8) (x1 / 8 % 64) A (x1 / 512).toNat).1 else (g_hb v q (x1 % 8) (x1 / 8 % 64) A (x1 / 512).toNat).2)
  else if c = 57 then u = g_bt (fun h => if x1 ≤ g_sg (v 20) A h then 1 else 0) x2.toNat
  else if c = 58 then u = o_n (o_Q v (g_jy v q A 0) A x2 x1) (o_A (o_a A))
  else if c = 59 then o_x v (g_jy v q A x2) A x1 u (o_A (o_a A))
  else if c = 60 then o_i v (g_jy v q A 0) A x1 x2 (-2) u (o_A (o_a A))
  else if c = 61 then (0 ≤ u ∧ u ≤ 60 ∧ (∀ k : Int, 0 ≤ k → k < u → ¬ o_E v (g_jy v q (g_yr v q 0 0 (x1 % 10) A k.toNat) 0) (g_yr v q 0 0 (x1 % 10) A k.toNat) (x1 / 10) x2) ∧ o_E v (g_jy v q (g_yr v q 0 0 (x1 % 10) A u.toNat) 0) (g_yr v q 0 0 (x1 % 10) A u.toNat) (x1 / 10) x2) ∨ (u = -2 ∧ ∀ k : Int, 0 ≤ k → k < 61 → ¬ o_E v (g_jy v q (g_yr v q 0 0 (x1 % 10) A k.toNat) 0) (g_yr v q 0 0 (x1 % 10) A k.toNat) (x1 / 10) x2)
  else if c = 62 then ∀ k : Int, 0 ≤ k → k < u → ¬ o_E v (g_jy v q (g_yr v q 0 0 (x1 % 10) A k.toNat) 0) (g_yr v q 0 0 (x1 % 10) A k.toNat) (x1 / 10) x2
  else if c = 63 then o_pce v A (g_jy v q A) (x1 % 1000) x2 (x1 / 1000) u
  else if c = 64 then u = g_raw v q 2 A x1 9 (g_sg (v 20) A x2)
  else if c = 65 then u = g_j9 v q A x1 x2
  else True
def q_fr (v : zVw) (H : Int) (A : Int → Int) : Prop := g_wf H A ∧ g_wf H (g_nw v) ∧ g_sb v H
def q_sto (v : zVw) (f : Nat) (H p y d q b s o a1 a2 a3 : Int) : Prop := q_fr v H (g_F v q b s o a1 a2 a3 (g_nw v)) ∧ g_sv v f H p y d = g_F v q b s o a1 a2 a3 (g_nw v)
def q_rwo (v : zVw) (H q b s o a1 a2 a3 : Int) : Prop := q_fr v H (g_F v q b s o a1 a2 a3 (g_nw v)) ∧ g_b (v 78) 0 = g_F v q b s o a1 a2 a3 (g_nw v)
def q_qry (v : zVw) (c q b s o a1 a2 a3 x1 x2 u : Int) : Prop := (∃ H : Int, g_wf H (g_F v q b s o a1 a2 a3 (g_nw v))) ∧ q_Q v q b s (g_F v q b s o a1 a2 a3 (g_nw v)) c x1 x2 u
def q_ner (v : zVw) : Prop := g_nw v = g_b (v 78) 0
def q_str (v : zVw) (H p y d : Int) : Prop := g_wf H (g_b (v 78) 0) ∧ g_sb v H ∧ g_sv v 0 H p y d = g_b (v 78) 0
def q_eqs (v : zVw) (f H p y d : Int) : Prop := (0 ≤ p ∧ p ≤ 6) ∧ (v (g_l f.toNat 0) 5 = H ∧ v (g_l f.toNat 0) 6 = p ∧ v (g_l f.toNat 0) 7 = y ∧ v (g_l f.toNat 0) 8 = d) ∧ ∀ j : Nat, 1 ≤ j → j ≤ 5 → ∀ i : Int, 0 ≤ i → i < 6 → v (g_l f.toNat j) i = v (26 + j) i
/-- a kept State (family f) is as a row, of H HOUSES -/
def q_kp (v : zVw) (f : Nat) (H : Int) (A : Int → Int) : Prop := g_wf H A ∧ v (g_l f 0) 5 = H ∧ g_fv v f = A
def q_hx (v : zVw) (c H o u e : Int) : Prop := (0 ≤ o ∧ o ≤ 39 ∧ u ≤ 40) ∧ g_sb v H ∧ ∀ i : Int, 0 ≤ i → i < u → (o + i) % 40 ≠ c → q_kp v (5 + ((o + i) % 40).toNat) H (g_b (v 81) (33 * (i + e)))
def q_hk (v : zVw) (H o u e : Int) : Prop := q_hx v (-1) H o u e ∧ q_kp v (5 + ((o + u) % 40).toNat) H (g_nw v)
def q_hrow (v : zVw) (k i : Int) : Int → Int := fun j => if 0 ≤ j ∧ j < 33 then (if 33 * i + j < k then v 81 (33 * i + j) else v 81 (33 * i + j + 33)) else 0
def q_hks (v : zVw) (H o k : Int) : Prop := (0 ≤ o ∧ o ≤ 39) ∧ g_sb v H ∧ (∀ i : Int, 0 ≤ i → i < 39 → q_kp v (5 + ((o + i) % 40).toNat) H (q_hrow v k i)) ∧ q_kp v (5 + ((o + 39) % 40).toNat) H (g_nw v)
def q_hrx (v : zVw) (k x i : Int) : Int → Int := fun j => if 0 ≤ j ∧ j < 33 then (if 33 * i + j = k then x else if 33 * i + j < k then v 81 (33 * i + j) else v 81 (33 * i + j + 33)) else 0
def q_hkx (v : zVw) (H o k x : Int) : Prop := (0 ≤ o ∧ o ≤ 39 ∧ 0 ≤ k) ∧ g_sb v H ∧ (∀ i : Int, 0 ≤ i → i < 39 → q_kp v (5 + ((o + i) % 40).toNat) H (q_hrx v k x i)) ∧ q_kp v (5 + ((o + 39) % 40).toNat) H (g_nw v)
def q_sl (v : zVw) (c H z0 z1 z2 : Int) : Prop := g_sb v H ∧ (z0 = 1 → c ≠ 0 → q_kp v 2 H (g_b (v 95) 0)) ∧ (z1 = 1 → c ≠ 1 → q_kp v 3 H (g_b (v 95) 33)) ∧ (z2 = 1 → c ≠ 2 → q_kp v 4 H (g_b (v 95) 66))
def q_sh (v : zVw) (l : Nat) (H p y d z : Int) : Prop := 0 ≤ z ∧ g_wf H (g_b (v l) (33 * z)) ∧ g_sb v H ∧ g_sv v 0 H p y d = g_b (v l) (33 * z)
def q_mgn (v : zVw) (q b s o a1 a2 a3 j m : Int) : Prop := (∃ H : Int, g_wf H (g_F v q b s o a1 a2 a3 (g_nw v))) ∧ (m = if 1 ≤ g_F v q b s o a1 a2 a3 (g_nw v) 24 then 2 * g_F v q b s o a1 a2 a3 (g_nw v) 24 - 1 else 0) ∧ ∀ t : Int, 0 ≤ t → j < t → t < m → v 25 t = g_sp v q (g_F v q b s o a1 a2 a3 (g_nw v)) (t + 1)
def q_up (f : Int → Int) (k x : Int) : Int → Int := fun i => if i = k then x else f i
def q_sax (v : zVw) (f : Nat) (H p y d q b s o a1 a2 a3 h pl x z : Int) : Prop := q_fr v H (g_F v q b s o a1 a2 a3 (g_nw v)) ∧ g_rv (q_up (v (g_l f 1)) h x) (v (g_l f 2)) (v (g_l f 3)) (v (g_l f 4)) (q_up (v (g_l f 5)) pl z) H p y d = g_F v q b s o a1 a2 a3 (g_nw v)
def q_spx (v : zVw) (H p y d h x g : Int) : Prop := g_wf H (g_nw v) ∧ g_sb v H ∧ ((0 ≤ p ∧ p ≤ 6) ∧ y = g_nw v 31 ∧ d = g_nw v 32 ∧ p = g_nw v 24) ∧ (g_nw v h = x ∧ g_nw v (18 + h) = g) ∧ (∀ i : Int, 0 ≤ i → i < H → i ≠ h → v 27 i = g_nw v i ∧ v 28 i = g_nw v (18 + i)) ∧ ∀ i : Int, 0 ≤ i → i < p → v 29 i = g_nw v (25 + i) ∧ v 30 i = g_nw v (6 + v 29 i) ∧ v 31 i = g_nw v (12 + v 29 i)
def q_but (f g : Int → Int) (P : Int → Prop) : Prop := ∀ i : Int, 0 ≤ i → i < 33 → ¬ P i → f i = g i
def q_rnx (v : zVw) (H e1 e2 e3 e4 e5 e6 : Int) : Prop := q_fr v H (g_nw v) ∧ q_but (v 78) (g_nw v) (fun i => i = e1 ∨ i = e2 ∨ i = e3 ∨ i = e4 ∨ i = e5 ∨ i = e6)
def q_rlx (v : zVw) (H j e1 e2 e3 e4 : Int) : Prop := (q_fr v H (g_los j (g_nw v)) ∧ 1 ≤ j ∧ j ≤ g_nw v 24 ∧ e3 = 6 + g_nw v (24 + j)) ∧ q_but (v 78) (g_los j (g_nw v)) (fun i => i = e1 ∨ i = e2 ∨ i = e3 ∨ i = e4)
def q_ryx (v : zVw) (H q b s o a1 a2 a3 e1 e2 : Int) : Prop := q_fr v H (g_F v q b s o a1 a2 a3 (g_nw v)) ∧ q_but (v 78) (g_F v q b s o a1 a2 a3 (g_nw v)) (fun i => i = e1 ∨ i = e2)
def q_grn (v : zVw) (q b s o a1 a2 a3 n : Int) : Prop := ∀ i : Int, 0 ≤ i → i < n → v 79 i = g_lw v q 0 (g_F v q b s o a1 a2 a3 (g_nw v)) i ∧ v 80 i = g_lw v q 1 (g_F v q b s o a1 a2 a3 (g_nw v)) i
def q_bgm (v : zVw) (x : Bool) (l h : Int) : Prop := (0 ≤ l ∧ 0 ≤ h) ∧ ∀ i : Int, 0 ≤ i → i < 33 → (x = true → i ≠ h) → v 78 i = if i < h then v 57 (6 * l + i) else 0
def q_nbg (v : zVw) (l h : Int) : Prop := (0 ≤ l ∧ 0 ≤ h) ∧ ∀ i : Int, 0 ≤ i → i < 33 → g_nw v i = if i < h then v 57 (6 * l + i) else 0
def q_smp (v : zVw) (q b s o a1 a2 a3 n : Int) : Prop := (∃ H : Int, g_wf H (g_F v q b s o a1 a2 a3 (g_nw v))) ∧ (0 ≤ n ∧ n ≤ 64) ∧ ∀ t : Int, 0 ≤ t → t < n → v 40 t = g_ss (g_F v q b s o a1 a2 a3 (g_nw v)) t 6
def q_lng (v : zVw) (q b s o a1 a2 a3 n : Int) : Prop := (∃ H : Int, g_wf H (g_F v q b s o a1 a2 a3 (g_nw v))) ∧ ∀ i : Int, 0 ≤ i → i < n → v 82 i = g_ha (g_F v q b s o a1 a2 a3 (g_nw v)) i
def q_cst (v : zVw) (q b s o a1 a2 a3 n : Int) : Prop := (∃ H : Int, g_wf H (g_F v q b s o a1 a2 a3 (g_nw v))) ∧ ∀ i : Int, 0 ≤ i → i < n → v 41 i = g_co v q (g_F v q b s o a1 a2 a3 (g_nw v)) i
/-! ===== what is told of PLAITS at places; ROWS as numbers to base 6 ===== -/
def r_6 : Nat → Int
  | 0 => 1
  | n + 1 => 6 * r_6 n
/-- the digit at place i of a number of l -/
def r_D (l n i : Int) : Int := n / r_6 (l - 1 - i).toNat % 6
/-- of the n numbers from a on how many are K; the first -/
def r_cs (K : Int → Prop) (a : Int) : Nat → Int
  | 0 => 0
  | n + 1 => r_cs K a n + @ite Int (K (a + n)) (Classical.propDecidable _) 1 0
def r_fr (K : Int → Prop) (a : Int) : Nat → Int
  | 0 => -2
  | n + 1 => if 0 ≤ r_fr K a n then r_fr K a n else @ite Int (K (a + n)) (Classical.propDecidable _) (a + n) (-2)
/-- l digits, all different, each of which may be where it is -/
def r_K (ok : Int → Int → Prop) (l n : Int) : Prop := (0 ≤ n ∧ n < r_6 l.toNat) ∧ (∀ i : Int, 0 ≤ i → i < l → ok i (r_D l n i)) ∧ ∀ i j : Int, 0 ≤ i → i < j → j < l → r_D l n i ≠ r_D l n j
def r_bit (x h : Int) : Prop := x / g_2 h.toNat % 2 = 1
def r_okc (f : Int → Int) (p h : Int) : Prop := r_bit (f p) h
def r_okt (pl le so st : Int → Int) (H k p h : Int) : Prop := (0 ≤ h ∧ h < H) ∧ ∀ j : Int, 0 ≤ j → j < k → pl j = p → (le j ≤ st h ↔ so j ≠ 0)
def r_Kt (pl le so st : Int → Int) (H k l n : Int) : Prop := (∀ j : Int, 0 ≤ j → j < k → 0 ≤ pl j ∧ pl j < l) ∧ r_K (r_okt pl le so st H k) l n
/-- those of them with one who is STRONG w or more at place t -/
def r_Ka (pl le so st : Int → Int) (H k l w t n : Int) : Prop := r_Kt pl le so st H k l n ∧ w ≤ st (r_D l n t)
/-- the place whose answer leaves the fewest -/
def r_bp (f : Int) (s : Int → Int) : Nat → Int × Int
  | 0 => (-2, f + 1)
  | n + 1 => if (if f ≤ 2 * s n then s n else f - s n) < (r_bp f s n).2 then ((n : Int), if f ≤ 2 * s n then s n else f - s n) else r_bp f s n
def q_teq (a b c a' b' c' : Int → Int) : Prop := ∀ j : Int, 0 ≤ j → a j = a' j ∧ b j = b' j ∧ c j = c' j
def q_tep (a b c a' b' c' : Int → Int) (n : Int) : Prop := ∀ j : Int, 0 ≤ j → j ≠ n → a j = a' j ∧ b j = b' j ∧ c j = c' j
def q_tex (a b c a' b' c' : Int → Int) (n i w s : Int) : Prop := q_tep a b c a' b' c' n ∧ a n = i ∧ b n = w ∧ c n = s
def q_lrj (pl : Int → Int) (l i : Int) : Prop := ∀ j : Int, 0 ≤ j → j < i → 0 ≤ pl j ∧ pl j < l
def q_lrp (pl le so st f : Int → Int) (H i p x : Int) : Prop := (0 ≤ x ∧ x < 64) ∧ ∀ h : Int, 0 ≤ h → h < 6 → (r_bit x h ↔ r_okt pl le so st H i p h)
def q_lrn (pl le so st f : Int → Int) (H l i : Int) : Prop := q_lrj pl l i ∧ ∀ p : Int, 0 ≤ p → p < 6 → q_lrp pl le so st f H i p (f p)
def q_lrx (pl le so st f : Int → Int) (H l i p x : Int) : Prop := q_lrj pl l i ∧ (∀ p' : Int, 0 ≤ p' → p' < 6 → p' ≠ p → q_lrp pl le so st f H i p' (f p')) ∧ q_lrp pl le so st f H i p x
def q_lrf (pl : Int → Int) (k l : Int) : Prop := ∃ j : Int, (0 ≤ j ∧ j < k) ∧ ¬ (0 ≤ pl j ∧ pl j < l)
def q_nct (f : Int → Int) (l p c g r : Int) : Prop := (0 ≤ p ∧ p ≤ l ∧ l ≤ 6 ∧ 0 ≤ c) ∧ g = r_cs (r_K (r_okc f) l) 0 (c * r_6 (l - p).toNat).toNat ∧ r = r_fr (r_K (r_okc f) l) 0 (c * r_6 (l - p).toNat).toNat
def q_prx (f : Int → Int) (p c u : Int) : Prop := ((∀ t : Int, 0 ≤ t → t < 6 → 0 ≤ f t ∧ f t < 64) ∧ (0 ≤ p ∧ p ≤ 6) ∧ 0 ≤ u ∧ u < 64) ∧ r_K (r_okc f) p c ∧ ∀ h : Int, 0 ≤ h → h < 6 → (r_bit u h ↔ ∃ i : Int, (0 ≤ i ∧ i < p) ∧ r_D p c i = h)
def q_rwd (f : Int → Int) (p c : Int) : Prop := ∀ t : Int, 0 ≤ t → t < p → f t = r_D p c t
/-- of the first x numbers: fit, and have one of so at place t -/
def r_cc (f : Int → Int) (l so t x : Int) : Int := r_cs (fun n => r_K (r_okc f) l n ∧ r_bit so (r_D l n t)) 0 x.toNat
def q_src (s f : Int → Int) (l p c so : Int) : Prop := (0 ≤ p ∧ p ≤ l ∧ l ≤ 6 ∧ 0 ≤ c) ∧ ∀ t : Int, 0 ≤ t → t < l → s t = r_cc f l so t (c * r_6 (l - p).toNat)
def q_srx (s f : Int → Int) (l c so i : Int) : Prop := (l ≤ 6 ∧ 0 ≤ c) ∧ ∀ t : Int, 0 ≤ t → t < l → s t = r_cc f l so t (if t < i then c + 1 else c)
def q_sry (s f : Int → Int) (l c so i x : Int) : Prop := (l ≤ 6 ∧ 0 ≤ c) ∧ (∀ t : Int, 0 ≤ t → t < l → t ≠ i → s t = r_cc f l so t (if t < i then c + 1 else c)) ∧ x = r_cc f l so i c
def q_rws (pl le so st : Int → Int) (H k l g r : Int) : Prop := g = r_cs (r_Kt pl le so st H k l) 0 (r_6 l.toNat).toNat ∧ r = r_fr (r_Kt pl le so st H k l) 0 (r_6 l.toNat).toNat
/-- of the first x numbers: those of r_Ka -/
def r_ca (pl le so st : Int → Int) (H k l w t x : Int) : Int := r_cs (r_Ka pl le so st H k l w t) 0 x.toNat
def q_sor (pl le so st s : Int → Int) (H k l w : Int) : Prop := ∀ t : Int, 0 ≤ t → t < l → s t = r_ca pl le so st H k l w t (r_6 l.toNat)
def q_rwc (pl le so st : Int → Int) (H k l w u : Int) : Prop := u = if w = 0 then r_cs (r_Kt pl le so st H k l) 0 (r_6 l.toNat).toNat else r_fr (r_Kt pl le so st H k l) 0 (r_6 l.toNat).toNat
def q_fec (pl le so st : Int → Int) (H k l w u : Int) : Prop := u = if 1 ≤ r_cs (r_Kt pl le so st H k l) 0 (r_6 l.toNat).toNat then (r_bp (r_cs (r_Kt pl le so st H k l) 0 (r_6 l.toNat).toNat) (fun t => r_ca pl le so st H k l w t (r_6 l.toNat)) l.toNat).1 else -2
def q_stb (s st : Int → Int) (n H : Int) : Prop := ∀ i : Int, 0 ≤ i → i < n → i < H → s i = st i
def q_dgd (d : Int → Int) (H l n i : Int) : Prop := ((0 ≤ n ∧ n < r_6 l.toNat) ∧ (1 ≤ l ∧ l ≤ 6) ∧ (0 ≤ H ∧ H ≤ 6) ∧ -1 ≤ i ∧ i < l) ∧ (∀ t : Int, i < t → t < l → d t = r_D l n t ∧ r_D l n t < H) ∧ ∀ t t' : Int, i < t → t < t' → t' < l → r_D l n t ≠ r_D l n t'
def q_dgs (d : Int → Int) (H l n i a b : Int) : Prop := q_dgd d H l n i ∧ a = n / r_6 (l - 1 - i).toNat ∧ (0 ≤ b ∧ b < 64) ∧ ∀ h : Int, 0 ≤ h → h < 6 → (r_bit b h ↔ ∃ t : Int, (i < t ∧ t < l) ∧ r_D l n t = h)
def q_ftr (pl le so st : Int → Int) (H k l n r : Int) : Prop := (r = 1 ∧ r_Kt pl le so st H k l n) ∨ (r = 0 ∧ ¬ r_Kt pl le so st H k l n)
def q_ft2 (pl le so st : Int → Int) (H l n j : Int) : Prop := ((1 ≤ l ∧ l ≤ 6) ∧ r_K (fun _ h => 0 ≤ h ∧ h < H) l n) ∧ ∀ i : Int, 0 ≤ i → i < j → (0 ≤ pl i ∧ pl i < l) ∧ (le i ≤ st (r_D l n (pl i)) ↔ so i ≠ 0)
def q_mct (pl le so st : Int → Int) (H k l x m r : Int) : Prop := (0 ≤ x ∧ x ≤ r_6 l.toNat) ∧ m = r_cs (r_Kt pl le so st H k l) x (r_6 l.toNat - x).toNat ∧ r = r_fr (r_Kt pl le so st H k l) x (r_6 l.toNat - x).toNat
def q_pct (pl le so st : Int → Int) (H k l x g : Int) : Prop := (0 ≤ x ∧ x ≤ r_6 l.toNat) ∧ g = r_cs (r_Kt pl le so st H k l) 0 x.toNat
def q_abv (pl le so st s : Int → Int) (H k l w x : Int) : Prop := (0 ≤ x ∧ x ≤ r_6 l.toNat) ∧ ∀ t : Int, 0 ≤ t → t < l → s t = r_ca pl le so st H k l w t x
def q_abn (pl le so st : Int → Int) (H k l x : Int) : Prop := (0 ≤ x ∧ x < r_6 l.toNat) ∧ r_Kt pl le so st H k l x
def q_abx (pl le so st s : Int → Int) (H k l w x i : Int) : Prop := q_abn pl le so st H k l x ∧ ∀ t : Int, 0 ≤ t → t < l → s t = r_ca pl le so st H k l w t (if t < i then x + 1 else x)
def q_aby (pl le so st s : Int → Int) (H k l w x i y : Int) : Prop := q_abn pl le so st H k l x ∧ (∀ t : Int, 0 ≤ t → t < l → t ≠ i → s t = r_ca pl le so st H k l w t (if t < i then x + 1 else x)) ∧ y = r_ca pl le so st H k l w i x
def q_bpc (s : Int → Int) (f i b w : Int) : Prop := (0 ≤ i ∧ r_bp f s i.toNat = (b, w)) ∧ (f ≤ 0 → b = -2)
def q_bpm (s : Int → Int) (f i b w : Int) : Prop := (0 ≤ i ∧ ((i = 0 ∧ b = -2) ∨ (0 ≤ b ∧ r_bp f s i.toNat = (b, w)))) ∧ (f ≤ 0 → b = -2)
/-- what order k bears -/
def o_v (v : zVw) (K : Int → Int → Int) (A : Int → Int) (W k u : Int) : Prop := ∃ r : List Int, (o_A (o_a A))[k.toNat]? = some r ∧ u = @ite Int (o_Q v K A W 0 r) (Classical.propDecidable _) (o_h (o_c A) (o_S v A) K r.reverse) (-1)
def o_ok (a r : List Int) : Prop := r.Nodup ∧ ∀ h ∈ r, h ∈ a
def q_pos (f : Int → Int) (A : Int → Int) (k x m : Int) : Prop := (0 ≤ k ∧ 0 ≤ m ∧ m ≤ 6) ∧ o_ok (o_a A) (o_l f m.toNat) ∧ o_r (o_a A) (o_l f m.toNat) x = (o_A (o_a A)).drop k.toNat
def q_cur (f : Int → Int) (A : Int → Int) (k m : Int) : Prop := (0 ≤ k ∧ 0 ≤ m ∧ m ≤ 6) ∧ (o_A (o_a A))[k.toNat]? = some (o_l f m.toNat)
def q_nxs (f : Int → Int) (A : Int → Int) (x m k : Int) : Prop := (0 ≤ x ∧ 0 ≤ m ∧ m ≤ 6) ∧ ∀ j : Int, x ≤ j → j < k → ¬ (1 ≤ g_ha A j ∧ ¬ j ∈ o_l f m.toNat)
def q_nxf (f : Int → Int) (A : Int → Int) (x m r : Int) : Prop := (0 ≤ x ∧ 0 ≤ m ∧ m ≤ 6) ∧ ((r = -1 ∧ ∀ j : Int, x ≤ j → j < 6 → ¬ (1 ≤ g_ha A j ∧ ¬ j ∈ o_l f m.toNat)) ∨ ((x ≤ r ∧ r < 6) ∧ (1 ≤ g_ha A r ∧ ¬ r ∈ o_l f m.toNat) ∧ ∀ j : Int, x ≤ j → j < r → ¬ (1 ≤ g_ha A j ∧ ¬ j ∈ o_l f m.toNat)))
def q_spl (f : Int → Int) (v : zVw) (K : Int → Int → Int) (A : Int → Int) (m i e b : Int) : Prop := (-1 ≤ i ∧ i < m ∧ m ≤ 6) ∧ b = o_s (o_c A) (o_u f (i + 1) (m - 1 - i).toNat) ∧ e = if 0 ≤ i then o_j K (f i) (o_h (o_c A) (o_S v A) K (o_u f (i + 1) (m - 1 - i).toNat)) (o_s (o_c A) (o_u f (i + 1) (m - 1 - i).toNat)) (o_u f (i + 1) (m - 1 - i).toNat) else o_h (o_c A) (o_S v A) K (o_u f 0 m.toNat)
def q_sp1 (f : Int → Int) (v : zVw) (K : Int → Int → Int) (A : Int → Int) (m i e b : Int) : Prop := (0 ≤ i ∧ i < m ∧ m ≤ 6) ∧ b = o_s (o_c A) (o_u f i (m - i).toNat) ∧ e = o_h (o_c A) (o_S v A) K (o_u f i (m - i).toNat)
def q_moc (v : zVw) (K : Int → Int → Int) (A : Int → Int) (w W k n : Int) : Prop := (0 ≤ k ∧ 0 ≤ n ∧ n ≤ k) ∧ n = o_n (o_Q v K A W w) ((o_A (o_a A)).take k.toNat)
def q_mpk (v : zVw) (K : Int → Int → Int) (A : Int → Int) (W k u : Int) : Prop := 0 ≤ k ∧ o_x v K A W u ((o_A (o_a A)).take k.toNat)
def q_mne (v : zVw) (K : Int → Int → Int) (A : Int → Int) (w W k u : Int) : Prop := 0 ≤ k ∧ o_i v K A w W (-1) u ((o_A (o_a A)).take k.toNat)
def q_sts (s st : Int → Int) (n : Int) : Prop := ∀ i : Int, 0 ≤ i → i < n → s i = st i ∧ 0 ≤ s i ∧ s i ≤ 99
def q_jrw (j : Int → Int) (K : Int → Int → Int) (A : Int → Int) (a b z : Int) : Prop := (0 ≤ a ∧ 0 ≤ b ∧ b ≤ 6 ∧ z = 6 * a + b) ∧ ∀ i k : Int, o_ab A i → o_ab A k → i ≠ k → (i < a ∨ i = a ∧ k < b) → j (6 * i + k) = K i k
def q_hld (j : Int → Int) (K : Int → Int → Int) (A : Int → Int) (n : Int) : Prop := ∀ k : Int, 0 ≤ k → k < n → o_ab A (k / 6) → o_ab A (k % 6) → k / 6 ≠ k % 6 → j k = K (k / 6) (k % 6)
def q_sta (s st ha : Int → Int) (n : Int) : Prop := ∀ i : Int, 0 ≤ i → i < n → (0 ≤ s i ∧ s i ≤ 99) ∧ (1 ≤ ha i → s i = st i)
/-! of the class: by sets and tops -/
/-- the lists of the set s with t on top, of those with one below x next to it (C: of smaller sets) -/
def o_D (C : Int → Int → List (List Int)) (s t : Int) : Nat → List (List Int)
  | 0 => if s = g_2 t.toNat then [[t]] else []
  | x + 1 => o_D C s t x ++ (if (s - g_2 t.toNat) / g_2 x % 2 = 1 then (C (s - g_2 t.toNat) x).map (t :: ·) else [])
def o_C : Nat → Int → Int → List (List Int)
  | 0 => fun _ _ => []
  | n + 1 => fun s t => o_D (o_C n) s t 6
def o_K (s t : Int) : List (List Int) := o_C s.toNat s t
/-- the most that some lists bear (-2: none, or less) -/
def o_M (c st : Int → Int) (J : Int → Int → Int) (u : Int) (X : List (List Int)) : Prop := (-2 ≤ u ∧ u ≤ 999) ∧ (∀ l ∈ X, o_h c st J l ≤ u) ∧ (u = -2 ∨ ∃ l ∈ X, o_h c st J l = u)
def o_sub (s a : Int) : Prop := (1 ≤ s ∧ s < 64) ∧ (0 ≤ a ∧ a < 64) ∧ ∀ h : Int, 0 ≤ h → h < 6 → r_bit s h → r_bit a h
/-- what those of a have, how strong they and their joins are: within bounds -/
def o_bd (c st : Int → Int) (J : Int → Int → Int) (a : Int) : Prop := (∀ t : Int, 0 ≤ t → t < 6 → r_bit a t → 0 ≤ st t ∧ st t ≤ 99) ∧ (∀ t x : Int, 0 ≤ t → t < 6 → 0 ≤ x → x < 6 → r_bit a t → r_bit a x → t ≠ x → 0 ≤ J t x ∧ J t x ≤ 999) ∧ ∀ s : Int, o_sub s a → 0 ≤ c s ∧ c s ≤ 594
def q_sin (s t z : Int) : Prop := (1 ≤ s ∧ s < 64) ∧ (0 ≤ t ∧ t < 6) ∧ z = 6 * s + t ∧ r_bit s t
def q_dpt (ha wy : Int → Int) (c st : Int → Int) (J : Int → Int → Int) (w a z : Int) : Prop := ((0 ≤ w ∧ w ≤ 999 ∧ 0 ≤ a ∧ a < 64) ∧ o_bd c st J a) ∧ ∀ s t : Int, q_sin s t (6 * s + t) → o_sub s a → 6 * s + t < z → o_M c st J (ha (6 * s + t)) (o_K s t) ∧ wy (6 * s + t) = o_n (fun l => w ≤ o_h c st J l) (o_K s t)
def q_ppv (c st : Int → Int) (J : Int → Int → Int) (w s t x h y : Int) : Prop := ((0 ≤ w ∧ w ≤ 999) ∧ (1 ≤ s ∧ s < 64) ∧ (0 ≤ t ∧ t < 6 ∧ r_bit s t) ∧ 0 ≤ x ∧ x ≤ 6) ∧ o_M c st J h (o_D (o_C (s - 1).toNat) s t x.toNat) ∧ y = o_n (fun l => w ≤ o_h c st J l) (o_D (o_C (s - 1).toNat) s t x.toNat)
def q_lwr (c st : Int → Int) (J : Int → Int → Int) (s t x z l e : Int) : Prop := (q_sin s t z ∧ (0 ≤ x ∧ x < 6) ∧ r_bit (s - g_2 t.toNat) x) ∧ l = 6 * (s - g_2 t.toNat) + x ∧ e = o_m (st t) (J t x) - c (s - g_2 t.toNat)
def q_rsn (s t r : Int) : Prop := (1 ≤ s ∧ s < 64 ∧ 0 ≤ t ∧ t < 6 ∧ r_bit s t) ∧ r = s - g_2 t.toNat
/-- the ropes ahead of z that hold -/
noncomputable def o_T (c st : Int → Int) (J : Int → Int → Int) (w W a : Int) : Nat → List (List Int)
  | 0 => []
  | z + 1 => o_T c st J w W a z ++ @ite (List (List Int)) (q_sin ((z : Int) / 6) ((z : Int) % 6) z ∧ o_sub ((z : Int) / 6) a ∧ W ≤ c ((z : Int) / 6)) (Classical.propDecidable _) ((o_K ((z : Int) / 6) ((z : Int) % 6)).filter fun l => @decide (w ≤ o_h c st J l) (Classical.propDecidable _)) []
def q_not (c st : Int → Int) (J : Int → Int → Int) (w W a z r p i : Int) : Prop := ((0 ≤ z ∧ z ≤ 384) ∧ (0 ≤ w ∧ w ≤ 999) ∧ 0 ≤ a ∧ a < 64) ∧ r = ((o_T c st J w W a z.toNat).length : Int) ∧ o_M c st J p (o_T c st J w W a z.toNat) ∧ (0 ≤ i ∧ i < 64) ∧ ∀ h : Int, 0 ≤ h → h < 6 → (r_bit i h ↔ r_bit a h ∧ ∀ l ∈ o_T c st J w W a z.toNat, h ∈ l)
def q_dvh (c st : Int → Int) (J : Int → Int → Int) (l h : Int) : Prop := ∃ r x : Int, q_sin r x l ∧ o_M c st J h (o_K r x)
def q_dvw (c st : Int → Int) (J : Int → Int → Int) (w l y : Int) : Prop := ∃ r x : Int, q_sin r x l ∧ y = o_n (fun k => w ≤ o_h c st J k) (o_K r x)
/-! peace -/
def g_r9 (v : zVw) (q : Int) (A : Int → Int) (a b : Int) : Int := g_raw v q 2 A a 9 (g_sg (v 20) A b)
/-- what is exchanged an odd number of times -/
def o_od (e1 e2 e3 e4 z : Int) : Prop := ((if z = e1 then 1 else 0) + (if z = e2 then 1 else 0) + (if z = e3 then 1 else 0) + (if z = e4 then 1 else 0) : Int) % 2 = 1
def o_vl (Kp Kn : Int → Int → Int) (e1 e2 e3 e4 t k a b : Int) : Prop := (o_od e1 e2 e3 e4 (6 * t + k) → a = Kn t k ∧ b = Kp t k) ∧ (¬ o_od e1 e2 e3 e4 (6 * t + k) → a = Kp t k ∧ b = Kn t k)
def q_xch (j r : Int → Int) (Kp Kn : Int → Int → Int) (A : Int → Int) (e1 e2 e3 e4 : Int) : Prop := ∀ t k : Int, o_ab A t → o_ab A k → t ≠ k → o_vl Kp Kn e1 e2 e3 e4 t k (j (6 * t + k)) (r (6 * t + k))
def q_xcx (j r : Int → Int) (Kp Kn : Int → Int → Int) (A : Int → Int) (e1 e2 e3 e4 i : Int) : Prop := ∀ t k : Int, o_ab A t → o_ab A k → t ≠ k → 6 * t + k ≠ i → o_vl Kp Kn e1 e2 e3 e4 t k (j (6 * t + k)) (r (6 * t + k))
def q_xvl (Kp Kn : Int → Int → Int) (A : Int → Int) (e1 e2 e3 e4 i a b : Int) : Prop := ∀ t k : Int, o_ab A t → o_ab A k → t ≠ k → 6 * t + k = i → o_vl Kp Kn e1 e2 e3 e4 t k a b
def q_hly (j : Int → Int) (K : Int → Int → Int) (A : Int → Int) (y z : Int) : Prop := ∀ k : Int, 0 ≤ k → k < 36 → k ≠ y → k ≠ z → o_ab A (k / 6) → o_ab A (k % 6) → k / 6 ≠ k % 6 → j k = K (k / 6) (k % 6)
def q_pak (x k t z : Int) : Prop := ((0 ≤ t ∧ t < z ∧ z < 6) ∧ 0 ≤ x ∧ x < 64) ∧ k = 6 * t + z ∧ r_bit x t ∧ r_bit x z
def q_npk (x k : Int) : Prop := ∀ t z : Int, 0 ≤ t → t < z → z < 6 → r_bit x t → r_bit x z → k ≠ 6 * t + z
def o_p1 (v : zVw) (A : Int → Int) (J : Int → Int → Int → Int) (w W k : Int) : Prop := ∀ c : Int, o_pr A c → c < k → ¬ o_E v (J (c + 1)) A w W
def o_p2 (v : zVw) (A : Int → Int) (J : Int → Int → Int → Int) (w W k l : Int) : Prop := ∀ c d : Int, o_pr A c → o_pr A d → c < d → (c < k ∨ c = k ∧ d < l) → ¬ o_E v (J (c + 100 * d + 101)) A w W
def o_k1 (v : zVw) (A : Int → Int) (J : Int → Int → Int → Int) (w W k : Int) : Prop := ∀ t z : Int, o_ab A t → o_ab A z → t < z → 6 * t + z < k → ¬ o_E v (J (10 * t + z + 1)) A w W
def o_k2 (v : zVw) (A : Int → Int) (J : Int → Int → Int → Int) (w W k l : Int) : Prop := ∀ t z x y : Int, o_ab A t → o_ab A z → t < z → o_ab A x → o_ab A y → x < y → 6 * t + z < 6 * x + y → (6 * t + z < k ∨ 6 * t + z = k ∧ 6 * x + y < l) → ¬ o_E v (J (10 * t + z + 1000 * x + 100 * y + 101)) A w W
def q_66 (P : Int → Int → Prop) : Prop := ∀ a b : Int, 0 ≤ a → a < 6 → 0 ≤ b → b < 6 → P a b
/-- a sentence: the labels of the arrays that it speaks of (and the place in its numbers from which a write is none of its business), what it says -/
abbrev zSy : Type := List (Nat × Option Nat) × (zVw → List Int → Prop)
def j_s : zSy := ([], fun _ _ => True)
def j_s20 : zSy := ([(13, none)], fun v zs => match zs with
  | [p, c] => t_b v p = c
  | _ => True)
def j_s21 : zSy := ([], fun v zs => match zs with
  | [f, c, r] => t_cl f c = r
  | _ => True)
def j_s22 : zSy := ([(13, none)], fun v zs => match zs with
  | [f, n, a, p] => q_runs (t_b v) f n a p
  | _ => True)
def j_s23 : zSy := ([(13, none)], fun v zs => match zs with
  | [f, n, a, p] => q_rune (t_b v) f n a p
  | _ => True)
def j_s24 : zSy := ([(13, none)], fun v zs => match zs with
  | [a, e, x] => a ≤ e ∧ (e - a ≤ 4 → x = t_num (t_b v) 10 48 a (e - a).toNat)
  | _ => True)
def j_s25 : zSy := ([(13, none)], fun v zs => match zs with
  | [a, e, x] => a ≤ e ∧ (e - a ≤ 8 → x = t_num (t_b v) 32 96 a (e - a).toNat)
  | _ => True)
def j_s26 : zSy := ([(13, none)], fun v zs => match zs with
  | [a, e, x] => a ≤ e ∧ x = t_num (t_b v) 27 96 a (min (e - a) 8).toNat
  | _ => True)
def j_s27 : zSy := ([(13, none)], fun v zs => match zs with
  | [x, a, w, i] => q_wm (t_b v) x a w i
  | _ => True)
def j_s28 : zSy := ([(13, none)], fun v zs => match zs with
  | [x, a, w, r] => (r = 1 ∧ q_wm (t_b v) x a w 8) ∨ (r = 0 ∧ ¬ q_wm (t_b v) x a w 8)
  | _ => True)
def j_s29 : zSy := ([(13, none)], fun v zs => match zs with
  | [a, w, x] => ∃ m : Nat, x = 8 * m ∧ t_wd (t_b v) a w m = -1
  | _ => True)
def j_s30 : zSy := ([(13, none)], fun v zs => match zs with
  | [a, w, r] => q_wid (t_b v) a w r
  | _ => True)
def j_s31 : zSy := ([(13, none), (14, some 1), (15, some 1), (16, some 1)], fun v zs => match zs with
  | [n, k, p] => 0 ≤ n ∧ 0 ≤ k ∧ p = t_p (t_b v) n k.toNat ∧ ∀ j : Nat, (j : Int) < k → q_ar v n j
  | _ => True)
def j_s32 : zSy := ([(13, none)], fun v zs => match zs with
  | [n, k, s] => s = t_s (t_b v) n k.toNat
  | _ => True)
def j_s33 : zSy := ([(98, some 0)], fun v zs => match zs with
  | [i] => ∀ k_ : Int, 0 ≤ k_ → k_ < i → v 98 k_ = 5
  | _ => True)
def j_s34 : zSy := ([(13, none), (98, none)], fun v zs => match zs with
  | [n, c] => 0 ≤ c ∧ q_66 fun a b => v 98 (6 * a + b) = a_lk (t_b v) n c.toNat a b
  | _ => True)
def j_s35 : zSy := ([(13, none), (14, none), (15, none), (16, none)], fun v zs => match zs with
  | [n, c] => q_upto (t_b v) n c (q_ar v n)
  | _ => True)
def j_s36 : zSy := ([(13, none)], fun v zs => match zs with
  | [n, c, kd, s, x] => q_tok (t_b v) n c kd s x
  | _ => True)
def j_s37 : zSy := ([(13, none), (14, none), (15, none), (16, none)], fun v zs => match zs with
  | [n] => q_all (t_b v) n (q_ar v n)
  | _ => True)
def j_s38 : zSy := ([(13, none), (98, some 102)], fun v zs => match zs with
  | [n, c, j] => 0 ≤ c ∧ q_66 fun a b => 6 * a + b ≠ j → v 98 (6 * a + b) = a_lk (t_b v) n c.toNat a b
  | _ => True)
def j_s39 : zSy := ([(13, none), (98, some 104)], fun v zs => match zs with
  | [n, c, j, x, k] => 0 ≤ c ∧ (q_66 fun a b => 6 * a + b ≠ j → 6 * a + b ≠ k → v 98 (6 * a + b) = a_lk (t_b v) n c.toNat a b) ∧ (0 ≤ j → j ≠ k → v 98 j = x)
  | _ => True)
def j_s40 : zSy := ([(13, none)], fun v zs => match zs with
  | [n, c, st, mo, op, H, L, W, WP, S] => q_run2 (t_b v) n c st mo op H L W WP S
  | _ => True)
def j_s41 : zSy := ([(13, none)], fun v zs => match zs with
  | [n, f, p] => q_res (t_b v) n f p
  | _ => True)
def j_s42 : zSy := ([(13, none)], fun v zs => match zs with
  | [n, c, K, kd, s] => (kd ≠ K → q_res (t_b v) n 1 s) ∧ (kd = K → q_go (t_b v) n c s)
  | _ => True)
def j_s43 : zSy := ([(13, none), (97, some 2)], fun v zs => match zs with
  | [n, c, H] => q_nms (t_b v) n c H (tx (t_b v) n) (v 97)
  | _ => True)
def j_s44 : zSy := ([(13, none)], fun v zs => match zs with
  | [n, c, r] => q_fnd (t_b v) n c r
  | _ => True)
def j_s45 : zSy := ([(13, none)], fun v zs => match zs with
  | [n, c, j] => q_nfd (t_b v) n c j
  | _ => True)
def j_s46 : zSy := ([(13, none), (98, none)], fun v zs => match zs with
  | [n, c, r, q, x] => 0 ≤ c ∧ q_66 fun a b => v 98 (6 * a + b) = a_up (a_lk (t_b v) n c.toNat) r q x a b
  | _ => True)
def j_s47 : zSy := ([(13, none)], fun v zs => match zs with
  | [n, f, q] => q_fin (t_b v) n f q
  | _ => True)
def j_s48 : zSy := ([], fun v zs => match zs with
  | [kd] => a_p kd = false
  | _ => True)
def j_s49 : zSy := ([], fun v zs => match zs with
  | [kd] => kd ≠ 42 ∧ kd ≠ 47
  | _ => True)
def j_s50 : zSy := ([], fun v zs => match zs with
  | [c0, c, i] => c0 + 1 ≤ c ∧ i + 1 ≤ c
  | _ => True)
def j_s51 : zSy := ([], fun v zs => match zs with
  | [c, i] => i ≤ c
  | _ => True)
def j_s52 : zSy := ([(13, none), (49, none)], fun v zs => match zs with
  | [n] => ∀ i : Int, 0 ≤ i → i < n → v 49 i = v 13 i
  | _ => True)
def j_s53 : zSy := ([(13, some 0), (48, some 0)], fun v zs => match zs with
  | [n] => ∀ i : Int, 0 ≤ i → i < n → v 13 i = v 48 i
  | _ => True)
def j_s54 : zSy := ([(49, some 0), (48, none)], fun v zs => match zs with
  | [n] => ∀ i : Int, 0 ≤ i → i < n → v 49 i = v 48 i
  | _ => True)
def j_s55 : zSy := ([(54, none)], fun v zs => match zs with
  | [] => ∀ k : Nat, k < 22 → v 54 k = t_key k
  | _ => True)
def j_s56 : zSy := ([(13, none), (50, some 1), (51, some 1), (52, some 1), (53, some 1)], fun v zs => match zs with
  | [n, k, i] => 0 ≤ n ∧ 0 ≤ k ∧ i ≤ n ∧ t_e1 (t_b v) 0 n i = t_s (t_b v) n k.toNat ∧ ∀ j : Nat, (j : Int) < k → q_mr v n j
  | _ => True)
def j_s57 : zSy := ([(13, none), (50, none), (51, none), (52, none), (53, none)], fun v zs => match zs with
  | [n] => q_all (t_b v) n (q_mr v n)
  | _ => True)
def j_s58 : zSy := ([(13, none), (50, none), (51, none), (52, none), (53, none)], fun v zs => match zs with
  | [n, c] => q_upto (t_b v) n c (q_mr v n)
  | _ => True)
def j_s59 : zSy := ([(13, none)], fun v zs => match zs with
  | [n, c, u, s] => 0 ≤ c ∧ 0 ≤ u ∧ u ≤ 41 ∧ t_km u = tk (t_b v) n c.toNat ∧ s = t_s (t_b v) n c.toNat
  | _ => True)
def j_s60 : zSy := ([], fun v zs => match zs with
  | [x, k, kd] => 0 ≤ k ∧ kd = t_kw x k.toNat ∧ k ≤ 22
  | _ => True)
def j_s61 : zSy := ([(13, none)], fun v zs => match zs with
  | [n, c, i] => tk (t_b v) n c.toNat = 3 ∧ i = tx (t_b v) n c.toNat
  | _ => True)
def j_s62 : zSy := ([(13, none)], fun v zs => match zs with
  | [n, c, K, u, s] => (u ≠ K → q_res (t_b v) n 1 s) ∧ (u = K → q_go (t_b v) n c s)
  | _ => True)
def j_s64 : zSy := ([(13, none), (55, some 2)], fun v zs => match zs with
  | [n, c, H] => q_nms (t_b v) n c H (ty (t_b v) n) (v 55)
  | _ => True)
def j_s65 : zSy := ([(13, none)], fun v zs => match zs with
  | [n, c, w] => tk (t_b v) n c.toNat = 2 ∧ w = ty (t_b v) n c.toNat
  | _ => True)
def j_s66 : zSy := ([(13, none)], fun v zs => match zs with
  | [n, c, j] => q_nfd (t_b v) n c j
  | _ => True)
def j_s67 : zSy := ([(13, none)], fun v zs => match zs with
  | [n, c] => q_hit (t_b v) n c
  | _ => True)
def j_s68 : zSy := ([(13, none)], fun v zs => match zs with
  | [n, c, s] => q_go (t_b v) n c s
  | _ => True)
def j_s69 : zSy := ([(13, none)], fun v zs => match zs with
  | [n, c, h, K, s] => (h = K → q_res (t_b v) n 2 s) ∧ (h < K → q_go (t_b v) n c s)
  | _ => True)
def j_s70 : zSy := ([], fun v zs => match zs with
  | [u] => u ≠ 6
  | _ => True)
def j_s71 : zSy := ([(13, none)], fun v zs => match zs with
  | [n, c] => a_p (tk (t_b v) n c.toNat) = false
  | _ => True)
def j_s72 : zSy := ([(13, some 2)], fun v zs => match zs with
  | [a, w, d] => 0 ≤ a ∧ d = a + 4 ∧ ∀ i : Nat, i < 4 → v 13 (a + i) = t_w4 w i
  | _ => True)
def j_s73 : zSy := ([(48, some 2)], fun v zs => match zs with
  | [a, w, d] => 0 ≤ a ∧ d = a + 4 ∧ ∀ i : Nat, i < 4 → v 48 (a + i) = t_w4 w i
  | _ => True)
def j_s74 : zSy := ([(13, none), (98, none)], fun v zs => match zs with
  | [n] => ∃ c : Nat, q_end (t_b v) n c ∧ q_66 fun a b => v 98 (6 * a + b) = a_lk (t_b v) n c a b
  | _ => True)
def j_s75 : zSy := ([(13, none), (18, none)], fun v zs => match zs with
  | [n] => ∃ c : Nat, q_end (t_b v) n c ∧ q_66 fun a b => v 18 (6 * a + b) = a_lk (t_b v) n c a b
  | _ => True)
def j_s76 : zSy := ([(13, none)], fun v zs => match zs with
  | [n, H] => q_fih (t_b v) n H
  | _ => True)
def j_s77 : zSy := ([(60, some 1)], fun v zs => match zs with
  | [s, j] => ∀ k_ : Int, 0 ≤ k_ → 36 * s ≤ k_ → k_ < j → v 60 k_ = 5
  | _ => True)
def j_s78 : zSy := ([(13, none), (60, none)], fun v zs => match zs with
  | [n, c, s] => 0 ≤ c ∧ 0 ≤ s ∧ q_66 fun a b => v 60 (36 * s + (6 * a + b)) = a_lk (t_b v) n c.toNat a b
  | _ => True)
def j_s79 : zSy := ([(13, none), (60, some 103)], fun v zs => match zs with
  | [n, c, s, j] => 0 ≤ c ∧ 0 ≤ s ∧ q_66 fun a b => 36 * s + (6 * a + b) ≠ j → v 60 (36 * s + (6 * a + b)) = a_lk (t_b v) n c.toNat a b
  | _ => True)
def j_s80 : zSy := ([(13, none), (60, some 105)], fun v zs => match zs with
  | [n, c, s, j, x, k] => 0 ≤ c ∧ 0 ≤ s ∧ (q_66 fun a b => 36 * s + (6 * a + b) ≠ j → 36 * s + (6 * a + b) ≠ k → v 60 (36 * s + (6 * a + b)) = a_lk (t_b v) n c.toNat a b) ∧ (0 ≤ j → j ≠ k → v 60 j = x)
  | _ => True)
def j_s81 : zSy := ([(13, none), (60, none)], fun v zs => match zs with
  | [n, s] => 0 ≤ s ∧ ∃ c : Nat, q_end (t_b v) n c ∧ q_66 fun a b => v 60 (36 * s + (6 * a + b)) = a_lk (t_b v) n c a b
  | _ => True)
def j_s82 : zSy := ([(18, none), (60, some 36001)], fun v zs => match zs with
  | [l, s, z] => z = 1 → 0 ≤ l ∧ 0 ≤ s ∧ l + s = 1 ∧ q_66 fun a b => v 18 (6 * a + b) = v 60 (36 * l + (6 * a + b))
  | _ => True)
def j_s83 : zSy := ([(18, none)], fun v zs => match zs with
  | [j, u] => v 18 j = u
  | _ => True)
def j_s84 : zSy := ([(60, none)], fun v zs => match zs with
  | [j, u] => v 60 j = u
  | _ => True)
def j_s85 : zSy := ([(56, some 102)], fun v zs => match zs with
  | [l, H, s] => 0 ≤ l ∧ l ≠ s ∧ v 56 l = H
  | _ => True)
def j_s86 : zSy := ([(13, none)], fun v zs => match zs with
  | [n, c, k, w] => 0 ≤ c ∧ w = a_nu (t_b v) n c.toNat k
  | _ => True)
def j_s87 : zSy := ([(13, none)], fun v zs => match zs with
  | [n, k, w] => ∃ c : Nat, q_end (t_b v) n c ∧ w = a_nu (t_b v) n c k
  | _ => True)
def j_s88 : zSy := ([(61, some 102)], fun v zs => match zs with
  | [l, w, s] => 0 ≤ l ∧ l ≠ s ∧ v 61 l = w
  | _ => True)
def j_s89 : zSy := ([(62, some 102)], fun v zs => match zs with
  | [l, w, s] => 0 ≤ l ∧ l ≠ s ∧ v 62 l = w
  | _ => True)
def j_s90 : zSy := ([(63, some 102)], fun v zs => match zs with
  | [l, w, s] => 0 ≤ l ∧ l ≠ s ∧ v 63 l = w
  | _ => True)
def j_s91 : zSy := ([(64, some 102)], fun v zs => match zs with
  | [l, w, s] => 0 ≤ l ∧ l ≠ s ∧ v 64 l = w
  | _ => True)
def j_s92 : zSy := ([(13, none), (99, some 2), (100, some 2)], fun v zs => match zs with
  | [n, c, H] => q_hs (t_b v) n c H (v 99) (v 100)
  | _ => True)
def j_s93 : zSy := ([(13, none), (99, none), (100, none)], fun v zs => match zs with
  | [n, H] => q_fhs (t_b v) n H (v 99) (v 100)
  | _ => True)
def j_s94 : zSy := ([(13, none), (19, none), (20, none)], fun v zs => match zs with
  | [n, H] => q_fhs (t_b v) n H (v 19) (v 20)
  | _ => True)
def j_s95 : zSy := ([(13, none), (57, some 4), (58, some 4)], fun v zs => match zs with
  | [n, c, H, s, j] => 0 ≤ s ∧ j = 6 * s + H ∧ q_hs (t_b v) n c H (fun i => v 57 (6 * s + i)) (fun i => v 58 (6 * s + i))
  | _ => True)
def j_s96 : zSy := ([(13, none), (57, none), (58, none)], fun v zs => match zs with
  | [n, H, s] => 0 ≤ s ∧ q_fhs (t_b v) n H (fun i => v 57 (6 * s + i)) (fun i => v 58 (6 * s + i))
  | _ => True)
def j_s97 : zSy := ([], fun v zs => match zs with
  | [i, x] => (mST0.getD i.toNat 0).toInt = x
  | _ => True)
def j_s98 : zSy := ([], fun v zs => match zs with
  | [i, x] => (mST1.getD i.toNat 0).toInt = x
  | _ => True)
def j_s100 : zSy := ([], fun v zs => match zs with
  | [x, y, c] => (mOP 100 (Int32.ofInt x) (Int32.ofInt y)).toInt = c
  | _ => True)
def j_s101 : zSy := ([], fun v zs => match zs with
  | [x, y, c] => (mOP 101 (Int32.ofInt x) (Int32.ofInt y)).toInt = c
  | _ => True)
def j_s102 : zSy := ([], fun v zs => match zs with
  | [x, y, c] => (mOP 102 (Int32.ofInt x) (Int32.ofInt y)).toInt = c
  | _ => True)
def j_s103 : zSy := ([], fun v zs => match zs with
  | [x, y, c] => (mOP 103 (Int32.ofInt x) (Int32.ofInt y)).toInt = c
  | _ => True)
def j_s104 : zSy := ([], fun v zs => match zs with
  | [x, y, c] => (mOP 104 (Int32.ofInt x) (Int32.ofInt y)).toInt = c
  | _ => True)
def j_s105 : zSy := ([], fun v zs => match zs with
  | [x, y, c] => (mOP 105 (Int32.ofInt x) (Int32.ofInt y)).toInt = c
  | _ => True)
def j_s106 : zSy := ([], fun v zs => match zs with
  | [x, y, c] => (mOP 106 (Int32.ofInt x) (Int32.ofInt y)).toInt = c
  | _ => True)
def j_s107 : zSy := ([], fun v zs => match zs with
  | [x, y, c] => (mOP 107 (Int32.ofInt x) (Int32.ofInt y)).toInt = c
  | _ => True)
def j_s108 : zSy := ([], fun v zs => match zs with
  | [x, y, c] => (mOP 108 (Int32.ofInt x) (Int32.ofInt y)).toInt = c
  | _ => True)
def j_s109 : zSy := ([], fun v zs => match zs with
  | [x, y, c] => (mOP 109 (Int32.ofInt x) (Int32.ofInt y)).toInt = c
  | _ => True)
def j_s110 : zSy := ([], fun v zs => match zs with
  | [x, y, c] => (mOP 110 (Int32.ofInt x) (Int32.ofInt y)).toInt = c
  | _ => True)
def j_s111 : zSy := ([], fun v zs => match zs with
  | [x, y, c] => (mOP 111 (Int32.ofInt x) (Int32.ofInt y)).toInt = c
  | _ => True)
def j_s200 : zSy := ([(19, none), (20, none), (57, some 6001), (58, some 6001)], fun v zs => match zs with
  | [l, s, z, H] => z = 1 → 0 ≤ l ∧ 0 ≤ s ∧ l + s = 1 ∧ H ≤ 6 ∧ ∀ i : Int, 0 ≤ i → i < H → v 19 i = v 57 (6 * l + i) ∧ v 20 i = v 58 (6 * l + i)
  | _ => True)
def j_s201 : zSy := ([(13, none), (102, some 2), (103, some 2), (104, none)], fun v zs => match zs with
  | [n, c, l, u] => q_cy (t_b v) (v 102) (v 103) (v 104) n c l u
  | _ => True)
def j_s202 : zSy := ([(13, none), (102, some 2), (103, some 103), (104, none)], fun v zs => match zs with
  | [n, c, l, j] => q_cyj (t_b v) (v 102) (v 103) (v 104) n c l j
  | _ => True)
def j_s203 : zSy := ([(13, none), (102, some 2), (103, some 2), (104, some 103)], fun v zs => match zs with
  | [n, c, l, k, p] => q_cyb (t_b v) (v 102) (v 103) (v 104) n c l k p
  | _ => True)
def j_s204 : zSy := ([(102, some 0), (103, some 0)], fun v zs => match zs with
  | [l] => ∀ (i : Nat) (x : Int × Int), ([(0, 1), (7, 0), (1, 2), (0, 10), (4, 0), (7, 0), (1, 0), (7, 0)] : List (Int × Int))[i]? = some x → (i : Int) < l → v 102 i = x.1 ∧ v 103 i = x.2
  | _ => True)
def j_s205 : zSy := ([(104, some 0)], fun v zs => match zs with
  | [k] => ∀ j : Int, 0 ≤ j → j < k → v 104 j = if j = 2 then 2 else if j = 3 then 6 else 0
  | _ => True)
def j_s206 : zSy := ([(13, none)], fun v zs => match zs with
  | [n, c, d] => q_uex (t_b v) n c d
  | _ => True)
def j_s207 : zSy := ([(13, none)], fun v zs => match zs with
  | [n, c, d] => q_pex (t_b v) n c d
  | _ => True)
def j_s208 : zSy := ([(13, none)], fun v zs => match zs with
  | [n, c, d] => q_eex (t_b v) n c d
  | _ => True)
def j_s209 : zSy := ([(13, none)], fun v zs => match zs with
  | [n, c] => p_A (p_w (t_b v) n c) = []
  | _ => True)
def j_s210 : zSy := ([(13, none)], fun v zs => match zs with
  | [n, c] => p_S (p_w (t_b v) n c) = []
  | _ => True)
def j_s211 : zSy := ([(13, none)], fun v zs => match zs with
  | [n, c, l, k] => q_beg (t_b v) n c l k
  | _ => True)
def j_s212 : zSy := ([(13, none)], fun v zs => match zs with
  | [n, c, j] => q_jmp (t_b v) n c j
  | _ => True)
def j_s213 : zSy := ([(13, none), (102, none), (103, none), (104, none)], fun v zs => match zs with
  | [n, l] => q_flw (t_b v) (v 102) (v 103) (v 104) n l
  | _ => True)
def j_s214 : zSy := ([(13, none), (21, none), (22, none), (23, none)], fun v zs => match zs with
  | [n, l] => q_flw (t_b v) (v 21) (v 22) (v 23) n l
  | _ => True)
def j_s216 : zSy := ([(13, none), (72, some 3), (73, some 3), (74, some 4), (67, some 5), (68, some 5), (69, some 5), (70, some 5), (71, some 5), (65, none), (66, none)], fun v zs => match zs with
  | [n, c, s, k, w, bb, u] => q_my v n c s k w bb u
  | _ => True)
def j_s217 : zSy := ([(13, none), (72, some 3), (73, some 3), (74, some 4), (67, some 5), (68, some 5), (69, some 5), (70, some 5), (71, some 5), (65, some 107), (66, some 107)], fun v zs => match zs with
  | [n, c, s, k, w, bb, kk, p, f] => q_myb v false n c s k w bb kk p f
  | _ => True)
def j_s218 : zSy := ([(13, none), (72, some 3), (73, some 3), (74, some 4), (67, some 5), (68, some 5), (69, some 5), (70, some 5), (71, some 5), (65, none), (66, some 107)], fun v zs => match zs with
  | [n, c, s, k, w, bb, kk, p, f] => q_myb v true n c s k w bb kk p f
  | _ => True)
def j_s219 : zSy := ([(13, none)], fun v zs => match zs with
  | [n, c, s, k] => q_pb (t_b v) n c s k
  | _ => True)
def j_s220 : zSy := ([(13, none)], fun v zs => match zs with
  | [n, c, s, k] => q_pm (t_b v) n c s k
  | _ => True)
def j_s221 : zSy := ([(13, none)], fun v zs => match zs with
  | [n, c, s, k] => q_pt (t_b v) n c s k
  | _ => True)
def j_s222 : zSy := ([(13, none)], fun v zs => match zs with
  | [n, c, s, k, f] => q_bm (t_b v) n c s k f
  | _ => True)
def j_s223 : zSy := ([(13, none), (72, none), (73, none), (65, none), (66, none), (67, none), (68, none), (69, none), (70, none), (71, none)], fun v zs => match zs with
  | [n, s] => q_mflw v n s
  | _ => True)
def j_s224 : zSy := ([(21, none), (22, none), (23, none), (72, some 420001), (73, some 420001), (67, some 130001), (68, some 130001), (69, some 130001), (70, some 130001), (71, some 130001), (65, some 4001), (66, some 4001)], fun v zs => match zs with
  | [l, s, z, qn] => z = 1 → q_leq v l s qn
  | _ => True)
def j_s225 : zSy := ([], fun v zs => match zs with
  | [p, s] => 130 * s ≤ p
  | _ => True)
def j_s226 : zSy := ([(21, none), (22, none), (26, none), (24, some 4)], fun v zs => match zs with
  | [qn, r, i, x, top] => q_runc v qn r i x top
  | _ => True)
def j_s227 : zSy := ([(21, none), (22, none), (26, none), (24, some 4)], fun v zs => match zs with
  | [qn, r, i, x, top, z] => q_run2c v qn r i x top z
  | _ => True)
def j_s228 : zSy := ([(21, none), (22, none), (26, none), (23, none)], fun v zs => match zs with
  | [qn, k, r] => q_vlc v qn k r
  | _ => True)
def j_s229 : zSy := ([(72, none), (73, none), (75, none), (76, some 3)], fun v zs => match zs with
  | [r, j, m, top] => q_runt v r j m top
  | _ => True)
def j_s230 : zSy := ([(72, none), (73, none), (75, none), (76, some 3)], fun v zs => match zs with
  | [r, j, m, top, z] => q_runt2 v r j m top z
  | _ => True)
def j_s231 : zSy := ([(72, none), (73, none), (75, none)], fun v zs => match zs with
  | [a, b, r] => q_val v a b r
  | _ => True)
def j_s232 : zSy := ([(72, none), (73, none), (75, none), (67, none), (68, none), (69, none), (70, none), (71, none)], fun v zs => match zs with
  | [r, j, l] => q_runb v r j l
  | _ => True)
def j_s233 : zSy := ([(72, none), (73, none), (75, none), (65, none), (66, none), (67, none), (68, none), (69, none), (70, none), (71, none)], fun v zs => match zs with
  | [s, k, p, r] => q_vlm v s k p r
  | _ => True)
def j_s234 : zSy := ([(21, none), (22, none), (23, none)], fun v zs => match zs with
  | [qn, k, r, e0, e1, e2, e3, e4, e5, e6, e7, e8] => q_plc v qn k r (e_9 e0 e1 e2 e3 e4 e5 e6 e7 e8)
  | _ => True)
def j_s235 : zSy := ([(27, none), (28, none), (29, none), (30, none), (31, none), (77, none), (21, none), (22, none), (23, none), (20, none)], fun v zs => match zs with
  | [H, p, y, d, qn, b, s, o, a1, a2, a3] => q_sto v 0 H p y d qn b s o a1 a2 a3
  | _ => True)
def j_s236 : zSy := ([(107, none), (108, none), (109, none), (110, none), (111, none), (77, none), (21, none), (22, none), (23, none), (20, none)], fun v zs => match zs with
  | [H, p, y, d, qn, b, s, o, a1, a2, a3] => q_sto v 1 H p y d qn b s o a1 a2 a3
  | _ => True)
def j_s237 : zSy := ([(78, none), (77, none), (21, none), (22, none), (23, none), (20, none)], fun v zs => match zs with
  | [H, qn, b, s, o, a1, a2, a3] => q_rwo v H qn b s o a1 a2 a3
  | _ => True)
def j_s238 : zSy := ([(77, none), (21, none), (22, none), (23, none), (20, none), (18, none)], fun v zs => match zs with
  | [c, qn, b, s, o, a1, a2, a3, x1, x2, u] => q_qry v c qn b s o a1 a2 a3 x1 x2 u
  | _ => True)
def j_s239 : zSy := ([(78, none), (77, none)], fun v zs => match zs with
  | [] => q_ner v
  | _ => True)
def j_s240 : zSy := ([(27, none), (28, none), (29, none), (30, none), (31, none), (78, none), (20, none)], fun v zs => match zs with
  | [H, p, y, d] => q_str v H p y d
  | _ => True)
def j_s241 : zSy := ([(27, none), (28, none), (29, none), (30, none), (31, none), (1005, none)], fun v zs => match zs with
  | [f, H, p, y, d] => (1 ≤ f ∧ f ≤ 44) ∧ q_eqs v f H p y d
  | _ => True)
def j_s242 : zSy := ([(81, none), (20, none), (1001, none)], fun v zs => match zs with
  | [H, o, u, e] => q_hx v (-1) H o u e
  | _ => True)
def j_s243 : zSy := ([(81, none), (20, none), (1002, none)], fun v zs => match zs with
  | [c, H, o, u, e] => q_hx v c H o u e
  | _ => True)
def j_s244 : zSy := ([(81, some 4), (77, none), (20, none), (1001, none)], fun v zs => match zs with
  | [H, o, u, e, p] => (p = 33 * u + 33 * e ∧ 0 ≤ e) ∧ q_hk v H o u e
  | _ => True)
def j_s245 : zSy := ([(27, none), (28, none), (29, none), (30, none), (31, none), (81, none), (20, none)], fun v zs => match zs with
  | [H, p, y, d, z] => q_sh v 81 H p y d z
  | _ => True)
def j_s246 : zSy := ([(95, none), (20, none), (1003, none)], fun v zs => match zs with
  | [H, z0, z1, z2] => q_sl v (-1) H z0 z1 z2
  | _ => True)
def j_s247 : zSy := ([(95, some 33000), (20, none), (1004, none)], fun v zs => match zs with
  | [c, H, z0, z1, z2] => 0 ≤ c ∧ q_sl v c H z0 z1 z2
  | _ => True)
def j_s248 : zSy := ([(77, none), (20, none), (1005, none)], fun v zs => match zs with
  | [f, H] => (1 ≤ f ∧ f ≤ 44) ∧ g_sb v H ∧ q_kp v f.toNat H (g_nw v)
  | _ => True)
def j_s249 : zSy := ([(27, none), (28, none), (29, none), (30, none), (31, none), (95, none), (20, none)], fun v zs => match zs with
  | [H, p, y, d, k] => q_sh v 95 H p y d k
  | _ => True)
def j_s250 : zSy := ([(81, none), (77, none), (20, none), (1001, none)], fun v zs => match zs with
  | [H, o, k] => q_hks v H o k
  | _ => True)
def j_s251 : zSy := ([(81, some 102), (77, none), (20, none), (1001, none)], fun v zs => match zs with
  | [H, o, k, x] => q_hkx v H o k x
  | _ => True)
def j_s252 : zSy := ([(25, some 107), (77, none), (21, none), (22, none), (23, none), (20, none), (18, none)], fun v zs => match zs with
  | [qn, b, s, o, a1, a2, a3, j, m] => q_mgn v qn b s o a1 a2 a3 j m
  | _ => True)
def j_s253 : zSy := ([(25, none)], fun v zs => match zs with
  | [w, i] => ∀ t : Int, 0 ≤ t → t < i → w ≤ v 25 t
  | _ => True)
def j_s254 : zSy := ([(25, none)], fun v zs => match zs with
  | [w, m, r] => (0 ≤ r ∧ r < m ∧ v 25 r < w ∧ ∀ t : Int, 0 ≤ t → t < r → w ≤ v 25 t) ∨ (r = -1 ∧ ∀ t : Int, 0 ≤ t → t < m → w ≤ v 25 t)
  | _ => True)
def j_s255 : zSy := ([], fun v zs => match zs with
  | [z, w, r] => r = g_lot z w
  | _ => True)
def j_s256 : zSy := ([], fun v zs => match zs with
  | [h, t, r] => r = g_mx h t
  | _ => True)
def j_s257 : zSy := ([(27, some 111), (28, none), (29, none), (30, none), (31, some 112), (77, none), (21, none), (22, none), (23, none), (20, none)], fun v zs => match zs with
  | [H, p, y, d, qn, b, s, o, a1, a2, a3, h, pl, x, z] => q_sax v 0 H p y d qn b s o a1 a2 a3 h pl x z
  | _ => True)
def j_s258 : zSy := ([(107, some 111), (108, none), (109, none), (110, none), (111, some 112), (77, none), (21, none), (22, none), (23, none), (20, none)], fun v zs => match zs with
  | [H, p, y, d, qn, b, s, o, a1, a2, a3, h, pl, x, z] => q_sax v 1 H p y d qn b s o a1 a2 a3 h pl x z
  | _ => True)
def j_s259 : zSy := ([(27, some 104), (28, some 104), (29, some 101), (30, some 101), (31, some 101), (77, none), (21, none), (22, none), (23, none), (20, none)], fun v zs => match zs with
  | [H, p, y, d, h, x, g] => q_spx v H p y d h x g
  | _ => True)
def j_s260 : zSy := ([(77, none), (21, none), (22, none), (23, none), (20, none), (18, none)], fun v zs => match zs with
  | [c, qn, b, s, o, a1, a2, a3, x1, x2, u] => q_qry v c qn b s o a1 a2 a3 x1 x2 u
  | _ => True)
def j_s261 : zSy := ([], fun v zs => match zs with
  | [k] => True
  | _ => True)
def j_s262 : zSy := ([(20, none)], fun v zs => match zs with
  | [h, u] => v 20 h = u
  | _ => True)
def j_s263 : zSy := ([(78, some 1000601), (77, none), (20, none)], fun v zs => match zs with
  | [H, e1, e2, e3, e4, e5, e6] => q_rnx v H e1 e2 e3 e4 e5 e6
  | _ => True)
def j_s264 : zSy := ([(78, some 1000402), (77, none), (20, none)], fun v zs => match zs with
  | [H, j, e1, e2, e3, e4] => q_rlx v H j e1 e2 e3 e4
  | _ => True)
def j_s265 : zSy := ([(78, some 1000208), (77, none), (21, none), (22, none), (23, none), (20, none)], fun v zs => match zs with
  | [H, qn, b, s, o, a1, a2, a3, e1, e2] => q_ryx v H qn b s o a1 a2 a3 e1 e2
  | _ => True)
def j_s266 : zSy := ([(79, some 7), (80, some 7), (77, none), (21, none), (22, none), (23, none), (20, none)], fun v zs => match zs with
  | [qn, b, s, o, a1, a2, a3, n] => q_grn v qn b s o a1 a2 a3 n
  | _ => True)
def j_s270 : zSy := ([(28, some 0)], fun v zs => match zs with
  | [i] => ∀ t : Int, 0 ≤ t → t < i → v 28 t = 0
  | _ => True)
def j_s271 : zSy := ([(27, none), (28, none), (99, none)], fun v zs => match zs with
  | [] => ∀ i : Int, 0 ≤ i → i < 6 → v 27 i = v 99 i ∧ v 28 i = 0
  | _ => True)
def j_s272 : zSy := ([(27, none), (28, none), (19, none)], fun v zs => match zs with
  | [] => ∀ i : Int, 0 ≤ i → i < 6 → v 27 i = v 19 i ∧ v 28 i = 0
  | _ => True)
def j_s273 : zSy := ([(78, none), (57, none)], fun v zs => match zs with
  | [l, h] => q_bgm v false l h
  | _ => True)
def j_s274 : zSy := ([(78, some 101), (57, none)], fun v zs => match zs with
  | [l, h] => q_bgm v true l h
  | _ => True)
def j_s275 : zSy := ([(77, none), (57, none)], fun v zs => match zs with
  | [l, h] => q_nbg v l h
  | _ => True)
def j_s276 : zSy := ([], fun v zs => match zs with
  | [x, r] => r = x % 2 + x / 2 % 2 + x / 4 % 2
  | _ => True)
def j_s277 : zSy := ([(40, some 7), (77, none), (21, none), (22, none), (23, none), (20, none)], fun v zs => match zs with
  | [qn, b, s, o, a1, a2, a3, n] => q_smp v qn b s o a1 a2 a3 n
  | _ => True)
def j_s278 : zSy := ([(82, some 7), (77, none), (21, none), (22, none), (23, none), (20, none)], fun v zs => match zs with
  | [qn, b, s, o, a1, a2, a3, n] => q_lng v qn b s o a1 a2 a3 n
  | _ => True)
def j_s279 : zSy := ([(41, some 7), (77, none), (21, none), (22, none), (23, none), (20, none)], fun v zs => match zs with
  | [qn, b, s, o, a1, a2, a3, n] => q_cst v qn b s o a1 a2 a3 n
  | _ => True)
def j_s280 : zSy := ([], fun v zs => match zs with
  | [x, i, r] => r = g_bc x i.toNat
  | _ => True)
def j_s281 : zSy := ([(42, none), (43, none), (44, none), (89, none), (90, none), (91, none)], fun v zs => match zs with
  | [] => q_teq (v 42) (v 43) (v 44) (v 89) (v 90) (v 91)
  | _ => True)
def j_s282 : zSy := ([(42, some 100), (43, some 100), (44, some 100), (89, some 100), (90, some 100), (91, some 100)], fun v zs => match zs with
  | [n] => q_tep (v 42) (v 43) (v 44) (v 89) (v 90) (v 91) n
  | _ => True)
def j_s283 : zSy := ([(42, none), (43, none), (44, none), (89, some 100), (90, some 100), (91, some 100)], fun v zs => match zs with
  | [n, i, w, s] => q_tex (v 42) (v 43) (v 44) (v 89) (v 90) (v 91) n i w s
  | _ => True)
def j_s284 : zSy := ([(42, none), (43, none), (44, none), (45, none), (77, none), (20, none)], fun v zs => match zs with
  | [H, l, i] => q_lrn (v 42) (v 43) (v 44) (g_sg (v 20) (g_b (v 77) 0)) (v 45) H l i
  | _ => True)
def j_s285 : zSy := ([(42, none), (43, none), (44, none), (45, some 103), (77, none), (20, none)], fun v zs => match zs with
  | [H, l, i, p, x] => q_lrx (v 42) (v 43) (v 44) (g_sg (v 20) (g_b (v 77) 0)) (v 45) H l i p x
  | _ => True)
def j_s286 : zSy := ([(42, none), (43, none), (44, none)], fun v zs => match zs with
  | [k, l] => q_lrf (v 42) k l
  | _ => True)
def j_s287 : zSy := ([(45, none)], fun v zs => match zs with
  | [l, p, c, g, r] => q_nct (v 45) l p c g r
  | _ => True)
def j_s288 : zSy := ([(45, none)], fun v zs => match zs with
  | [p, c, u] => q_prx (v 45) p c u
  | _ => True)
def j_s289 : zSy := ([(47, some 0)], fun v zs => match zs with
  | [p, c] => q_rwd (v 47) p c
  | _ => True)
def j_s290 : zSy := ([(46, none), (45, none)], fun v zs => match zs with
  | [l, p, c, so] => q_src (v 46) (v 45) l p c so
  | _ => True)
def j_s291 : zSy := ([(46, none), (45, none)], fun v zs => match zs with
  | [l, c, so, i] => q_srx (v 46) (v 45) l c so i
  | _ => True)
def j_s292 : zSy := ([(46, some 103), (45, none)], fun v zs => match zs with
  | [l, c, so, i, x] => q_sry (v 46) (v 45) l c so i x
  | _ => True)
def j_s293 : zSy := ([(42, none), (43, none), (44, none), (77, none), (20, none)], fun v zs => match zs with
  | [H, k, l, g, r] => q_rws (v 42) (v 43) (v 44) (g_sg (v 20) (g_b (v 77) 0)) H k l g r
  | _ => True)
def j_s294 : zSy := ([(46, none), (42, none), (43, none), (44, none), (77, none), (20, none)], fun v zs => match zs with
  | [H, k, l, w] => q_sor (v 42) (v 43) (v 44) (g_sg (v 20) (g_b (v 77) 0)) (v 46) H k l w
  | _ => True)
def j_s295 : zSy := ([(42, none), (43, none), (44, none), (77, none), (20, none)], fun v zs => match zs with
  | [H, k, l, w, u] => q_rwc (v 42) (v 43) (v 44) (g_sg (v 20) (g_b (v 77) 0)) H k l w u
  | _ => True)
def j_s296 : zSy := ([(42, none), (43, none), (44, none), (77, none), (20, none)], fun v zs => match zs with
  | [H, k, l, w, u] => q_rwc (v 42) (v 43) (v 44) (g_sg (v 20) (g_b (v 77) 0)) H k l w u
  | _ => True)
def j_s297 : zSy := ([(42, none), (43, none), (44, none), (77, none), (20, none)], fun v zs => match zs with
  | [H, k, l, w, u] => q_fec (v 42) (v 43) (v 44) (g_sg (v 20) (g_b (v 77) 0)) H k l w u
  | _ => True)
def j_s298 : zSy := ([(42, none), (43, none), (44, none), (77, none), (20, none)], fun v zs => match zs with
  | [H, k, l, w, u] => q_fec (v 42) (v 43) (v 44) (g_sg (v 20) (g_b (v 77) 0)) H k l w u
  | _ => True)
def j_s299 : zSy := ([(83, some 7), (77, none), (21, none), (22, none), (23, none), (20, none)], fun v zs => match zs with
  | [qn, b, s, o, a1, a2, a3, n, H] => q_stb (v 83) (fun i_ => g_sg (v 20) (g_F v qn b s o a1 a2 a3 (g_nw v)) i_) n H
  | _ => True)
def j_s300 : zSy := ([(92, some 103)], fun v zs => match zs with
  | [H, l, n, i, x, y] => q_dgs (v 92) H l n i x y
  | _ => True)
def j_s301 : zSy := ([(92, none)], fun v zs => match zs with
  | [H, l, n] => q_dgd (v 92) H l n (-1)
  | _ => True)
def j_s302 : zSy := ([(42, none), (43, none), (44, none), (77, none), (20, none)], fun v zs => match zs with
  | [H, k, l, n, r] => q_ftr (v 42) (v 43) (v 44) (g_sg (v 20) (g_b (v 77) 0)) H k l n r
  | _ => True)
def j_s303 : zSy := ([(42, none), (43, none), (44, none), (77, none), (20, none)], fun v zs => match zs with
  | [H, k, l, n, j] => q_ft2 (v 42) (v 43) (v 44) (g_sg (v 20) (g_b (v 77) 0)) H l n j
  | _ => True)
def j_s304 : zSy := ([], fun v zs => match zs with
  | [i, u] => (0 ≤ i ∧ i ≤ 6) ∧ u = r_6 i.toNat
  | _ => True)
def j_s305 : zSy := ([(42, none), (43, none), (44, none), (77, none), (20, none)], fun v zs => match zs with
  | [H, k, l, x, m, r] => q_mct (v 42) (v 43) (v 44) (g_sg (v 20) (g_b (v 77) 0)) H k l x m r
  | _ => True)
def j_s306 : zSy := ([(93, none), (42, none), (43, none), (44, none), (77, none), (20, none)], fun v zs => match zs with
  | [H, k, l, w, x] => q_abv (v 42) (v 43) (v 44) (g_sg (v 20) (g_b (v 77) 0)) (v 93) H k l w x
  | _ => True)
def j_s307 : zSy := ([(93, none), (42, none), (43, none), (44, none), (77, none), (20, none)], fun v zs => match zs with
  | [H, k, l, w, x, i] => q_abx (v 42) (v 43) (v 44) (g_sg (v 20) (g_b (v 77) 0)) (v 93) H k l w x i
  | _ => True)
def j_s308 : zSy := ([(93, some 105), (42, none), (43, none), (44, none), (77, none), (20, none)], fun v zs => match zs with
  | [H, k, l, w, x, i, y] => q_aby (v 42) (v 43) (v 44) (g_sg (v 20) (g_b (v 77) 0)) (v 93) H k l w x i y
  | _ => True)
def j_s309 : zSy := ([(42, none), (43, none), (44, none), (77, none), (20, none)], fun v zs => match zs with
  | [H, k, l, x, g] => q_pct (v 42) (v 43) (v 44) (g_sg (v 20) (g_b (v 77) 0)) H k l x g
  | _ => True)
def j_s310 : zSy := ([(46, none)], fun v zs => match zs with
  | [f, i, x, w] => q_bpc (v 46) f i x w
  | _ => True)
def j_s311 : zSy := ([(93, none)], fun v zs => match zs with
  | [f, i, x, w] => q_bpm (v 93) f i x w
  | _ => True)
def j_s312 : zSy := ([(45, some 0)], fun v zs => match zs with
  | [i, x] => ∀ t : Int, 0 ≤ t → t < i → v 45 t = x
  | _ => True)
def j_s313 : zSy := ([(46, some 0)], fun v zs => match zs with
  | [i, x] => ∀ t : Int, 0 ≤ t → t < i → v 46 t = x
  | _ => True)
def j_s314 : zSy := ([(93, some 0)], fun v zs => match zs with
  | [i] => ∀ t : Int, 0 ≤ t → t < i → v 93 t = 0
  | _ => True)
def j_s315 : zSy := ([(34, some 7), (77, none), (21, none), (22, none), (23, none), (20, none)], fun v zs => match zs with
  | [qn, b, s, o, a1, a2, a3, n] => q_sts (v 34) (fun i_ => g_sg (v 20) (g_F v qn b s o a1 a2 a3 (g_nw v)) i_) n
  | _ => True)
def j_s316 : zSy := ([(35, some 9), (77, none), (21, none), (22, none), (23, none), (20, none), (18, none)], fun v zs => match zs with
  | [qn, b, s, o, a1, a2, a3, x, y, z, yy] => q_jrw (v 35) (g_jy v qn (g_F v qn b s o a1 a2 a3 (g_nw v)) yy) (g_F v qn b s o a1 a2 a3 (g_nw v)) x y z
  | _ => True)
def j_s317 : zSy := ([(37, some 2), (38, some 2), (34, none), (35, none), (40, none)], fun v zs => match zs with
  | [w, x, z] => q_dpt (v 37) (v 38) (v 40) (v 34) (o_J (v 35)) w x z
  | _ => True)
def j_s318 : zSy := ([(34, none), (35, none), (40, none)], fun v zs => match zs with
  | [w, z, t, x, h, y] => q_ppv (v 40) (v 34) (o_J (v 35)) w z t x h y
  | _ => True)
def j_s319 : zSy := ([(34, none), (35, none), (40, none)], fun v zs => match zs with
  | [w, t, x, z, l, y] => q_lwr (v 40) (v 34) (o_J (v 35)) w t x z l y
  | _ => True)
def j_s320 : zSy := ([(34, none), (35, none), (40, none)], fun v zs => match zs with
  | [w, l, h] => q_dvh (v 40) (v 34) (o_J (v 35)) l h
  | _ => True)
def j_s321 : zSy := ([(34, none), (35, none), (40, none)], fun v zs => match zs with
  | [w, l, y] => q_dvw (v 40) (v 34) (o_J (v 35)) w l y
  | _ => True)
def j_s322 : zSy := ([], fun v zs => match zs with
  | [x, t, z] => q_sin x t z
  | _ => True)
def j_s323 : zSy := ([], fun v zs => match zs with
  | [x, y] => o_sub x y
  | _ => True)
def j_s324 : zSy := ([(34, none), (35, none), (40, none)], fun v zs => match zs with
  | [w, y, x, z, r, p, i] => q_not (v 40) (v 34) (o_J (v 35)) w y x z r p i
  | _ => True)
def j_s325 : zSy := ([], fun v zs => match zs with
  | [x, t, r] => q_rsn x t r
  | _ => True)
def j_s326 : zSy := ([(40, none)], fun v zs => match zs with
  | [w, x] => (0 ≤ x ∧ x < 64) ∧ w ≤ v 40 x
  | _ => True)
def j_s327 : zSy := ([], fun v zs => match zs with
  | [x, h, r] => (0 ≤ x ∧ x < 64 ∧ 0 ≤ h ∧ h < 6) ∧ ((r = 1 ∧ r_bit x h) ∨ (r = 0 ∧ ¬ r_bit x h))
  | _ => True)
def j_s328 : zSy := ([(86, some 7), (77, none), (21, none), (22, none), (23, none), (20, none), (18, none)], fun v zs => match zs with
  | [qn, b, s, o, a1, a2, a3, n, H, yy] => q_hld (v 86) (g_jy v qn (g_F v qn b s o a1 a2 a3 (g_nw v)) yy) (g_F v qn b s o a1 a2 a3 (g_nw v)) n
  | _ => True)
def j_s329 : zSy := ([(87, some 9), (77, none), (21, none), (22, none), (23, none), (20, none)], fun v zs => match zs with
  | [qn, b, s, o, a1, a2, a3, k, x, m] => q_pos (v 87) (g_F v qn b s o a1 a2 a3 (g_nw v)) k x m
  | _ => True)
def j_s330 : zSy := ([(87, some 8), (77, none), (21, none), (22, none), (23, none), (20, none)], fun v zs => match zs with
  | [qn, b, s, o, a1, a2, a3, k, m] => q_cur (v 87) (g_F v qn b s o a1 a2 a3 (g_nw v)) k m
  | _ => True)
def j_s331 : zSy := ([(77, none), (21, none), (22, none), (23, none), (20, none)], fun v zs => match zs with
  | [qn, b, s, o, a1, a2, a3, k] => 0 ≤ k ∧ (o_A (o_a (g_F v qn b s o a1 a2 a3 (g_nw v)))).drop k.toNat = []
  | _ => True)
def j_s332 : zSy := ([(87, some 8), (77, none), (21, none), (22, none), (23, none), (20, none)], fun v zs => match zs with
  | [qn, b, s, o, a1, a2, a3, x, m, k] => q_nxs (v 87) (g_F v qn b s o a1 a2 a3 (g_nw v)) x m k
  | _ => True)
def j_s333 : zSy := ([(87, some 8), (77, none), (21, none), (22, none), (23, none), (20, none)], fun v zs => match zs with
  | [qn, b, s, o, a1, a2, a3, x, m, r] => q_nxf (v 87) (g_F v qn b s o a1 a2 a3 (g_nw v)) x m r
  | _ => True)
def j_s334 : zSy := ([(87, some 1)], fun v zs => match zs with
  | [h, m] => (0 ≤ m ∧ m ≤ 6) ∧ h ∈ o_l (v 87) m.toNat
  | _ => True)
def j_s335 : zSy := ([(87, some 7), (77, none), (21, none), (22, none), (23, none), (20, none), (18, none)], fun v zs => match zs with
  | [qn, b, s, o, a1, a2, a3, m, i, x, y, yy] => q_spl (v 87) v (g_jy v qn (g_F v qn b s o a1 a2 a3 (g_nw v)) yy) (g_F v qn b s o a1 a2 a3 (g_nw v)) m i x y
  | _ => True)
def j_s336 : zSy := ([(87, some 7), (77, none), (21, none), (22, none), (23, none), (20, none), (18, none)], fun v zs => match zs with
  | [qn, b, s, o, a1, a2, a3, m, i, x, y, yy] => q_sp1 (v 87) v (g_jy v qn (g_F v qn b s o a1 a2 a3 (g_nw v)) yy) (g_F v qn b s o a1 a2 a3 (g_nw v)) m i x y
  | _ => True)
def j_s337 : zSy := ([(77, none), (21, none), (22, none), (23, none), (20, none), (18, none)], fun v zs => match zs with
  | [qn, b, s, o, a1, a2, a3, w, k, x, yy] => o_v v (g_jy v qn (g_F v qn b s o a1 a2 a3 (g_nw v)) yy) (g_F v qn b s o a1 a2 a3 (g_nw v)) w k x
  | _ => True)
def j_s338 : zSy := ([(77, none), (21, none), (22, none), (23, none), (20, none), (18, none)], fun v zs => match zs with
  | [qn, b, s, o, a1, a2, a3, w, x, k, n] => q_moc v (g_jy v qn (g_F v qn b s o a1 a2 a3 (g_nw v)) 0) (g_F v qn b s o a1 a2 a3 (g_nw v)) w x k n
  | _ => True)
def j_s339 : zSy := ([(77, none), (21, none), (22, none), (23, none), (20, none), (18, none)], fun v zs => match zs with
  | [qn, b, s, o, a1, a2, a3, w, k, x, yy] => q_mpk v (g_jy v qn (g_F v qn b s o a1 a2 a3 (g_nw v)) yy) (g_F v qn b s o a1 a2 a3 (g_nw v)) w k x
  | _ => True)
def j_s340 : zSy := ([(77, none), (21, none), (22, none), (23, none), (20, none), (18, none)], fun v zs => match zs with
  | [qn, b, s, o, a1, a2, a3, w, x, k, y] => q_mne v (g_jy v qn (g_F v qn b s o a1 a2 a3 (g_nw v)) 0) (g_F v qn b s o a1 a2 a3 (g_nw v)) w x k y
  | _ => True)
def j_s341 : zSy := ([(87, some 0)], fun v zs => match zs with
  | [i, x] => (0 ≤ i ∧ i ≤ 6) ∧ x = o_t (o_l (v 87) i.toNat)
  | _ => True)
def j_s342 : zSy := ([(87, some 1)], fun v zs => match zs with
  | [h, i] => (0 ≤ i ∧ i ≤ 6) ∧ ∀ t : Int, 0 ≤ t → t < i → v 87 t ≠ h
  | _ => True)
def j_s343 : zSy := ([(83, some 7), (77, none), (21, none), (22, none), (23, none), (20, none)], fun v zs => match zs with
  | [qn, b, s, o, a1, a2, a3, n, H] => q_sta (v 83) (fun i_ => g_sg (v 20) (g_F v qn b s o a1 a2 a3 (g_nw v)) i_) (g_ha (g_F v qn b s o a1 a2 a3 (g_nw v))) n
  | _ => True)
def j_s344 : zSy := ([(36, some 9), (77, none), (21, none), (22, none), (23, none), (20, none)], fun v zs => match zs with
  | [qn, b, s, o, a1, a2, a3, x, y, z] => q_jrw (v 36) (g_j9 v qn (g_F v qn b s o a1 a2 a3 (g_nw v))) (g_F v qn b s o a1 a2 a3 (g_nw v)) x y z
  | _ => True)
def j_s345 : zSy := ([(84, some 7), (77, none), (21, none), (22, none), (23, none), (20, none), (18, none)], fun v zs => match zs with
  | [qn, b, s, o, a1, a2, a3, n, H] => q_hld (v 84) (g_jo v qn (g_F v qn b s o a1 a2 a3 (g_nw v))) (g_F v qn b s o a1 a2 a3 (g_nw v)) n
  | _ => True)
def j_s346 : zSy := ([(85, some 7), (77, none), (21, none), (22, none), (23, none), (20, none)], fun v zs => match zs with
  | [qn, b, s, o, a1, a2, a3, n, H] => q_hld (v 85) (g_j9 v qn (g_F v qn b s o a1 a2 a3 (g_nw v))) (g_F v qn b s o a1 a2 a3 (g_nw v)) n
  | _ => True)
def j_s347 : zSy := ([(86, some 1000207), (77, none), (21, none), (22, none), (23, none), (20, none), (18, none)], fun v zs => match zs with
  | [qn, b, s, o, a1, a2, a3, x, y, yy] => q_hly (v 86) (g_jy v qn (g_F v qn b s o a1 a2 a3 (g_nw v)) yy) (g_F v qn b s o a1 a2 a3 (g_nw v)) x y
  | _ => True)
def j_s348 : zSy := ([], fun v zs => match zs with
  | [k, x, y] => (0 ≤ x ∧ x < y ∧ y ≤ 9) ∧ k = 10 * x + y
  | _ => True)
def j_s349 : zSy := ([], fun v zs => match zs with
  | [k, H] => ∀ t_ z_ : Int, 0 ≤ t_ → t_ < z_ → z_ < H → z_ < 6 → k ≠ 10 * t_ + z_
  | _ => True)
def j_s350 : zSy := ([(35, none), (36, none), (77, none), (21, none), (22, none), (23, none), (20, none), (18, none)], fun v zs => match zs with
  | [qn, b, s, o, a1, a2, a3, e1, e2, e3, e4] => q_xch (v 35) (v 36) (g_jo v qn (g_F v qn b s o a1 a2 a3 (g_nw v))) (g_j9 v qn (g_F v qn b s o a1 a2 a3 (g_nw v))) (g_F v qn b s o a1 a2 a3 (g_nw v)) e1 e2 e3 e4
  | _ => True)
def j_s351 : zSy := ([(35, some 1000111), (36, some 1000111), (77, none), (21, none), (22, none), (23, none), (20, none), (18, none)], fun v zs => match zs with
  | [qn, b, s, o, a1, a2, a3, e1, e2, e3, e4, i] => q_xcx (v 35) (v 36) (g_jo v qn (g_F v qn b s o a1 a2 a3 (g_nw v))) (g_j9 v qn (g_F v qn b s o a1 a2 a3 (g_nw v))) (g_F v qn b s o a1 a2 a3 (g_nw v)) e1 e2 e3 e4 i
  | _ => True)
def j_s352 : zSy := ([(77, none), (21, none), (22, none), (23, none), (20, none), (18, none)], fun v zs => match zs with
  | [qn, b, s, o, a1, a2, a3, e1, e2, e3, e4, i, x, y] => q_xvl (g_jo v qn (g_F v qn b s o a1 a2 a3 (g_nw v))) (g_j9 v qn (g_F v qn b s o a1 a2 a3 (g_nw v))) (g_F v qn b s o a1 a2 a3 (g_nw v)) e1 e2 e3 e4 i x y
  | _ => True)
def j_s353 : zSy := ([], fun v zs => match zs with
  | [x, k, t, z] => q_pak x k t z
  | _ => True)
def j_s354 : zSy := ([], fun v zs => match zs with
  | [x, k] => q_npk x k
  | _ => True)
def j_s355 : zSy := ([(77, none), (21, none), (22, none), (23, none), (20, none), (18, none)], fun v zs => match zs with
  | [qn, b, s, o, a1, a2, a3, w, x, y] => o_E v (g_jy v qn (g_F v qn b s o a1 a2 a3 (g_nw v)) y) (g_F v qn b s o a1 a2 a3 (g_nw v)) w x
  | _ => True)
def j_s356 : zSy := ([(77, none), (21, none), (22, none), (23, none), (20, none), (18, none)], fun v zs => match zs with
  | [qn, b, s, o, a1, a2, a3, w, x, y] => ¬ o_E v (g_jy v qn (g_F v qn b s o a1 a2 a3 (g_nw v)) y) (g_F v qn b s o a1 a2 a3 (g_nw v)) w x
  | _ => True)
def j_s357 : zSy := ([(77, none), (21, none), (22, none), (23, none), (20, none), (18, none)], fun v zs => match zs with
  | [qn, b, s, o, a1, a2, a3, w, x, k] => o_p1 v (g_F v qn b s o a1 a2 a3 (g_nw v)) (g_jy v qn (g_F v qn b s o a1 a2 a3 (g_nw v))) w x k
  | _ => True)
def j_s358 : zSy := ([(77, none), (21, none), (22, none), (23, none), (20, none), (18, none)], fun v zs => match zs with
  | [qn, b, s, o, a1, a2, a3, w, x, k] => o_k1 v (g_F v qn b s o a1 a2 a3 (g_nw v)) (g_jy v qn (g_F v qn b s o a1 a2 a3 (g_nw v))) w x k
  | _ => True)
def j_s359 : zSy := ([(77, none), (21, none), (22, none), (23, none), (20, none), (18, none)], fun v zs => match zs with
  | [qn, b, s, o, a1, a2, a3, w, x, k, l] => o_p2 v (g_F v qn b s o a1 a2 a3 (g_nw v)) (g_jy v qn (g_F v qn b s o a1 a2 a3 (g_nw v))) w x k l
  | _ => True)
def j_s360 : zSy := ([(77, none), (21, none), (22, none), (23, none), (20, none), (18, none)], fun v zs => match zs with
  | [qn, b, s, o, a1, a2, a3, w, x, k, l] => o_k2 v (g_F v qn b s o a1 a2 a3 (g_nw v)) (g_jy v qn (g_F v qn b s o a1 a2 a3 (g_nw v))) w x k l
  | _ => True)
def j_s361 : zSy := ([(77, none), (21, none), (22, none), (23, none), (20, none), (18, none)], fun v zs => match zs with
  | [qn, b, s, o, a1, a2, a3, w, x, k] => ¬ o_E v (g_jy v qn (g_F v qn b s o a1 a2 a3 (g_nw v)) 0) (g_F v qn b s o a1 a2 a3 (g_nw v)) w x ∧ o_f1 v (g_F v qn b s o a1 a2 a3 (g_nw v)) (g_jy v qn (g_F v qn b s o a1 a2 a3 (g_nw v))) w x k
  | _ => True)
def j_s362 : zSy := ([(77, none), (21, none), (22, none), (23, none), (20, none), (18, none)], fun v zs => match zs with
  | [qn, b, s, o, a1, a2, a3, w, x, k, l] => ¬ o_E v (g_jy v qn (g_F v qn b s o a1 a2 a3 (g_nw v)) 0) (g_F v qn b s o a1 a2 a3 (g_nw v)) w x ∧ o_n1 v (g_F v qn b s o a1 a2 a3 (g_nw v)) (g_jy v qn (g_F v qn b s o a1 a2 a3 (g_nw v))) w x ∧ o_f2 v (g_F v qn b s o a1 a2 a3 (g_nw v)) (g_jy v qn (g_F v qn b s o a1 a2 a3 (g_nw v))) w x k l
  | _ => True)
def j_Tb : List zSy := [j_s, j_s, j_s, j_s, j_s, j_s, j_s, j_s, j_s, j_s, j_s, j_s, j_s, j_s, j_s, j_s, j_s, j_s, j_s, j_s, j_s20, j_s21, j_s22, j_s23, j_s24, j_s25, j_s26, j_s27, j_s28, j_s29, j_s30, j_s31, j_s32, j_s33, j_s34, j_s35, j_s36, j_s37, j_s38, j_s39, j_s40, j_s41, j_s42, j_s43, j_s44, j_s45, j_s46, j_s47, j_s48, j_s49, j_s50, j_s51, j_s52, j_s53, j_s54, j_s55, j_s56, j_s57, j_s58, j_s59, j_s60, j_s61, j_s62, j_s, j_s64, j_s65, j_s66, j_s67, j_s68, j_s69, j_s70, j_s71, j_s72, j_s73, j_s74, j_s75, j_s76, j_s77, j_s78, j_s79, j_s80, j_s81, j_s82, j_s83, j_s84, j_s85, j_s86, j_s87, j_s88, j_s89, j_s90, j_s91, j_s92, j_s93, j_s94, j_s95, j_s96, j_s97, j_s98, j_s, j_s100, j_s101, j_s102, j_s103, j_s104, j_s105, j_s106, j_s107, j_s108, j_s109, j_s110, j_s111, j_s, j_s, j_s, j_s, j_s, j_s, j_s, j_s, j_s, j_s, j_s, j_s, j_s, j_s, j_s, j_s, j_s, j_s, j_s, j_s, j_s, j_s, j_s, j_s, j_s, j_s, j_s, j_s, j_s, j_s, j_s, j_s, j_s, j_s, j_s, j_s, j_s, j_s, j_s, j_s, j_s, j_s, j_s, j_s, j_s, j_s, j_s, j_s, j_s, j_s, j_s, j_s, j_s, j_s, j_s, j_s, j_s, j_s, j_s, j_s, j_s, j_s, j_s, j_s, j_s, j_s, j_s, j_s, j_s, j_s, j_s, j_s, j_s, j_s, j_s, j_s, j_s, j_s, j_s, j_s, j_s, j_s, j_s, j_s, j_s, j_s, j_s, j_s, j_s200, j_s201, j_s202, j_s203, j_s204, j_s205, j_s206, j_s207, j_s208, j_s209, j_s210, j_s211, j_s212, j_s213, j_s214, j_s, j_s216, j_s217, j_s218, j_s219, j_s220, j_s221, j_s222, j_s223, j_s224, j_s225, j_s226, j_s227, j_s228, j_s229, j_s230, j_s231, j_s232, j_s233, j_s234, j_s235, j_s236, j_s237, j_s238, j_s239, j_s240, j_s241, j_s242, j_s243, j_s244, j_s245, j_s246, j_s247, j_s248, j_s249, j_s250, j_s251, j_s252, j_s253, j_s254, j_s255, j_s256, j_s257, j_s258, j_s259, j_s260, j_s261, j_s262, j_s263, j_s264, j_s265, j_s266, j_s, j_s, j_s, j_s270, j_s271, j_s272, j_s273, j_s274, j_s275, j_s276, j_s277, j_s278, j_s279, j_s280, j_s281, j_s282, j_s283, j_s284, j_s285, j_s286, j_s287, j_s288, j_s289, j_s290, j_s291, j_s292, j_s293, j_s294, j_s295, j_s296, j_s297, j_s298, j_s299, j_s300, j_s301, j_s302, j_s303, j_s304, j_s305, j_s306, j_s307, j_s308, j_s309, j_s310, j_s311, j_s312, j_s313, j_s314, j_s315, j_s316, j_s317, j_s318, j_s319, j_s320, j_s321, j_s322, j_s323, j_s324, j_s325, j_s326, j_s327, j_s328, j_s329, j_s330, j_s331, j_s332, j_s333, j_s334, j_s335, j_s336, j_s337, j_s338, j_s339, j_s340, j_s341, j_s342, j_s343, j_s344, j_s345, j_s346, j_s347, j_s348, j_s349, j_s350, j_s351, j_s352, j_s353, j_s354, j_s355, j_s356, j_s357, j_s358, j_s359, j_s360, j_s361, j_s362]
def j_N (v : zVw) (k : Nat) (zs : List Int) : Prop := match j_Tb[k]? with
  | some e => e.2 v zs
  | none => True
theorem j_N20 {v : zVw} {p c : Int} : j_N v 20 [p, c] = (t_b v p = c) := rfl
theorem j_N21 {v : zVw} {f c r : Int} : j_N v 21 [f, c, r] = (t_cl f c = r) := rfl
theorem j_N22 {v : zVw} {f n a p : Int} : j_N v 22 [f, n, a, p] = (q_runs (t_b v) f n a p) := rfl
theorem j_N23 {v : zVw} {f n a p : Int} : j_N v 23 [f, n, a, p] = (q_rune (t_b v) f n a p) := rfl
theorem j_N24 {v : zVw} {a e x : Int} : j_N v 24 [a, e, x] = (a ≤ e ∧ (e - a ≤ 4 → x = t_num (t_b v) 10 48 a (e - a).toNat)) := rfl
theorem j_N25 {v : zVw} {a e x : Int} : j_N v 25 [a, e, x] = (a ≤ e ∧ (e - a ≤ 8 → x = t_num (t_b v) 32 96 a (e - a).toNat)) := rfl
theorem j_N26 {v : zVw} {a e x : Int} : j_N v 26 [a, e, x] = (a ≤ e ∧ x = t_num (t_b v) 27 96 a (min (e - a) 8).toNat) := rfl
theorem j_N27 {v : zVw} {x a w i : Int} : j_N v 27 [x, a, w, i] = (q_wm (t_b v) x a w i) := rfl
theorem j_N28 {v : zVw} {x a w r : Int} : j_N v 28 [x, a, w, r] = ((r = 1 ∧ q_wm (t_b v) x a w 8) ∨ (r = 0 ∧ ¬ q_wm (t_b v) x a w 8)) := rfl
theorem j_N29 {v : zVw} {a w x : Int} : j_N v 29 [a, w, x] = (∃ m : Nat, x = 8 * m ∧ t_wd (t_b v) a w m = -1) := rfl
theorem j_N30 {v : zVw} {a w r : Int} : j_N v 30 [a, w, r] = (q_wid (t_b v) a w r) := rfl
theorem j_N31 {v : zVw} {n k p : Int} : j_N v 31 [n, k, p] = (0 ≤ n ∧ 0 ≤ k ∧ p = t_p (t_b v) n k.toNat ∧ ∀ j : Nat, (j : Int) < k → q_ar v n j) := rfl
theorem j_N32 {v : zVw} {n k s : Int} : j_N v 32 [n, k, s] = (s = t_s (t_b v) n k.toNat) := rfl
theorem j_N33 {v : zVw} {i : Int} : j_N v 33 [i] = (∀ k_ : Int, 0 ≤ k_ → k_ < i → v 98 k_ = 5) := rfl
theorem j_N34 {v : zVw} {n c : Int} : j_N v 34 [n, c] = (0 ≤ c ∧ q_66 fun a b => v 98 (6 * a + b) = a_lk (t_b v) n c.toNat a b) := rfl
theorem j_N35 {v : zVw} {n c : Int} : j_N v 35 [n, c] = (q_upto (t_b v) n c (q_ar v n)) := rfl
theorem j_N36 {v : zVw} {n c kd s x : Int} : j_N v 36 [n, c, kd, s, x] = (q_tok (t_b v) n c kd s x) := rfl
theorem j_N37 {v : zVw} {n : Int} : j_N v 37 [n] = (q_all (t_b v) n (q_ar v n)) := rfl
theorem j_N38 {v : zVw} {n c j : Int} : j_N v 38 [n, c, j] = (0 ≤ c ∧ q_66 fun a b => 6 * a + b ≠ j → v 98 (6 * a + b) = a_lk (t_b v) n c.toNat a b) := rfl
theorem j_N39 {v : zVw} {n c j x k : Int} : j_N v 39 [n, c, j, x, k] = (0 ≤ c ∧ (q_66 fun a b => 6 * a + b ≠ j → 6 * a + b ≠ k → v 98 (6 * a + b) = a_lk (t_b v) n c.toNat a b) ∧ (0 ≤ j → j ≠ k → v 98 j = x)) := rfl
theorem j_N40 {v : zVw} {n c st mo op H L W WP S : Int} : j_N v 40 [n, c, st, mo, op, H, L, W, WP, S] = (q_run2 (t_b v) n c st mo op H L W WP S) := rfl
theorem j_N41 {v : zVw} {n f p : Int} : j_N v 41 [n, f, p] = (q_res (t_b v) n f p) := rfl
theorem j_N42 {v : zVw} {n c K kd s : Int} : j_N v 42 [n, c, K, kd, s] = ((kd ≠ K → q_res (t_b v) n 1 s) ∧ (kd = K → q_go (t_b v) n c s)) := rfl
theorem j_N43 {v : zVw} {n c H : Int} : j_N v 43 [n, c, H] = (q_nms (t_b v) n c H (tx (t_b v) n) (v 97)) := rfl
theorem j_N44 {v : zVw} {n c r : Int} : j_N v 44 [n, c, r] = (q_fnd (t_b v) n c r) := rfl
theorem j_N45 {v : zVw} {n c j : Int} : j_N v 45 [n, c, j] = (q_nfd (t_b v) n c j) := rfl
theorem j_N46 {v : zVw} {n c r q x : Int} : j_N v 46 [n, c, r, q, x] = (0 ≤ c ∧ q_66 fun a b => v 98 (6 * a + b) = a_up (a_lk (t_b v) n c.toNat) r q x a b) := rfl
theorem j_N47 {v : zVw} {n f q : Int} : j_N v 47 [n, f, q] = (q_fin (t_b v) n f q) := rfl
theorem j_N48 {v : zVw} {kd : Int} : j_N v 48 [kd] = (a_p kd = false) := rfl
theorem j_N49 {v : zVw} {kd : Int} : j_N v 49 [kd] = (kd ≠ 42 ∧ kd ≠ 47) := rfl
theorem j_N50 {v : zVw} {c0 c i : Int} : j_N v 50 [c0, c, i] = (c0 + 1 ≤ c ∧ i + 1 ≤ c) := rfl
theorem j_N51 {v : zVw} {c i : Int} : j_N v 51 [c, i] = (i ≤ c) := rfl
theorem j_N52 {v : zVw} {n : Int} : j_N v 52 [n] = (∀ i : Int, 0 ≤ i → i < n → v 49 i = v 13 i) := rfl
theorem j_N53 {v : zVw} {n : Int} : j_N v 53 [n] = (∀ i : Int, 0 ≤ i → i < n → v 13 i = v 48 i) := rfl
theorem j_N54 {v : zVw} {n : Int} : j_N v 54 [n] = (∀ i : Int, 0 ≤ i → i < n → v 49 i = v 48 i) := rfl
theorem j_N55 {v : zVw} : j_N v 55 [] = (∀ k : Nat, k < 22 → v 54 k = t_key k) := rfl
theorem j_N56 {v : zVw} {n k i : Int} : j_N v 56 [n, k, i] = (0 ≤ n ∧ 0 ≤ k ∧ i ≤ n ∧ t_e1 (t_b v) 0 n i = t_s (t_b v) n k.toNat ∧ ∀ j : Nat, (j : Int) < k → q_mr v n j) := rfl
theorem j_N57 {v : zVw} {n : Int} : j_N v 57 [n] = (q_all (t_b v) n (q_mr v n)) := rfl
theorem j_N58 {v : zVw} {n c : Int} : j_N v 58 [n, c] = (q_upto (t_b v) n c (q_mr v n)) := rfl
theorem j_N59 {v : zVw} {n c u s : Int} : j_N v 59 [n, c, u, s] = (0 ≤ c ∧ 0 ≤ u ∧ u ≤ 41 ∧ t_km u = tk (t_b v) n c.toNat ∧ s = t_s (t_b v) n c.toNat) := rfl
theorem j_N60 {v : zVw} {x k kd : Int} : j_N v 60 [x, k, kd] = (0 ≤ k ∧ kd = t_kw x k.toNat ∧ k ≤ 22) := rfl
theorem j_N61 {v : zVw} {n c i : Int} : j_N v 61 [n, c, i] = (tk (t_b v) n c.toNat = 3 ∧ i = tx (t_b v) n c.toNat) := rfl
theorem j_N62 {v : zVw} {n c K u s : Int} : j_N v 62 [n, c, K, u, s] = ((u ≠ K → q_res (t_b v) n 1 s) ∧ (u = K → q_go (t_b v) n c s)) := rfl
theorem j_N64 {v : zVw} {n c H : Int} : j_N v 64 [n, c, H] = (q_nms (t_b v) n c H (ty (t_b v) n) (v 55)) := rfl
theorem j_N65 {v : zVw} {n c w : Int} : j_N v 65 [n, c, w] = (tk (t_b v) n c.toNat = 2 ∧ w = ty (t_b v) n c.toNat) := rfl
theorem j_N66 {v : zVw} {n c j : Int} : j_N v 66 [n, c, j] = (q_nfd (t_b v) n c j) := rfl
theorem j_N67 {v : zVw} {n c : Int} : j_N v 67 [n, c] = (q_hit (t_b v) n c) := rfl
theorem j_N68 {v : zVw} {n c s : Int} : j_N v 68 [n, c, s] = (q_go (t_b v) n c s) := rfl
theorem j_N69 {v : zVw} {n c h K s : Int} : j_N v 69 [n, c, h, K, s] = ((h = K → q_res (t_b v) n 2 s) ∧ (h < K → q_go (t_b v) n c s)) := rfl
theorem j_N70 {v : zVw} {u : Int} : j_N v 70 [u] = (u ≠ 6) := rfl
theorem j_N71 {v : zVw} {n c : Int} : j_N v 71 [n, c] = (a_p (tk (t_b v) n c.toNat) = false) := rfl
theorem j_N72 {v : zVw} {a w d : Int} : j_N v 72 [a, w, d] = (0 ≤ a ∧ d = a + 4 ∧ ∀ i : Nat, i < 4 → v 13 (a + i) = t_w4 w i) := rfl
theorem j_N73 {v : zVw} {a w d : Int} : j_N v 73 [a, w, d] = (0 ≤ a ∧ d = a + 4 ∧ ∀ i : Nat, i < 4 → v 48 (a + i) = t_w4 w i) := rfl
theorem j_N74 {v : zVw} {n : Int} : j_N v 74 [n] = (∃ c : Nat, q_end (t_b v) n c ∧ q_66 fun a b => v 98 (6 * a + b) = a_lk (t_b v) n c a b) := rfl
theorem j_N75 {v : zVw} {n : Int} : j_N v 75 [n] = (∃ c : Nat, q_end (t_b v) n c ∧ q_66 fun a b => v 18 (6 * a + b) = a_lk (t_b v) n c a b) := rfl
theorem j_N76 {v : zVw} {n H : Int} : j_N v 76 [n, H] = (q_fih (t_b v) n H) := rfl
theorem j_N77 {v : zVw} {s j : Int} : j_N v 77 [s, j] = (∀ k_ : Int, 0 ≤ k_ → 36 * s ≤ k_ → k_ < j → v 60 k_ = 5) := rfl
theorem j_N78 {v : zVw} {n c s : Int} : j_N v 78 [n, c, s] = (0 ≤ c ∧ 0 ≤ s ∧ q_66 fun a b => v 60 (36 * s + (6 * a + b)) = a_lk (t_b v) n c.toNat a b) := rfl
theorem j_N79 {v : zVw} {n c s j : Int} : j_N v 79 [n, c, s, j] = (0 ≤ c ∧ 0 ≤ s ∧ q_66 fun a b => 36 * s + (6 * a + b) ≠ j → v 60 (36 * s + (6 * a + b)) = a_lk (t_b v) n c.toNat a b) := rfl
theorem j_N80 {v : zVw} {n c s j x k : Int} : j_N v 80 [n, c, s, j, x, k] = (0 ≤ c ∧ 0 ≤ s ∧ (q_66 fun a b => 36 * s + (6 * a + b) ≠ j → 36 * s + (6 * a + b) ≠ k → v 60 (36 * s + (6 * a + b)) = a_lk (t_b v) n c.toNat a b) ∧ (0 ≤ j → j ≠ k → v 60 j = x)) := rfl
theorem j_N81 {v : zVw} {n s : Int} : j_N v 81 [n, s] = (0 ≤ s ∧ ∃ c : Nat, q_end (t_b v) n c ∧ q_66 fun a b => v 60 (36 * s + (6 * a + b)) = a_lk (t_b v) n c a b) := rfl
theorem j_N82 {v : zVw} {l s z : Int} : j_N v 82 [l, s, z] = (z = 1 → 0 ≤ l ∧ 0 ≤ s ∧ l + s = 1 ∧ q_66 fun a b => v 18 (6 * a + b) = v 60 (36 * l + (6 * a + b))) := rfl
theorem j_N83 {v : zVw} {j u : Int} : j_N v 83 [j, u] = (v 18 j = u) := rfl
theorem j_N84 {v : zVw} {j u : Int} : j_N v 84 [j, u] = (v 60 j = u) := rfl
theorem j_N85 {v : zVw} {l H s : Int} : j_N v 85 [l, H, s] = (0 ≤ l ∧ l ≠ s ∧ v 56 l = H) := rfl
theorem j_N86 {v : zVw} {n c k w : Int} : j_N v 86 [n, c, k, w] = (0 ≤ c ∧ w = a_nu (t_b v) n c.toNat k) := rfl
theorem j_N87 {v : zVw} {n k w : Int} : j_N v 87 [n, k, w] = (∃ c : Nat, q_end (t_b v) n c ∧ w = a_nu (t_b v) n c k) := rfl
theorem j_N88 {v : zVw} {l w s : Int} : j_N v 88 [l, w, s] = (0 ≤ l ∧ l ≠ s ∧ v 61 l = w) := rfl
theorem j_N89 {v : zVw} {l w s : Int} : j_N v 89 [l, w, s] = (0 ≤ l ∧ l ≠ s ∧ v 62 l = w) := rfl
theorem j_N90 {v : zVw} {l w s : Int} : j_N v 90 [l, w, s] = (0 ≤ l ∧ l ≠ s ∧ v 63 l = w) := rfl
theorem j_N91 {v : zVw} {l w s : Int} : j_N v 91 [l, w, s] = (0 ≤ l ∧ l ≠ s ∧ v 64 l = w) := rfl
theorem j_N92 {v : zVw} {n c H : Int} : j_N v 92 [n, c, H] = (q_hs (t_b v) n c H (v 99) (v 100)) := rfl
theorem j_N93 {v : zVw} {n H : Int} : j_N v 93 [n, H] = (q_fhs (t_b v) n H (v 99) (v 100)) := rfl
theorem j_N94 {v : zVw} {n H : Int} : j_N v 94 [n, H] = (q_fhs (t_b v) n H (v 19) (v 20)) := rfl
theorem j_N95 {v : zVw} {n c H s j : Int} : j_N v 95 [n, c, H, s, j] = (0 ≤ s ∧ j = 6 * s + H ∧ q_hs (t_b v) n c H (fun i => v 57 (6 * s + i)) (fun i => v 58 (6 * s + i))) := rfl
theorem j_N96 {v : zVw} {n H s : Int} : j_N v 96 [n, H, s] = (0 ≤ s ∧ q_fhs (t_b v) n H (fun i => v 57 (6 * s + i)) (fun i => v 58 (6 * s + i))) := rfl
theorem j_N97 {v : zVw} {i x : Int} : j_N v 97 [i, x] = ((mST0.getD i.toNat 0).toInt = x) := rfl
theorem j_N98 {v : zVw} {i x : Int} : j_N v 98 [i, x] = ((mST1.getD i.toNat 0).toInt = x) := rfl
theorem j_N100 {v : zVw} {x y c : Int} : j_N v 100 [x, y, c] = ((mOP 100 (Int32.ofInt x) (Int32.ofInt y)).toInt = c) := rfl
theorem j_N101 {v : zVw} {x y c : Int} : j_N v 101 [x, y, c] = ((mOP 101 (Int32.ofInt x) (Int32.ofInt y)).toInt = c) := rfl
theorem j_N102 {v : zVw} {x y c : Int} : j_N v 102 [x, y, c] = ((mOP 102 (Int32.ofInt x) (Int32.ofInt y)).toInt = c) := rfl
theorem j_N103 {v : zVw} {x y c : Int} : j_N v 103 [x, y, c] = ((mOP 103 (Int32.ofInt x) (Int32.ofInt y)).toInt = c) := rfl
theorem j_N104 {v : zVw} {x y c : Int} : j_N v 104 [x, y, c] = ((mOP 104 (Int32.ofInt x) (Int32.ofInt y)).toInt = c) := rfl
theorem j_N105 {v : zVw} {x y c : Int} : j_N v 105 [x, y, c] = ((mOP 105 (Int32.ofInt x) (Int32.ofInt y)).toInt = c) := rfl
theorem j_N106 {v : zVw} {x y c : Int} : j_N v 106 [x, y, c] = ((mOP 106 (Int32.ofInt x) (Int32.ofInt y)).toInt = c) := rfl
theorem j_N107 {v : zVw} {x y c : Int} : j_N v 107 [x, y, c] = ((mOP 107 (Int32.ofInt x) (Int32.ofInt y)).toInt = c) := rfl
theorem j_N108 {v : zVw} {x y c : Int} : j_N v 108 [x, y, c] = ((mOP 108 (Int32.ofInt x) (Int32.ofInt y)).toInt = c) := rfl
theorem j_N109 {v : zVw} {x y c : Int} : j_N v 109 [x, y, c] = ((mOP 109 (Int32.ofInt x) (Int32.ofInt y)).toInt = c) := rfl
theorem j_N110 {v : zVw} {x y c : Int} : j_N v 110 [x, y, c] = ((mOP 110 (Int32.ofInt x) (Int32.ofInt y)).toInt = c) := rfl
theorem j_N111 {v : zVw} {x y c : Int} : j_N v 111 [x, y, c] = ((mOP 111 (Int32.ofInt x) (Int32.ofInt y)).toInt = c) := rfl
theorem j_N200 {v : zVw} {l s z H : Int} : j_N v 200 [l, s, z, H] = (z = 1 → 0 ≤ l ∧ 0 ≤ s ∧ l + s = 1 ∧ H ≤ 6 ∧ ∀ i : Int, 0 ≤ i → i < H → v 19 i = v 57 (6 * l + i) ∧ v 20 i = v 58 (6 * l + i)) := rfl
theorem j_N201 {v : zVw} {n c l u : Int} : j_N v 201 [n, c, l, u] = (q_cy (t_b v) (v 102) (v 103) (v 104) n c l u) := rfl
theorem j_N202 {v : zVw} {n c l j : Int} : j_N v 202 [n, c, l, j] = (q_cyj (t_b v) (v 102) (v 103) (v 104) n c l j) := rfl
theorem j_N203 {v : zVw} {n c l k p : Int} : j_N v 203 [n, c, l, k, p] = (q_cyb (t_b v) (v 102) (v 103) (v 104) n c l k p) := rfl
theorem j_N204 {v : zVw} {l : Int} : j_N v 204 [l] = (∀ (i : Nat) (x : Int × Int), ([(0, 1), (7, 0), (1, 2), (0, 10), (4, 0), (7, 0), (1, 0), (7, 0)] : List (Int × Int))[i]? = some x → (i : Int) < l → v 102 i = x.1 ∧ v 103 i = x.2) := rfl
theorem j_N205 {v : zVw} {k : Int} : j_N v 205 [k] = (∀ j : Int, 0 ≤ j → j < k → v 104 j = if j = 2 then 2 else if j = 3 then 6 else 0) := rfl
theorem j_N206 {v : zVw} {n c d : Int} : j_N v 206 [n, c, d] = (q_uex (t_b v) n c d) := rfl
theorem j_N207 {v : zVw} {n c d : Int} : j_N v 207 [n, c, d] = (q_pex (t_b v) n c d) := rfl
theorem j_N208 {v : zVw} {n c d : Int} : j_N v 208 [n, c, d] = (q_eex (t_b v) n c d) := rfl
theorem j_N209 {v : zVw} {n c : Int} : j_N v 209 [n, c] = (p_A (p_w (t_b v) n c) = []) := rfl
theorem j_N210 {v : zVw} {n c : Int} : j_N v 210 [n, c] = (p_S (p_w (t_b v) n c) = []) := rfl
theorem j_N211 {v : zVw} {n c l k : Int} : j_N v 211 [n, c, l, k] = (q_beg (t_b v) n c l k) := rfl
theorem j_N212 {v : zVw} {n c j : Int} : j_N v 212 [n, c, j] = (q_jmp (t_b v) n c j) := rfl
theorem j_N213 {v : zVw} {n l : Int} : j_N v 213 [n, l] = (q_flw (t_b v) (v 102) (v 103) (v 104) n l) := rfl
theorem j_N214 {v : zVw} {n l : Int} : j_N v 214 [n, l] = (q_flw (t_b v) (v 21) (v 22) (v 23) n l) := rfl
theorem j_N216 {v : zVw} {n c s k w bb u : Int} : j_N v 216 [n, c, s, k, w, bb, u] = (q_my v n c s k w bb u) := rfl
theorem j_N217 {v : zVw} {n c s k w bb kk p f : Int} : j_N v 217 [n, c, s, k, w, bb, kk, p, f] = (q_myb v false n c s k w bb kk p f) := rfl
theorem j_N218 {v : zVw} {n c s k w bb kk p f : Int} : j_N v 218 [n, c, s, k, w, bb, kk, p, f] = (q_myb v true n c s k w bb kk p f) := rfl
theorem j_N219 {v : zVw} {n c s k : Int} : j_N v 219 [n, c, s, k] = (q_pb (t_b v) n c s k) := rfl
theorem j_N220 {v : zVw} {n c s k : Int} : j_N v 220 [n, c, s, k] = (q_pm (t_b v) n c s k) := rfl
theorem j_N221 {v : zVw} {n c s k : Int} : j_N v 221 [n, c, s, k] = (q_pt (t_b v) n c s k) := rfl
theorem j_N222 {v : zVw} {n c s k f : Int} : j_N v 222 [n, c, s, k, f] = (q_bm (t_b v) n c s k f) := rfl
theorem j_N223 {v : zVw} {n s : Int} : j_N v 223 [n, s] = (q_mflw v n s) := rfl
theorem j_N224 {v : zVw} {l s z qn : Int} : j_N v 224 [l, s, z, qn] = (z = 1 → q_leq v l s qn) := rfl
theorem j_N225 {v : zVw} {p s : Int} : j_N v 225 [p, s] = (130 * s ≤ p) := rfl
theorem j_N226 {v : zVw} {qn r i x top : Int} : j_N v 226 [qn, r, i, x, top] = (q_runc v qn r i x top) := rfl
theorem j_N227 {v : zVw} {qn r i x top z : Int} : j_N v 227 [qn, r, i, x, top, z] = (q_run2c v qn r i x top z) := rfl
theorem j_N228 {v : zVw} {qn k r : Int} : j_N v 228 [qn, k, r] = (q_vlc v qn k r) := rfl
theorem j_N229 {v : zVw} {r j m top : Int} : j_N v 229 [r, j, m, top] = (q_runt v r j m top) := rfl
theorem j_N230 {v : zVw} {r j m top z : Int} : j_N v 230 [r, j, m, top, z] = (q_runt2 v r j m top z) := rfl
theorem j_N231 {v : zVw} {a b r : Int} : j_N v 231 [a, b, r] = (q_val v a b r) := rfl
theorem j_N232 {v : zVw} {r j l : Int} : j_N v 232 [r, j, l] = (q_runb v r j l) := rfl
theorem j_N233 {v : zVw} {s k p r : Int} : j_N v 233 [s, k, p, r] = (q_vlm v s k p r) := rfl
theorem j_N234 {v : zVw} {qn k r e0 e1 e2 e3 e4 e5 e6 e7 e8 : Int} : j_N v 234 [qn, k, r, e0, e1, e2, e3, e4, e5, e6, e7, e8] = (q_plc v qn k r (e_9 e0 e1 e2 e3 e4 e5 e6 e7 e8)) := rfl
theorem j_N235 {v : zVw} {H p y d qn b s o a1 a2 a3 : Int} : j_N v 235 [H, p, y, d, qn, b, s, o, a1, a2, a3] = (q_sto v 0 H p y d qn b s o a1 a2 a3) := rfl
theorem j_N236 {v : zVw} {H p y d qn b s o a1 a2 a3 : Int} : j_N v 236 [H, p, y, d, qn, b, s, o, a1, a2, a3] = (q_sto v 1 H p y d qn b s o a1 a2 a3) := rfl
theorem j_N237 {v : zVw} {H qn b s o a1 a2 a3 : Int} : j_N v 237 [H, qn, b, s, o, a1, a2, a3] = (q_rwo v H qn b s o a1 a2 a3) := rfl
theorem j_N238 {v : zVw} {c qn b s o a1 a2 a3 x1 x2 u : Int} : j_N v 238 [c, qn, b, s, o, a1, a2, a3, x1, x2, u] = (q_qry v c qn b s o a1 a2 a3 x1 x2 u) := rfl
theorem j_N239 {v : zVw} : j_N v 239 [] = (q_ner v) := rfl
theorem j_N240 {v : zVw} {H p y d : Int} : j_N v 240 [H, p, y, d] = (q_str v H p y d) := rfl
theorem j_N241 {v : zVw} {f H p y d : Int} : j_N v 241 [f, H, p, y, d] = ((1 ≤ f ∧ f ≤ 44) ∧ q_eqs v f H p y d) := rfl
theorem j_N242 {v : zVw} {H o u e : Int} : j_N v 242 [H, o, u, e] = (q_hx v (-1) H o u e) := rfl
theorem j_N243 {v : zVw} {c H o u e : Int} : j_N v 243 [c, H, o, u, e] = (q_hx v c H o u e) := rfl
theorem j_N244 {v : zVw} {H o u e p : Int} : j_N v 244 [H, o, u, e, p] = ((p = 33 * u + 33 * e ∧ 0 ≤ e) ∧ q_hk v H o u e) := rfl
theorem j_N245 {v : zVw} {H p y d z : Int} : j_N v 245 [H, p, y, d, z] = (q_sh v 81 H p y d z) := rfl
theorem j_N246 {v : zVw} {H z0 z1 z2 : Int} : j_N v 246 [H, z0, z1, z2] = (q_sl v (-1) H z0 z1 z2) := rfl
theorem j_N247 {v : zVw} {c H z0 z1 z2 : Int} : j_N v 247 [c, H, z0, z1, z2] = (0 ≤ c ∧ q_sl v c H z0 z1 z2) := rfl
theorem j_N248 {v : zVw} {f H : Int} : j_N v 248 [f, H] = ((1 ≤ f ∧ f ≤ 44) ∧ g_sb v H ∧ q_kp v f.toNat H (g_nw v)) := rfl
theorem j_N249 {v : zVw} {H p y d k : Int} : j_N v 249 [H, p, y, d, k] = (q_sh v 95 H p y d k) := rfl
theorem j_N250 {v : zVw} {H o k : Int} : j_N v 250 [H, o, k] = (q_hks v H o k) := rfl
theorem j_N251 {v : zVw} {H o k x : Int} : j_N v 251 [H, o, k, x] = (q_hkx v H o k x) := rfl
theorem j_N252 {v : zVw} {qn b s o a1 a2 a3 j m : Int} : j_N v 252 [qn, b, s, o, a1, a2, a3, j, m] = (q_mgn v qn b s o a1 a2 a3 j m) := rfl
theorem j_N253 {v : zVw} {w i : Int} : j_N v 253 [w, i] = (∀ t : Int, 0 ≤ t → t < i → w ≤ v 25 t) := rfl
theorem j_N254 {v : zVw} {w m r : Int} : j_N v 254 [w, m, r] = ((0 ≤ r ∧ r < m ∧ v 25 r < w ∧ ∀ t : Int, 0 ≤ t → t < r → w ≤ v 25 t) ∨ (r = -1 ∧ ∀ t : Int, 0 ≤ t → t < m → w ≤ v 25 t)) := rfl
theorem j_N255 {v : zVw} {z w r : Int} : j_N v 255 [z, w, r] = (r = g_lot z w) := rfl
theorem j_N256 {v : zVw} {h t r : Int} : j_N v 256 [h, t, r] = (r = g_mx h t) := rfl
theorem j_N257 {v : zVw} {H p y d qn b s o a1 a2 a3 h pl x z : Int} : j_N v 257 [H, p, y, d, qn, b, s, o, a1, a2, a3, h, pl, x, z] = (q_sax v 0 H p y d qn b s o a1 a2 a3 h pl x z) := rfl
theorem j_N258 {v : zVw} {H p y d qn b s o a1 a2 a3 h pl x z : Int} : j_N v 258 [H, p, y, d, qn, b, s, o, a1, a2, a3, h, pl, x, z] = (q_sax v 1 H p y d qn b s o a1 a2 a3 h pl x z) := rfl
theorem j_N259 {v : zVw} {H p y d h x g : Int} : j_N v 259 [H, p, y, d, h, x, g] = (q_spx v H p y d h x g) := rfl
theorem j_N260 {v : zVw} {c qn b s o a1 a2 a3 x1 x2 u : Int} : j_N v 260 [c, qn, b, s, o, a1, a2, a3, x1, x2, u] = (q_qry v c qn b s o a1 a2 a3 x1 x2 u) := rfl
theorem j_N261 {v : zVw} {k : Int} : j_N v 261 [k] = (True) := rfl
theorem j_N262 {v : zVw} {h u : Int} : j_N v 262 [h, u] = (v 20 h = u) := rfl
theorem j_N263 {v : zVw} {H e1 e2 e3 e4 e5 e6 : Int} : j_N v 263 [H, e1, e2, e3, e4, e5, e6] = (q_rnx v H e1 e2 e3 e4 e5 e6) := rfl
theorem j_N264 {v : zVw} {H j e1 e2 e3 e4 : Int} : j_N v 264 [H, j, e1, e2, e3, e4] = (q_rlx v H j e1 e2 e3 e4) := rfl
theorem j_N265 {v : zVw} {H qn b s o a1 a2 a3 e1 e2 : Int} : j_N v 265 [H, qn, b, s, o, a1, a2, a3, e1, e2] = (q_ryx v H qn b s o a1 a2 a3 e1 e2) := rfl
theorem j_N266 {v : zVw} {qn b s o a1 a2 a3 n : Int} : j_N v 266 [qn, b, s, o, a1, a2, a3, n] = (q_grn v qn b s o a1 a2 a3 n) := rfl
theorem j_N270 {v : zVw} {i : Int} : j_N v 270 [i] = (∀ t : Int, 0 ≤ t → t < i → v 28 t = 0) := rfl
theorem j_N271 {v : zVw} : j_N v 271 [] = (∀ i : Int, 0 ≤ i → i < 6 → v 27 i = v 99 i ∧ v 28 i = 0) := rfl
theorem j_N272 {v : zVw} : j_N v 272 [] = (∀ i : Int, 0 ≤ i → i < 6 → v 27 i = v 19 i ∧ v 28 i = 0) := rfl
theorem j_N273 {v : zVw} {l h : Int} : j_N v 273 [l, h] = (q_bgm v false l h) := rfl
theorem j_N274 {v : zVw} {l h : Int} : j_N v 274 [l, h] = (q_bgm v true l h) := rfl
theorem j_N275 {v : zVw} {l h : Int} : j_N v 275 [l, h] = (q_nbg v l h) := rfl
theorem j_N276 {v : zVw} {x r : Int} : j_N v 276 [x, r] = (r = x % 2 + x / 2 % 2 + x / 4 % 2) := rfl
theorem j_N277 {v : zVw} {qn b s o a1 a2 a3 n : Int} : j_N v 277 [qn, b, s, o, a1, a2, a3, n] = (q_smp v qn b s o a1 a2 a3 n) := rfl
theorem j_N278 {v : zVw} {qn b s o a1 a2 a3 n : Int} : j_N v 278 [qn, b, s, o, a1, a2, a3, n] = (q_lng v qn b s o a1 a2 a3 n) := rfl
theorem j_N279 {v : zVw} {qn b s o a1 a2 a3 n : Int} : j_N v 279 [qn, b, s, o, a1, a2, a3, n] = (q_cst v qn b s o a1 a2 a3 n) := rfl
theorem j_N280 {v : zVw} {x i r : Int} : j_N v 280 [x, i, r] = (r = g_bc x i.toNat) := rfl
theorem j_N281 {v : zVw} : j_N v 281 [] = (q_teq (v 42) (v 43) (v 44) (v 89) (v 90) (v 91)) := rfl
theorem j_N282 {v : zVw} {n : Int} : j_N v 282 [n] = (q_tep (v 42) (v 43) (v 44) (v 89) (v 90) (v 91) n) := rfl
theorem j_N283 {v : zVw} {n i w s : Int} : j_N v 283 [n, i, w, s] = (q_tex (v 42) (v 43) (v 44) (v 89) (v 90) (v 91) n i w s) := rfl
theorem j_N284 {v : zVw} {H l i : Int} : j_N v 284 [H, l, i] = (q_lrn (v 42) (v 43) (v 44) (g_sg (v 20) (g_b (v 77) 0)) (v 45) H l i) := rfl
theorem j_N285 {v : zVw} {H l i p x : Int} : j_N v 285 [H, l, i, p, x] = (q_lrx (v 42) (v 43) (v 44) (g_sg (v 20) (g_b (v 77) 0)) (v 45) H l i p x) := rfl
theorem j_N286 {v : zVw} {k l : Int} : j_N v 286 [k, l] = (q_lrf (v 42) k l) := rfl
theorem j_N287 {v : zVw} {l p c g r : Int} : j_N v 287 [l, p, c, g, r] = (q_nct (v 45) l p c g r) := rfl
theorem j_N288 {v : zVw} {p c u : Int} : j_N v 288 [p, c, u] = (q_prx (v 45) p c u) := rfl
theorem j_N289 {v : zVw} {p c : Int} : j_N v 289 [p, c] = (q_rwd (v 47) p c) := rfl
theorem j_N290 {v : zVw} {l p c so : Int} : j_N v 290 [l, p, c, so] = (q_src (v 46) (v 45) l p c so) := rfl
theorem j_N291 {v : zVw} {l c so i : Int} : j_N v 291 [l, c, so, i] = (q_srx (v 46) (v 45) l c so i) := rfl
theorem j_N292 {v : zVw} {l c so i x : Int} : j_N v 292 [l, c, so, i, x] = (q_sry (v 46) (v 45) l c so i x) := rfl
theorem j_N293 {v : zVw} {H k l g r : Int} : j_N v 293 [H, k, l, g, r] = (q_rws (v 42) (v 43) (v 44) (g_sg (v 20) (g_b (v 77) 0)) H k l g r) := rfl
theorem j_N294 {v : zVw} {H k l w : Int} : j_N v 294 [H, k, l, w] = (q_sor (v 42) (v 43) (v 44) (g_sg (v 20) (g_b (v 77) 0)) (v 46) H k l w) := rfl
theorem j_N295 {v : zVw} {H k l w u : Int} : j_N v 295 [H, k, l, w, u] = (q_rwc (v 42) (v 43) (v 44) (g_sg (v 20) (g_b (v 77) 0)) H k l w u) := rfl
theorem j_N296 {v : zVw} {H k l w u : Int} : j_N v 296 [H, k, l, w, u] = (q_rwc (v 42) (v 43) (v 44) (g_sg (v 20) (g_b (v 77) 0)) H k l w u) := rfl
theorem j_N297 {v : zVw} {H k l w u : Int} : j_N v 297 [H, k, l, w, u] = (q_fec (v 42) (v 43) (v 44) (g_sg (v 20) (g_b (v 77) 0)) H k l w u) := rfl
theorem j_N298 {v : zVw} {H k l w u : Int} : j_N v 298 [H, k, l, w, u] = (q_fec (v 42) (v 43) (v 44) (g_sg (v 20) (g_b (v 77) 0)) H k l w u) := rfl
theorem j_N299 {v : zVw} {qn b s o a1 a2 a3 n H : Int} : j_N v 299 [qn, b, s, o, a1, a2, a3, n, H] = (q_stb (v 83) (fun i_ => g_sg (v 20) (g_F v qn b s o a1 a2 a3 (g_nw v)) i_) n H) := rfl
theorem j_N300 {v : zVw} {H l n i x y : Int} : j_N v 300 [H, l, n, i, x, y] = (q_dgs (v 92) H l n i x y) := rfl
theorem j_N301 {v : zVw} {H l n : Int} : j_N v 301 [H, l, n] = (q_dgd (v 92) H l n (-1)) := rfl
theorem j_N302 {v : zVw} {H k l n r : Int} : j_N v 302 [H, k, l, n, r] = (q_ftr (v 42) (v 43) (v 44) (g_sg (v 20) (g_b (v 77) 0)) H k l n r) := rfl
theorem j_N303 {v : zVw} {H k l n j : Int} : j_N v 303 [H, k, l, n, j] = (q_ft2 (v 42) (v 43) (v 44) (g_sg (v 20) (g_b (v 77) 0)) H l n j) := rfl
theorem j_N304 {v : zVw} {i u : Int} : j_N v 304 [i, u] = ((0 ≤ i ∧ i ≤ 6) ∧ u = r_6 i.toNat) := rfl
theorem j_N305 {v : zVw} {H k l x m r : Int} : j_N v 305 [H, k, l, x, m, r] = (q_mct (v 42) (v 43) (v 44) (g_sg (v 20) (g_b (v 77) 0)) H k l x m r) := rfl
theorem j_N306 {v : zVw} {H k l w x : Int} : j_N v 306 [H, k, l, w, x] = (q_abv (v 42) (v 43) (v 44) (g_sg (v 20) (g_b (v 77) 0)) (v 93) H k l w x) := rfl
theorem j_N307 {v : zVw} {H k l w x i : Int} : j_N v 307 [H, k, l, w, x, i] = (q_abx (v 42) (v 43) (v 44) (g_sg (v 20) (g_b (v 77) 0)) (v 93) H k l w x i) := rfl
theorem j_N308 {v : zVw} {H k l w x i y : Int} : j_N v 308 [H, k, l, w, x, i, y] = (q_aby (v 42) (v 43) (v 44) (g_sg (v 20) (g_b (v 77) 0)) (v 93) H k l w x i y) := rfl
theorem j_N309 {v : zVw} {H k l x g : Int} : j_N v 309 [H, k, l, x, g] = (q_pct (v 42) (v 43) (v 44) (g_sg (v 20) (g_b (v 77) 0)) H k l x g) := rfl
theorem j_N310 {v : zVw} {f i x w : Int} : j_N v 310 [f, i, x, w] = (q_bpc (v 46) f i x w) := rfl
theorem j_N311 {v : zVw} {f i x w : Int} : j_N v 311 [f, i, x, w] = (q_bpm (v 93) f i x w) := rfl
theorem j_N312 {v : zVw} {i x : Int} : j_N v 312 [i, x] = (∀ t : Int, 0 ≤ t → t < i → v 45 t = x) := rfl
theorem j_N313 {v : zVw} {i x : Int} : j_N v 313 [i, x] = (∀ t : Int, 0 ≤ t → t < i → v 46 t = x) := rfl
theorem j_N314 {v : zVw} {i : Int} : j_N v 314 [i] = (∀ t : Int, 0 ≤ t → t < i → v 93 t = 0) := rfl
theorem j_N315 {v : zVw} {qn b s o a1 a2 a3 n : Int} : j_N v 315 [qn, b, s, o, a1, a2, a3, n] = (q_sts (v 34) (fun i_ => g_sg (v 20) (g_F v qn b s o a1 a2 a3 (g_nw v)) i_) n) := rfl
theorem j_N316 {v : zVw} {qn b s o a1 a2 a3 x y z yy : Int} : j_N v 316 [qn, b, s, o, a1, a2, a3, x, y, z, yy] = (q_jrw (v 35) (g_jy v qn (g_F v qn b s o a1 a2 a3 (g_nw v)) yy) (g_F v qn b s o a1 a2 a3 (g_nw v)) x y z) := rfl
theorem j_N317 {v : zVw} {w x z : Int} : j_N v 317 [w, x, z] = (q_dpt (v 37) (v 38) (v 40) (v 34) (o_J (v 35)) w x z) := rfl
theorem j_N318 {v : zVw} {w z t x h y : Int} : j_N v 318 [w, z, t, x, h, y] = (q_ppv (v 40) (v 34) (o_J (v 35)) w z t x h y) := rfl
theorem j_N319 {v : zVw} {w t x z l y : Int} : j_N v 319 [w, t, x, z, l, y] = (q_lwr (v 40) (v 34) (o_J (v 35)) w t x z l y) := rfl
theorem j_N320 {v : zVw} {w l h : Int} : j_N v 320 [w, l, h] = (q_dvh (v 40) (v 34) (o_J (v 35)) l h) := rfl
theorem j_N321 {v : zVw} {w l y : Int} : j_N v 321 [w, l, y] = (q_dvw (v 40) (v 34) (o_J (v 35)) w l y) := rfl
theorem j_N322 {v : zVw} {x t z : Int} : j_N v 322 [x, t, z] = (q_sin x t z) := rfl
theorem j_N323 {v : zVw} {x y : Int} : j_N v 323 [x, y] = (o_sub x y) := rfl
theorem j_N324 {v : zVw} {w y x z r p i : Int} : j_N v 324 [w, y, x, z, r, p, i] = (q_not (v 40) (v 34) (o_J (v 35)) w y x z r p i) := rfl
theorem j_N325 {v : zVw} {x t r : Int} : j_N v 325 [x, t, r] = (q_rsn x t r) := rfl
theorem j_N326 {v : zVw} {w x : Int} : j_N v 326 [w, x] = ((0 ≤ x ∧ x < 64) ∧ w ≤ v 40 x) := rfl
theorem j_N327 {v : zVw} {x h r : Int} : j_N v 327 [x, h, r] = ((0 ≤ x ∧ x < 64 ∧ 0 ≤ h ∧ h < 6) ∧ ((r = 1 ∧ r_bit x h) ∨ (r = 0 ∧ ¬ r_bit x h))) := rfl
theorem j_N328 {v : zVw} {qn b s o a1 a2 a3 n H yy : Int} : j_N v 328 [qn, b, s, o, a1, a2, a3, n, H, yy] = (q_hld (v 86) (g_jy v qn (g_F v qn b s o a1 a2 a3 (g_nw v)) yy) (g_F v qn b s o a1 a2 a3 (g_nw v)) n) := rfl
theorem j_N329 {v : zVw} {qn b s o a1 a2 a3 k x m : Int} : j_N v 329 [qn, b, s, o, a1, a2, a3, k, x, m] = (q_pos (v 87) (g_F v qn b s o a1 a2 a3 (g_nw v)) k x m) := rfl
theorem j_N330 {v : zVw} {qn b s o a1 a2 a3 k m : Int} : j_N v 330 [qn, b, s, o, a1, a2, a3, k, m] = (q_cur (v 87) (g_F v qn b s o a1 a2 a3 (g_nw v)) k m) := rfl
theorem j_N331 {v : zVw} {qn b s o a1 a2 a3 k : Int} : j_N v 331 [qn, b, s, o, a1, a2, a3, k] = (0 ≤ k ∧ (o_A (o_a (g_F v qn b s o a1 a2 a3 (g_nw v)))).drop k.toNat = []) := rfl
theorem j_N332 {v : zVw} {qn b s o a1 a2 a3 x m k : Int} : j_N v 332 [qn, b, s, o, a1, a2, a3, x, m, k] = (q_nxs (v 87) (g_F v qn b s o a1 a2 a3 (g_nw v)) x m k) := rfl
theorem j_N333 {v : zVw} {qn b s o a1 a2 a3 x m r : Int} : j_N v 333 [qn, b, s, o, a1, a2, a3, x, m, r] = (q_nxf (v 87) (g_F v qn b s o a1 a2 a3 (g_nw v)) x m r) := rfl
theorem j_N334 {v : zVw} {h m : Int} : j_N v 334 [h, m] = ((0 ≤ m ∧ m ≤ 6) ∧ h ∈ o_l (v 87) m.toNat) := rfl
theorem j_N335 {v : zVw} {qn b s o a1 a2 a3 m i x y yy : Int} : j_N v 335 [qn, b, s, o, a1, a2, a3, m, i, x, y, yy] = (q_spl (v 87) v (g_jy v qn (g_F v qn b s o a1 a2 a3 (g_nw v)) yy) (g_F v qn b s o a1 a2 a3 (g_nw v)) m i x y) := rfl
theorem j_N336 {v : zVw} {qn b s o a1 a2 a3 m i x y yy : Int} : j_N v 336 [qn, b, s, o, a1, a2, a3, m, i, x, y, yy] = (q_sp1 (v 87) v (g_jy v qn (g_F v qn b s o a1 a2 a3 (g_nw v)) yy) (g_F v qn b s o a1 a2 a3 (g_nw v)) m i x y) := rfl
theorem j_N337 {v : zVw} {qn b s o a1 a2 a3 w k x yy : Int} : j_N v 337 [qn, b, s, o, a1, a2, a3, w, k, x, yy] = (o_v v (g_jy v qn (g_F v qn b s o a1 a2 a3 (g_nw v)) yy) (g_F v qn b s o a1 a2 a3 (g_nw v)) w k x) := rfl
theorem j_N338 {v : zVw} {qn b s o a1 a2 a3 w x k n : Int} : j_N v 338 [qn, b, s, o, a1, a2, a3, w, x, k, n] = (q_moc v (g_jy v qn (g_F v qn b s o a1 a2 a3 (g_nw v)) 0) (g_F v qn b s o a1 a2 a3 (g_nw v)) w x k n) := rfl
theorem j_N339 {v : zVw} {qn b s o a1 a2 a3 w k x yy : Int} : j_N v 339 [qn, b, s, o, a1, a2, a3, w, k, x, yy] = (q_mpk v (g_jy v qn (g_F v qn b s o a1 a2 a3 (g_nw v)) yy) (g_F v qn b s o a1 a2 a3 (g_nw v)) w k x) := rfl
theorem j_N340 {v : zVw} {qn b s o a1 a2 a3 w x k y : Int} : j_N v 340 [qn, b, s, o, a1, a2, a3, w, x, k, y] = (q_mne v (g_jy v qn (g_F v qn b s o a1 a2 a3 (g_nw v)) 0) (g_F v qn b s o a1 a2 a3 (g_nw v)) w x k y) := rfl
theorem j_N341 {v : zVw} {i x : Int} : j_N v 341 [i, x] = ((0 ≤ i ∧ i ≤ 6) ∧ x = o_t (o_l (v 87) i.toNat)) := rfl
theorem j_N342 {v : zVw} {h i : Int} : j_N v 342 [h, i] = ((0 ≤ i ∧ i ≤ 6) ∧ ∀ t : Int, 0 ≤ t → t < i → v 87 t ≠ h) := rfl
theorem j_N343 {v : zVw} {qn b s o a1 a2 a3 n H : Int} : j_N v 343 [qn, b, s, o, a1, a2, a3, n, H] = (q_sta (v 83) (fun i_ => g_sg (v 20) (g_F v qn b s o a1 a2 a3 (g_nw v)) i_) (g_ha (g_F v qn b s o a1 a2 a3 (g_nw v))) n) := rfl
theorem j_N344 {v : zVw} {qn b s o a1 a2 a3 x y z : Int} : j_N v 344 [qn, b, s, o, a1, a2, a3, x, y, z] = (q_jrw (v 36) (g_j9 v qn (g_F v qn b s o a1 a2 a3 (g_nw v))) (g_F v qn b s o a1 a2 a3 (g_nw v)) x y z) := rfl
theorem j_N345 {v : zVw} {qn b s o a1 a2 a3 n H : Int} : j_N v 345 [qn, b, s, o, a1, a2, a3, n, H] = (q_hld (v 84) (g_jo v qn (g_F v qn b s o a1 a2 a3 (g_nw v))) (g_F v qn b s o a1 a2 a3 (g_nw v)) n) := rfl
theorem j_N346 {v : zVw} {qn b s o a1 a2 a3 n H : Int} : j_N v 346 [qn, b, s, o, a1, a2, a3, n, H] = (q_hld (v 85) (g_j9 v qn (g_F v qn b s o a1 a2 a3 (g_nw v))) (g_F v qn b s o a1 a2 a3 (g_nw v)) n) := rfl
theorem j_N347 {v : zVw} {qn b s o a1 a2 a3 x y yy : Int} : j_N v 347 [qn, b, s, o, a1, a2, a3, x, y, yy] = (q_hly (v 86) (g_jy v qn (g_F v qn b s o a1 a2 a3 (g_nw v)) yy) (g_F v qn b s o a1 a2 a3 (g_nw v)) x y) := rfl
theorem j_N348 {v : zVw} {k x y : Int} : j_N v 348 [k, x, y] = ((0 ≤ x ∧ x < y ∧ y ≤ 9) ∧ k = 10 * x + y) := rfl
theorem j_N349 {v : zVw} {k H : Int} : j_N v 349 [k, H] = (∀ t_ z_ : Int, 0 ≤ t_ → t_ < z_ → z_ < H → z_ < 6 → k ≠ 10 * t_ + z_) := rfl
theorem j_N350 {v : zVw} {qn b s o a1 a2 a3 e1 e2 e3 e4 : Int} : j_N v 350 [qn, b, s, o, a1, a2, a3, e1, e2, e3, e4] = (q_xch (v 35) (v 36) (g_jo v qn (g_F v qn b s o a1 a2 a3 (g_nw v))) (g_j9 v qn (g_F v qn b s o a1 a2 a3 (g_nw v))) (g_F v qn b s o a1 a2 a3 (g_nw v)) e1 e2 e3 e4) := rfl
theorem j_N351 {v : zVw} {qn b s o a1 a2 a3 e1 e2 e3 e4 i : Int} : j_N v 351 [qn, b, s, o, a1, a2, a3, e1, e2, e3, e4, i] = (q_xcx (v 35) (v 36) (g_jo v qn (g_F v qn b s o a1 a2 a3 (g_nw v))) (g_j9 v qn (g_F v qn b s o a1 a2 a3 (g_nw v))) (g_F v qn b s o a1 a2 a3 (g_nw v)) e1 e2 e3 e4 i) := rfl
theorem j_N352 {v : zVw} {qn b s o a1 a2 a3 e1 e2 e3 e4 i x y : Int} : j_N v 352 [qn, b, s, o, a1, a2, a3, e1, e2, e3, e4, i, x, y] = (q_xvl (g_jo v qn (g_F v qn b s o a1 a2 a3 (g_nw v))) (g_j9 v qn (g_F v qn b s o a1 a2 a3 (g_nw v))) (g_F v qn b s o a1 a2 a3 (g_nw v)) e1 e2 e3 e4 i x y) := rfl
theorem j_N353 {v : zVw} {x k t z : Int} : j_N v 353 [x, k, t, z] = (q_pak x k t z) := rfl
theorem j_N354 {v : zVw} {x k : Int} : j_N v 354 [x, k] = (q_npk x k) := rfl
theorem j_N355 {v : zVw} {qn b s o a1 a2 a3 w x y : Int} : j_N v 355 [qn, b, s, o, a1, a2, a3, w, x, y] = (o_E v (g_jy v qn (g_F v qn b s o a1 a2 a3 (g_nw v)) y) (g_F v qn b s o a1 a2 a3 (g_nw v)) w x) := rfl
theorem j_N356 {v : zVw} {qn b s o a1 a2 a3 w x y : Int} : j_N v 356 [qn, b, s, o, a1, a2, a3, w, x, y] = (¬ o_E v (g_jy v qn (g_F v qn b s o a1 a2 a3 (g_nw v)) y) (g_F v qn b s o a1 a2 a3 (g_nw v)) w x) := rfl
theorem j_N357 {v : zVw} {qn b s o a1 a2 a3 w x k : Int} : j_N v 357 [qn, b, s, o, a1, a2, a3, w, x, k] = (o_p1 v (g_F v qn b s o a1 a2 a3 (g_nw v)) (g_jy v qn (g_F v qn b s o a1 a2 a3 (g_nw v))) w x k) := rfl
theorem j_N358 {v : zVw} {qn b s o a1 a2 a3 w x k : Int} : j_N v 358 [qn, b, s, o, a1, a2, a3, w, x, k] = (o_k1 v (g_F v qn b s o a1 a2 a3 (g_nw v)) (g_jy v qn (g_F v qn b s o a1 a2 a3 (g_nw v))) w x k) := rfl
theorem j_N359 {v : zVw} {qn b s o a1 a2 a3 w x k l : Int} : j_N v 359 [qn, b, s, o, a1, a2, a3, w, x, k, l] = (o_p2 v (g_F v qn b s o a1 a2 a3 (g_nw v)) (g_jy v qn (g_F v qn b s o a1 a2 a3 (g_nw v))) w x k l) := rfl
theorem j_N360 {v : zVw} {qn b s o a1 a2 a3 w x k l : Int} : j_N v 360 [qn, b, s, o, a1, a2, a3, w, x, k, l] = (o_k2 v (g_F v qn b s o a1 a2 a3 (g_nw v)) (g_jy v qn (g_F v qn b s o a1 a2 a3 (g_nw v))) w x k l) := rfl
theorem j_N361 {v : zVw} {qn b s o a1 a2 a3 w x k : Int} : j_N v 361 [qn, b, s, o, a1, a2, a3, w, x, k] = (¬ o_E v (g_jy v qn (g_F v qn b s o a1 a2 a3 (g_nw v)) 0) (g_F v qn b s o a1 a2 a3 (g_nw v)) w x ∧ o_f1 v (g_F v qn b s o a1 a2 a3 (g_nw v)) (g_jy v qn (g_F v qn b s o a1 a2 a3 (g_nw v))) w x k) := rfl
theorem j_N362 {v : zVw} {qn b s o a1 a2 a3 w x k l : Int} : j_N v 362 [qn, b, s, o, a1, a2, a3, w, x, k, l] = (¬ o_E v (g_jy v qn (g_F v qn b s o a1 a2 a3 (g_nw v)) 0) (g_F v qn b s o a1 a2 a3 (g_nw v)) w x ∧ o_n1 v (g_F v qn b s o a1 a2 a3 (g_nw v)) (g_jy v qn (g_F v qn b s o a1 a2 a3 (g_nw v))) w x ∧ o_f2 v (g_F v qn b s o a1 a2 a3 (g_nw v)) (g_jy v qn (g_F v qn b s o a1 a2 a3 (g_nw v))) w x k l) := rfl
/-- what the array of that label holds -/
def j_ad (W : Bool) (l : Nat) : Nat := match l with
  | 13 => 2
  | 14 => 3
  | 15 => 4
  | 16 => 5
  | 97 => (match W with
    | false => 7
    | true => 19)
  | 98 => (match W with
    | false => 8
    | true => 20)
  | 18 => (match W with
    | false => 20
    | true => 8)
  | 99 => (match W with
    | false => 9
    | true => 21)
  | 100 => (match W with
    | false => 10
    | true => 22)
  | 19 => (match W with
    | false => 21
    | true => 9)
  | 20 => (match W with
    | false => 22
    | true => 10)
  | 102 => (match W with
    | false => 12
    | true => 24)
  | 103 => (match W with
    | false => 13
    | true => 25)
  | 104 => (match W with
    | false => 14
    | true => 26)
  | 21 => (match W with
    | false => 24
    | true => 12)
  | 22 => (match W with
    | false => 25
    | true => 13)
  | 23 => (match W with
    | false => 26
    | true => 14)
  | 24 => (match W with
    | false => 27
    | true => 15)
  | 26 => 29
  | 25 => 28
  | 27 => 31
  | 28 => 32
  | 29 => 33
  | 30 => 34
  | 31 => 35
  | 40 => 311
  | 41 => 313
  | 42 => 315
  | 43 => 316
  | 44 => 317
  | 45 => 318
  | 46 => 319
  | 47 => 320
  | 34 => 305
  | 35 => 306
  | 36 => 307
  | 37 => 308
  | 38 => 309
  | l => if l < 106 then l + 274 else if l < 112 then l + 192 else if l < 130 then l + 167 else l - 91
def j_v (W : Bool) (h : mH) : zVw := fun l i => match h[j_ad W l]? with
  | some (.inr (_, .inl xs)) => (xs.getD i.toNat 0).toInt
  | some (.inr (_, .inr (.inl xs))) => (xs.getD i.toNat 0).toInt
  | some (.inl (_, fs)) => (match fs[i.toNat]? with
    | some (.inl x) => x.toInt
    | _ => 0)
  | _ => 0
def J2 (W : Bool) (X : List Int32) : Nat → List Int → mH → Prop := fun k zs h => mJS X k zs h ∧ j_N (j_v W h) k zs
theorem J2_op {W : Bool} {X : List Int32} {k : Nat} (k0 : 100 ≤ k) (k1 : k ≤ 111) {x y : Int32} {c : Int} {h : mH} : J2 W X k [x.toInt, y.toInt, c] h → (mOP k x y).toInt = c := by
  have hk : k = 100 ∨ k = 101 ∨ k = 102 ∨ k = 103 ∨ k = 104 ∨ k = 105 ∨ k = 106 ∨ k = 107 ∨ k = 108 ∨ k = 109 ∨ k = 110 ∨ k = 111 := by omega
  intro q
  have q2 := q.2
  rcases hk with rfl | rfl | rfl | rfl | rfl | rfl | rfl | rfl | rfl | rfl | rfl | rfl <;> (first | rw [j_N100] at q2 | rw [j_N101] at q2 | rw [j_N102] at q2 | rw [j_N103] at q2 | rw [j_N104] at q2 | rw [j_N105] at q2 | rw [j_N106] at q2 | rw [j_N107] at q2 | rw [j_N108] at q2 | rw [j_N109] at q2 | rw [j_N110] at q2 | rw [j_N111] at q2) <;> (rw [Int32.ofInt_toInt, Int32.ofInt_toInt] at q2; exact q2)
theorem J2_J {W : Bool} {X : List Int32} : y_J X (J2 W X) := by
  refine ⟨fun i v h => ⟨fun q => q.1, fun q => ⟨q, trivial⟩⟩, fun i v h => ⟨fun q => q.2, fun q => ⟨?_, q⟩⟩, fun i v h => ⟨fun q => q.2, fun q => ⟨?_, q⟩⟩, fun k x y c h k0 k1 => J2_op k0 k1⟩
  · unfold mJS
    simp only [j_P]
  · unfold mJS
    simp only [j_P]
end
