/-! ===== the sentences of TOKENS and of both parsers: what they say (wip/v2/DESIGN.md, 5) ===== -/
abbrev zVw : Type := Nat → Int → Int
def t_b (v : zVw) : Int → Int := fun i => v 13 i % 256
def t_sg (c : Int) : Int := if c = 59 ∨ c = 61 ∨ c = 43 ∨ c = 45 ∨ c = 42 ∨ c = 47 ∨ c = 60 ∨ c = 40 ∨ c = 41 then c else 1
def t_km (u : Int) : Int := if u = 0 then 0 else if u = 1 then 2 else if u = 2 then 3 else if u = 3 then 1 else if u = 4 then 59 else if u = 5 then 61 else if u = 6 then 40 else if u = 7 then 41 else if u = 8 then 43 else if u = 9 then 45 else if u = 10 then 42 else if u = 13 then 60 else if u = 15 then 47 else if 20 ≤ u then u + 236 else 1000 + u
def t_cl (f c : Int) : Int := if f = 0 then (if c = 9 ∨ c = 10 ∨ c = 13 ∨ c = 32 then 1 else 0) else if f = 1 then (if 97 ≤ c ∧ c ≤ 122 then 1 else 0) else if f = 2 then (if 48 ≤ c ∧ c ≤ 57 then 1 else 0) else if f = 4 then (if t_sg c = 1 then 0 else 1) else if f = 5 then t_km c else t_sg c
section ZT1
variable (b : Int → Int)
/-- the end of a run of bytes of class f from a on -/
def t_end (f n : Int) : Nat → Int → Int
  | 0, a => a
  | k + 1, a => if a < n ∧ t_cl f (b a) = 1 then t_end f n k (a + 1) else a
def t_e1 (f n a : Int) : Int := t_end b f n (n - a).toNat a
def q_runs (f n a p : Int) : Prop := a ≤ p ∧ ∀ i : Int, a ≤ i → i < p → i < n ∧ t_cl f (b i) = 1
def q_rune (f n a p : Int) : Prop := q_runs b f n a p ∧ (n ≤ p ∨ t_cl f (b p) ≠ 1)
def t_num (m o a : Int) : Nat → Int
  | 0 => 0
  | k + 1 => m * t_num m o a k + b (a + k) - o
def t_W (j : Int) : Int := (mST1.getD j.toNat 0).toInt
def q_wm (x a w i : Int) : Prop := ∀ j : Nat, (j : Int) < i → (if (j : Int) < w then b (a + j) else 32) = t_W (x + j)
def t_wb (x a w : Int) : Bool := (List.range 8).all fun (j : Nat) => decide ((if (j : Int) < w then b (a + j) else 32) = t_W (x + j))
/-- the word among the first m, or -1 -/
def t_wd (a w : Int) : Nat → Int
  | 0 => -1
  | m + 1 => if 0 ≤ t_wd a w m then t_wd a w m else if t_wb b (8 * (m : Int)) a w then m else -1
/-! the TOKEN at s -/
def t_k (n s : Int) : Int := if n ≤ s then 0 else if t_cl 1 (b s) = 1 then (if 8 < t_e1 b 1 n s - s then 1 else if 0 ≤ t_wd b s (t_e1 b 1 n s - s) 22 then 256 + t_wd b s (t_e1 b 1 n s - s) 22 else 2) else if t_cl 2 (b s) = 1 then (if 4 < t_e1 b 2 n s - s then 1 else 3) else t_sg (b s)
def t_e (n s : Int) : Int := if n ≤ s then s else if t_cl 1 (b s) = 1 then t_e1 b 1 n s else if t_cl 2 (b s) = 1 then t_e1 b 2 n s else s + 1
def t_x (n s : Int) : Int := if t_cl 1 (b s) = 1 then t_num b 32 96 s (t_e b n s - s).toNat else t_num b 10 48 s (t_e b n s - s).toNat
def t_y (n s : Int) : Int := t_num b 27 96 s (t_e b n s - s).toNat
def t_p (n : Int) : Nat → Int
  | 0 => 0
  | k + 1 => t_e b n (t_e1 b 0 n (t_p n k))
def t_s (n : Int) (k : Nat) : Int := t_e1 b 0 n (t_p b n k)
def tk (n : Int) (k : Nat) : Int := t_k b n (t_s b n k)
def tx (n : Int) (k : Nat) : Int := t_x b n (t_s b n k)
def ty (n : Int) (k : Nat) : Int := t_y b n (t_s b n k)
/-! the automaton -/
abbrev zQ : Type := Int × Int × Int × Int × Int × Int × Int × List Nat
def a_ef (st kd : Int) : Int := if 30 ≤ st ∧ st ≤ 34 ∧ kd ≠ 266 then st + 470 else st
def a_one (st : Int) : Int := if st = 1 then 2 else if st = 2 then 3 else if st = 3 then 3 else if st = 4 then 59 else if st = 5 then 2 else if st = 6 then 2 else if st = 7 then 3 else if st = 8 then 59 else if 9 ≤ st ∧ st ≤ 12 then 3 else if st = 13 then 59 else if st = 20 then 61 else -1
def a_x (st : Int) : Int := if st ≤ 204 then 60 else if st ≤ 304 then 267 else if st ≤ 404 then 268 else 59
def a_p (kd : Int) : Bool := decide (kd = 43 ∨ kd = 45 ∨ kd = 42 ∨ kd = 47)
/-- 0 it fits, 1 SYNTAX, 2 ROOM, 3 the end -/
def a_cl (st mo op H L kd : Int) : Int :=
  if st = 0 then (if kd = 0 then 3 else if kd = 256 then (if H ≤ 5 then 0 else 2) else if kd = 257 then (if L ≤ 19 then 0 else 2) else if 258 ≤ kd ∧ kd ≤ 265 then 0 else 1)
  else if st < 30 then (if kd = a_one st then 0 else 1)
  else if st < 200 then (if kd = 266 then (if st ≤ 33 then 0 else 2) else 1)
  else if mo = 0 then (if kd = 40 then (if op ≤ 5 then 0 else 2) else if kd = 3 ∨ (269 ≤ kd ∧ kd ≤ 277) then 0 else 1)
  else if a_p kd then 0 else if 1 ≤ op then (if kd = 41 then 0 else 1) else if kd = a_x st then 0 else 1
def a_st (st mo op kd : Int) : Int :=
  if st = 0 then (if kd = 256 then 1 else if kd = 257 then 5 else if kd = 258 then 9 else if kd = 259 then 10 else if kd = 264 then 11 else if kd = 265 then 12 else 20)
  else if st < 20 then (if st = 4 ∨ st = 8 ∨ st = 13 then 0 else if 9 ≤ st then 13 else st + 1)
  else if st = 20 then 30 else if st < 200 then st + 171
  else if mo = 0 then st else if a_p kd then st else if 1 ≤ op then st else if st ≤ 304 then st + 100 else if st ≤ 404 then st - 370 else 0
def a_mo (st mo op kd : Int) : Int := if st < 200 then 0 else if mo = 0 then (if kd = 40 then 0 else 1) else if a_p kd then 0 else if 1 ≤ op then 1 else 0
def a_op (st mo op kd : Int) : Int := if st < 200 then op else if mo = 0 then (if kd = 40 then op + 1 else op) else if a_p kd then op else if 1 ≤ op then op - 1 else op
def a_lo (st : Int) : Int := if st = 3 ∨ st = 9 then 1 else 0
def a_hi (st : Int) : Int := if st = 2 then 20 else if st = 3 ∨ st = 9 ∨ st = 10 then 99 else if st = 7 then 9 else if st = 11 then 100 else 9999
/-- the fault that a TOKEN that fits makes -/
def a_ck (st x r rq : Int) : Int := if st = 1 then (if 0 ≤ r then 3 else 0) else if st = 5 then (if r < 0 then 4 else 0) else if st = 6 then (if r < 0 then 4 else if r = rq then 3 else 0) else if st = 2 ∨ st = 3 ∨ st = 7 ∨ (9 ≤ st ∧ st ≤ 12) then (if a_lo st ≤ x ∧ x ≤ a_hi st then 0 else 5) else 0
/-- the first of the names told that is alike -/
def a_fd (n x : Int) : List Nat → Int → Int
  | [], _ => -1
  | m :: t, i => if tx b n m = x then i else a_fd n x t (i + 1)
def a_nx (n : Int) (q : zQ) (c : Nat) : zQ := match q, tk b n c with
  | (st0, mo, op, H, L, W, WP, ns), kd => match a_ef st0 kd with
    | st => match a_ck st (tx b n c) (a_fd b n (tx b n c) ns 0) (a_fd b n (tx b n (c - 1)) ns 0) with
      | ck => (a_st st mo op kd, a_mo st mo op kd, a_op st mo op kd, (if st = 4 then H + 1 else H), (if st = 8 then L + 1 else L), (if W = 0 then ck else W), (if W = 0 ∧ ck ≠ 0 then t_s b n c else WP), if st = 4 then ns ++ [c - 3] else ns)
/-- what the TOKEN c is to it -/
def a_at (n : Int) (q : zQ) (c : Nat) : Int := a_cl (a_ef q.1 (tk b n c)) q.2.1 q.2.2.1 q.2.2.2.1 q.2.2.2.2.1 (tk b n c)
def a_run (n : Int) : Nat → Option zQ
  | 0 => some (0, 0, 0, 0, 0, 0, 0, [])
  | c + 1 => match a_run n c with
    | none => none
    | some q => if c < 400 ∧ a_at b n q c = 0 then some (a_nx b n q c) else none
def a_up (f : Int → Int → Int) (r q x : Int) : Int → Int → Int := fun a b => if (0 ≤ r ∧ r < 6 ∧ 0 ≤ q ∧ q < 6) ∧ ((a = r ∧ b = q) ∨ (a = q ∧ b = r)) then x else f a b
/-- LIKES as told by the first TOKENS -/
def a_lk (n : Int) : Nat → Int → Int → Int
  | 0 => fun _ _ => 5
  | c + 1 => match a_run b n c with
    | none => a_lk n c
    | some q => if a_ef q.1 (tk b n c) = 8 then a_up (a_lk n c) (a_fd b n (tx b n (c - 3)) q.2.2.2.2.2.2.2 0) (a_fd b n (tx b n (c - 2)) q.2.2.2.2.2.2.2 0) (tx b n (c - 1)) else a_lk n c
def q_end (n : Int) (c : Nat) : Prop := (∃ q, a_run b n c = some q) ∧ tk b n c = 0
def q_fih (n H : Int) : Prop := ∃ c q, a_run b n c = some q ∧ tk b n c = 0 ∧ q.2.2.2.1 = H
def q_run (n c st mo op H L W WP : Int) : Prop := 0 ≤ c ∧ ∃ q, a_run b n c.toNat = some q ∧ a_ef q.1 (tk b n c.toNat) = a_ef st (tk b n c.toNat) ∧ q.2.1 = mo ∧ q.2.2.1 = op ∧ q.2.2.2.1 = H ∧ q.2.2.2.2.1 = L ∧ q.2.2.2.2.2.1 = W ∧ (W ≠ 0 → q.2.2.2.2.2.2.1 = WP)
def q_resc (n : Int) (c : Nat) (q : zQ) (f p : Int) : Prop := (a_at b n q c ≠ 0 ∨ 400 ≤ c) ∧ f = (if a_at b n q c = 3 then q.2.2.2.2.2.1 else if a_at b n q c = 0 then 2 else a_at b n q c) ∧ (f ≠ 0 → p = if a_at b n q c = 3 then q.2.2.2.2.2.2.1 else t_s b n c)
def q_res (n f p : Int) : Prop := ∃ c q, a_run b n c = some q ∧ q_resc b n c q f p
def q_tok (n c kd s x : Int) : Prop := 0 ≤ c ∧ kd = tk b n c.toNat ∧ s = t_s b n c.toNat ∧ (kd = 2 ∨ kd = 3 → x = tx b n c.toNat)
def q_go (n c s : Int) : Prop := 400 ≤ c → q_res b n 2 s
def q_fnd (n c r : Int) : Prop := ∃ q, a_run b n c.toNat = some q ∧ r = a_fd b n (tx b n c.toNat) q.2.2.2.2.2.2.2 0
def q_nfd (n c j : Int) : Prop := 0 ≤ j ∧ ∃ q, a_run b n c.toNat = some q ∧ ∀ (i m : Nat), (i : Int) < j → q.2.2.2.2.2.2.2[i]? = some m → tx b n m ≠ tx b n c.toNat
def q_hit (n c : Int) : Prop := ∃ q, a_run b n c.toNat = some q ∧ ∃ m ∈ q.2.2.2.2.2.2.2, tx b n m = tx b n c.toNat
/-- g holds what f says of the names told, H of them -/
def q_nms (n c H : Int) (f : Nat → Int) (g : Int → Int) : Prop := ∃ q, a_run b n c.toNat = some q ∧ q.2.2.2.1 = H ∧ ∀ (i m : Nat), q.2.2.2.2.2.2.2[i]? = some m → tk b n m = 2 ∧ g i = f m
def q_fin (n f q : Int) : Prop := ∃ p, q_res b n f p ∧ q = if f = 0 then -1 else p
def q_wid (a w r : Int) : Prop := r = t_wd b a w 22
end ZT1
/-- the place j of the class's TOKENS is right -/
def q_ar (v : zVw) (n : Int) (j : Nat) : Prop := v 14 j = tk (t_b v) n j ∧ v 15 j = t_s (t_b v) n j ∧ (tk (t_b v) n j = 2 ∨ tk (t_b v) n j = 3 → v 16 j = tx (t_b v) n j)
/-- and of the model's -/
def q_mr (v : zVw) (n : Int) (j : Nat) : Prop := 0 ≤ v 50 j ∧ v 50 j ≤ 41 ∧ t_km (v 50 j) = tk (t_b v) n j ∧ v 51 j = t_s (t_b v) n j ∧ (tk (t_b v) n j = 3 → v 52 j = tx (t_b v) n j) ∧ (tk (t_b v) n j = 2 → v 53 j = ty (t_b v) n j)
def q_all (b : Int → Int) (n : Int) (R : Nat → Prop) : Prop := 0 ≤ n ∧ ∀ j : Nat, j ≤ 400 → (∀ i : Nat, i < j → tk b n i ≠ 0) → R j
def q_upto (b : Int → Int) (n c : Int) (R : Nat → Prop) : Prop := 0 ≤ c ∧ c ≤ 400 ∧ q_all b n R ∧ ∀ j : Nat, (j : Int) < c → tk b n j ≠ 0
/-- the word k as its letters' number -/
def t_key (k : Nat) : Int := (((List.range 8).map fun (j : Nat) => t_W (8 * k + j)).takeWhile fun c => decide (c ≠ 32)).foldl (fun a c => 27 * a + c - 96) 0
def t_kw (x : Int) : Nat → Int
  | 0 => 1
  | k + 1 => if x = t_key k then 20 + k else t_kw x k
def t_w4 (w : Int) (i : Nat) : Int := ((Int32.ofInt w >>> (Int32.ofInt (24 - 8 * i))).toInt8.toInt32).toInt
def q_66 (P : Int → Int → Prop) : Prop := ∀ a b : Int, 0 ≤ a → a < 6 → 0 ≤ b → b < 6 → P a b
/-- a sentence: the labels of the arrays that it speaks of (and the place in its numbers from which a write is none of its business), what it says -/
abbrev zSy : Type := List (Nat × Option Nat) × (zVw → List Int → Prop)
def j_s : zSy := ([], fun _ _ => True)
def j_s20 : zSy := ([(13, none)], fun v zs => match zs with
  | [p, c] => t_b v p = c
  | _ => True)
def j_s21 : zSy := ([], fun v zs => match zs with
  | [f, c, r] => t_cl f c = r
  | _ => True)
def j_s22 : zSy := ([(13, none)], fun v zs => match zs with
  | [f, n, a, p] => q_runs (t_b v) f n a p
  | _ => True)
def j_s23 : zSy := ([(13, none)], fun v zs => match zs with
  | [f, n, a, p] => q_rune (t_b v) f n a p
  | _ => True)
def j_s24 : zSy := ([(13, none)], fun v zs => match zs with
  | [a, e, x] => a ≤ e ∧ (e - a ≤ 4 → x = t_num (t_b v) 10 48 a (e - a).toNat)
  | _ => True)
def j_s25 : zSy := ([(13, none)], fun v zs => match zs with
  | [a, e, x] => a ≤ e ∧ (e - a ≤ 8 → x = t_num (t_b v) 32 96 a (e - a).toNat)
  | _ => True)
def j_s26 : zSy := ([(13, none)], fun v zs => match zs with
  | [a, e, x] => a ≤ e ∧ x = t_num (t_b v) 27 96 a (min (e - a) 8).toNat
  | _ => True)
def j_s27 : zSy := ([(13, none)], fun v zs => match zs with
  | [x, a, w, i] => q_wm (t_b v) x a w i
  | _ => True)
def j_s28 : zSy := ([(13, none)], fun v zs => match zs with
  | [x, a, w, r] => (r = 1 ∧ q_wm (t_b v) x a w 8) ∨ (r = 0 ∧ ¬ q_wm (t_b v) x a w 8)
  | _ => True)
def j_s29 : zSy := ([(13, none)], fun v zs => match zs with
  | [a, w, x] => ∃ m : Nat, x = 8 * m ∧ t_wd (t_b v) a w m = -1
  | _ => True)
def j_s30 : zSy := ([(13, none)], fun v zs => match zs with
  | [a, w, r] => q_wid (t_b v) a w r
  | _ => True)
def j_s31 : zSy := ([(13, none), (14, some 1), (15, some 1), (16, some 1)], fun v zs => match zs with
  | [n, k, p] => 0 ≤ n ∧ 0 ≤ k ∧ p = t_p (t_b v) n k.toNat ∧ ∀ j : Nat, (j : Int) < k → q_ar v n j
  | _ => True)
def j_s32 : zSy := ([(13, none)], fun v zs => match zs with
  | [n, k, s] => s = t_s (t_b v) n k.toNat
  | _ => True)
def j_s33 : zSy := ([(98, some 0)], fun v zs => match zs with
  | [i] => ∀ k_ : Int, 0 ≤ k_ → k_ < i → v 98 k_ = 5
  | _ => True)
def j_s34 : zSy := ([(13, none), (98, none)], fun v zs => match zs with
  | [n, c] => 0 ≤ c ∧ q_66 fun a b => v 98 (6 * a + b) = a_lk (t_b v) n c.toNat a b
  | _ => True)
def j_s35 : zSy := ([(13, none), (14, none), (15, none), (16, none)], fun v zs => match zs with
  | [n, c] => q_upto (t_b v) n c (q_ar v n)
  | _ => True)
def j_s36 : zSy := ([(13, none)], fun v zs => match zs with
  | [n, c, kd, s, x] => q_tok (t_b v) n c kd s x
  | _ => True)
def j_s37 : zSy := ([(13, none), (14, none), (15, none), (16, none)], fun v zs => match zs with
  | [n] => q_all (t_b v) n (q_ar v n)
  | _ => True)
def j_s38 : zSy := ([(13, none), (98, some 102)], fun v zs => match zs with
  | [n, c, j] => 0 ≤ c ∧ q_66 fun a b => 6 * a + b ≠ j → v 98 (6 * a + b) = a_lk (t_b v) n c.toNat a b
  | _ => True)
def j_s39 : zSy := ([(13, none), (98, some 104)], fun v zs => match zs with
  | [n, c, j, x, k] => 0 ≤ c ∧ (q_66 fun a b => 6 * a + b ≠ j → 6 * a + b ≠ k → v 98 (6 * a + b) = a_lk (t_b v) n c.toNat a b) ∧ (0 ≤ j → j ≠ k → v 98 j = x)
  | _ => True)
def j_s40 : zSy := ([(13, none)], fun v zs => match zs with
  | [n, c, st, mo, op, H, L, W, WP] => q_run (t_b v) n c st mo op H L W WP
  | _ => True)
def j_s41 : zSy := ([(13, none)], fun v zs => match zs with
  | [n, f, p] => q_res (t_b v) n f p
  | _ => True)
def j_s42 : zSy := ([(13, none)], fun v zs => match zs with
  | [n, c, K, kd, s] => (kd ≠ K → q_res (t_b v) n 1 s) ∧ (kd = K → q_go (t_b v) n c s)
  | _ => True)
def j_s43 : zSy := ([(13, none), (97, some 2)], fun v zs => match zs with
  | [n, c, H] => q_nms (t_b v) n c H (tx (t_b v) n) (v 97)
  | _ => True)
def j_s44 : zSy := ([(13, none)], fun v zs => match zs with
  | [n, c, r] => q_fnd (t_b v) n c r
  | _ => True)
def j_s45 : zSy := ([(13, none)], fun v zs => match zs with
  | [n, c, j] => q_nfd (t_b v) n c j
  | _ => True)
def j_s46 : zSy := ([(13, none), (98, none)], fun v zs => match zs with
  | [n, c, r, q, x] => 0 ≤ c ∧ q_66 fun a b => v 98 (6 * a + b) = a_up (a_lk (t_b v) n c.toNat) r q x a b
  | _ => True)
def j_s47 : zSy := ([(13, none)], fun v zs => match zs with
  | [n, f, q] => q_fin (t_b v) n f q
  | _ => True)
def j_s48 : zSy := ([], fun v zs => match zs with
  | [kd] => a_p kd = false
  | _ => True)
def j_s49 : zSy := ([], fun v zs => match zs with
  | [kd] => kd ≠ 42 ∧ kd ≠ 47
  | _ => True)
def j_s50 : zSy := ([], fun v zs => match zs with
  | [c0, c, i] => c0 + 1 ≤ c ∧ i + 1 ≤ c
  | _ => True)
def j_s51 : zSy := ([], fun v zs => match zs with
  | [c, i] => i ≤ c
  | _ => True)
def j_s52 : zSy := ([(13, none), (49, none)], fun v zs => match zs with
  | [n] => ∀ i : Int, 0 ≤ i → i < n → v 49 i = v 13 i
  | _ => True)
def j_s53 : zSy := ([(13, some 0), (48, some 0)], fun v zs => match zs with
  | [n] => ∀ i : Int, 0 ≤ i → i < n → v 13 i = v 48 i
  | _ => True)
def j_s54 : zSy := ([(49, some 0), (48, none)], fun v zs => match zs with
  | [n] => ∀ i : Int, 0 ≤ i → i < n → v 49 i = v 48 i
  | _ => True)
def j_s55 : zSy := ([(54, none)], fun v zs => match zs with
  | [] => ∀ k : Nat, k < 22 → v 54 k = t_key k
  | _ => True)
def j_s56 : zSy := ([(13, none), (50, some 1), (51, some 1), (52, some 1), (53, some 1)], fun v zs => match zs with
  | [n, k, i] => 0 ≤ n ∧ 0 ≤ k ∧ i ≤ n ∧ t_e1 (t_b v) 0 n i = t_s (t_b v) n k.toNat ∧ ∀ j : Nat, (j : Int) < k → q_mr v n j
  | _ => True)
def j_s57 : zSy := ([(13, none), (50, none), (51, none), (52, none), (53, none)], fun v zs => match zs with
  | [n] => q_all (t_b v) n (q_mr v n)
  | _ => True)
def j_s58 : zSy := ([(13, none), (50, none), (51, none), (52, none), (53, none)], fun v zs => match zs with
  | [n, c] => q_upto (t_b v) n c (q_mr v n)
  | _ => True)
def j_s59 : zSy := ([(13, none)], fun v zs => match zs with
  | [n, c, u, s] => 0 ≤ c ∧ 0 ≤ u ∧ u ≤ 41 ∧ t_km u = tk (t_b v) n c.toNat ∧ s = t_s (t_b v) n c.toNat
  | _ => True)
def j_s60 : zSy := ([], fun v zs => match zs with
  | [x, k, kd] => 0 ≤ k ∧ kd = t_kw x k.toNat ∧ k ≤ 22
  | _ => True)
def j_s61 : zSy := ([(13, none)], fun v zs => match zs with
  | [n, c, i] => tk (t_b v) n c.toNat = 3 ∧ i = tx (t_b v) n c.toNat
  | _ => True)
def j_s62 : zSy := ([(13, none)], fun v zs => match zs with
  | [n, c, K, u, s] => (u ≠ K → q_res (t_b v) n 1 s) ∧ (u = K → q_go (t_b v) n c s)
  | _ => True)
def j_s64 : zSy := ([(13, none), (55, some 2)], fun v zs => match zs with
  | [n, c, H] => q_nms (t_b v) n c H (ty (t_b v) n) (v 55)
  | _ => True)
def j_s65 : zSy := ([(13, none)], fun v zs => match zs with
  | [n, c, w] => tk (t_b v) n c.toNat = 2 ∧ w = ty (t_b v) n c.toNat
  | _ => True)
def j_s66 : zSy := ([(13, none)], fun v zs => match zs with
  | [n, c, j] => q_nfd (t_b v) n c j
  | _ => True)
def j_s67 : zSy := ([(13, none)], fun v zs => match zs with
  | [n, c] => q_hit (t_b v) n c
  | _ => True)
def j_s68 : zSy := ([(13, none)], fun v zs => match zs with
  | [n, c, s] => q_go (t_b v) n c s
  | _ => True)
def j_s69 : zSy := ([(13, none)], fun v zs => match zs with
  | [n, c, h, K, s] => (h = K → q_res (t_b v) n 2 s) ∧ (h < K → q_go (t_b v) n c s)
  | _ => True)
def j_s70 : zSy := ([], fun v zs => match zs with
  | [u] => u ≠ 6
  | _ => True)
def j_s71 : zSy := ([(13, none)], fun v zs => match zs with
  | [n, c] => a_p (tk (t_b v) n c.toNat) = false
  | _ => True)
def j_s72 : zSy := ([(13, some 2)], fun v zs => match zs with
  | [a, w, d] => 0 ≤ a ∧ d = a + 4 ∧ ∀ i : Nat, i < 4 → v 13 (a + i) = t_w4 w i
  | _ => True)
def j_s73 : zSy := ([(48, some 2)], fun v zs => match zs with
  | [a, w, d] => 0 ≤ a ∧ d = a + 4 ∧ ∀ i : Nat, i < 4 → v 48 (a + i) = t_w4 w i
  | _ => True)
def j_s74 : zSy := ([(13, none), (98, none)], fun v zs => match zs with
  | [n] => ∃ c : Nat, q_end (t_b v) n c ∧ q_66 fun a b => v 98 (6 * a + b) = a_lk (t_b v) n c a b
  | _ => True)
def j_s75 : zSy := ([(13, none), (18, none)], fun v zs => match zs with
  | [n] => ∃ c : Nat, q_end (t_b v) n c ∧ q_66 fun a b => v 18 (6 * a + b) = a_lk (t_b v) n c a b
  | _ => True)
def j_s76 : zSy := ([(13, none)], fun v zs => match zs with
  | [n, H] => q_fih (t_b v) n H
  | _ => True)
def j_s77 : zSy := ([(60, some 1)], fun v zs => match zs with
  | [s, j] => ∀ k_ : Int, 0 ≤ k_ → 36 * s ≤ k_ → k_ < j → v 60 k_ = 5
  | _ => True)
def j_s78 : zSy := ([(13, none), (60, none)], fun v zs => match zs with
  | [n, c, s] => 0 ≤ c ∧ 0 ≤ s ∧ q_66 fun a b => v 60 (36 * s + (6 * a + b)) = a_lk (t_b v) n c.toNat a b
  | _ => True)
def j_s79 : zSy := ([(13, none), (60, some 103)], fun v zs => match zs with
  | [n, c, s, j] => 0 ≤ c ∧ 0 ≤ s ∧ q_66 fun a b => 36 * s + (6 * a + b) ≠ j → v 60 (36 * s + (6 * a + b)) = a_lk (t_b v) n c.toNat a b
  | _ => True)
def j_s80 : zSy := ([(13, none), (60, some 105)], fun v zs => match zs with
  | [n, c, s, j, x, k] => 0 ≤ c ∧ 0 ≤ s ∧ (q_66 fun a b => 36 * s + (6 * a + b) ≠ j → 36 * s + (6 * a + b) ≠ k → v 60 (36 * s + (6 * a + b)) = a_lk (t_b v) n c.toNat a b) ∧ (0 ≤ j → j ≠ k → v 60 j = x)
  | _ => True)
def j_s81 : zSy := ([(13, none), (60, none)], fun v zs => match zs with
  | [n, s] => 0 ≤ s ∧ ∃ c : Nat, q_end (t_b v) n c ∧ q_66 fun a b => v 60 (36 * s + (6 * a + b)) = a_lk (t_b v) n c a b
  | _ => True)
def j_s82 : zSy := ([(18, none), (60, some 36001)], fun v zs => match zs with
  | [l, s, z] => z = 1 → 0 ≤ l ∧ 0 ≤ s ∧ l + s = 1 ∧ q_66 fun a b => v 18 (6 * a + b) = v 60 (36 * l + (6 * a + b))
  | _ => True)
def j_s83 : zSy := ([(18, none)], fun v zs => match zs with
  | [j, u] => v 18 j = u
  | _ => True)
def j_s84 : zSy := ([(60, none)], fun v zs => match zs with
  | [j, u] => v 60 j = u
  | _ => True)
def j_s85 : zSy := ([(56, some 102)], fun v zs => match zs with
  | [l, H, s] => 0 ≤ l ∧ l ≠ s ∧ v 56 l = H
  | _ => True)
def j_s97 : zSy := ([], fun v zs => match zs with
  | [i, x] => (mST0.getD i.toNat 0).toInt = x
  | _ => True)
def j_s98 : zSy := ([], fun v zs => match zs with
  | [i, x] => (mST1.getD i.toNat 0).toInt = x
  | _ => True)
def j_s100 : zSy := ([], fun v zs => match zs with
  | [x, y, c] => (mOP 100 (Int32.ofInt x) (Int32.ofInt y)).toInt = c
  | _ => True)
def j_s101 : zSy := ([], fun v zs => match zs with
  | [x, y, c] => (mOP 101 (Int32.ofInt x) (Int32.ofInt y)).toInt = c
  | _ => True)
def j_s102 : zSy := ([], fun v zs => match zs with
  | [x, y, c] => (mOP 102 (Int32.ofInt x) (Int32.ofInt y)).toInt = c
  | _ => True)
def j_s103 : zSy := ([], fun v zs => match zs with
  | [x, y, c] => (mOP 103 (Int32.ofInt x) (Int32.ofInt y)).toInt = c
  | _ => True)
def j_s104 : zSy := ([], fun v zs => match zs with
  | [x, y, c] => (mOP 104 (Int32.ofInt x) (Int32.ofInt y)).toInt = c
  | _ => True)
def j_s105 : zSy := ([], fun v zs => match zs with
  | [x, y, c] => (mOP 105 (Int32.ofInt x) (Int32.ofInt y)).toInt = c
  | _ => True)
def j_s106 : zSy := ([], fun v zs => match zs with
  | [x, y, c] => (mOP 106 (Int32.ofInt x) (Int32.ofInt y)).toInt = c
  | _ => True)
def j_s107 : zSy := ([], fun v zs => match zs with
  | [x, y, c] => (mOP 107 (Int32.ofInt x) (Int32.ofInt y)).toInt = c
  | _ => True)
def j_s108 : zSy := ([], fun v zs => match zs with
  | [x, y, c] => (mOP 108 (Int32.ofInt x) (Int32.ofInt y)).toInt = c
  | _ => True)
def j_s109 : zSy := ([], fun v zs => match zs with
  | [x, y, c] => (mOP 109 (Int32.ofInt x) (Int32.ofInt y)).toInt = c
  | _ => True)
def j_Tb : List zSy := [j_s, j_s, j_s, j_s, j_s, j_s, j_s, j_s, j_s, j_s, j_s, j_s, j_s, j_s, j_s, j_s, j_s, j_s, j_s, j_s, j_s20, j_s21, j_s22, j_s23, j_s24, j_s25, j_s26, j_s27, j_s28, j_s29, j_s30, j_s31, j_s32, j_s33, j_s34, j_s35, j_s36, j_s37, j_s38, j_s39, j_s40, j_s41, j_s42, j_s43, j_s44, j_s45, j_s46, j_s47, j_s48, j_s49, j_s50, j_s51, j_s52, j_s53, j_s54, j_s55, j_s56, j_s57, j_s58, j_s59, j_s60, j_s61, j_s62, j_s, j_s64, j_s65, j_s66, j_s67, j_s68, j_s69, j_s70, j_s71, j_s72, j_s73, j_s74, j_s75, j_s76, j_s77, j_s78, j_s79, j_s80, j_s81, j_s82, j_s83, j_s84, j_s85, j_s, j_s, j_s, j_s, j_s, j_s, j_s, j_s, j_s, j_s, j_s, j_s97, j_s98, j_s, j_s100, j_s101, j_s102, j_s103, j_s104, j_s105, j_s106, j_s107, j_s108, j_s109]
def j_N (v : zVw) (k : Nat) (zs : List Int) : Prop := match j_Tb[k]? with
  | some e => e.2 v zs
  | none => True
theorem j_N20 {v : zVw} {p c : Int} : j_N v 20 [p, c] = (t_b v p = c) := rfl
theorem j_N21 {v : zVw} {f c r : Int} : j_N v 21 [f, c, r] = (t_cl f c = r) := rfl
theorem j_N22 {v : zVw} {f n a p : Int} : j_N v 22 [f, n, a, p] = (q_runs (t_b v) f n a p) := rfl
theorem j_N23 {v : zVw} {f n a p : Int} : j_N v 23 [f, n, a, p] = (q_rune (t_b v) f n a p) := rfl
theorem j_N24 {v : zVw} {a e x : Int} : j_N v 24 [a, e, x] = (a ≤ e ∧ (e - a ≤ 4 → x = t_num (t_b v) 10 48 a (e - a).toNat)) := rfl
theorem j_N25 {v : zVw} {a e x : Int} : j_N v 25 [a, e, x] = (a ≤ e ∧ (e - a ≤ 8 → x = t_num (t_b v) 32 96 a (e - a).toNat)) := rfl
theorem j_N26 {v : zVw} {a e x : Int} : j_N v 26 [a, e, x] = (a ≤ e ∧ x = t_num (t_b v) 27 96 a (min (e - a) 8).toNat) := rfl
theorem j_N27 {v : zVw} {x a w i : Int} : j_N v 27 [x, a, w, i] = (q_wm (t_b v) x a w i) := rfl
theorem j_N28 {v : zVw} {x a w r : Int} : j_N v 28 [x, a, w, r] = ((r = 1 ∧ q_wm (t_b v) x a w 8) ∨ (r = 0 ∧ ¬ q_wm (t_b v) x a w 8)) := rfl
theorem j_N29 {v : zVw} {a w x : Int} : j_N v 29 [a, w, x] = (∃ m : Nat, x = 8 * m ∧ t_wd (t_b v) a w m = -1) := rfl
theorem j_N30 {v : zVw} {a w r : Int} : j_N v 30 [a, w, r] = (q_wid (t_b v) a w r) := rfl
theorem j_N31 {v : zVw} {n k p : Int} : j_N v 31 [n, k, p] = (0 ≤ n ∧ 0 ≤ k ∧ p = t_p (t_b v) n k.toNat ∧ ∀ j : Nat, (j : Int) < k → q_ar v n j) := rfl
theorem j_N32 {v : zVw} {n k s : Int} : j_N v 32 [n, k, s] = (s = t_s (t_b v) n k.toNat) := rfl
theorem j_N33 {v : zVw} {i : Int} : j_N v 33 [i] = (∀ k_ : Int, 0 ≤ k_ → k_ < i → v 98 k_ = 5) := rfl
theorem j_N34 {v : zVw} {n c : Int} : j_N v 34 [n, c] = (0 ≤ c ∧ q_66 fun a b => v 98 (6 * a + b) = a_lk (t_b v) n c.toNat a b) := rfl
theorem j_N35 {v : zVw} {n c : Int} : j_N v 35 [n, c] = (q_upto (t_b v) n c (q_ar v n)) := rfl
theorem j_N36 {v : zVw} {n c kd s x : Int} : j_N v 36 [n, c, kd, s, x] = (q_tok (t_b v) n c kd s x) := rfl
theorem j_N37 {v : zVw} {n : Int} : j_N v 37 [n] = (q_all (t_b v) n (q_ar v n)) := rfl
theorem j_N38 {v : zVw} {n c j : Int} : j_N v 38 [n, c, j] = (0 ≤ c ∧ q_66 fun a b => 6 * a + b ≠ j → v 98 (6 * a + b) = a_lk (t_b v) n c.toNat a b) := rfl
theorem j_N39 {v : zVw} {n c j x k : Int} : j_N v 39 [n, c, j, x, k] = (0 ≤ c ∧ (q_66 fun a b => 6 * a + b ≠ j → 6 * a + b ≠ k → v 98 (6 * a + b) = a_lk (t_b v) n c.toNat a b) ∧ (0 ≤ j → j ≠ k → v 98 j = x)) := rfl
theorem j_N40 {v : zVw} {n c st mo op H L W WP : Int} : j_N v 40 [n, c, st, mo, op, H, L, W, WP] = (q_run (t_b v) n c st mo op H L W WP) := rfl
theorem j_N41 {v : zVw} {n f p : Int} : j_N v 41 [n, f, p] = (q_res (t_b v) n f p) := rfl
theorem j_N42 {v : zVw} {n c K kd s : Int} : j_N v 42 [n, c, K, kd, s] = ((kd ≠ K → q_res (t_b v) n 1 s) ∧ (kd = K → q_go (t_b v) n c s)) := rfl
theorem j_N43 {v : zVw} {n c H : Int} : j_N v 43 [n, c, H] = (q_nms (t_b v) n c H (tx (t_b v) n) (v 97)) := rfl
theorem j_N44 {v : zVw} {n c r : Int} : j_N v 44 [n, c, r] = (q_fnd (t_b v) n c r) := rfl
theorem j_N45 {v : zVw} {n c j : Int} : j_N v 45 [n, c, j] = (q_nfd (t_b v) n c j) := rfl
theorem j_N46 {v : zVw} {n c r q x : Int} : j_N v 46 [n, c, r, q, x] = (0 ≤ c ∧ q_66 fun a b => v 98 (6 * a + b) = a_up (a_lk (t_b v) n c.toNat) r q x a b) := rfl
theorem j_N47 {v : zVw} {n f q : Int} : j_N v 47 [n, f, q] = (q_fin (t_b v) n f q) := rfl
theorem j_N48 {v : zVw} {kd : Int} : j_N v 48 [kd] = (a_p kd = false) := rfl
theorem j_N49 {v : zVw} {kd : Int} : j_N v 49 [kd] = (kd ≠ 42 ∧ kd ≠ 47) := rfl
theorem j_N50 {v : zVw} {c0 c i : Int} : j_N v 50 [c0, c, i] = (c0 + 1 ≤ c ∧ i + 1 ≤ c) := rfl
theorem j_N51 {v : zVw} {c i : Int} : j_N v 51 [c, i] = (i ≤ c) := rfl
theorem j_N52 {v : zVw} {n : Int} : j_N v 52 [n] = (∀ i : Int, 0 ≤ i → i < n → v 49 i = v 13 i) := rfl
theorem j_N53 {v : zVw} {n : Int} : j_N v 53 [n] = (∀ i : Int, 0 ≤ i → i < n → v 13 i = v 48 i) := rfl
theorem j_N54 {v : zVw} {n : Int} : j_N v 54 [n] = (∀ i : Int, 0 ≤ i → i < n → v 49 i = v 48 i) := rfl
theorem j_N55 {v : zVw} : j_N v 55 [] = (∀ k : Nat, k < 22 → v 54 k = t_key k) := rfl
theorem j_N56 {v : zVw} {n k i : Int} : j_N v 56 [n, k, i] = (0 ≤ n ∧ 0 ≤ k ∧ i ≤ n ∧ t_e1 (t_b v) 0 n i = t_s (t_b v) n k.toNat ∧ ∀ j : Nat, (j : Int) < k → q_mr v n j) := rfl
theorem j_N57 {v : zVw} {n : Int} : j_N v 57 [n] = (q_all (t_b v) n (q_mr v n)) := rfl
theorem j_N58 {v : zVw} {n c : Int} : j_N v 58 [n, c] = (q_upto (t_b v) n c (q_mr v n)) := rfl
theorem j_N59 {v : zVw} {n c u s : Int} : j_N v 59 [n, c, u, s] = (0 ≤ c ∧ 0 ≤ u ∧ u ≤ 41 ∧ t_km u = tk (t_b v) n c.toNat ∧ s = t_s (t_b v) n c.toNat) := rfl
theorem j_N60 {v : zVw} {x k kd : Int} : j_N v 60 [x, k, kd] = (0 ≤ k ∧ kd = t_kw x k.toNat ∧ k ≤ 22) := rfl
theorem j_N61 {v : zVw} {n c i : Int} : j_N v 61 [n, c, i] = (tk (t_b v) n c.toNat = 3 ∧ i = tx (t_b v) n c.toNat) := rfl
theorem j_N62 {v : zVw} {n c K u s : Int} : j_N v 62 [n, c, K, u, s] = ((u ≠ K → q_res (t_b v) n 1 s) ∧ (u = K → q_go (t_b v) n c s)) := rfl
theorem j_N64 {v : zVw} {n c H : Int} : j_N v 64 [n, c, H] = (q_nms (t_b v) n c H (ty (t_b v) n) (v 55)) := rfl
theorem j_N65 {v : zVw} {n c w : Int} : j_N v 65 [n, c, w] = (tk (t_b v) n c.toNat = 2 ∧ w = ty (t_b v) n c.toNat) := rfl
theorem j_N66 {v : zVw} {n c j : Int} : j_N v 66 [n, c, j] = (q_nfd (t_b v) n c j) := rfl
theorem j_N67 {v : zVw} {n c : Int} : j_N v 67 [n, c] = (q_hit (t_b v) n c) := rfl
theorem j_N68 {v : zVw} {n c s : Int} : j_N v 68 [n, c, s] = (q_go (t_b v) n c s) := rfl
theorem j_N69 {v : zVw} {n c h K s : Int} : j_N v 69 [n, c, h, K, s] = ((h = K → q_res (t_b v) n 2 s) ∧ (h < K → q_go (t_b v) n c s)) := rfl
theorem j_N70 {v : zVw} {u : Int} : j_N v 70 [u] = (u ≠ 6) := rfl
theorem j_N71 {v : zVw} {n c : Int} : j_N v 71 [n, c] = (a_p (tk (t_b v) n c.toNat) = false) := rfl
theorem j_N72 {v : zVw} {a w d : Int} : j_N v 72 [a, w, d] = (0 ≤ a ∧ d = a + 4 ∧ ∀ i : Nat, i < 4 → v 13 (a + i) = t_w4 w i) := rfl
theorem j_N73 {v : zVw} {a w d : Int} : j_N v 73 [a, w, d] = (0 ≤ a ∧ d = a + 4 ∧ ∀ i : Nat, i < 4 → v 48 (a + i) = t_w4 w i) := rfl
theorem j_N74 {v : zVw} {n : Int} : j_N v 74 [n] = (∃ c : Nat, q_end (t_b v) n c ∧ q_66 fun a b => v 98 (6 * a + b) = a_lk (t_b v) n c a b) := rfl
theorem j_N75 {v : zVw} {n : Int} : j_N v 75 [n] = (∃ c : Nat, q_end (t_b v) n c ∧ q_66 fun a b => v 18 (6 * a + b) = a_lk (t_b v) n c a b) := rfl
theorem j_N76 {v : zVw} {n H : Int} : j_N v 76 [n, H] = (q_fih (t_b v) n H) := rfl
theorem j_N77 {v : zVw} {s j : Int} : j_N v 77 [s, j] = (∀ k_ : Int, 0 ≤ k_ → 36 * s ≤ k_ → k_ < j → v 60 k_ = 5) := rfl
theorem j_N78 {v : zVw} {n c s : Int} : j_N v 78 [n, c, s] = (0 ≤ c ∧ 0 ≤ s ∧ q_66 fun a b => v 60 (36 * s + (6 * a + b)) = a_lk (t_b v) n c.toNat a b) := rfl
theorem j_N79 {v : zVw} {n c s j : Int} : j_N v 79 [n, c, s, j] = (0 ≤ c ∧ 0 ≤ s ∧ q_66 fun a b => 36 * s + (6 * a + b) ≠ j → v 60 (36 * s + (6 * a + b)) = a_lk (t_b v) n c.toNat a b) := rfl
theorem j_N80 {v : zVw} {n c s j x k : Int} : j_N v 80 [n, c, s, j, x, k] = (0 ≤ c ∧ 0 ≤ s ∧ (q_66 fun a b => 36 * s + (6 * a + b) ≠ j → 36 * s + (6 * a + b) ≠ k → v 60 (36 * s + (6 * a + b)) = a_lk (t_b v) n c.toNat a b) ∧ (0 ≤ j → j ≠ k → v 60 j = x)) := rfl
theorem j_N81 {v : zVw} {n s : Int} : j_N v 81 [n, s] = (0 ≤ s ∧ ∃ c : Nat, q_end (t_b v) n c ∧ q_66 fun a b => v 60 (36 * s + (6 * a + b)) = a_lk (t_b v) n c a b) := rfl
theorem j_N82 {v : zVw} {l s z : Int} : j_N v 82 [l, s, z] = (z = 1 → 0 ≤ l ∧ 0 ≤ s ∧ l + s = 1 ∧ q_66 fun a b => v 18 (6 * a + b) = v 60 (36 * l + (6 * a + b))) := rfl
theorem j_N83 {v : zVw} {j u : Int} : j_N v 83 [j, u] = (v 18 j = u) := rfl
theorem j_N84 {v : zVw} {j u : Int} : j_N v 84 [j, u] = (v 60 j = u) := rfl
theorem j_N85 {v : zVw} {l H s : Int} : j_N v 85 [l, H, s] = (0 ≤ l ∧ l ≠ s ∧ v 56 l = H) := rfl
theorem j_N97 {v : zVw} {i x : Int} : j_N v 97 [i, x] = ((mST0.getD i.toNat 0).toInt = x) := rfl
theorem j_N98 {v : zVw} {i x : Int} : j_N v 98 [i, x] = ((mST1.getD i.toNat 0).toInt = x) := rfl
theorem j_N100 {v : zVw} {x y c : Int} : j_N v 100 [x, y, c] = ((mOP 100 (Int32.ofInt x) (Int32.ofInt y)).toInt = c) := rfl
theorem j_N101 {v : zVw} {x y c : Int} : j_N v 101 [x, y, c] = ((mOP 101 (Int32.ofInt x) (Int32.ofInt y)).toInt = c) := rfl
theorem j_N102 {v : zVw} {x y c : Int} : j_N v 102 [x, y, c] = ((mOP 102 (Int32.ofInt x) (Int32.ofInt y)).toInt = c) := rfl
theorem j_N103 {v : zVw} {x y c : Int} : j_N v 103 [x, y, c] = ((mOP 103 (Int32.ofInt x) (Int32.ofInt y)).toInt = c) := rfl
theorem j_N104 {v : zVw} {x y c : Int} : j_N v 104 [x, y, c] = ((mOP 104 (Int32.ofInt x) (Int32.ofInt y)).toInt = c) := rfl
theorem j_N105 {v : zVw} {x y c : Int} : j_N v 105 [x, y, c] = ((mOP 105 (Int32.ofInt x) (Int32.ofInt y)).toInt = c) := rfl
theorem j_N106 {v : zVw} {x y c : Int} : j_N v 106 [x, y, c] = ((mOP 106 (Int32.ofInt x) (Int32.ofInt y)).toInt = c) := rfl
theorem j_N107 {v : zVw} {x y c : Int} : j_N v 107 [x, y, c] = ((mOP 107 (Int32.ofInt x) (Int32.ofInt y)).toInt = c) := rfl
theorem j_N108 {v : zVw} {x y c : Int} : j_N v 108 [x, y, c] = ((mOP 108 (Int32.ofInt x) (Int32.ofInt y)).toInt = c) := rfl
theorem j_N109 {v : zVw} {x y c : Int} : j_N v 109 [x, y, c] = ((mOP 109 (Int32.ofInt x) (Int32.ofInt y)).toInt = c) := rfl
/-- what the array of that label holds -/
def j_ad (W : Bool) (l : Nat) : Nat := match l with
  | 13 => 2
  | 14 => 3
  | 15 => 4
  | 16 => 5
  | 97 => (match W with
    | false => 7
    | true => 19)
  | 98 => (match W with
    | false => 8
    | true => 20)
  | 18 => (match W with
    | false => 20
    | true => 8)
  | l => l + 274
def j_v (W : Bool) (h : mH) : zVw := fun l i => match h[j_ad W l]? with
  | some (.inr (_, .inl xs)) => (xs.getD i.toNat 0).toInt
  | some (.inr (_, .inr (.inl xs))) => (xs.getD i.toNat 0).toInt
  | _ => 0
def J2 (W : Bool) (X : List Int32) : Nat → List Int → mH → Prop := fun k zs h => mJS X k zs h ∧ j_N (j_v W h) k zs
theorem J2_op {W : Bool} {X : List Int32} {k : Nat} (k0 : 100 ≤ k) (k1 : k ≤ 109) {x y : Int32} {c : Int} {h : mH} : J2 W X k [x.toInt, y.toInt, c] h → (mOP k x y).toInt = c := by
  have hk : k = 100 ∨ k = 101 ∨ k = 102 ∨ k = 103 ∨ k = 104 ∨ k = 105 ∨ k = 106 ∨ k = 107 ∨ k = 108 ∨ k = 109 := by omega
  intro q
  have q2 := q.2
  rcases hk with rfl | rfl | rfl | rfl | rfl | rfl | rfl | rfl | rfl | rfl <;> (first | rw [j_N100] at q2 | rw [j_N101] at q2 | rw [j_N102] at q2 | rw [j_N103] at q2 | rw [j_N104] at q2 | rw [j_N105] at q2 | rw [j_N106] at q2 | rw [j_N107] at q2 | rw [j_N108] at q2 | rw [j_N109] at q2) <;> (rw [Int32.ofInt_toInt, Int32.ofInt_toInt] at q2; exact q2)
theorem J2_J {W : Bool} {X : List Int32} : y_J X (J2 W X) := by
  refine ⟨fun i v h => ⟨fun q => q.1, fun q => ⟨q, trivial⟩⟩, fun i v h => ⟨fun q => q.2, fun q => ⟨?_, q⟩⟩, fun i v h => ⟨fun q => q.2, fun q => ⟨?_, q⟩⟩, fun k x y c h k0 k1 => J2_op k0 k1⟩
  · unfold mJS
    simp only [j_P]
  · unfold mJS
    simp only [j_P]
