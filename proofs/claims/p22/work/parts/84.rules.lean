noncomputable section
/-! ===== the rules: what else is known (wip/p3/tags.py, word for word) ===== -/
def r_int (S : zS) (lb : Nat) (e : zL) : List zFa → Option zL
  | [] => none
  | f :: t => match S.2.1[f.1]?, f.2.1.1, f.2.2.1 with
    | some (l, false), true, 0 => (match Nat.beq l lb && x_same S f.2.1.2.2 e with
      | true => some f.2.2.2.2
      | false => r_int S lb e t)
    | _, _, _ => r_int S lb e t
/-- what an array of that label is known to hold at e -/
def r_fi (S : zS) (lb : Nat) (e : zL) : Option zL := r_int S lb e S.2.2.2.2.2.1
def r_fv (S : zS) (k : Nat) : List zFa → Option zL
  | [] => none
  | f :: t => match S.2.1[f.1]?, f.2.1.1, f.2.2.1 with
    | some (l, false), false, 0 => (match Nat.beq l 12 && Nat.beq f.2.1.2.1 k with
      | true => some f.2.2.2.2
      | false => r_fv S k t)
    | _, _, _ => r_fv S k t
def r_fd (S : zS) (k : Nat) : Option zL := r_fv S k S.2.2.2.2.2.1
def r_lo (S : zS) (j : Nat) : Option zL := match S.2.2.2.1[j]? with
  | some (0, _, e) => some e
  | _ => none
def r_tg (k : Nat) (p : List zL → Bool) : List zTg → Option (List zL)
  | [] => none
  | t :: r => match Nat.beq t.1 k && p t.2 with
    | true => some t.2
    | false => r_tg k p r
def r_t (S : zS) (k : Nat) (p : List zL → Bool) : Option (List zL) := r_tg k p S.2.2.2.2.2.2
def r_rf (lb : Nat) : List (Nat × Bool) → Nat → Option Nat
  | [], _ => none
  | q :: t, n => match Nat.beq q.1 lb && !q.2 with
    | true => some n
    | false => r_rf lb t (n + 1)
def r_ref (S : zS) (lb : Nat) : Option Nat := r_rf lb S.2.1 0
def r_bt (S : zS) (e a b : zL) : Bool := x_has S (x_sub e a) && x_has S (x_sub b e)
def r_is (S : zS) (e : zL) (c : Int) : Bool := x_has S (x_inc (-c) e) && x_has S (x_inc c (x_scl (-1) e))
def r_kc (e : zL) (c : Int) : Bool := e.2.isEmpty && zz (e.1 - c)
def r_eqs (e : zL) : List zL := [e, x_scl (-1) e]
def r_addt (S : zS) (k : Nat) (p : List zL) : zS := x_tg S ((k, p) :: S.2.2.2.2.2.2)
def r_addf (S : zS) (r : Nat) (e v : zL) : zS := x_fa S ((r, (true, 0, e), zvI v) :: S.2.2.2.2.2.1)
def r_opt : Option zS → (zS → zS) → List zS
  | some S, f => [f S]
  | none, _ => []
def r_src (S : zS) (a : Nat) : Option zL := match a with
  | 0 => some (x_k 0)
  | 1 => r_fd S 53
  | j + 2 => r_lo S j
def r_split (S : zS) (e : zL) : List zS := match zge (8 - (x_hi S.1 e - x_lo S.1 e)) with
  | false => [S]
  | true => (List.range ((x_hi S.1 e - x_lo S.1 e).toNat + 1)).filterMap fun (c : Nat) => x_asl S (r_eqs (x_inc (-(x_lo S.1 e + (c : Int))) e))
def r_ten (S : zS) (e : zL) : List zS := match zge (8 - (x_hi S.1 e / 10 - x_lo S.1 e / 10)) with
  | false => [S]
  | true => (List.range ((x_hi S.1 e / 10 - x_lo S.1 e / 10).toNat + 1)).filterMap fun (c : Nat) => x_asl S [x_inc (-(10 * (x_lo S.1 e / 10 + (c : Int)))) e, x_inc (10 * (x_lo S.1 e / 10 + (c : Int)) + 9) (x_scl (-1) e)]
def r_good (S : zS) (f c : zL) : Bool := x_has S (x_sub c f) && x_has S (x_inc 398 (x_sub f c))
/-- the top of the pile of waiting operators -/
def r_2 (S : zS) : List zS := match r_t S 1 (fun z => match z with | w :: _ => x_has S (x_inc (-1) w) | _ => false), r_ref S 74 with
  | some [w, m, t], some r =>
    r_opt (x_asl (x_new S (0, 3)).2 (x_inc (-1) m :: x_sub w m :: r_eqs t)) (fun z => r_addt (r_addf z r (x_inc (-1) w) (x_k 6)) 1 [x_inc (-1) w, x_inc (-1) m, (x_new S (0, 3)).1]) ++
    (r_opt (x_asl (x_new S (8, 9)).2 (x_inc (-1) (x_sub w m) :: r_eqs (x_inc (-1) t))) (fun z => r_addt (r_addf z r (x_inc (-1) w) (x_new S (8, 9)).1) 1 [x_inc (-1) w, m, x_k 0]) ++
    r_opt (x_asl (x_new S (10, 15)).2 [x_inc (-1) (x_sub w m), x_inc (-2) t]) (fun z => r_addt (r_addf z r (x_inc (-1) w) (x_new S (10, 15)).1) 1 [x_inc (-1) w, m, x_inc (-2) t]))
  | _, _ => [S]
def r_3 (S : zS) : List zS := match r_t S 1 (fun _ => true) with
  | some [w, m, t] => r_opt (x_asl S [x_inc 2 (x_sub (x_scl 3 m) w), m, x_sub w m, t, x_inc 3 (x_scl (-1) t), x_sub (x_scl 2 (x_sub w m)) t]) id
  | _ => [S]
def r_4 (S : zS) : List zS := match r_t S 1 (fun _ => true) with
  | some [w, m, t] => (match r_fi S 74 w with
    | some x => (match r_is S x 6 && x_has S (x_inc 63 (x_scl (-1) w)) with
      | true => [r_addt S 1 [x_inc 1 w, x_inc 1 m, x_k 0]]
      | false => match r_bt S x (x_k 8) (x_k 9) && x_has S (x_scl (-1) t) && x_has S (x_inc 63 (x_scl (-1) w)) with
        | true => [r_addt S 1 [x_inc 1 w, m, x_k 1]]
        | false => match (r_is S x 10 || r_is S x 15) && x_has S (x_inc 1 (x_scl (-1) t)) && x_has S (x_inc 63 (x_scl (-1) w)) with
          | true => [r_addt S 1 [x_inc 1 w, m, x_inc 2 t]]
          | false => [S])
    | none => [S])
  | _ => [S]
def r_5 (S : zS) (a : Nat) : List zS := match (match a with | 0 => r_fd S 39 | j + 1 => r_lo S j) with
  | some c => (match x_has S c && x_has S (x_inc 840 (x_scl (-1) c)) with
    | true => [r_addt S 0 [c, x_k 0, c]]
    | false => [S])
  | none => [S]
def r_7 (S : zS) : List zS := match r_t S 0 (fun _ => true) with
  | some [f, d, c] => (match r_fi S 72 c, x_has S (x_inc 839 (x_scl (-1) c)) with
    | some x, true => (match r_is S x 0 with
      | true => [r_addt S 0 [f, x_inc 1 d, x_inc 1 c]]
      | false => match r_is S x 1 with
        | true => (match r_fi S 73 c with
          | some v => (match r_bt S v (x_k 0) (x_k 8) with
            | true => [r_addt S 0 [f, x_inc 1 d, x_inc 1 c]]
            | false => [S])
          | none => [S])
        | false => match x_has S (x_inc (-2) x) && x_has S (x_inc 5 (x_scl (-1) x)) && x_has S (x_inc (-2) d) with
          | true => [r_addt S 0 [f, x_inc (-1) d, x_inc 1 c]]
          | false => [S])
    | _, _ => [S])
  | _ => [S]
def r_8 (S : zS) (a : Nat) : List zS := match r_lo S a, r_ref S 72, r_ref S 73 with
  | some c, some r, some q => (match r_t S 0 (fun z => match z with | [_, _, c'] => x_same S c' c | _ => false) with
    | some [f, d, _] => (match r_t S 0 (fun z => match z with | [f', _, to] => x_same S f' f && x_has S (x_inc (-1) (x_sub to c)) && x_has S (x_inc 398 (x_sub f to)) | _ => false) with
      | some [_, _, _] => (match x_asl S [d, x_inc 397 (x_scl (-1) d)] with
        | some z => r_addt (r_addf z r c (x_k 0)) 0 [f, x_inc 1 d, x_inc 1 c] :: r_addt (r_addf (r_addf (x_new z (0, 8)).2 r c (x_k 1)) q c (x_new z (0, 8)).1) 0 [f, x_inc 1 d, x_inc 1 c] ::
          r_opt (x_asl (x_new z (2, 5)).2 [x_inc (-2) d]) (fun y => r_addt (r_addf y r c (x_new z (2, 5)).1) 0 [f, x_inc (-1) d, x_inc 1 c])
        | none => [])
      | _ => [S])
    | _ => [S])
  | _, _, _ => [S]
def r_9b (S : zS) (rh rf rm rt re : Nat) (x : zL) : List zS := match x_asl S [x, x_inc 259 (x_scl (-1) x)] with
  | none => []
  | some y0 => match x_new y0 (0, 840) with
    | (e2, y1) => match x_new y1 (0, 840) with
      | (e3, y2) => match x_asl y2 [x_sub e3 e2, x_inc 398 (x_sub e2 e3)] with
        | none => []
        | some y3 => match r_addt (r_addf (r_addf y3 rt x e2) re x e3) 0 [e2, x_k 1, e3] with
          | y => r_addf y rh x (x_k 0) :: (match x_new y (0, 840) with
            | (e0, z1) => match x_new z1 (0, 840) with
              | (e1, z2) => r_opt (x_asl z2 [x_sub e1 e0, x_inc 398 (x_sub e0 e1), x_sub e2 e1, x_inc 398 (x_sub e1 e2)]) (fun z => r_addt (r_addt (r_addf (r_addf (r_addf z rf x e0) rm x e1) rh x (x_k 1)) 0 [e0, x_k 1, e1]) 0 [e1, x_k 1, e2]))
def r_9 (S : zS) (a : Nat) : List zS := match r_lo S (a % 64), r_lo S (a / 64), r_ref S 67, r_ref S 68, r_ref S 69, r_ref S 70, r_ref S 71 with
  | some x, some at_, some rh, some rf, some rm, some rt, some re => (match r_t S 2 (fun z => match z with | [p] => r_bt S at_ (x_scl 4 p) (x_inc 3 (x_scl 4 p)) | _ => false), r_fi S 65 at_, r_fi S 66 at_ with
    | some [_], some u, some z => (match x_has S (x_sub x u) && x_has S (x_inc (-1) (x_sub z x)) with
      | true => r_9b S rh rf rm rt re x
      | false => [S])
    | _, _, _ => [S])
  | _, _, _, _, _, _, _ => [S]
def r_10c (S : zS) (sd : zL) (j : Int) : Bool := match r_fi S 65 (x_inc j (x_scl 4 sd)), r_fi S 66 (x_inc j (x_scl 4 sd)) with
  | some u, some z => r_is S u 0 && r_is S z 0
  | _, _ => false
def r_10 (S : zS) : List zS := match r_t S 2 (fun _ => true) with
  | some [p] => (match x_sub (x_k 1) p with
    | sd => match r_10c S sd 0 && r_10c S sd 1 && r_10c S sd 2 && r_10c S sd 3 with
      | true => [r_addt S 3 [sd, x_scl 130 sd, x_scl 130 sd, x_scl 420 sd, x_k 0, x_k 0, x_k 0]]
      | false => [S])
  | _ => [S]
/-- the good term at the end of what is told so far -/
def r_gt (S : zS) (sd C : zL) : Option (zL × zL) := match r_t S 0 (fun z => match z with | [f, d, c] => r_is S d 1 && x_same S f C && r_good S f c && x_has S (x_inc 420 (x_sub (x_scl 420 sd) c)) | _ => false) with
  | some [f, _, c] => some (f, c)
  | _ => none
def r_13b (S : zS) (sd Bb C q x0 x1 c : zL) : Bool := match r_fi S 67 Bb, r_fi S 70 Bb, r_fi S 71 Bb with
  | some t, some tt, some te => x_same S tt C && x_same S te c && x_has S (x_inc 129 (x_sub (x_scl 130 sd) Bb)) && (match r_is S t 1 with
    | true => (match r_fi S 68 Bb, r_fi S 69 Bb with
      | some tf, some tm => r_is S q 2 && x_same S tf x0 && x_same S tm x1
      | _, _ => false)
    | false => r_is S t 0)
  | _, _, _ => false
def r_cx (S : zS) (k : Nat) : List zS := match r_t S 3 (fun _ => true) with
  | some [sd, F, Bb, C, q, x0, x1] => (match k with
    | 14 => [r_addt S 3 [sd, Bb, Bb, C, x_k 0, x_k 0, x_k 0]]
    | 15 => [r_addt S 2 [sd]]
    | 16 => [r_addt S 2 [x_sub (x_k 1) sd]]
    | 35 => (match x_has S (x_scl 4 (x_inc 120 (x_sub (x_scl 130 sd) Bb))) with
      | true => r_opt (x_asl S [x_inc 120 (x_sub (x_scl 130 sd) Bb)]) id
      | false => [S])
    | 11 => (match r_gt S sd C with
      | some (f, c) => [r_addt S 3 [sd, F, Bb, c, x_k 1, f, c]]
      | none => [S])
    | 12 => (match r_gt S sd C, r_is S q 1 && x_same S x1 C with
      | some (_, c), true => [r_addt S 3 [sd, F, Bb, c, x_k 2, x0, x1]]
      | _, _ => [S])
    | _ => (match r_gt S sd C with
      | some (_, c) => (match r_13b S sd Bb C q x0 x1 c with
        | true => [r_addt S 3 [sd, F, x_inc 1 Bb, c, x_k 0, x_k 0, x_k 0]]
        | false => [S])
      | none => [S]))
  | _ => [S]
def j_pl (b : Nat) : Nat := match b with
  | 0 => 77
  | 1 => 78
  | 2 => 81
  | _ => 95
def j_pn (b : Nat) : Nat := match b with
  | 2 => 40
  | 3 => 3
  | _ => 1
def r_px (z : List zL) : Bool := match z with
  | [u] => r_kc u (-1)
  | _ => false
def r_pu (z : List zL) : Bool := match z with
  | [u] => !(r_kc u (-1))
  | _ => false
def r_17 (S : zS) (a : Nat) : List zS := match r_src S (a / 4) with
  | some u => (match a % 4 with
    | 0 => [r_addt S 10 [x_k 0]]
    | 1 => [r_addt S 11 [x_k 0]]
    | b => (match r_t S (10 + b) r_px with
      | some _ => [r_addt S (10 + b) [u]]
      | none => [S]))
  | none => [S]
def r_18c (S : zS) (b d : Nat) (u w : zL) (x : Int) : Bool := match r_fi S (j_pl b) (x_inc x (x_scl 33 u)), r_fi S (j_pl d) (x_inc x (x_scl 33 w)) with
  | some v, some z => x_same S v z
  | _, _ => false
def r_18 (S : zS) (a : Nat) : List zS := match (match a / 4 % 4 with | 0 => some (x_k 0) | 1 => some (x_k 0) | _ => r_src S (a / 16)) with
  | some w => (match r_t S (10 + a % 4) r_pu, r_t S (10 + a / 4 % 4) r_px with
    | some [u], some _ => (match r_bt S w (x_k 0) (x_k ((j_pn (a / 4 % 4) : Int) - 1)) && r_18c S (a % 4) (a / 4 % 4) u w 6 && r_18c S (a % 4) (a / 4 % 4) u w 7 && r_18c S (a % 4) (a / 4 % 4) u w 8 && r_18c S (a % 4) (a / 4 % 4) u w 9 && r_18c S (a % 4) (a / 4 % 4) u w 10 && r_18c S (a % 4) (a / 4 % 4) u w 11 && r_18c S (a % 4) (a / 4 % 4) u w 24 with
      | true => [r_addt S (10 + a % 4) [x_k (-1)]]
      | false => [S])
    | _, _ => [S])
  | none => [S]
def r_19 (S : zS) (a : Nat) : List zS := match r_t S (10 + a % 4) r_pu with
  | some [u] => (match r_fi S (j_pl (a % 4)) (x_inc 24 (x_scl 33 u)) with
    | some v => (match x_has S (x_scl (-1) v) with
      | true => [r_addt S (10 + a % 4) [x_k (-1)]]
      | false => [S])
    | none => [S])
  | _ => [S]
def r_20 (S : zS) : List zS := match r_t S 11 r_px, r_fi S 78 (x_k 24) with
  | some _, some v => [r_addt S 5 [v]]
  | _, _ => [S]
def r_21 (S : zS) (a : Nat) : List zS := match r_t S 5 (fun _ => true), r_lo S a with
  | some [m], some h => (match r_fi S 78 (x_inc 6 h) with
    | some v => (match r_bt S h (x_k 0) (x_k 5) && x_has S (x_scl (-1) v) with
      | true => r_opt (x_asl S [x_inc 5 (x_scl (-1) m)]) (fun y => r_addt y 6 [m, h])
      | false => [S])
    | none => [S])
  | _, _ => [S]
def r_22 (S : zS) (a : Nat) : List zS := match r_t S 5 (fun _ => true), r_lo S a with
  | some [m], some h => (match r_bt S h (x_k 0) (x_k 5) with
    | true => [r_addt S 6 [x_inc (-1) m, h]]
    | false => [S])
  | _, _ => [S]
def r_23 (S : zS) : List zS := match r_t S 6 (fun _ => true) with
  | some [m, h] => (match r_fi S 78 (x_inc 6 h) with
    | some v => (match r_bt S h (x_k 0) (x_k 5) && x_has S (x_inc (-1) v) with
      | true => [r_addt S 5 [x_inc 1 m]]
      | false => [S])
    | none => [S])
  | _ => [S]
def r_24 (S : zS) : List zS := match r_t S 6 (fun _ => true) with
  | some [m, _] => [r_addt S 5 [m]]
  | _ => [S]
def r_25 (S : zS) : List zS := match r_t S 5 (fun _ => true), r_fi S 78 (x_k 24) with
  | some [m], some v => (match x_has S (x_sub m v) with
    | true => [r_addt S 11 [x_k (-1)]]
    | false => [S])
  | _, _ => [S]
def r_26 (S : zS) : List zS := match r_t S 12 r_px with
  | some _ => [r_addt S 7 [x_k 0]]
  | none => [S]
def r_27 (S : zS) : List zS := match r_t S 7 (fun _ => true) with
  | some [p] => (match r_fi S 81 p, r_fi S 81 (x_inc 33 p) with
    | some v, some z => (match x_same S v z && r_bt S p (x_k 0) (x_k 1286) with
      | true => [r_addt S 7 [x_inc 1 p]]
      | false => [S])
    | _, _ => [S])
  | _ => [S]
def r_28 (S : zS) : List zS := match r_t S 7 (fun _ => true) with
  | some [p] => (match r_is S p 1287 with
    | true => [r_addt S 12 [x_k 39]]
    | false => [S])
  | _ => [S]
def r_30 (S : zS) : List zS := match r_t S 8 (fun _ => true) with
  | some [m, _, v] => (match r_fi S 87 (x_inc (-1) m) with
    | some y => (match x_has S (x_inc (-1) m) with
      | true => [r_addt S 8 [x_inc (-1) m, x_inc 1 y, v]]
      | false => [S])
    | none => [S])
  | _ => [S]
def r_ni (S : zS) (m : zL) (z : List zL) : Bool := match z with
  | [h, i] => x_same S i m && r_bt S h (x_k 0) (x_k 5)
  | _ => false
def r_31 (S : zS) : List zS := match r_t S 8 (fun _ => true) with
  | some [m, x, v] => (match r_t S 9 (r_ni S m), r_fi S 87 m with
    | some [g, _], some h => (match x_same S h g && x_has S (x_sub h x) with
      | true => r_opt (x_asl (x_new S (0, 1000000)).2 [x_scl 1000 (x_inc (-1) (x_sub (x_new S (0, 1000000)).1 v))]) (fun y => r_addt y 8 [x_inc 1 m, x_k 0, (x_new S (0, 1000000)).1])
      | false => [S])
    | _, _ => [S])
  | _ => [S]
def r_32 (S : zS) : List zS := match r_t S 8 (fun _ => true) with
  | some [m, _, _] => (match r_t S 9 (r_ni S m) with
    | some [_, _] => r_opt (x_asl S [x_inc 5 (x_scl (-1) m)]) id
    | _ => [S])
  | _ => [S]
def r_33 (S : zS) (a : Nat) : List zS := match r_lo S a with
  | some h => [r_addt S 9 [h, x_k 0]]
  | none => [S]
def r_34 (S : zS) : List zS := match r_t S 9 (fun z => match z with
    | [h, i] => (match r_fi S 87 i with
      | some x => x_has S (x_inc (-1) (x_sub x h)) || x_has S (x_inc (-1) (x_sub h x))
      | none => false)
    | _ => false) with
  | some [h, i] => [r_addt S 9 [h, x_inc 1 i]]
  | _ => [S]
def r_df (u : Nat) (g : zL) : Option Nat := match g.2 with
  | [(a, ca), (b, cb)] => (match Nat.beq a u && zz (ca - 1) && zz (cb + 1) with
    | true => some b
    | false => match Nat.beq b u && zz (cb - 1) && zz (ca + 1) with
      | true => some a
      | false => none)
  | _ => none
def r_36 (S : zS) (k : Nat) (big : Bool) : List zS := match r_fd S k with
  | some e => (match e.2 with
    | [(u, _)] => r_opt (x_asl S (S.2.2.1.flatMap fun g => match r_df u g, big with
      | some _, true => [x_scl 1000 g]
      | some v, false => S.2.2.1.filterMap fun f => match f.2.any (fun t => Nat.beq t.1 v && zz (t.2 - 1)) && !(f.2.any fun t => Nat.beq t.1 u) with
        | true => some (x_add f g)
        | false => none
      | none, _ => [])) id
    | _ => [S])
  | none => [S]
/-- of the sums that are not negative those alone that field k's unknown is in -/
def r_37 (S : zS) (k : Nat) : List zS := match r_fd S k with
  | some e => (match e.2 with
    | [(u, _)] => [(S.1, S.2.1, S.2.2.1.filter (fun g => g.2.any fun t => Nat.beq t.1 u), S.2.2.2)]
    | _ => [S])
  | none => [S]
def mRU : zRU := fun n S => some (match n % 64 with
  | 0 => (match r_lo S (n / 64) with
    | some e => r_split S e
    | none => [S])
  | 1 => (match S.2.2.2.2.1[n / 64]? with
    | some (0, _, e) => r_split S e
    | _ => [S])
  | 2 => r_2 S
  | 3 => r_3 S
  | 4 => r_4 S
  | 5 => r_5 S (n / 64)
  | 6 => [r_addt S 1 [x_k 0, x_k 0, x_k 0]]
  | 7 => r_7 S
  | 8 => r_8 S (n / 64)
  | 9 => r_9 S (n / 64)
  | 10 => r_10 S
  | 11 => r_cx S 11
  | 12 => r_cx S 12
  | 13 => r_cx S 13
  | 14 => r_cx S 14
  | 15 => r_cx S 15
  | 16 => r_cx S 16
  | 17 => r_17 S (n / 64)
  | 18 => r_18 S (n / 64)
  | 19 => r_19 S (n / 64)
  | 20 => r_20 S
  | 21 => r_21 S (n / 64)
  | 22 => r_22 S (n / 64)
  | 23 => r_23 S
  | 24 => r_24 S
  | 25 => r_25 S
  | 26 => r_26 S
  | 27 => r_27 S
  | 28 => r_28 S
  | 29 => [r_addt S 8 [x_k 0, x_k 0, x_k 0]]
  | 30 => r_30 S
  | 31 => r_31 S
  | 32 => r_32 S
  | 33 => r_33 S (n / 64)
  | 34 => r_34 S
  | 35 => r_cx S 35
  | 36 => r_36 S (n / 64) false
  | 37 => r_37 S (n / 64)
  | 39 => r_36 S (n / 64) true
  | 41 => (match r_lo S (n / 64) with
    | some e => r_ten S e
    | none => [S])
  | _ => [S])
/-- which sentences stay -/
def r_dep (t : zTg) : Option (List Nat) := match t.1 with
  | 0 => some [72, 73]
  | 1 => some [74]
  | 2 => some [65, 66, 67, 68, 69, 70, 71, 72, 73]
  | 3 => some [65, 66, 67, 68, 69, 70, 71, 72, 73]
  | 5 => some [78]
  | 6 => some [78]
  | 7 => some [81]
  | 8 => some [87]
  | 9 => some [87]
  | 10 => some [77]
  | 11 => some [78]
  | 12 => some [81]
  | 13 => some [95]
  | _ => some []
def mTC : zTC := fun t cl => match r_dep t with
  | some d => d.all fun l => !(x_kin cl (l, true, 0))
  | none => false
def r_safe (S : zS) (e : zL) : Bool := match x_mod e 33 with
  | some k => !((Nat.ble 6 k && Nat.ble k 11) || Nat.beq k 24)
  | none => zge (x_lo S.1 e) && zz (x_lo S.1 e / 33 - x_hi S.1 e / 33) && (zge (5 - x_hi S.1 e % 33) || (zge (x_lo S.1 e % 33 - 12) && zge (23 - x_hi S.1 e % 33)) || zge (x_lo S.1 e % 33 - 25))
def r_brs (lb : Nat) : Bool := Nat.ble 67 lb && Nat.ble lb 71
def mTS1 (S : zS) (t : zTg) (lb : Nat) (e v : zL) : Bool := match t.1, t.2 with
  | 0, [_, _, c] => x_has S (x_sub e c)
  | 1, [w, _, _] => x_has S (x_sub e w)
  | 2, [p] => (Nat.beq lb 65 || Nat.beq lb 66) && r_bt S e (x_scl 4 (x_sub (x_k 1) p)) (x_inc 3 (x_scl 4 (x_sub (x_k 1) p)))
  | 3, [sd, F, Bb, C, _, _, _] => (match Nat.beq lb 72 || Nat.beq lb 73, r_brs lb, Nat.beq lb 65 with
    | true, _, _ => r_bt S e C (x_inc 419 (x_scl 420 sd))
    | false, true, _ => r_bt S e Bb (x_inc 129 (x_scl 130 sd))
    | false, false, true => r_bt S e (x_scl 4 sd) (x_inc 3 (x_scl 4 sd)) && x_has S (x_sub v F)
    | false, false, false => r_bt S e (x_scl 4 sd) (x_inc 3 (x_scl 4 sd)) && x_has S (x_sub Bb v) && (match r_fi S 65 e with
      | some w => x_has S (x_sub w F)
      | none => false))
  | 5, [_] => x_has S (x_inc 5 (x_scl (-1) e)) || x_has S (x_inc (-12) e)
  | 6, [_, h] => x_has S (x_inc 5 (x_scl (-1) e)) || x_has S (x_inc (-12) e) || x_same S e (x_inc 6 h)
  | 7, [k] => x_same S e k
  | 8, [m, _, _] => x_has S (x_sub e m)
  | 9, [_, i] => x_has S (x_sub e i)
  | 10, [u] => r_bt S e (x_scl 33 u) (x_inc 32 (x_scl 33 u)) || r_safe S e
  | 11, [u] => r_bt S e (x_scl 33 u) (x_inc 32 (x_scl 33 u)) || r_safe S e
  | 12, [u] => r_bt S e (x_scl 33 u) (x_inc 32 (x_scl 33 u)) || r_safe S e
  | 13, [u] => r_bt S e (x_scl 33 u) (x_inc 32 (x_scl 33 u)) || r_safe S e
  | _, _ => false
def mTS : zTS := fun S t r sl v => match sl.1, r_dep t, S.2.1[r]? with
  | false, _, _ => true
  | true, some d, some (lb, _) => (match d.contains lb with
    | false => true
    | true => match v.1 with
      | 0 => mTS1 S t lb sl.2.2 v.2.2
      | _ => false)
  | _, _, _ => false
end
