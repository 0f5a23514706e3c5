noncomputable section
/-! ===== a reading checked in pieces ===== -/
section ZJ9
variable {LT : List zLab} {CT : List zCtx} {TS : zTS} {TC : zTC} {RU : zRU} {c : zCtx} {cs hs : List (Nat × List Nat)} {ns : List zN} {w0 : zL} {K N : Nat}
def x_okA (LT : List zLab) (CT : List zCtx) (TS : zTS) (TC : zTC) (RU : zRU) (c : zCtx) (cs hs : List (Nat × List Nat)) (ns : List zN) (w0 : zL) (K N : Nat) : Bool := match c, mME c.1 with
  | (_, P0, Ps, cl, F, fr, lo), some (own, _, na, mx, rt, _, cd) =>
    Nat.beq na P0.2.2.2.2.1.length && Nat.ble (x_lay P0.2.2.2.2.1).length mx && P0.2.2.2.2.1.all x_nt && Nat.ble 1 P0.1.length && w0.2.all (fun t => Nat.blt t.1 P0.1.length) && x_has P0 w0 && x_has P0 (x_inc ((F : Int) - (K : Int)) (x_scl (-1) w0)) && Ps.all (fun P => Nat.ble P0.1.length P.1.length && Nat.ble P0.2.1.length P.2.1.length)
  | _, none => false
def x_okB (LT : List zLab) (CT : List zCtx) (TS : zTS) (TC : zTC) (RU : zRU) (c : zCtx) (cs hs : List (Nat × List Nat)) (ns : List zN) (w0 : zL) (K N : Nat) (nd : zN) : Bool := match c, mME c.1 with
  | (_, P0, Ps, cl, F, fr, lo), some (own, _, na, mx, rt, _, cd) =>
    Nat.ble P0.1.length nd.2.1.1.length && Nat.ble P0.2.1.length nd.2.1.2.1.length && x_go LT CT TS TC RU P0 Ps cl fr lo K own rt (mCDf c.1) cs hs ns nd.2.2 N 0 nd.1 nd.2.1
  | _, none => false
def x_okC (LT : List zLab) (CT : List zCtx) (TS : zTS) (TC : zTC) (RU : zRU) (c : zCtx) (cs hs : List (Nat × List Nat)) (ns : List zN) (w0 : zL) (K N : Nat) : Bool := match c, mME c.1 with
  | (_, P0, Ps, cl, F, fr, lo), some (own, _, na, mx, rt, _, cd) =>
    x_go LT CT TS TC RU P0 Ps cl fr lo K own rt (mCDf c.1) cs hs ns w0 N 0 0 (x_st (x_lc P0 (x_lay P0.2.2.2.2.1 ++ List.replicate (mx - (x_lay P0.2.2.2.2.1).length) zvT)) [])
  | _, none => false
theorem x_ok_of (a : x_okA LT CT TS TC RU c cs hs ns w0 K N = true) (b : ∀ nd ∈ ns, x_okB LT CT TS TC RU c cs hs ns w0 K N nd = true) (d : x_okC LT CT TS TC RU c cs hs ns w0 K N = true) : x_ok LT CT TS TC RU c cs hs ns w0 K N = true := by
  obtain ⟨mid, P0, Ps, cl, F, fr, lo⟩ := c
  unfold x_okA at a
  unfold x_okB at b
  unfold x_okC at d
  unfold x_ok
  dsimp only at a b d ⊢
  cases hm : mME mid with
  | none => rw [hm] at a; cases a
  | some q =>
    obtain ⟨own, stt, na, mx, rt, ini, cd⟩ := q
    rw [hm] at a d
    simp only [hm] at b
    dsimp only at a b d ⊢
    rw [Bool.and_eq_true, Bool.and_eq_true]
    exact ⟨⟨a, List.all_eq_true.mpr b⟩, d⟩
end ZJ9
end
