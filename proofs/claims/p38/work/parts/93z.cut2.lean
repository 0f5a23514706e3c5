/-! ===== meeting places checked one by one ===== -/
section ZJA
variable {LT : List zLab} {CT : List zCtx} {TS : zTS} {TC : zTC} {RU : zRU} {mid fr lo K N : Nat} {P0 : zS} {Ps : List zS} {cl : List zKey} {cs hs : List (Nat × List Nat)} {ns : List zN}
def x_okNA (mid : Nat) (P0 : zS) (Ps : List zS) : Bool := match mME mid with
  | some (_, _, _, _, _, _, _) => Nat.ble 1 P0.1.length && Ps.all (fun P => Nat.ble P0.1.length P.1.length && Nat.ble P0.2.1.length P.2.1.length)
  | none => false
def x_okNB (LT : List zLab) (CT : List zCtx) (TS : zTS) (TC : zTC) (RU : zRU) (mid : Nat) (P0 : zS) (Ps : List zS) (cl : List zKey) (fr lo : Nat) (cs hs : List (Nat × List Nat)) (ns : List zN) (K N : Nat) (nd : zN) : Bool := match mME mid with
  | some (own, _, _, _, rt, _, cd) => Nat.ble P0.1.length nd.2.1.1.length && Nat.ble P0.2.1.length nd.2.1.2.1.length && x_go LT CT TS TC RU P0 Ps cl fr lo K own rt cd cs hs ns nd.2.2 N 0 nd.1 nd.2.1
  | none => false
theorem x_okN_of (a : x_okNA mid P0 Ps = true) (b : ∀ nd ∈ ns, x_okNB LT CT TS TC RU mid P0 Ps cl fr lo cs hs ns K N nd = true) : x_okN LT CT TS TC RU mid P0 Ps cl fr lo cs hs ns K N = true := by
  unfold x_okNA at a
  unfold x_okNB at b
  unfold x_okN
  cases hm : mME mid with
  | none => rw [hm] at a; cases a
  | some q =>
    obtain ⟨own, stt, na, mx, rt, ini, cd⟩ := q
    rw [hm] at a
    simp only [hm] at b
    dsimp only at a b ⊢
    rw [Bool.and_eq_true]
    exact ⟨a, List.all_eq_true.mpr b⟩
end ZJA
