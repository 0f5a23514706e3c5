/-! ===== sums of LONG: at least how many ===== -/
section ZK1
variable {H : Int} {A : Int → Int}
theorem g_su_ge (w : g_wf H A) : ∀ n : Nat, (n : Int) ≤ A 24 → (n : Int) ≤ g_su A 0 n
  | 0, _ => by show ((0 : Nat) : Int) ≤ 0; omega
  | n + 1, h => by
    have h1 := g_su_ge w n (by omega)
    have h2 := w.len (i := 0 + n) (by omega) (by omega)
    show ((n + 1 : Nat) : Int) ≤ g_su A 0 n + A (6 + A (25 + (0 + n)))
    omega
end ZK1
