/-! ===== what the class reckons, step by step ===== -/
section ZZ1
variable {c st ha wy : Int → Int} {J : Int → Int → Int} {s t x z l e w W a h y u g k r : Int}
theorem o_subr (k : q_sin s t z) (u : o_sub s a) (x0 : 0 ≤ x) (x6 : x < 6) (b : r_bit (s - g_2 t.toNat) x) : o_sub (s - g_2 t.toNat) a := by
  have n := o_rest k x0 x6 b
  have d := o_del (by have := k.1; omega) k.1.2 k.2.1.1 k.2.1.2 k.2.2.2
  exact ⟨n.1.1, u.2.1, fun h h0 h6 c9 => u.2.2 h h0 h6 ((d.2 h h0 h6).mp c9).1⟩
theorem o_dv (T : q_lwr c st J s t x z l e) (u : o_sub s a) (D : q_dpt ha wy c st J w a z) : q_dvh c st J l (ha l) ∧ q_dvw c st J w l (wy l) ∧ (-2 ≤ ha l ∧ ha l ≤ 999) ∧ 0 ≤ wy l ∧ wy l ≤ 7776 := by
  obtain ⟨⟨k9, ⟨x0, x6⟩, b9⟩, el, ee⟩ := T
  obtain ⟨n9, r9, -⟩ := o_rest k9 x0 x6 b9
  have d9 := D.2 _ x n9 (o_subr k9 u x0 x6 b9) r9
  rw [← el] at d9 n9
  have l9 := o_K_len n9
  have b8 := o_n_b (fun l => w ≤ o_h c st J l) (o_K (s - g_2 t.toNat) x)
  rw [← d9.2] at b8
  exact ⟨⟨_, x, n9, d9.1⟩, ⟨_, x, n9, d9.2⟩, d9.1.1, b8.1, by omega⟩
theorem o_ppr (T : q_ppv c st J w s t x h y) : (0 ≤ y ∧ y ≤ 46656) ∧ -2 ≤ h ∧ h ≤ 999 := by
  obtain ⟨⟨w9, s9, t9, x9⟩, m9, y9⟩ := T
  have l9 := o_Dl s9.1 s9.2 t9.1 t9.2.1 t9.2.2 x9.1 x9.2
  have b8 := o_n_b (fun l => w ≤ o_h c st J l) (o_D (o_C (s - 1).toNat) s t x.toNat)
  rw [← y9] at b8
  exact ⟨⟨b8.1, by omega⟩, m9.1⟩
theorem o_D_y {C : Int → Int → List (List Int)} (x0 : 0 ≤ x) (b : r_bit (s - g_2 t.toNat) x) : o_D C s t (x + 1).toNat = o_D C s t x.toNat ++ (C (s - g_2 t.toNat) x).map (t :: ·) := by
  have e : o_D C s t (x.toNat + 1) = o_D C s t x.toNat ++ (if (s - g_2 t.toNat) / g_2 x.toNat % 2 = 1 then (C (s - g_2 t.toNat) (x.toNat : Int)).map (t :: ·) else []) := rfl
  rw [show (x + 1).toNat = x.toNat + 1 by omega, e, if_pos (show (s - g_2 t.toNat) / g_2 x.toNat % 2 = 1 from b), show ((x.toNat : Nat) : Int) = x by omega]
theorem o_D_n {C : Int → Int → List (List Int)} (x0 : 0 ≤ x) (b : ¬ r_bit (s - g_2 t.toNat) x) : o_D C s t (x + 1).toNat = o_D C s t x.toNat := by
  have e : o_D C s t (x.toNat + 1) = o_D C s t x.toNat ++ (if (s - g_2 t.toNat) / g_2 x.toNat % 2 = 1 then (C (s - g_2 t.toNat) (x.toNat : Int)).map (t :: ·) else []) := rfl
  rw [show (x + 1).toNat = x.toNat + 1 by omega, e, if_neg (show ¬ (s - g_2 t.toNat) / g_2 x.toNat % 2 = 1 from b), List.append_nil]
theorem o_pu {v : Int} (T : q_lwr c st J s t x z l e) (Th : q_dvh c st J l u) (Tp : q_ppv c st J w s t x h y) (hg : g ≤ e ∧ g ≤ u ∧ (g = e ∨ g = u)) (hk : h ≤ k ∧ g ≤ k ∧ (k = h ∨ k = g)) (hy : (g < w ∧ v = y) ∨ (w ≤ g ∧ ∃ n : Int, q_dvw c st J w l n ∧ v = y + n)) : q_ppv c st J w s t (x + 1) k v := by
  obtain ⟨⟨k9, ⟨x0, x6⟩, b9⟩, el, ee⟩ := T
  obtain ⟨⟨w9, s9, t9, x9⟩, m9, y9⟩ := Tp
  obtain ⟨n9, r9, -⟩ := o_rest k9 x0 x6 b9
  rw [← el] at n9
  have z9 := o_z6 n9
  obtain ⟨r2, x2, q2, M2⟩ := Th
  have z2 := o_z6 q2
  rw [show r2 = s - g_2 t.toNat by omega, show x2 = x by omega] at M2
  have yy : ∀ m ∈ o_K (s - g_2 t.toNat) x, o_h c st J (t :: m) = if e < o_h c st J m then e else o_h c st J m := fun m hm => by
    obtain ⟨-, m1, m2, m3⟩ := (o_K_mem n9).mp hm
    rw [m3] at m1 ⊢
    exact o_h_c m1 ee
  have eD := o_D_y (C := o_C (s - 1).toNat) (s := s) (t := t) x0 b9
  rw [o_C_K k9 x0 x6 b9] at eD
  refine ⟨⟨w9, s9, t9, by omega, by omega⟩, ?_, ?_⟩
  · rw [eD]
    exact o_M_app m9 M2 yy hg hk
  · rw [eD, o_n_app, ← y9, o_n_put M2 yy]
    rcases hy with ⟨h1, h2⟩ | ⟨h1, n, ⟨r3, x3, q3, N3⟩, h2⟩
    · rw [if_neg (by omega), h2, Int.add_zero]
    · have z3 := o_z6 q3
      rw [show r3 = s - g_2 t.toNat by omega, show x3 = x by omega] at N3
      rw [if_pos (by omega), h2, N3]
theorem o_dpb0 (T : q_sin s t z) (R : q_rsn s t r) (r0 : r = 0) (hw : 0 ≤ w ∧ w ≤ 999) (hh : h = o_m 999 (st t)) (hb : -2 ≤ h ∧ h ≤ 999) (hy : y = if w ≤ h then 1 else 0) : q_ppv c st J w s t 0 h y := by
  have e9 : s = g_2 t.toNat := by have := R.2; omega
  have d9 := o_D_0y (C := o_C (s - 1).toNat) e9
  have h1 : o_h c st J [t] = h := by rw [o_h_1, hh]
  refine ⟨⟨hw, T.1, ⟨T.2.1.1, T.2.1.2, T.2.2.2⟩, by omega, by omega⟩, ?_, ?_⟩
  · show o_M c st J h (o_D (o_C (s - 1).toNat) s t 0)
    rw [d9]
    refine ⟨hb, fun l hl => ?_, Or.inr ⟨[t], List.mem_singleton.mpr rfl, h1⟩⟩
    have e5 : l = [t] := List.mem_singleton.mp hl
    subst e5
    omega
  · show y = o_n (fun l => w ≤ o_h c st J l) (o_D (o_C (s - 1).toNat) s t 0)
    rw [d9]
    show y = 0 + @ite Int (w ≤ o_h c st J [t]) (Classical.propDecidable _) 1 0
    rw [h1, hy, Int.zero_add]
    by_cases d : w ≤ h
    · rw [if_pos d, if_pos d]
    · rw [if_neg d, if_neg d]
theorem o_dpbC (T : q_sin s t z) (R : q_rsn s t r) (r1 : 1 ≤ r) (hw : 0 ≤ w ∧ w ≤ 999) : q_ppv c st J w s t 0 (-2) 0 := by
  have e9 : ¬ s = g_2 t.toNat := by have := R.2; omega
  have d9 := o_D_0n (C := o_C (s - 1).toNat) e9
  refine ⟨⟨hw, T.1, ⟨T.2.1.1, T.2.1.2, T.2.2.2⟩, by omega, by omega⟩, ?_, ?_⟩
  · show o_M c st J (-2) (o_D (o_C (s - 1).toNat) s t 0)
    rw [d9]
    exact ⟨by omega, (fun l hl => by cases hl), Or.inl rfl⟩
  · show (0 : Int) = o_n (fun l => w ≤ o_h c st J l) (o_D (o_C (s - 1).toNat) s t 0)
    rw [d9]
    rfl
theorem o_dpbN (T : q_ppv c st J w s t x h y) (nb : ¬ r_bit (s - g_2 t.toNat) x) (x5 : x ≤ 5) : q_ppv c st J w s t (x + 1) h y := by
  obtain ⟨⟨w9, s9, t9, x9⟩, m9, y9⟩ := T
  have eD := o_D_n (C := o_C (s - 1).toNat) (s := s) (t := t) x9.1 nb
  refine ⟨⟨w9, s9, t9, by omega, by omega⟩, ?_, ?_⟩
  · rw [eD]; exact m9
  · rw [eD]; exact y9
theorem o_dpS (T : q_sin s t z) (P : q_ppv c st J w s t 6 h y) (D : q_dpt ha wy c st J w a z) (f0 : ha z = h) (f1 : wy z = y) : q_dpt ha wy c st J w a (z + 1) := by
  refine ⟨D.1, fun s2 t2 k2 u2 l2 => ?_⟩
  by_cases d : 6 * s2 + t2 < z
  · exact D.2 s2 t2 k2 u2 d
  · have z1 := o_z6 T
    have z2 := o_z6 k2
    have e1 : s2 = s := by omega
    have e2 : t2 = t := by omega
    have e3 : 6 * s2 + t2 = z := by omega
    rw [e3, f0, f1, e1, e2, o_K_D T]
    exact P.2
theorem o_dptN (D : q_dpt ha wy c st J w a z) (d : ∀ s t : Int, q_sin s t z → o_sub s a → False) : q_dpt ha wy c st J w a (z + 1) := by
  refine ⟨D.1, fun s2 t2 k2 u2 l2 => ?_⟩
  by_cases g : 6 * s2 + t2 < z
  · exact D.2 s2 t2 k2 u2 g
  · have e3 : 6 * s2 + t2 = z := by omega
    exact absurd u2 (fun u => d s2 t2 (by rw [← e3]; exact k2) u)
theorem o_dpt6 (D : q_dpt ha wy c st J w a z) (d : ∀ s t y : Int, z ≤ y → y < z + 6 → q_sin s t y → ¬ o_sub s a) : q_dpt ha wy c st J w a (z + 6) := by
  refine ⟨D.1, fun s2 t2 k2 u2 l2 => ?_⟩
  by_cases g : 6 * s2 + t2 < z
  · exact D.2 s2 t2 k2 u2 g
  · exact absurd u2 (d s2 t2 _ (by omega) l2 k2)
end ZZ1
section ZZ2
variable {c s9 j9 : Int → Int} {v : zVw} {K : Int → Int → Int} {H a n z i j t h H2 : Int} {A : Int → Int}
theorem o_sg_b {S : Int → Int} (w : g_wf H A) (h0 : 0 ≤ h) (h6 : h < 6) (b : 0 ≤ S h ∧ S h ≤ 99) : 0 ≤ g_sg S A h ∧ g_sg S A h ≤ 99 := by
  have l := w.2.2.2.2.2.2.1 h h0 h6
  unfold g_sg
  split
  · omega
  · exact b
theorem o_ab_H (w : g_wf H A) (a : o_ab A h) : h < H := by
  rcases Int.lt_or_le h H with d | d
  · exact d
  · have e := g_ha_out w d a.1.2
    have := a.2
    omega
theorem o_ab_H2 (H0 : 0 ≤ H) (H6 : H ≤ 6) (ea : a = g_ab A H.toNat) (h0 : 0 ≤ h) (h6 : h < 6) (b : r_bit a h) : h < H := by
  rcases Int.lt_or_le h H with d | d
  · exact d
  · exact absurd b (g_ab_hi (A := A) (j := h.toNat) H0 H6 (by omega) (by omega) ea)
theorem o_ab_n (H0 : 0 ≤ H) (H6 : H ≤ 6) (ea : a = g_ab A H.toNat) (en : g_op 104 1 H = n) : 0 ≤ a ∧ a < n := by
  rw [g_sh H0 H6] at en
  rw [← en, ea]
  exact g_ab_b
theorem o_bd_mk (w : g_wf H2 A) (H0 : 0 ≤ H) (H6 : H ≤ 6) (ea : a = g_ab A H.toNat) (e6 : a = g_ab A 6) (en : g_op 104 1 H = n) (hs : q_sts s9 (fun i => g_sg (v 20) A i) H) (hj : q_jrw j9 K A H 0 z) (hc : ∀ t : Int, 0 ≤ t → t < n → c t = g_ss A t 6) (hK : ∀ x y : Int, 0 ≤ K x y ∧ K x y ≤ 999) : o_bd c s9 (o_J j9) a := by
  refine ⟨fun t t0 t6 b => (hs t t0 (o_ab_H2 H0 H6 ea t0 t6 b)).2, fun t x t0 t6 x0 x6 b1 b2 ne => ?_, fun s u => ?_⟩
  · have e := hj.2 t x ((o_ab_bit e6 t0 t6).mp b1) ((o_ab_bit e6 x0 x6).mp b2) ne (Or.inl (o_ab_H2 H0 H6 ea t0 t6 b1))
    show 0 ≤ j9 (6 * t + x) ∧ j9 (6 * t + x) ≤ 999
    rw [e]
    exact hK t x
  · have n9 := o_ab_n H0 H6 ea en
    have l9 := o_le (by have := u.1; omega) u.1.2 u.2.1.1 u.2.1.2 u.2.2
    rw [hc s (by have := u.1; omega) (by omega)]
    have := g_ss_b w (x := s) 6 (Nat.le_refl _)
    omega
theorem o_agr_mk (w : g_wf H A) (H0 : 0 ≤ H) (H6 : H ≤ 6) (hs : q_sts s9 (fun i => g_sg (v 20) A i) H) (hj : q_jrw j9 K A H 0 z) (hc : ∀ t : Int, 0 ≤ t → t < n → c t = g_ss A t 6) (en : g_op 104 1 H = n) (e6 : a = g_ab A 6) : o_agr c s9 (o_J j9) v K A a := by
  have ea : a = g_ab A H.toNat := e6.trans (g_abE w H0 H6 (Int.le_refl H) (a := g_ab A H.toNat) rfl).symm
  have n9 := o_ab_n H0 H6 ea en
  have a6 := g_ab_6 (A := A)
  rw [← e6] at a6
  refine ⟨⟨a6.1, by omega⟩, fun h h0 h6 => o_ab_bit e6 h0 h6, fun l ln k ab => ?_, fun h ab => ?_, fun t u at_ au ne => ?_⟩
  · have b := o_z_b l k
    have le := o_le b.1.1 b.1.2 a6.1 (by omega) (fun h h0 h6 c9 => (o_ab_bit e6 h0 h6).mpr (ab h ((b.2 h h0 h6).mp c9)))
    exact hc _ b.1.1 (by omega)
  · exact (hs h ab.1.1 (o_ab_H w ab)).1
  · exact hj.2 t u at_ au ne (Or.inl (o_ab_H w at_))
theorem o_jrwS (T : q_jrw j9 K A i j z) (j5 : j ≤ 5) (h : j9 z = K i j ∨ i = j ∨ ¬ o_ab A i ∨ ¬ o_ab A j) : q_jrw j9 K A i (j + 1) (z + 1) := by
  obtain ⟨⟨T0, T1, T2, T3⟩, T4⟩ := T
  refine ⟨⟨T0, by omega, by omega, by omega⟩, fun x k c1 c2 c3 c4 => ?_⟩
  by_cases d : x = i ∧ k = j
  · rw [d.1] at c1 c3 ⊢
    rw [d.2] at c2 c3 ⊢
    rcases h with h | h | h | h
    · rw [← T3]; exact h
    · exact absurd h c3
    · exact absurd c1 h
    · exact absurd c2 h
  · exact T4 x k c1 c2 c3 (by omega)
theorem o_jrwL (w : g_wf H A) (T : q_jrw j9 K A i j z) (e : j = H) : q_jrw j9 K A (i + 1) 0 (6 * i + 6) := by
  obtain ⟨⟨T0, T1, T2, T3⟩, T4⟩ := T
  refine ⟨⟨by omega, by omega, by omega, by omega⟩, fun x k c1 c2 c3 c4 => T4 x k c1 c2 c3 ?_⟩
  have kH := o_ab_H w c2
  have k0 := c2.1
  omega
theorem o_hldS (T : q_hld j9 K A n) (h : j9 n = K (n / 6) (n % 6) ∨ ¬ o_ab A (n / 6) ∨ ¬ o_ab A (n % 6) ∨ n / 6 = n % 6) : q_hld j9 K A (n + 1) := fun k k0 k1 k2 k3 k4 => by
  by_cases d : k = n
  · rw [d] at k2 k3 k4 ⊢
    rcases h with h | h | h | h
    · exact h
    · exact absurd k2 h
    · exact absurd k3 h
    · exact absurd h k4
  · exact T k k0 (by omega) k2 k3 k4
theorem o_hld36 (T : q_hld j9 K A 36) (a : o_ab A t) (b : o_ab A h) (ne : t ≠ h) : j9 (6 * t + h) = K t h := by
  have a9 := a.1
  have b9 := b.1
  have e1 : (6 * t + h) / 6 = t := by omega
  have e2 : (6 * t + h) % 6 = h := by omega
  have r := T (6 * t + h) (by omega) (by omega)
  rw [e1, e2] at r
  exact r a b ne
theorem o_i_E {w W u : Int} {X : List (List Int)} (T : o_i v K A w W (-1) u X) (u0 : 0 ≤ u) : o_i v K A w W (-2) u X := by
  rcases T with ⟨T1, -⟩ | T
  · omega
  · exact Or.inr T
theorem o_i_F {w W u : Int} {X : List (List Int)} (T : o_i v K A w W (-1) u X) (u0 : u < 0) : o_i v K A w W (-2) (-2) X := by
  rcases T with ⟨-, T⟩ | ⟨T, -⟩
  · exact Or.inl ⟨rfl, T⟩
  · omega
end ZZ2
/-! ===== some order holds ===== -/
section ZZ3
variable {c st : Int → Int} {J K : Int → Int → Int} {v : zVw} {w W a r p i u : Int} {A : Int → Int}
theorem o_E_Y (g : o_agr c st J v K A a) (T : q_not c st J w W a 384 r p i) (r1 : 1 ≤ r) : o_E v K A w W := by
  obtain ⟨l, hl⟩ := o_T_ex T r1
  exact ⟨l.reverse, (o_TA g).mp hl⟩
theorem o_E_N (g : o_agr c st J v K A a) (T : q_not c st J w W a 384 r p i) (r1 : r ≤ 0) : ¬ o_E v K A w W := by
  rintro ⟨l, h1, h2⟩
  exact o_T_no0 T r1 _ ((o_TA2 g).mpr ⟨h1, h2⟩)
theorem o_E_x (T : o_x v K A W u (o_A (o_a A))) (w0 : 0 ≤ w) : (w ≤ u → o_E v K A w W) ∧ (u < w → ¬ o_E v K A w W) := by
  refine ⟨fun h => ?_, fun h => ?_⟩
  · rcases T.2 with e | ⟨-, r, r0, r1, r2⟩
    · omega
    · exact ⟨r, r0, r1.1, by rw [r2]; exact h⟩
  · rintro ⟨r, r0, r1⟩
    have h1 := T.1 r r0 ⟨r1.1, Int.le_trans w0 r1.2⟩
    have h2 := r1.2
    omega
theorem o_so_eq {P : Int → Prop} {u w : Int} (a : (0 ≤ u ∧ u ≤ 60 ∧ (∀ j : Int, 0 ≤ j → j < u → ¬ P j) ∧ P u) ∨ (u = -2 ∧ ∀ j : Int, 0 ≤ j → j < 61 → ¬ P j)) (b : (0 ≤ w ∧ w ≤ 60 ∧ (∀ j : Int, 0 ≤ j → j < w → ¬ P j) ∧ P w) ∨ (w = -2 ∧ ∀ j : Int, 0 ≤ j → j < 61 → ¬ P j)) : u = w := by
  rcases a with ⟨a1, a2, a3, a4⟩ | ⟨a1, a2⟩
  · rcases b with ⟨b1, b2, b3, b4⟩ | ⟨b1, b2⟩
    · rcases Int.lt_trichotomy u w with h | h | h
      · exact absurd a4 (b3 u a1 h)
      · exact h
      · exact absurd b4 (a3 w b1 h)
    · exact absurd a4 (b2 u a1 (by omega))
  · rcases b with ⟨b1, b2, b3, b4⟩ | ⟨b1, b2⟩
    · exact absurd b4 (a2 w b1 (by omega))
    · omega
end ZZ3
section ZZ4
variable {v : zVw} {H q b s o a1 a2 a3 x1 x2 u : Int} {A : Int → Int}
theorem g_k61 (T : q_qry v 61 q b s o a1 a2 a3 x1 x2 u) : (0 ≤ u ∧ u ≤ 60 ∧ (∀ k : Int, 0 ≤ k → k < u → ¬ o_E v (g_jy v q (g_yr v q 0 0 (x1 % 10) (g_F v q b s o a1 a2 a3 (g_nw v)) k.toNat) 0) (g_yr v q 0 0 (x1 % 10) (g_F v q b s o a1 a2 a3 (g_nw v)) k.toNat) (x1 / 10) x2) ∧ o_E v (g_jy v q (g_yr v q 0 0 (x1 % 10) (g_F v q b s o a1 a2 a3 (g_nw v)) u.toNat) 0) (g_yr v q 0 0 (x1 % 10) (g_F v q b s o a1 a2 a3 (g_nw v)) u.toNat) (x1 / 10) x2) ∨ (u = -2 ∧ ∀ k : Int, 0 ≤ k → k < 61 → ¬ o_E v (g_jy v q (g_yr v q 0 0 (x1 % 10) (g_F v q b s o a1 a2 a3 (g_nw v)) k.toNat) 0) (g_yr v q 0 0 (x1 % 10) (g_F v q b s o a1 a2 a3 (g_nw v)) k.toNat) (x1 / 10) x2) := T.2
theorem g_Q61 (h : (0 ≤ u ∧ u ≤ 60 ∧ (∀ k : Int, 0 ≤ k → k < u → ¬ o_E v (g_jy v q (g_yr v q 0 0 (x1 % 10) A k.toNat) 0) (g_yr v q 0 0 (x1 % 10) A k.toNat) (x1 / 10) x2) ∧ o_E v (g_jy v q (g_yr v q 0 0 (x1 % 10) A u.toNat) 0) (g_yr v q 0 0 (x1 % 10) A u.toNat) (x1 / 10) x2) ∨ (u = -2 ∧ ∀ k : Int, 0 ≤ k → k < 61 → ¬ o_E v (g_jy v q (g_yr v q 0 0 (x1 % 10) A k.toNat) 0) (g_yr v q 0 0 (x1 % 10) A k.toNat) (x1 / 10) x2)) : q_Q v q b s A 61 x1 x2 u := h
theorem g_k62 (T : q_qry v 62 q b s o a1 a2 a3 x1 x2 u) : ∀ k : Int, 0 ≤ k → k < u → ¬ o_E v (g_jy v q (g_yr v q 0 0 (x1 % 10) (g_F v q b s o a1 a2 a3 (g_nw v)) k.toNat) 0) (g_yr v q 0 0 (x1 % 10) (g_F v q b s o a1 a2 a3 (g_nw v)) k.toNat) (x1 / 10) x2 := T.2
theorem g_Q62 (h : ∀ k : Int, 0 ≤ k → k < u → ¬ o_E v (g_jy v q (g_yr v q 0 0 (x1 % 10) A k.toNat) 0) (g_yr v q 0 0 (x1 % 10) A k.toNat) (x1 / 10) x2) : q_Q v q b s A 62 x1 x2 u := h
end ZZ4
