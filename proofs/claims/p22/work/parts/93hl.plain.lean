/-! ===== the lemmas in plain numbers, by program ===== -/
theorem k_dvh {V : zVw} {z l h s t x e w a : Int} (T0 : q_lwr (V 40) (V 34) (o_J (V 35)) s t x z l e) (T1 : o_sub s a) (T2 : q_dpt (V 37) (V 38) (V 40) (V 34) (o_J (V 35)) w a z) (F0 : (0 : Int) ≤ l ∧ (l : Int) < j_len 37 ∧ V 37 (l) = h) : (0 ≤ h + 2 ∧ 0 ≤ 999 - h ∧ True) ∧ (q_dvh (V 40) (V 34) (o_J (V 35)) l h ∧ True) := by
  have h9 := o_dv T0 T1 T2
  rw [F0.2.2] at h9
  have b9 := h9.2.2.1
  exact ⟨⟨by omega, by omega, trivial⟩, h9.1, trivial⟩
theorem k_dvw {V : zVw} {z l y s t x e w a : Int} (T0 : q_lwr (V 40) (V 34) (o_J (V 35)) s t x z l e) (T1 : o_sub s a) (T2 : q_dpt (V 37) (V 38) (V 40) (V 34) (o_J (V 35)) w a z) (F0 : (0 : Int) ≤ l ∧ (l : Int) < j_len 38 ∧ V 38 (l) = y) : (0 ≤ y ∧ 0 ≤ 7776 - y ∧ True) ∧ (q_dvw (V 40) (V 34) (o_J (V 35)) w l y ∧ True) := by
  have h9 := o_dv T0 T1 T2
  rw [F0.2.2] at h9
  have b9 := h9.2.2.2
  exact ⟨⟨by omega, by omega, trivial⟩, h9.2.1, trivial⟩
theorem k_ppr {V : zVw} {w s t x h y z l e : Int} (T0 : q_lwr (V 40) (V 34) (o_J (V 35)) s t x z l e) (T1 : q_ppv (V 40) (V 34) (o_J (V 35)) w s t x h y) : (0 ≤ y ∧ 0 ≤ 46656 - y ∧ 0 ≤ h + 2 ∧ 0 ≤ 999 - h ∧ True) ∧ (True) := by
  have h9 := o_ppr T1
  exact ⟨⟨by omega, by omega, by omega, by omega, trivial⟩, trivial⟩
theorem k_puNaa {V : zVw} {z l g k y s t x e w u h : Int} (T0 : q_lwr (V 40) (V 34) (o_J (V 35)) s t x z l e) (T1 : q_dvh (V 40) (V 34) (o_J (V 35)) l u) (T2 : q_ppv (V 40) (V 34) (o_J (V 35)) w s t x h y) (C0 : 0 ≤ e - g) (C1 : 0 ≤ g - e) (C2 : 0 ≤ u - e) (C3 : 0 ≤ h - g) (C4 : 0 ≤ k - h) (C5 : 0 ≤ h - k) (C6 : 0 ≤ w - g - 1) (C7 : 0 ≤ w) (F0 : (0 : Int) ≤ z ∧ (z : Int) < j_len 37 ∧ V 37 (z) = k) (F1 : (0 : Int) ≤ z ∧ (z : Int) < j_len 38 ∧ V 38 (z) = y) : (True) ∧ (q_ppv (V 40) (V 34) (o_J (V 35)) w s t (x + 1) k y ∧ True) := by
  exact ⟨trivial, o_pu T0 T1 T2 (g := g) ⟨by omega, by omega, by omega⟩ ⟨by omega, by omega, by omega⟩ (Or.inl ⟨by omega, rfl⟩), trivial⟩
theorem k_puYaa {V : zVw} {z l g k y v s t x e w u h c : Int} (T0 : q_lwr (V 40) (V 34) (o_J (V 35)) s t x z l e) (T1 : q_dvh (V 40) (V 34) (o_J (V 35)) l u) (T2 : q_dvw (V 40) (V 34) (o_J (V 35)) w l c) (T3 : q_ppv (V 40) (V 34) (o_J (V 35)) w s t x h y) (C0 : 0 ≤ e - g) (C1 : 0 ≤ g - e) (C2 : 0 ≤ u - e) (C3 : 0 ≤ h - g) (C4 : 0 ≤ k - h) (C5 : 0 ≤ h - k) (C6 : 0 ≤ g - w) (C7 : 0 ≤ w) (C8 : 0 ≤ v - y - c) (C9 : 0 ≤ y + c - v) (F0 : (0 : Int) ≤ z ∧ (z : Int) < j_len 37 ∧ V 37 (z) = k) (F1 : (0 : Int) ≤ z ∧ (z : Int) < j_len 38 ∧ V 38 (z) = v) : (True) ∧ (q_ppv (V 40) (V 34) (o_J (V 35)) w s t (x + 1) k v ∧ True) := by
  exact ⟨trivial, o_pu T0 T1 T3 (g := g) ⟨by omega, by omega, by omega⟩ ⟨by omega, by omega, by omega⟩ (Or.inr ⟨by omega, c, T2, by omega⟩), trivial⟩
theorem k_puNab {V : zVw} {z l g k y s t x e w u h : Int} (T0 : q_lwr (V 40) (V 34) (o_J (V 35)) s t x z l e) (T1 : q_dvh (V 40) (V 34) (o_J (V 35)) l u) (T2 : q_ppv (V 40) (V 34) (o_J (V 35)) w s t x h y) (C0 : 0 ≤ e - g) (C1 : 0 ≤ g - e) (C2 : 0 ≤ u - e) (C3 : 0 ≤ g - h) (C4 : 0 ≤ k - g) (C5 : 0 ≤ g - k) (C6 : 0 ≤ w - g - 1) (C7 : 0 ≤ w) (F0 : (0 : Int) ≤ z ∧ (z : Int) < j_len 37 ∧ V 37 (z) = k) (F1 : (0 : Int) ≤ z ∧ (z : Int) < j_len 38 ∧ V 38 (z) = y) : (True) ∧ (q_ppv (V 40) (V 34) (o_J (V 35)) w s t (x + 1) k y ∧ True) := by
  exact ⟨trivial, o_pu T0 T1 T2 (g := g) ⟨by omega, by omega, by omega⟩ ⟨by omega, by omega, by omega⟩ (Or.inl ⟨by omega, rfl⟩), trivial⟩
theorem k_puYab {V : zVw} {z l g k y v s t x e w u h c : Int} (T0 : q_lwr (V 40) (V 34) (o_J (V 35)) s t x z l e) (T1 : q_dvh (V 40) (V 34) (o_J (V 35)) l u) (T2 : q_dvw (V 40) (V 34) (o_J (V 35)) w l c) (T3 : q_ppv (V 40) (V 34) (o_J (V 35)) w s t x h y) (C0 : 0 ≤ e - g) (C1 : 0 ≤ g - e) (C2 : 0 ≤ u - e) (C3 : 0 ≤ g - h) (C4 : 0 ≤ k - g) (C5 : 0 ≤ g - k) (C6 : 0 ≤ g - w) (C7 : 0 ≤ w) (C8 : 0 ≤ v - y - c) (C9 : 0 ≤ y + c - v) (F0 : (0 : Int) ≤ z ∧ (z : Int) < j_len 37 ∧ V 37 (z) = k) (F1 : (0 : Int) ≤ z ∧ (z : Int) < j_len 38 ∧ V 38 (z) = v) : (True) ∧ (q_ppv (V 40) (V 34) (o_J (V 35)) w s t (x + 1) k v ∧ True) := by
  exact ⟨trivial, o_pu T0 T1 T3 (g := g) ⟨by omega, by omega, by omega⟩ ⟨by omega, by omega, by omega⟩ (Or.inr ⟨by omega, c, T2, by omega⟩), trivial⟩
theorem k_puNba {V : zVw} {z l g k y s t x e w u h : Int} (T0 : q_lwr (V 40) (V 34) (o_J (V 35)) s t x z l e) (T1 : q_dvh (V 40) (V 34) (o_J (V 35)) l u) (T2 : q_ppv (V 40) (V 34) (o_J (V 35)) w s t x h y) (C0 : 0 ≤ u - g) (C1 : 0 ≤ g - u) (C2 : 0 ≤ e - u) (C3 : 0 ≤ h - g) (C4 : 0 ≤ k - h) (C5 : 0 ≤ h - k) (C6 : 0 ≤ w - g - 1) (C7 : 0 ≤ w) (F0 : (0 : Int) ≤ z ∧ (z : Int) < j_len 37 ∧ V 37 (z) = k) (F1 : (0 : Int) ≤ z ∧ (z : Int) < j_len 38 ∧ V 38 (z) = y) : (True) ∧ (q_ppv (V 40) (V 34) (o_J (V 35)) w s t (x + 1) k y ∧ True) := by
  exact ⟨trivial, o_pu T0 T1 T2 (g := g) ⟨by omega, by omega, by omega⟩ ⟨by omega, by omega, by omega⟩ (Or.inl ⟨by omega, rfl⟩), trivial⟩
theorem k_puYba {V : zVw} {z l g k y v s t x e w u h c : Int} (T0 : q_lwr (V 40) (V 34) (o_J (V 35)) s t x z l e) (T1 : q_dvh (V 40) (V 34) (o_J (V 35)) l u) (T2 : q_dvw (V 40) (V 34) (o_J (V 35)) w l c) (T3 : q_ppv (V 40) (V 34) (o_J (V 35)) w s t x h y) (C0 : 0 ≤ u - g) (C1 : 0 ≤ g - u) (C2 : 0 ≤ e - u) (C3 : 0 ≤ h - g) (C4 : 0 ≤ k - h) (C5 : 0 ≤ h - k) (C6 : 0 ≤ g - w) (C7 : 0 ≤ w) (C8 : 0 ≤ v - y - c) (C9 : 0 ≤ y + c - v) (F0 : (0 : Int) ≤ z ∧ (z : Int) < j_len 37 ∧ V 37 (z) = k) (F1 : (0 : Int) ≤ z ∧ (z : Int) < j_len 38 ∧ V 38 (z) = v) : (True) ∧ (q_ppv (V 40) (V 34) (o_J (V 35)) w s t (x + 1) k v ∧ True) := by
  exact ⟨trivial, o_pu T0 T1 T3 (g := g) ⟨by omega, by omega, by omega⟩ ⟨by omega, by omega, by omega⟩ (Or.inr ⟨by omega, c, T2, by omega⟩), trivial⟩
theorem k_puNbb {V : zVw} {z l g k y s t x e w u h : Int} (T0 : q_lwr (V 40) (V 34) (o_J (V 35)) s t x z l e) (T1 : q_dvh (V 40) (V 34) (o_J (V 35)) l u) (T2 : q_ppv (V 40) (V 34) (o_J (V 35)) w s t x h y) (C0 : 0 ≤ u - g) (C1 : 0 ≤ g - u) (C2 : 0 ≤ e - u) (C3 : 0 ≤ g - h) (C4 : 0 ≤ k - g) (C5 : 0 ≤ g - k) (C6 : 0 ≤ w - g - 1) (C7 : 0 ≤ w) (F0 : (0 : Int) ≤ z ∧ (z : Int) < j_len 37 ∧ V 37 (z) = k) (F1 : (0 : Int) ≤ z ∧ (z : Int) < j_len 38 ∧ V 38 (z) = y) : (True) ∧ (q_ppv (V 40) (V 34) (o_J (V 35)) w s t (x + 1) k y ∧ True) := by
  exact ⟨trivial, o_pu T0 T1 T2 (g := g) ⟨by omega, by omega, by omega⟩ ⟨by omega, by omega, by omega⟩ (Or.inl ⟨by omega, rfl⟩), trivial⟩
theorem k_puYbb {V : zVw} {z l g k y v s t x e w u h c : Int} (T0 : q_lwr (V 40) (V 34) (o_J (V 35)) s t x z l e) (T1 : q_dvh (V 40) (V 34) (o_J (V 35)) l u) (T2 : q_dvw (V 40) (V 34) (o_J (V 35)) w l c) (T3 : q_ppv (V 40) (V 34) (o_J (V 35)) w s t x h y) (C0 : 0 ≤ u - g) (C1 : 0 ≤ g - u) (C2 : 0 ≤ e - u) (C3 : 0 ≤ g - h) (C4 : 0 ≤ k - g) (C5 : 0 ≤ g - k) (C6 : 0 ≤ g - w) (C7 : 0 ≤ w) (C8 : 0 ≤ v - y - c) (C9 : 0 ≤ y + c - v) (F0 : (0 : Int) ≤ z ∧ (z : Int) < j_len 37 ∧ V 37 (z) = k) (F1 : (0 : Int) ≤ z ∧ (z : Int) < j_len 38 ∧ V 38 (z) = v) : (True) ∧ (q_ppv (V 40) (V 34) (o_J (V 35)) w s t (x + 1) k v ∧ True) := by
  exact ⟨trivial, o_pu T0 T1 T3 (g := g) ⟨by omega, by omega, by omega⟩ ⟨by omega, by omega, by omega⟩ (Or.inr ⟨by omega, c, T2, by omega⟩), trivial⟩
theorem k_anr {V : zVw} {s m r : Int} (T0 : (mOP 101 (Int32.ofInt s) (Int32.ofInt m)).toInt = r) (C0 : 0 ≤ s) (C1 : 0 ≤ 63 - s) : (0 ≤ r ∧ 0 ≤ s - r ∧ True) ∧ (True) := by
  have h1 : g_op 101 s m = r := T0
  have h9 := g_and_b (by omega) (by omega) h1
  exact ⟨⟨by omega, by omega, trivial⟩, trivial⟩
theorem k_rsn {V : zVw} {s t r m n z : Int} (T0 : q_sin s t z) (T1 : (mOP 101 (Int32.ofInt s) (Int32.ofInt m)).toInt = r) (T2 : (mOP 103 (Int32.ofInt n) (Int32.ofInt (-1 : Int))).toInt = m) (T3 : (mOP 104 (Int32.ofInt (1 : Int)) (Int32.ofInt t)).toInt = n) (C0 : 0 ≤ s) (C1 : 0 ≤ 63 - s) (C2 : 0 ≤ t) (C3 : 0 ≤ 5 - t) : (0 ≤ s - r - 1 ∧ True) ∧ (q_rsn s t r ∧ True) := by
  have h1 : g_op 104 1 t = n := T3
  have h2 : g_op 103 n (-1) = m := T2
  have h3 : g_op 101 s m = r := T1
  have e9 := o_rsn (by omega) (by omega) (by omega) (by omega) T0.2.2.2 h1 h2 h3
  have d9 := (o_del (by omega) (by omega) (by omega) (by omega) T0.2.2.2).1
  exact ⟨⟨by omega, trivial⟩, ⟨⟨by omega, by omega, by omega, by omega, T0.2.2.2⟩, e9⟩, trivial⟩
theorem k_dpbA1 {V : zVw} {z r h y w s t g : Int} (T0 : q_sin s t z) (T1 : q_rsn s t r) (C0 : 0 ≤ r) (C1 : 0 ≤ -r) (C2 : 0 ≤ h - 999) (C3 : 0 ≤ 999 - h) (C4 : 0 ≤ g - 999) (C5 : 0 ≤ y - 1) (C6 : 0 ≤ 1 - y) (C7 : 0 ≤ h - w) (C8 : 0 ≤ w) (C9 : 0 ≤ 999 - w) (C10 : 0 ≤ t) (C11 : 0 ≤ 5 - t) (C12 : 0 ≤ s - 1) (C13 : 0 ≤ 63 - s) (F0 : (0 : Int) ≤ t ∧ (t : Int) < j_len 34 ∧ V 34 (t) = g) (F1 : (0 : Int) ≤ z ∧ (z : Int) < j_len 37 ∧ V 37 (z) = h) (F2 : (0 : Int) ≤ z ∧ (z : Int) < j_len 38 ∧ V 38 (z) = y) : (0 ≤ h + 2 ∧ 0 ≤ 999 - h ∧ True) ∧ (q_ppv (V 40) (V 34) (o_J (V 35)) w s t (0 : Int) h y ∧ True) := by
  have f0 := F0.2.2
  exact ⟨⟨by omega, by omega, trivial⟩, o_dpb0 T0 T1 (by omega) ⟨by omega, by omega⟩ (by rw [f0]; unfold o_m; split <;> omega) ⟨by omega, by omega⟩ (by rw [if_pos (by omega)]; omega), trivial⟩
theorem k_dpbA0 {V : zVw} {z r h y w s t g : Int} (T0 : q_sin s t z) (T1 : q_rsn s t r) (C0 : 0 ≤ r) (C1 : 0 ≤ -r) (C2 : 0 ≤ h - 999) (C3 : 0 ≤ 999 - h) (C4 : 0 ≤ g - 999) (C5 : 0 ≤ y) (C6 : 0 ≤ -y) (C7 : 0 ≤ w - h - 1) (C8 : 0 ≤ w) (C9 : 0 ≤ 999 - w) (C10 : 0 ≤ t) (C11 : 0 ≤ 5 - t) (C12 : 0 ≤ s - 1) (C13 : 0 ≤ 63 - s) (F0 : (0 : Int) ≤ t ∧ (t : Int) < j_len 34 ∧ V 34 (t) = g) (F1 : (0 : Int) ≤ z ∧ (z : Int) < j_len 37 ∧ V 37 (z) = h) (F2 : (0 : Int) ≤ z ∧ (z : Int) < j_len 38 ∧ V 38 (z) = y) : (0 ≤ h + 2 ∧ 0 ≤ 999 - h ∧ True) ∧ (q_ppv (V 40) (V 34) (o_J (V 35)) w s t (0 : Int) h y ∧ True) := by
  have f0 := F0.2.2
  exact ⟨⟨by omega, by omega, trivial⟩, o_dpb0 T0 T1 (by omega) ⟨by omega, by omega⟩ (by rw [f0]; unfold o_m; split <;> omega) ⟨by omega, by omega⟩ (by rw [if_neg (by omega)]; omega), trivial⟩
theorem k_dpbB1 {V : zVw} {z r h y w s t g : Int} (T0 : q_sin s t z) (T1 : q_rsn s t r) (C0 : 0 ≤ r) (C1 : 0 ≤ -r) (C2 : 0 ≤ h - g) (C3 : 0 ≤ g - h) (C4 : 0 ≤ 999 - g) (C5 : 0 ≤ g) (C6 : 0 ≤ y - 1) (C7 : 0 ≤ 1 - y) (C8 : 0 ≤ h - w) (C9 : 0 ≤ w) (C10 : 0 ≤ 999 - w) (C11 : 0 ≤ t) (C12 : 0 ≤ 5 - t) (C13 : 0 ≤ s - 1) (C14 : 0 ≤ 63 - s) (F0 : (0 : Int) ≤ t ∧ (t : Int) < j_len 34 ∧ V 34 (t) = g) (F1 : (0 : Int) ≤ z ∧ (z : Int) < j_len 37 ∧ V 37 (z) = h) (F2 : (0 : Int) ≤ z ∧ (z : Int) < j_len 38 ∧ V 38 (z) = y) : (0 ≤ h + 2 ∧ 0 ≤ 999 - h ∧ True) ∧ (q_ppv (V 40) (V 34) (o_J (V 35)) w s t (0 : Int) h y ∧ True) := by
  have f0 := F0.2.2
  exact ⟨⟨by omega, by omega, trivial⟩, o_dpb0 T0 T1 (by omega) ⟨by omega, by omega⟩ (by rw [f0]; unfold o_m; split <;> omega) ⟨by omega, by omega⟩ (by rw [if_pos (by omega)]; omega), trivial⟩
theorem k_dpbB0 {V : zVw} {z r h y w s t g : Int} (T0 : q_sin s t z) (T1 : q_rsn s t r) (C0 : 0 ≤ r) (C1 : 0 ≤ -r) (C2 : 0 ≤ h - g) (C3 : 0 ≤ g - h) (C4 : 0 ≤ 999 - g) (C5 : 0 ≤ g) (C6 : 0 ≤ y) (C7 : 0 ≤ -y) (C8 : 0 ≤ w - h - 1) (C9 : 0 ≤ w) (C10 : 0 ≤ 999 - w) (C11 : 0 ≤ t) (C12 : 0 ≤ 5 - t) (C13 : 0 ≤ s - 1) (C14 : 0 ≤ 63 - s) (F0 : (0 : Int) ≤ t ∧ (t : Int) < j_len 34 ∧ V 34 (t) = g) (F1 : (0 : Int) ≤ z ∧ (z : Int) < j_len 37 ∧ V 37 (z) = h) (F2 : (0 : Int) ≤ z ∧ (z : Int) < j_len 38 ∧ V 38 (z) = y) : (0 ≤ h + 2 ∧ 0 ≤ 999 - h ∧ True) ∧ (q_ppv (V 40) (V 34) (o_J (V 35)) w s t (0 : Int) h y ∧ True) := by
  have f0 := F0.2.2
  exact ⟨⟨by omega, by omega, trivial⟩, o_dpb0 T0 T1 (by omega) ⟨by omega, by omega⟩ (by rw [f0]; unfold o_m; split <;> omega) ⟨by omega, by omega⟩ (by rw [if_neg (by omega)]; omega), trivial⟩
theorem k_dpbC0 {V : zVw} {z r h y w s t : Int} (T0 : q_sin s t z) (T1 : q_rsn s t r) (C0 : 0 ≤ r - 1) (C1 : 0 ≤ h + 2) (C2 : 0 ≤ -h - 2) (C3 : 0 ≤ y) (C4 : 0 ≤ -y) (C5 : 0 ≤ w - h - 1) (C6 : 0 ≤ w) (C7 : 0 ≤ 999 - w) (C8 : 0 ≤ t) (C9 : 0 ≤ 5 - t) (C10 : 0 ≤ s - 1) (C11 : 0 ≤ 63 - s) (F0 : (0 : Int) ≤ z ∧ (z : Int) < j_len 37 ∧ V 37 (z) = h) (F1 : (0 : Int) ≤ z ∧ (z : Int) < j_len 38 ∧ V 38 (z) = y) : (0 ≤ h + 2 ∧ 0 ≤ 999 - h ∧ True) ∧ (q_ppv (V 40) (V 34) (o_J (V 35)) w s t (0 : Int) h y ∧ True) := by
  have h9 : h = -2 := by omega
  have y9 : y = 0 := by omega
  subst h9
  subst y9
  exact ⟨⟨by omega, by omega, trivial⟩, o_dpbC T0 T1 (by omega) ⟨by omega, by omega⟩, trivial⟩
theorem k_anz {V : zVw} {r n b : Int} (T0 : (mOP 101 (Int32.ofInt r) (Int32.ofInt n)).toInt = b) (C0 : 0 ≤ r) (C1 : 0 ≤ 63 - r) : (0 ≤ b ∧ True) ∧ (True) := by
  have h1 : g_op 101 r n = b := T0
  have h9 := g_and_b (by omega) (by omega) h1
  exact ⟨⟨by omega, trivial⟩, trivial⟩
theorem k_lwra {V : zVw} {x z l e s t r g u c b n : Int} (T0 : q_sin s t z) (T1 : q_rsn s t r) (T2 : (mOP 101 (Int32.ofInt r) (Int32.ofInt n)).toInt = b) (T3 : (mOP 104 (Int32.ofInt (1 : Int)) (Int32.ofInt x)).toInt = n) (C0 : 0 ≤ u - g) (C1 : 0 ≤ e + c - g) (C2 : 0 ≤ g - e - c) (C3 : 0 ≤ b - 1) (C4 : 0 ≤ x) (C5 : 0 ≤ 5 - x) (C6 : 0 ≤ l - x - 6 * r) (C7 : 0 ≤ x + 6 * r - l) (C8 : 0 ≤ r) (C9 : 0 ≤ 63 - r) (C10 : 0 ≤ t) (C11 : 0 ≤ 5 - t) (C12 : 0 ≤ s - 1) (C13 : 0 ≤ 63 - s) (F0 : (0 : Int) ≤ t ∧ (t : Int) < j_len 34 ∧ V 34 (t) = g) (F1 : (0 : Int) ≤ x + 6 * t ∧ (x + 6 * t : Int) < j_len 35 ∧ V 35 (x + 6 * t) = u) (F2 : (0 : Int) ≤ r ∧ (r : Int) < j_len 40 ∧ V 40 (r) = c) : (0 ≤ z - l - 1 ∧ 0 ≤ l - 6 ∧ True) ∧ (q_lwr (V 40) (V 34) (o_J (V 35)) s t x z l e ∧ True) := by
  have h1 : g_op 104 1 x = n := T3
  have h2 : g_op 101 r n = b := T2
  have b9 := r_bt1 (x := r) (i := x) (by omega) (by omega) (by omega) (by omega) h1 h2
  have b8 := b9.mp (by omega)
  have f0 := F0.2.2
  have f1 := F1.2.2
  have f2 := F2.2.2
  rw [show x + 6 * t = 6 * t + x by omega] at f1
  have r9 := T1.2
  rw [r9] at b8 f2
  have k9 := o_rest T0 (by omega) (by omega) b8
  have k8 := k9.2.1
  have k7 := k9.1.1.1
  exact ⟨⟨by omega, by omega, trivial⟩, ⟨⟨T0, ⟨by omega, by omega⟩, b8⟩, by omega, by
    rw [show o_J (V 35) t x = u from f1, f0, f2]
    unfold o_m
    split <;> omega⟩, trivial⟩
theorem k_lwrb {V : zVw} {x z l e s t r g u c b n : Int} (T0 : q_sin s t z) (T1 : q_rsn s t r) (T2 : (mOP 101 (Int32.ofInt r) (Int32.ofInt n)).toInt = b) (T3 : (mOP 104 (Int32.ofInt (1 : Int)) (Int32.ofInt x)).toInt = n) (C0 : 0 ≤ g - u) (C1 : 0 ≤ e + c - u) (C2 : 0 ≤ u - e - c) (C3 : 0 ≤ b - 1) (C4 : 0 ≤ x) (C5 : 0 ≤ 5 - x) (C6 : 0 ≤ l - x - 6 * r) (C7 : 0 ≤ x + 6 * r - l) (C8 : 0 ≤ r) (C9 : 0 ≤ 63 - r) (C10 : 0 ≤ t) (C11 : 0 ≤ 5 - t) (C12 : 0 ≤ s - 1) (C13 : 0 ≤ 63 - s) (F0 : (0 : Int) ≤ t ∧ (t : Int) < j_len 34 ∧ V 34 (t) = g) (F1 : (0 : Int) ≤ x + 6 * t ∧ (x + 6 * t : Int) < j_len 35 ∧ V 35 (x + 6 * t) = u) (F2 : (0 : Int) ≤ r ∧ (r : Int) < j_len 40 ∧ V 40 (r) = c) : (0 ≤ z - l - 1 ∧ 0 ≤ l - 6 ∧ True) ∧ (q_lwr (V 40) (V 34) (o_J (V 35)) s t x z l e ∧ True) := by
  have h1 : g_op 104 1 x = n := T3
  have h2 : g_op 101 r n = b := T2
  have b9 := r_bt1 (x := r) (i := x) (by omega) (by omega) (by omega) (by omega) h1 h2
  have b8 := b9.mp (by omega)
  have f0 := F0.2.2
  have f1 := F1.2.2
  have f2 := F2.2.2
  rw [show x + 6 * t = 6 * t + x by omega] at f1
  have r9 := T1.2
  rw [r9] at b8 f2
  have k9 := o_rest T0 (by omega) (by omega) b8
  have k8 := k9.2.1
  have k7 := k9.1.1.1
  exact ⟨⟨by omega, by omega, trivial⟩, ⟨⟨T0, ⟨by omega, by omega⟩, b8⟩, by omega, by
    rw [show o_J (V 35) t x = u from f1, f0, f2]
    unfold o_m
    split <;> omega⟩, trivial⟩
theorem k_dpbN {V : zVw} {x w s t r h y b n : Int} (T0 : q_rsn s t r) (T1 : (mOP 101 (Int32.ofInt r) (Int32.ofInt n)).toInt = b) (T2 : (mOP 104 (Int32.ofInt (1 : Int)) (Int32.ofInt x)).toInt = n) (T3 : q_ppv (V 40) (V 34) (o_J (V 35)) w s t x h y) (C0 : 0 ≤ b) (C1 : 0 ≤ -b) (C2 : 0 ≤ x) (C3 : 0 ≤ 5 - x) (C4 : 0 ≤ r) (C5 : 0 ≤ 63 - r) : (True) ∧ (q_ppv (V 40) (V 34) (o_J (V 35)) w s t (x + 1) h y ∧ True) := by
  have h1 : g_op 104 1 x = n := T2
  have h2 : g_op 101 r n = b := T1
  have b9 := r_bt1 (x := r) (i := x) (by omega) (by omega) (by omega) (by omega) h1 h2
  have nb : ¬ r_bit r x := fun c9 => by
    have := b9.mpr c9
    omega
  rw [T0.2] at nb
  exact ⟨trivial, o_dpbN T3 nb (by omega), trivial⟩
theorem k_dpS {V : zVw} {z w a s t h y : Int} (T0 : q_sin s t z) (T1 : o_sub s a) (T2 : q_ppv (V 40) (V 34) (o_J (V 35)) w s t (6 : Int) h y) (T3 : q_dpt (V 37) (V 38) (V 40) (V 34) (o_J (V 35)) w a z) (C0 : 0 ≤ s - 1) (C1 : 0 ≤ 63 - s) (C2 : 0 ≤ t) (C3 : 0 ≤ 5 - t) (F0 : (0 : Int) ≤ z ∧ (z : Int) < j_len 37 ∧ V 37 (z) = h) (F1 : (0 : Int) ≤ z ∧ (z : Int) < j_len 38 ∧ V 38 (z) = y) : (True) ∧ (q_dpt (V 37) (V 38) (V 40) (V 34) (o_J (V 35)) w a (z + 1) ∧ True) := by
  exact ⟨trivial, o_dpS T0 T2 T3 F0.2.2 F1.2.2, trivial⟩
theorem k_sgs {V : zVw} {t g s z w a : Int} (T0 : q_sin s t z) (T1 : o_sub s a) (T2 : q_dpt (V 37) (V 38) (V 40) (V 34) (o_J (V 35)) w a z) (C0 : 0 ≤ t) (C1 : 0 ≤ 5 - t) (C2 : 0 ≤ s - 1) (C3 : 0 ≤ 63 - s) (F0 : (0 : Int) ≤ t ∧ (t : Int) < j_len 34 ∧ V 34 (t) = g) : (0 ≤ g ∧ 0 ≤ 99 - g ∧ True) ∧ (True) := by
  have b9 := T2.1.2.1 t (by omega) (by omega) (T1.2.2 t (by omega) (by omega) T0.2.2.2)
  rw [F0.2.2] at b9
  exact ⟨⟨by omega, by omega, trivial⟩, trivial⟩
theorem k_sgj {V : zVw} {x t u s z w a r b n : Int} (T0 : q_sin s t z) (T1 : o_sub s a) (T2 : q_dpt (V 37) (V 38) (V 40) (V 34) (o_J (V 35)) w a z) (T3 : q_rsn s t r) (T4 : (mOP 101 (Int32.ofInt r) (Int32.ofInt n)).toInt = b) (T5 : (mOP 104 (Int32.ofInt (1 : Int)) (Int32.ofInt x)).toInt = n) (C0 : 0 ≤ b - 1) (C1 : 0 ≤ x) (C2 : 0 ≤ 5 - x) (C3 : 0 ≤ t) (C4 : 0 ≤ 5 - t) (C5 : 0 ≤ r) (C6 : 0 ≤ 63 - r) (C7 : 0 ≤ s - 1) (C8 : 0 ≤ 63 - s) (F0 : (0 : Int) ≤ x + 6 * t ∧ (x + 6 * t : Int) < j_len 35 ∧ V 35 (x + 6 * t) = u) : (0 ≤ u ∧ 0 ≤ 999 - u ∧ True) ∧ (True) := by
  have h1 : g_op 104 1 x = n := T5
  have h2 : g_op 101 r n = b := T4
  have b9 := r_bt1 (x := r) (i := x) (by omega) (by omega) (by omega) (by omega) h1 h2
  have b8 := b9.mp (by omega)
  have f1 := F0.2.2
  rw [show x + 6 * t = 6 * t + x by omega] at f1
  rw [T3.2] at b8
  have k9 := o_rest T0 (by omega) (by omega) b8
  have c9 := T2.1.2.2.1 t x (by omega) (by omega) (by omega) (by omega) (T1.2.2 t (by omega) (by omega) T0.2.2.2) (T1.2.2 x (by omega) (by omega) k9.2.2.2.2) (fun d9 => k9.2.2.2.1 d9.symm)
  rw [show o_J (V 35) t x = u from f1] at c9
  exact ⟨⟨by omega, by omega, trivial⟩, trivial⟩
theorem k_sgc {V : zVw} {r x c s t z w a b n : Int} (T0 : q_sin s t z) (T1 : o_sub s a) (T2 : q_dpt (V 37) (V 38) (V 40) (V 34) (o_J (V 35)) w a z) (T3 : q_rsn s t r) (T4 : (mOP 101 (Int32.ofInt r) (Int32.ofInt n)).toInt = b) (T5 : (mOP 104 (Int32.ofInt (1 : Int)) (Int32.ofInt x)).toInt = n) (C0 : 0 ≤ b - 1) (C1 : 0 ≤ x) (C2 : 0 ≤ 5 - x) (C3 : 0 ≤ r) (C4 : 0 ≤ 63 - r) (C5 : 0 ≤ s - 1) (C6 : 0 ≤ 63 - s) (C7 : 0 ≤ t) (C8 : 0 ≤ 5 - t) (F0 : (0 : Int) ≤ r ∧ (r : Int) < j_len 40 ∧ V 40 (r) = c) : (0 ≤ c ∧ 0 ≤ 594 - c ∧ True) ∧ (True) := by
  have h1 : g_op 104 1 x = n := T5
  have h2 : g_op 101 r n = b := T4
  have b9 := r_bt1 (x := r) (i := x) (by omega) (by omega) (by omega) (by omega) h1 h2
  have b8 := b9.mp (by omega)
  have f0 := F0.2.2
  rw [T3.2] at b8 f0
  have c9 := T2.1.2.2.2 _ (o_subr T0 T1 (by omega) (by omega) b8)
  rw [f0] at c9
  exact ⟨⟨by omega, by omega, trivial⟩, trivial⟩
theorem k_dpy {V : zVw} {z y w a s t : Int} (T0 : q_sin s t z) (T1 : o_sub s a) (T2 : q_dpt (V 37) (V 38) (V 40) (V 34) (o_J (V 35)) w a (z + 1)) (C0 : 0 ≤ s - 1) (C1 : 0 ≤ 63 - s) (C2 : 0 ≤ t) (C3 : 0 ≤ 5 - t) (F0 : (0 : Int) ≤ z ∧ (z : Int) < j_len 38 ∧ V 38 (z) = y) : (0 ≤ y ∧ 0 ≤ 54432 - y ∧ True) ∧ (True) := by
  have h9 := T2.2 s t (o_sin6 T0) T1 (by have := T0.2.2.1; omega)
  rw [← T0.2.2.1] at h9
  rw [F0.2.2] at h9
  have l9 := o_K_len T0
  have b9 := o_n_b (fun l => w ≤ o_h (V 40) (V 34) (o_J (V 35)) l) (o_K s t)
  rw [← h9.2] at b9
  exact ⟨⟨by omega, by omega, trivial⟩, trivial⟩
theorem k_dph {V : zVw} {z h w a s t : Int} (T0 : q_sin s t z) (T1 : o_sub s a) (T2 : q_dpt (V 37) (V 38) (V 40) (V 34) (o_J (V 35)) w a (z + 1)) (C0 : 0 ≤ s - 1) (C1 : 0 ≤ 63 - s) (C2 : 0 ≤ t) (C3 : 0 ≤ 5 - t) (F0 : (0 : Int) ≤ z ∧ (z : Int) < j_len 37 ∧ V 37 (z) = h) : (0 ≤ h + 2 ∧ 0 ≤ 999 - h ∧ True) ∧ (True) := by
  have h9 := T2.2 s t (o_sin6 T0) T1 (by have := T0.2.2.1; omega)
  rw [← T0.2.2.1] at h9
  rw [F0.2.2] at h9
  have b9 := h9.1.1
  exact ⟨⟨by omega, by omega, trivial⟩, trivial⟩
theorem k_ntb {V : zVw} {w W a z r p i : Int} (T0 : q_not (V 40) (V 34) (o_J (V 35)) w W a z r p i) (C0 : 0 ≤ z) (C1 : 0 ≤ 384 - z) : (0 ≤ r ∧ 0 ≤ 30000000 - r ∧ 0 ≤ p + 2 ∧ 0 ≤ 999 - p ∧ 0 ≤ i ∧ 0 ≤ 63 - i ∧ True) ∧ (True) := by
  have l9 := o_T_len (c := V 40) (st := V 34) (J := o_J (V 35)) (w := w) (W := W) (a := a) z.toNat
  have e9 := T0.2.1
  have p9 := T0.2.2.1.1
  have i9 := T0.2.2.2.1
  exact ⟨⟨by omega, by omega, by omega, by omega, by omega, by omega, trivial⟩, trivial⟩
theorem k_noN {V : zVw} {z y w W a s t r p i : Int} (T0 : q_sin s t z) (T1 : o_sub s a) (T2 : q_not (V 40) (V 34) (o_J (V 35)) w W a z r p i) (T3 : q_dpt (V 37) (V 38) (V 40) (V 34) (o_J (V 35)) w a (z + 1)) (C0 : 0 ≤ -y) (C1 : 0 ≤ s - 1) (C2 : 0 ≤ 63 - s) (C3 : 0 ≤ t) (C4 : 0 ≤ 5 - t) (F0 : (0 : Int) ≤ z ∧ (z : Int) < j_len 38 ∧ V 38 (z) = y) : (True) ∧ (q_not (V 40) (V 34) (o_J (V 35)) w W a (z + 1) r p i ∧ True) := by
  have h9 := T3.2 s t (o_sin6 T0) T1 (by have := T0.2.2.1; omega)
  rw [← T0.2.2.1] at h9
  rw [F0.2.2] at h9
  have z9 := o_z6 T0
  exact ⟨trivial, o_not_no T2 (by omega) (fun s2 t2 k2 _ _ => by
    have y9 := o_z6 k2
    have e1 : s2 = s := by omega
    have e2 : t2 = t := by omega
    rw [e1, e2, ← h9.2]
    omega), trivial⟩
theorem k_noYa {V : zVw} {z y h w W a s t r p i r2 q_ i2 : Int} (T0 : q_sin s t z) (T1 : o_sub s a) (T2 : (0 ≤ s ∧ s < 64) ∧ W ≤ V 40 s) (T3 : q_not (V 40) (V 34) (o_J (V 35)) w W a z r p i) (T4 : q_dpt (V 37) (V 38) (V 40) (V 34) (o_J (V 35)) w a (z + 1)) (T5 : (mOP 101 (Int32.ofInt i) (Int32.ofInt s)).toInt = i2) (C0 : 0 ≤ y - 1) (C1 : 0 ≤ r2 - y - r) (C2 : 0 ≤ y + r - r2) (C3 : 0 ≤ s - 1) (C4 : 0 ≤ 63 - s) (C5 : 0 ≤ t) (C6 : 0 ≤ 5 - t) (C7 : 0 ≤ p - h) (C8 : 0 ≤ q_ - p) (C9 : 0 ≤ p - q_) (F0 : (0 : Int) ≤ z ∧ (z : Int) < j_len 38 ∧ V 38 (z) = y) (F1 : (0 : Int) ≤ z ∧ (z : Int) < j_len 37 ∧ V 37 (z) = h) : (True) ∧ (q_not (V 40) (V 34) (o_J (V 35)) w W a (z + 1) r2 q_ i2 ∧ True) := by
  have h9 := T4.2 s t (o_sin6 T0) T1 (by have := T0.2.2.1; omega)
  rw [← T0.2.2.1] at h9
  rw [F0.2.2] at h9
  rw [F1.2.2] at h9
  have r9 : r2 = r + y := by omega
  have h1 : g_op 101 i s = i2 := T5
  rw [r9]
  exact ⟨trivial, o_not_yes T3 T0 T1 T2.2 (by omega) h9.2 h9.1 ⟨by omega, by omega, by omega⟩ h1, trivial⟩
theorem k_noYb {V : zVw} {z y h w W a s t r p i r2 q_ i2 : Int} (T0 : q_sin s t z) (T1 : o_sub s a) (T2 : (0 ≤ s ∧ s < 64) ∧ W ≤ V 40 s) (T3 : q_not (V 40) (V 34) (o_J (V 35)) w W a z r p i) (T4 : q_dpt (V 37) (V 38) (V 40) (V 34) (o_J (V 35)) w a (z + 1)) (T5 : (mOP 101 (Int32.ofInt i) (Int32.ofInt s)).toInt = i2) (C0 : 0 ≤ y - 1) (C1 : 0 ≤ r2 - y - r) (C2 : 0 ≤ y + r - r2) (C3 : 0 ≤ s - 1) (C4 : 0 ≤ 63 - s) (C5 : 0 ≤ t) (C6 : 0 ≤ 5 - t) (C7 : 0 ≤ h - p) (C8 : 0 ≤ q_ - h) (C9 : 0 ≤ h - q_) (F0 : (0 : Int) ≤ z ∧ (z : Int) < j_len 38 ∧ V 38 (z) = y) (F1 : (0 : Int) ≤ z ∧ (z : Int) < j_len 37 ∧ V 37 (z) = h) : (True) ∧ (q_not (V 40) (V 34) (o_J (V 35)) w W a (z + 1) r2 q_ i2 ∧ True) := by
  have h9 := T4.2 s t (o_sin6 T0) T1 (by have := T0.2.2.1; omega)
  rw [← T0.2.2.1] at h9
  rw [F0.2.2] at h9
  rw [F1.2.2] at h9
  have r9 : r2 = r + y := by omega
  have h1 : g_op 101 i s = i2 := T5
  rw [r9]
  exact ⟨trivial, o_not_yes T3 T0 T1 T2.2 (by omega) h9.2 h9.1 ⟨by omega, by omega, by omega⟩ h1, trivial⟩
theorem k_ssN {V : zVw} {s t n b w W a z r p i : Int} (T0 : (mOP 101 (Int32.ofInt s) (Int32.ofInt n)).toInt = b) (T1 : (mOP 104 (Int32.ofInt (1 : Int)) (Int32.ofInt t)).toInt = n) (T2 : q_dpt (V 37) (V 38) (V 40) (V 34) (o_J (V 35)) w a z) (T3 : q_not (V 40) (V 34) (o_J (V 35)) w W a z r p i) (C0 : 0 ≤ b) (C1 : 0 ≤ -b) (C2 : 0 ≤ s - 1) (C3 : 0 ≤ 63 - s) (C4 : 0 ≤ t) (C5 : 0 ≤ 5 - t) (C6 : 0 ≤ z - 6 * s - t) (C7 : 0 ≤ 6 * s + t - z) : (True) ∧ (q_dpt (V 37) (V 38) (V 40) (V 34) (o_J (V 35)) w a (z + 1) ∧ q_not (V 40) (V 34) (o_J (V 35)) w W a (z + 1) r p i ∧ True) := by
  have h1 : g_op 104 1 t = n := T1
  have h2 : g_op 101 s n = b := T0
  have b9 := r_bt1 (x := s) (i := t) (by omega) (by omega) (by omega) (by omega) h1 h2
  have no : ∀ s2 t2 : Int, ¬ q_sin s2 t2 z := fun s2 t2 k2 => by
    have y9 := o_z6 k2
    have e1 : s2 = s := by omega
    have e2 : t2 = t := by omega
    have c9 := k2.2.2.2
    rw [e1, e2] at c9
    have := b9.mpr c9
    omega
  exact ⟨trivial, o_dptN T2 (fun s2 t2 k2 _ => no s2 t2 k2), o_not_no T3 (by omega) (fun s2 t2 k2 _ _ => absurd k2 (no s2 t2)), trivial⟩
theorem k_rch {V : zVw} {X v W n q b s o a1 a2 a3 : Int} (T0 : q_smp V q b s o a1 a2 a3 n) (T1 : q_qry V (47 : Int) q b s o a1 a2 a3 X (6 : Int) v) (C0 : 0 ≤ v - W) (C1 : 0 ≤ X) (C2 : 0 ≤ n - X - 1) : (True) ∧ (((0 ≤ X ∧ X < 64) ∧ W ≤ V 40 X) ∧ True) := by
  have h9 := T0.2.2 X (by omega) (by omega)
  have v9 : v = g_ss (g_F V q b s o a1 a2 a3 (g_nw V)) X 6 := g_k47 T1
  have n9 := T0.2.1
  rw [← v9] at h9
  exact ⟨trivial, ⟨⟨by omega, by omega⟩, by rw [h9]; omega⟩, trivial⟩
theorem k_rchN {V : zVw} {X v W n w a_ z r p i t q b s o a1 a2 a3 : Int} (T0 : q_smp V q b s o a1 a2 a3 n) (T1 : q_qry V (47 : Int) q b s o a1 a2 a3 X (6 : Int) v) (T2 : q_not (V 40) (V 34) (o_J (V 35)) w W a_ z r p i) (T3 : q_sin X t z) (C0 : 0 ≤ W - v - 1) (C1 : 0 ≤ X) (C2 : 0 ≤ n - X - 1) : (True) ∧ (q_not (V 40) (V 34) (o_J (V 35)) w W a_ (z + 1) r p i ∧ True) := by
  have h9 := T0.2.2 X (by omega) (by omega)
  have v9 : v = g_ss (g_F V q b s o a1 a2 a3 (g_nw V)) X 6 := g_k47 T1
  have n9 := T0.2.1
  rw [← v9] at h9
  have z9 := o_z6 T3
  exact ⟨trivial, o_not_no T2 (by omega) (fun s2 t2 k2 _ w2 => by
    have y9 := o_z6 k2
    rw [show s2 = X by omega, h9] at w2
    omega), trivial⟩
theorem k_sinb {V : zVw} {s t n b : Int} (T0 : (mOP 101 (Int32.ofInt s) (Int32.ofInt n)).toInt = b) (T1 : (mOP 104 (Int32.ofInt (1 : Int)) (Int32.ofInt t)).toInt = n) (C0 : 0 ≤ b - 1) (C1 : 0 ≤ s) (C2 : 0 ≤ 63 - s) (C3 : 0 ≤ t) (C4 : 0 ≤ 5 - t) : (True) ∧ (q_sin s t (6 * s + t) ∧ True) := by
  have h1 : g_op 104 1 t = n := T1
  have h2 : g_op 101 s n = b := T0
  have b9 := r_bt1 (x := s) (i := t) (by omega) (by omega) (by omega) (by omega) h1 h2
  have b8 := b9.mp (by omega)
  have s9 := o_bit_pos (r := s) (y := t) (by omega) (by omega) (by omega) b8
  exact ⟨trivial, ⟨⟨by omega, by omega⟩, ⟨by omega, by omega⟩, rfl, b8⟩, trivial⟩
theorem k_sv0 {V : zVw} {W w a H z n yy q b s o a1 a2 a3 : Int} (T0 : q_sts (V 34) (fun i_ => g_sg (V 20) (g_F V q b s o a1 a2 a3 (g_nw V)) i_) H) (T1 : q_jrw (V 35) (g_jy V q (g_F V q b s o a1 a2 a3 (g_nw V)) yy) (g_F V q b s o a1 a2 a3 (g_nw V)) H (0 : Int) z) (T2 : q_smp V q b s o a1 a2 a3 n) (T3 : (mOP 104 (Int32.ofInt (1 : Int)) (Int32.ofInt H)).toInt = n) (T4 : q_qry V (46 : Int) q b s o a1 a2 a3 H (0 : Int) a) (T5 : q_qry V (46 : Int) q b s o a1 a2 a3 (6 : Int) (0 : Int) a) (C0 : 0 ≤ w) (C1 : 0 ≤ 999 - w) (C2 : 0 ≤ a) (C3 : 0 ≤ 63 - a) (C4 : 0 ≤ H) (C5 : 0 ≤ 6 - H) : (True) ∧ (q_dpt (V 37) (V 38) (V 40) (V 34) (o_J (V 35)) w a (6 : Int) ∧ q_not (V 40) (V 34) (o_J (V 35)) w W a (6 : Int) (0 : Int) (-2 : Int) a ∧ True) := by
  have h1 : g_op 104 1 H = n := T3
  have ea : a = g_ab (g_F V q b s o a1 a2 a3 (g_nw V)) H.toNat := g_k46 T4
  have e6 : a = g_ab (g_F V q b s o a1 a2 a3 (g_nw V)) 6 := g_k46 T5
  obtain ⟨⟨H9, w9⟩, n9, c9⟩ := T2
  have bd := o_bd_mk w9 (by omega) (by omega) ea e6 h1 T0 T1 c9 (fun _ _ => g_jy_b)
  exact ⟨trivial, ⟨⟨⟨by omega, by omega, by omega, by omega⟩, bd⟩, fun s2 t2 k2 _ l2 => absurd l2 (by have := k2.1; have := k2.2.1; omega)⟩, o_not_0 (by omega) (by omega) (by omega) (by omega), trivial⟩
theorem k_subN {V : zVw} {s m a b w W z r p i : Int} (T0 : (mOP 101 (Int32.ofInt s) (Int32.ofInt m)).toInt = b) (T1 : (mOP 103 (Int32.ofInt a) (Int32.ofInt (-1 : Int))).toInt = m) (T2 : q_dpt (V 37) (V 38) (V 40) (V 34) (o_J (V 35)) w a z) (T3 : q_not (V 40) (V 34) (o_J (V 35)) w W a z r p i) (C0 : 0 ≤ b - 1) (C1 : 0 ≤ s - 1) (C2 : 0 ≤ 63 - s) (C3 : 0 ≤ a) (C4 : 0 ≤ 63 - a) (C5 : 0 ≤ z - 6 * s) (C6 : 0 ≤ 6 * s - z) : (True) ∧ (q_dpt (V 37) (V 38) (V 40) (V 34) (o_J (V 35)) w a (z + 6) ∧ q_not (V 40) (V 34) (o_J (V 35)) w W a (z + 6) r p i ∧ True) := by
  have h1 : g_op 101 s m = b := T0
  have h2 : g_op 103 a (-1) = m := T1
  have n9 := r_andn (x := s) (y := a) (by omega) (by omega) (by omega) (by omega) h2 h1
  have no : ¬ o_sub s a := fun u9 => by
    have z9 := o_ext (s := b) (t := 0) n9.1.1 n9.1.2 (by omega) (by omega) (fun h h0 h6 => ⟨fun c9 => absurd (u9.2.2 h h0 h6 ((n9.2 h h0 h6).mp c9).1) ((n9.2 h h0 h6).mp c9).2, fun c9 => absurd (o_bit_pos (r := 0) (by omega) h0 h6 c9) (by omega)⟩)
    omega
  have no2 : ∀ s2 t2 y : Int, z ≤ y → y < z + 6 → q_sin s2 t2 y → ¬ o_sub s2 a := fun s2 t2 y y0 y1 k2 => by
    have y9 := o_z6 k2
    rw [show s2 = s by omega]
    exact no
  exact ⟨trivial, o_dpt6 T2 no2, o_not_6 T3 (by omega) no2, trivial⟩
theorem k_smn {V : zVw} {X n a h q b s o a1 a2 a3 : Int} (T0 : o_sub X a) (T1 : q_smp V q b s o a1 a2 a3 n) (T2 : (mOP 104 (Int32.ofInt (1 : Int)) (Int32.ofInt h)).toInt = n) (T3 : q_qry V (46 : Int) q b s o a1 a2 a3 h (0 : Int) a) (C0 : 0 ≤ X) (C1 : 0 ≤ h) (C2 : 0 ≤ 6 - h) (C3 : 0 ≤ a - X) : (0 ≤ n - X - 1 ∧ True) ∧ (True) := by
  have h1 : g_op 104 1 h = n := T2
  rw [g_sh (by omega) (by omega)] at h1
  have a9 : a = g_ab (g_F V q b s o a1 a2 a3 (g_nw V)) h.toNat := g_k46 T3
  have b9 := g_ab_b (A := (g_F V q b s o a1 a2 a3 (g_nw V))) (n := h.toNat)
  rw [← a9, h1] at b9
  exact ⟨⟨by omega, trivial⟩, trivial⟩
theorem k_subX {V : zVw} {s m a b : Int} (T0 : (mOP 101 (Int32.ofInt s) (Int32.ofInt m)).toInt = b) (T1 : (mOP 103 (Int32.ofInt a) (Int32.ofInt (-1 : Int))).toInt = m) (C0 : 0 ≤ b) (C1 : 0 ≤ -b) (C2 : 0 ≤ s - 1) (C3 : 0 ≤ 63 - s) (C4 : 0 ≤ a) (C5 : 0 ≤ 63 - a) : (0 ≤ a - s ∧ True) ∧ (o_sub s a ∧ True) := by
  have h1 : g_op 101 s m = b := T0
  have h2 : g_op 103 a (-1) = m := T1
  have n9 := r_andn (x := s) (y := a) (by omega) (by omega) (by omega) (by omega) h2 h1
  have b0 : b = 0 := by omega
  have u9 : ∀ h : Int, 0 ≤ h → h < 6 → r_bit s h → r_bit a h := fun h h0 h6 c9 => by
    by_cases d9 : r_bit a h
    · exact d9
    · have e9 := (n9.2 h h0 h6).mpr ⟨c9, d9⟩
      rw [b0] at e9
      exact absurd (o_bit_pos (r := 0) (by omega) h0 h6 e9) (by omega)
  have l9 := o_le (by omega) (by omega) (by omega) (by omega) u9
  exact ⟨⟨by omega, trivial⟩, ⟨⟨by omega, by omega⟩, ⟨by omega, by omega⟩, u9⟩, trivial⟩
theorem k_sst0 {V : zVw} {H p y d q b s o a1 a2 a3 : Int} (T0 : q_sto V 0 H p y d q b s o a1 a2 a3) : (True) ∧ ((q_sts (V 34) (fun i_ => g_sg (V 20) (g_F V q b s o a1 a2 a3 (g_nw V)) i_) (0 : Int)) ∧ True) := by
  exact ⟨trivial, fun i i0 i1 => absurd i1 (by omega), trivial⟩
theorem k_sst0t {V : zVw} {H p y d q b s o a1 a2 a3 : Int} (T0 : q_sto V 1 H p y d q b s o a1 a2 a3) : (True) ∧ ((q_sts (V 34) (fun i_ => g_sg (V 20) (g_F V q b s o a1 a2 a3 (g_nw V)) i_) (0 : Int)) ∧ True) := by
  exact ⟨trivial, fun i i0 i1 => absurd i1 (by omega), trivial⟩
theorem k_sstS {V : zVw} {i u q b s o a1 a2 a3 : Int} (T0 : q_sts (V 34) (fun i_ => g_sg (V 20) (g_F V q b s o a1 a2 a3 (g_nw V)) i_) i) (T1 : q_qry V (7 : Int) q b s o a1 a2 a3 i (0 : Int) u) (C0 : 0 ≤ i) (C1 : 0 ≤ 5 - i) (C2 : 0 ≤ u) (C3 : 0 ≤ 99 - u) (F0 : (0 : Int) ≤ i ∧ (i : Int) < j_len 34 ∧ V 34 (i) = u) : (True) ∧ ((q_sts (V 34) (fun i_ => g_sg (V 20) (g_F V q b s o a1 a2 a3 (g_nw V)) i_) (i + 1)) ∧ True) := by
  have f0 := F0.2.2
  have u9 : u = g_sg (V 20) (g_F V q b s o a1 a2 a3 (g_nw V)) i := g_k7 T1
  exact ⟨trivial, fun j j0 j1 => by
    by_cases d : j = i
    · rw [d, f0]
      exact ⟨u9, by omega, by omega⟩
    · exact T0 j j0 (by omega), trivial⟩
theorem k_sgr {V : zVw} {h u H p y d q b s o a1 a2 a3 : Int} (T0 : q_sto V 0 H p y d q b s o a1 a2 a3) (T1 : q_qry V (7 : Int) q b s o a1 a2 a3 h (0 : Int) u) (C0 : 0 ≤ h) (C1 : 0 ≤ H - h - 1) : (0 ≤ u ∧ 0 ≤ 99 - u ∧ True) ∧ (True) := by
  have w9 := T0.1.1
  have w8 := w9.1
  have s9 := T0.1.2.2 h (by omega) (by omega)
  have u9 : u = g_sg (V 20) (g_F V q b s o a1 a2 a3 (g_nw V)) h := g_k7 T1
  have g9 := o_sg_b (S := V 20) w9 (by omega) (by omega) s9
  rw [← u9] at g9
  exact ⟨⟨by omega, by omega, trivial⟩, trivial⟩
theorem k_sgrt {V : zVw} {h u H p y d q b s o a1 a2 a3 : Int} (T0 : q_sto V 1 H p y d q b s o a1 a2 a3) (T1 : q_qry V (7 : Int) q b s o a1 a2 a3 h (0 : Int) u) (C0 : 0 ≤ h) (C1 : 0 ≤ H - h - 1) : (0 ≤ u ∧ 0 ≤ 99 - u ∧ True) ∧ (True) := by
  have w9 := T0.1.1
  have w8 := w9.1
  have s9 := T0.1.2.2 h (by omega) (by omega)
  have u9 : u = g_sg (V 20) (g_F V q b s o a1 a2 a3 (g_nw V)) h := g_k7 T1
  have g9 := o_sg_b (S := V 20) w9 (by omega) (by omega) s9
  rw [← u9] at g9
  exact ⟨⟨by omega, by omega, trivial⟩, trivial⟩
theorem k_jrw0 {V : zVw} {H p y d q b s o a1 a2 a3 : Int} (T0 : q_sto V 0 H p y d q b s o a1 a2 a3) : (True) ∧ (q_jrw (V 35) (g_jy V q (g_F V q b s o a1 a2 a3 (g_nw V)) (0 : Int)) (g_F V q b s o a1 a2 a3 (g_nw V)) (0 : Int) (0 : Int) (0 : Int) ∧ True) := by
  exact ⟨trivial, ⟨⟨by omega, by omega, by omega, by omega⟩, fun i k c1 c2 c3 c4 => by
    have := c1.1
    have := c2.1
    omega⟩, trivial⟩
theorem k_jrw0t {V : zVw} {H p y d q b s o a1 a2 a3 : Int} (T0 : q_sto V 1 H p y d q b s o a1 a2 a3) : (True) ∧ (q_jrw (V 35) (g_jy V q (g_F V q b s o a1 a2 a3 (g_nw V)) (0 : Int)) (g_F V q b s o a1 a2 a3 (g_nw V)) (0 : Int) (0 : Int) (0 : Int) ∧ True) := by
  exact ⟨trivial, ⟨⟨by omega, by omega, by omega, by omega⟩, fun i k c1 c2 c3 c4 => by
    have := c1.1
    have := c2.1
    omega⟩, trivial⟩
theorem k_jrwY {V : zVw} {i j z u q b s o a1 a2 a3 : Int} (T0 : q_jrw (V 35) (g_jy V q (g_F V q b s o a1 a2 a3 (g_nw V)) (0 : Int)) (g_F V q b s o a1 a2 a3 (g_nw V)) i j z) (T1 : q_qry V (5 : Int) q b s o a1 a2 a3 i j u) (C0 : 0 ≤ i) (C1 : 0 ≤ 5 - i) (C2 : 0 ≤ j) (C3 : 0 ≤ 5 - j) (C4 : 0 ≤ z - 6 * i - j) (C5 : 0 ≤ 6 * i + j - z) (F0 : (0 : Int) ≤ z ∧ (z : Int) < j_len 35 ∧ V 35 (z) = u) : (True) ∧ (q_jrw (V 35) (g_jy V q (g_F V q b s o a1 a2 a3 (g_nw V)) (0 : Int)) (g_F V q b s o a1 a2 a3 (g_nw V)) i (j + 1) (z + 1) ∧ True) := by
  have u9 : u = g_jo V q (g_F V q b s o a1 a2 a3 (g_nw V)) i j := g_k5 T1
  exact ⟨trivial, o_jrwS T0 (by omega) (Or.inl (F0.2.2.trans (u9.trans (g_jy0 (by omega) (by omega)).symm))), trivial⟩
theorem k_jrwE {V : zVw} {i j z q b s o a1 a2 a3 : Int} (T0 : q_jrw (V 35) (g_jy V q (g_F V q b s o a1 a2 a3 (g_nw V)) (0 : Int)) (g_F V q b s o a1 a2 a3 (g_nw V)) i j z) (C0 : 0 ≤ i) (C1 : 0 ≤ 5 - i) (C2 : 0 ≤ j) (C3 : 0 ≤ 5 - j) (C4 : 0 ≤ z - 6 * i - j) (C5 : 0 ≤ 6 * i + j - z) (C6 : 0 ≤ i - j) (C7 : 0 ≤ j - i) : (True) ∧ (q_jrw (V 35) (g_jy V q (g_F V q b s o a1 a2 a3 (g_nw V)) (0 : Int)) (g_F V q b s o a1 a2 a3 (g_nw V)) i (j + 1) (z + 1) ∧ True) := by
  exact ⟨trivial, o_jrwS T0 (by omega) (Or.inr (Or.inl (by omega))), trivial⟩
theorem k_isb {V : zVw} {h a n b r : Int} (T0 : (mOP 101 (Int32.ofInt a) (Int32.ofInt n)).toInt = b) (T1 : (mOP 104 (Int32.ofInt (1 : Int)) (Int32.ofInt h)).toInt = n) (C0 : 0 ≤ a) (C1 : 0 ≤ 63 - a) (C2 : 0 ≤ h) (C3 : 0 ≤ 5 - h) (C4 : 0 ≤ b - 1) (C5 : 0 ≤ r - 1) (C6 : 0 ≤ 1 - r) : (True) ∧ (((0 ≤ a ∧ a < 64 ∧ 0 ≤ h ∧ h < 6) ∧ (((1 : Int) = 1 ∧ r_bit a h) ∨ ((1 : Int) = 0 ∧ ¬ r_bit a h))) ∧ True) := by
  have h1 : g_op 104 1 h = n := T1
  have h2 : g_op 101 a n = b := T0
  have b9 := r_bt1 (x := a) (i := h) (by omega) (by omega) (by omega) (by omega) h1 h2
  exact ⟨trivial, ⟨⟨by omega, by omega, by omega, by omega⟩, Or.inl ⟨rfl, b9.mp (by omega)⟩⟩, trivial⟩
theorem k_isn {V : zVw} {h a n b r : Int} (T0 : (mOP 101 (Int32.ofInt a) (Int32.ofInt n)).toInt = b) (T1 : (mOP 104 (Int32.ofInt (1 : Int)) (Int32.ofInt h)).toInt = n) (C0 : 0 ≤ a) (C1 : 0 ≤ 63 - a) (C2 : 0 ≤ h) (C3 : 0 ≤ 5 - h) (C4 : 0 ≤ b) (C5 : 0 ≤ -b) (C6 : 0 ≤ r) (C7 : 0 ≤ -r) : (True) ∧ (((0 ≤ a ∧ a < 64 ∧ 0 ≤ h ∧ h < 6) ∧ (((0 : Int) = 1 ∧ r_bit a h) ∨ ((0 : Int) = 0 ∧ ¬ r_bit a h))) ∧ True) := by
  have h1 : g_op 104 1 h = n := T1
  have h2 : g_op 101 a n = b := T0
  have b9 := r_bt1 (x := a) (i := h) (by omega) (by omega) (by omega) (by omega) h1 h2
  exact ⟨trivial, ⟨⟨by omega, by omega, by omega, by omega⟩, Or.inr ⟨rfl, fun c9 => by
    have := b9.mpr c9
    omega⟩⟩, trivial⟩
theorem k_jrwNi {V : zVw} {i j z a_ q b s o a1 a2 a3 : Int} (T0 : (0 ≤ a_ ∧ a_ < 64 ∧ 0 ≤ i ∧ i < 6) ∧ (((0 : Int) = 1 ∧ r_bit a_ i) ∨ ((0 : Int) = 0 ∧ ¬ r_bit a_ i))) (T1 : q_qry V (46 : Int) q b s o a1 a2 a3 (6 : Int) (0 : Int) a_) (T2 : q_jrw (V 35) (g_jy V q (g_F V q b s o a1 a2 a3 (g_nw V)) (0 : Int)) (g_F V q b s o a1 a2 a3 (g_nw V)) i j z) (C0 : 0 ≤ i) (C1 : 0 ≤ 5 - i) (C2 : 0 ≤ j) (C3 : 0 ≤ 5 - j) (C4 : 0 ≤ z - 6 * i - j) (C5 : 0 ≤ 6 * i + j - z) : (True) ∧ (q_jrw (V 35) (g_jy V q (g_F V q b s o a1 a2 a3 (g_nw V)) (0 : Int)) (g_F V q b s o a1 a2 a3 (g_nw V)) i (j + 1) (z + 1) ∧ True) := by
  have n9 : ¬ r_bit a_ i := by
    rcases T0.2 with c9 | c9
    · exact absurd c9.1 (by decide)
    · exact c9.2
  have e6 : a_ = g_ab (g_F V q b s o a1 a2 a3 (g_nw V)) 6 := g_k46 T1
  have m9 : ¬ o_ab (g_F V q b s o a1 a2 a3 (g_nw V)) i := fun c9 => n9 ((o_ab_bit e6 (by omega) (by omega)).mpr c9)
  exact ⟨trivial, o_jrwS T2 (by omega) (Or.inr (Or.inr (Or.inl m9))), trivial⟩
theorem k_jrwNj {V : zVw} {i j z a_ q b s o a1 a2 a3 : Int} (T0 : (0 ≤ a_ ∧ a_ < 64 ∧ 0 ≤ j ∧ j < 6) ∧ (((0 : Int) = 1 ∧ r_bit a_ j) ∨ ((0 : Int) = 0 ∧ ¬ r_bit a_ j))) (T1 : q_qry V (46 : Int) q b s o a1 a2 a3 (6 : Int) (0 : Int) a_) (T2 : q_jrw (V 35) (g_jy V q (g_F V q b s o a1 a2 a3 (g_nw V)) (0 : Int)) (g_F V q b s o a1 a2 a3 (g_nw V)) i j z) (C0 : 0 ≤ i) (C1 : 0 ≤ 5 - i) (C2 : 0 ≤ j) (C3 : 0 ≤ 5 - j) (C4 : 0 ≤ z - 6 * i - j) (C5 : 0 ≤ 6 * i + j - z) : (True) ∧ (q_jrw (V 35) (g_jy V q (g_F V q b s o a1 a2 a3 (g_nw V)) (0 : Int)) (g_F V q b s o a1 a2 a3 (g_nw V)) i (j + 1) (z + 1) ∧ True) := by
  have n9 : ¬ r_bit a_ j := by
    rcases T0.2 with c9 | c9
    · exact absurd c9.1 (by decide)
    · exact c9.2
  have e6 : a_ = g_ab (g_F V q b s o a1 a2 a3 (g_nw V)) 6 := g_k46 T1
  have m9 : ¬ o_ab (g_F V q b s o a1 a2 a3 (g_nw V)) j := fun c9 => n9 ((o_ab_bit e6 (by omega) (by omega)).mpr c9)
  exact ⟨trivial, o_jrwS T2 (by omega) (Or.inr (Or.inr (Or.inr m9))), trivial⟩
theorem k_jrwL {V : zVw} {i j z H p y d q b s o a1 a2 a3 : Int} (T0 : q_sto V 0 H p y d q b s o a1 a2 a3) (T1 : q_jrw (V 35) (g_jy V q (g_F V q b s o a1 a2 a3 (g_nw V)) (0 : Int)) (g_F V q b s o a1 a2 a3 (g_nw V)) i j z) (C0 : 0 ≤ j - H) (C1 : 0 ≤ H - j) (C2 : 0 ≤ i) (C3 : 0 ≤ 5 - i) : (True) ∧ (q_jrw (V 35) (g_jy V q (g_F V q b s o a1 a2 a3 (g_nw V)) (0 : Int)) (g_F V q b s o a1 a2 a3 (g_nw V)) (i + 1) (0 : Int) (6 * i + 6) ∧ True) := by
  exact ⟨trivial, o_jrwL T0.1.1 T1 (by omega), trivial⟩
theorem k_jrwLt {V : zVw} {i j z H p y d q b s o a1 a2 a3 : Int} (T0 : q_sto V 1 H p y d q b s o a1 a2 a3) (T1 : q_jrw (V 35) (g_jy V q (g_F V q b s o a1 a2 a3 (g_nw V)) (0 : Int)) (g_F V q b s o a1 a2 a3 (g_nw V)) i j z) (C0 : 0 ≤ j - H) (C1 : 0 ≤ H - j) (C2 : 0 ≤ i) (C3 : 0 ≤ 5 - i) : (True) ∧ (q_jrw (V 35) (g_jy V q (g_F V q b s o a1 a2 a3 (g_nw V)) (0 : Int)) (g_F V q b s o a1 a2 a3 (g_nw V)) (i + 1) (0 : Int) (6 * i + 6) ∧ True) := by
  exact ⟨trivial, o_jrwL T0.1.1 T1 (by omega), trivial⟩
theorem k_jrwX {V : zVw} {i z H p y d q b s o a1 a2 a3 : Int} (T0 : q_sto V 0 H p y d q b s o a1 a2 a3) (T1 : q_jrw (V 35) (g_jy V q (g_F V q b s o a1 a2 a3 (g_nw V)) (0 : Int)) (g_F V q b s o a1 a2 a3 (g_nw V)) i (0 : Int) z) (C0 : 0 ≤ i - H) (C1 : 0 ≤ H - i) (C2 : 0 ≤ z - 6 * i) (C3 : 0 ≤ 6 * i - z) : (True) ∧ (q_jrw (V 35) (g_jy V q (g_F V q b s o a1 a2 a3 (g_nw V)) (0 : Int)) (g_F V q b s o a1 a2 a3 (g_nw V)) H (0 : Int) (6 * H) ∧ True) := by
  have e9 : i = H := by omega
  have z9 : z = 6 * H := by omega
  rw [e9, z9] at T1
  exact ⟨trivial, T1, trivial⟩
theorem k_sstX {V : zVw} {i H p y d q b s o a1 a2 a3 : Int} (T0 : q_sto V 0 H p y d q b s o a1 a2 a3) (T1 : q_sts (V 34) (fun i_ => g_sg (V 20) (g_F V q b s o a1 a2 a3 (g_nw V)) i_) i) (C0 : 0 ≤ i - H) (C1 : 0 ≤ H - i) : (True) ∧ ((q_sts (V 34) (fun i_ => g_sg (V 20) (g_F V q b s o a1 a2 a3 (g_nw V)) i_) H) ∧ True) := by
  have e9 : i = H := by omega
  rw [e9] at T1
  exact ⟨trivial, T1, trivial⟩
theorem k_jrwXt {V : zVw} {i z H p y d q b s o a1 a2 a3 : Int} (T0 : q_sto V 1 H p y d q b s o a1 a2 a3) (T1 : q_jrw (V 35) (g_jy V q (g_F V q b s o a1 a2 a3 (g_nw V)) (0 : Int)) (g_F V q b s o a1 a2 a3 (g_nw V)) i (0 : Int) z) (C0 : 0 ≤ i - H) (C1 : 0 ≤ H - i) (C2 : 0 ≤ z - 6 * i) (C3 : 0 ≤ 6 * i - z) : (True) ∧ (q_jrw (V 35) (g_jy V q (g_F V q b s o a1 a2 a3 (g_nw V)) (0 : Int)) (g_F V q b s o a1 a2 a3 (g_nw V)) H (0 : Int) (6 * H) ∧ True) := by
  have e9 : i = H := by omega
  have z9 : z = 6 * H := by omega
  rw [e9, z9] at T1
  exact ⟨trivial, T1, trivial⟩
theorem k_sstXt {V : zVw} {i H p y d q b s o a1 a2 a3 : Int} (T0 : q_sto V 1 H p y d q b s o a1 a2 a3) (T1 : q_sts (V 34) (fun i_ => g_sg (V 20) (g_F V q b s o a1 a2 a3 (g_nw V)) i_) i) (C0 : 0 ≤ i - H) (C1 : 0 ≤ H - i) : (True) ∧ ((q_sts (V 34) (fun i_ => g_sg (V 20) (g_F V q b s o a1 a2 a3 (g_nw V)) i_) H) ∧ True) := by
  have e9 : i = H := by omega
  rw [e9] at T1
  exact ⟨trivial, T1, trivial⟩
theorem k_ordC {V : zVw} {w W a_ r p_ i H z n q b s o a1 a2 a3 u p y d : Int} (T0 : q_sto V 0 H p y d q b s o a1 a2 a3) (T1 : q_not (V 40) (V 34) (o_J (V 35)) w W a_ (384 : Int) r p_ i) (T2 : q_dpt (V 37) (V 38) (V 40) (V 34) (o_J (V 35)) w a_ (384 : Int)) (T3 : q_sts (V 34) (fun i_ => g_sg (V 20) (g_F V q b s o a1 a2 a3 (g_nw V)) i_) H) (T4 : q_jrw (V 35) (g_jy V q (g_F V q b s o a1 a2 a3 (g_nw V)) (0 : Int)) (g_F V q b s o a1 a2 a3 (g_nw V)) H (0 : Int) z) (T5 : q_smp V q b s o a1 a2 a3 n) (T6 : (mOP 104 (Int32.ofInt (1 : Int)) (Int32.ofInt H)).toInt = n) (T7 : q_qry V (46 : Int) q b s o a1 a2 a3 (6 : Int) (0 : Int) a_) (C0 : 0 ≤ u - r) (C1 : 0 ≤ r - u) (C2 : 0 ≤ H) (C3 : 0 ≤ 6 - H) : (True) ∧ (q_qry V (58 : Int) q b s o a1 a2 a3 w W u ∧ True) := by
  have h1 : g_op 104 1 H = n := T6
  have e6 : a_ = g_ab (g_F V q b s o a1 a2 a3 (g_nw V)) 6 := g_k46 T7
  have g9 := o_agr_mk T0.1.1 (by omega) (by omega) T3 T4 T5.2.2 h1 e6
  have e9 := o_ordC g9 T1
  rw [show r = u by omega] at e9
  exact ⟨trivial, g_qs T0 (g_Q58 e9), trivial⟩
theorem k_peaC {V : zVw} {w W a_ r p_ i H z n q b s o a1 a2 a3 u p y d : Int} (T0 : q_sto V 0 H p y d q b s o a1 a2 a3) (T1 : q_not (V 40) (V 34) (o_J (V 35)) w W a_ (384 : Int) r p_ i) (T2 : q_dpt (V 37) (V 38) (V 40) (V 34) (o_J (V 35)) w a_ (384 : Int)) (T3 : q_sts (V 34) (fun i_ => g_sg (V 20) (g_F V q b s o a1 a2 a3 (g_nw V)) i_) H) (T4 : q_jrw (V 35) (g_jy V q (g_F V q b s o a1 a2 a3 (g_nw V)) (0 : Int)) (g_F V q b s o a1 a2 a3 (g_nw V)) H (0 : Int) z) (T5 : q_smp V q b s o a1 a2 a3 n) (T6 : (mOP 104 (Int32.ofInt (1 : Int)) (Int32.ofInt H)).toInt = n) (T7 : q_qry V (46 : Int) q b s o a1 a2 a3 (6 : Int) (0 : Int) a_) (C0 : 0 ≤ r - 1) (C1 : 0 ≤ u - p_) (C2 : 0 ≤ p_ - u) (C3 : 0 ≤ w) (C4 : 0 ≤ -w) (C5 : 0 ≤ H) (C6 : 0 ≤ 6 - H) : (True) ∧ (q_qry V (59 : Int) q b s o a1 a2 a3 W (0 : Int) u ∧ True) := by
  have h1 : g_op 104 1 H = n := T6
  have e6 : a_ = g_ab (g_F V q b s o a1 a2 a3 (g_nw V)) 6 := g_k46 T7
  have g9 := o_agr_mk T0.1.1 (by omega) (by omega) T3 T4 T5.2.2 h1 e6
  have w9 : w = 0 := by omega
  rw [w9] at T1
  have e9 := o_peaC g9 T1 (by omega)
  rw [show p_ = u by omega] at e9
  exact ⟨trivial, g_qs T0 (g_Q59 e9), trivial⟩
theorem k_peaN {V : zVw} {w W a_ r p_ i H z n q b s o a1 a2 a3 p y d : Int} (T0 : q_sto V 0 H p y d q b s o a1 a2 a3) (T1 : q_not (V 40) (V 34) (o_J (V 35)) w W a_ (384 : Int) r p_ i) (T2 : q_dpt (V 37) (V 38) (V 40) (V 34) (o_J (V 35)) w a_ (384 : Int)) (T3 : q_sts (V 34) (fun i_ => g_sg (V 20) (g_F V q b s o a1 a2 a3 (g_nw V)) i_) H) (T4 : q_jrw (V 35) (g_jy V q (g_F V q b s o a1 a2 a3 (g_nw V)) (0 : Int)) (g_F V q b s o a1 a2 a3 (g_nw V)) H (0 : Int) z) (T5 : q_smp V q b s o a1 a2 a3 n) (T6 : (mOP 104 (Int32.ofInt (1 : Int)) (Int32.ofInt H)).toInt = n) (T7 : q_qry V (46 : Int) q b s o a1 a2 a3 (6 : Int) (0 : Int) a_) (C0 : 0 ≤ -r) (C1 : 0 ≤ w) (C2 : 0 ≤ -w) (C3 : 0 ≤ H) (C4 : 0 ≤ 6 - H) : (True) ∧ (q_qry V (59 : Int) q b s o a1 a2 a3 W (0 : Int) (-2 : Int) ∧ True) := by
  have h1 : g_op 104 1 H = n := T6
  have e6 : a_ = g_ab (g_F V q b s o a1 a2 a3 (g_nw V)) 6 := g_k46 T7
  have g9 := o_agr_mk T0.1.1 (by omega) (by omega) T3 T4 T5.2.2 h1 e6
  have w9 : w = 0 := by omega
  rw [w9] at T1
  have e9 := o_peaN g9 T1 (by omega)
  exact ⟨trivial, g_qs T0 (g_Q59 e9), trivial⟩
theorem k_neeC {V : zVw} {w W a_ r p_ i H z n q b s o a1 a2 a3 u p y d : Int} (T0 : q_sto V 0 H p y d q b s o a1 a2 a3) (T1 : q_not (V 40) (V 34) (o_J (V 35)) w W a_ (384 : Int) r p_ i) (T2 : q_dpt (V 37) (V 38) (V 40) (V 34) (o_J (V 35)) w a_ (384 : Int)) (T3 : q_sts (V 34) (fun i_ => g_sg (V 20) (g_F V q b s o a1 a2 a3 (g_nw V)) i_) H) (T4 : q_jrw (V 35) (g_jy V q (g_F V q b s o a1 a2 a3 (g_nw V)) (0 : Int)) (g_F V q b s o a1 a2 a3 (g_nw V)) H (0 : Int) z) (T5 : q_smp V q b s o a1 a2 a3 n) (T6 : (mOP 104 (Int32.ofInt (1 : Int)) (Int32.ofInt H)).toInt = n) (T7 : q_qry V (46 : Int) q b s o a1 a2 a3 (6 : Int) (0 : Int) a_) (C0 : 0 ≤ r - 1) (C1 : 0 ≤ u - i) (C2 : 0 ≤ i - u) (C3 : 0 ≤ H) (C4 : 0 ≤ 6 - H) : (True) ∧ (q_qry V (60 : Int) q b s o a1 a2 a3 w W u ∧ True) := by
  have h1 : g_op 104 1 H = n := T6
  have e6 : a_ = g_ab (g_F V q b s o a1 a2 a3 (g_nw V)) 6 := g_k46 T7
  have g9 := o_agr_mk T0.1.1 (by omega) (by omega) T3 T4 T5.2.2 h1 e6
  have e9 := o_neeC g9 T1 (by omega)
  rw [show i = u by omega] at e9
  exact ⟨trivial, g_qs T0 (g_Q60 e9), trivial⟩
theorem k_neeN {V : zVw} {w W a_ r p_ i H z n q b s o a1 a2 a3 p y d : Int} (T0 : q_sto V 0 H p y d q b s o a1 a2 a3) (T1 : q_not (V 40) (V 34) (o_J (V 35)) w W a_ (384 : Int) r p_ i) (T2 : q_dpt (V 37) (V 38) (V 40) (V 34) (o_J (V 35)) w a_ (384 : Int)) (T3 : q_sts (V 34) (fun i_ => g_sg (V 20) (g_F V q b s o a1 a2 a3 (g_nw V)) i_) H) (T4 : q_jrw (V 35) (g_jy V q (g_F V q b s o a1 a2 a3 (g_nw V)) (0 : Int)) (g_F V q b s o a1 a2 a3 (g_nw V)) H (0 : Int) z) (T5 : q_smp V q b s o a1 a2 a3 n) (T6 : (mOP 104 (Int32.ofInt (1 : Int)) (Int32.ofInt H)).toInt = n) (T7 : q_qry V (46 : Int) q b s o a1 a2 a3 (6 : Int) (0 : Int) a_) (C0 : 0 ≤ -r) (C1 : 0 ≤ H) (C2 : 0 ≤ 6 - H) : (True) ∧ (q_qry V (60 : Int) q b s o a1 a2 a3 w W (-2 : Int) ∧ True) := by
  have h1 : g_op 104 1 H = n := T6
  have e6 : a_ = g_ab (g_F V q b s o a1 a2 a3 (g_nw V)) 6 := g_k46 T7
  have g9 := o_agr_mk T0.1.1 (by omega) (by omega) T3 T4 T5.2.2 h1 e6
  have e9 := o_neeN g9 T1 (by omega)
  exact ⟨trivial, g_qs T0 (g_Q60 e9), trivial⟩
theorem k_sta_0 {V : zVw} {H q b s o a1 a2 a3 : Int} (T0 : q_rwo V H q b s o a1 a2 a3) : (True) ∧ ((q_sta (V 83) (fun i_ => g_sg (V 20) (g_F V q b s o a1 a2 a3 (g_nw V)) i_) (g_ha (g_F V q b s o a1 a2 a3 (g_nw V))) (0 : Int)) ∧ True) := by
  exact ⟨trivial, fun i i0 i1 => absurd i1 (by omega), trivial⟩
theorem k_sta_Y {V : zVw} {i x H q b s o a1 a2 a3 : Int} (T0 : q_rwo V H q b s o a1 a2 a3) (T1 : q_sta (V 83) (fun i_ => g_sg (V 20) (g_F V q b s o a1 a2 a3 (g_nw V)) i_) (g_ha (g_F V q b s o a1 a2 a3 (g_nw V))) i) (T2 : q_qry V (7 : Int) q b s o a1 a2 a3 i (0 : Int) x) (C0 : 0 ≤ i) (C1 : 0 ≤ 5 - i) (C2 : 0 ≤ H - i - 1) (F0 : (0 : Int) ≤ i ∧ (i : Int) < j_len 83 ∧ V 83 (i) = x) : (True) ∧ ((q_sta (V 83) (fun i_ => g_sg (V 20) (g_F V q b s o a1 a2 a3 (g_nw V)) i_) (g_ha (g_F V q b s o a1 a2 a3 (g_nw V))) (i + 1)) ∧ True) := by
  have w9 := T0.1.1
  have s9 := T0.1.2.2 i (by omega) (by omega)
  have u9 : x = g_sg (V 20) (g_F V q b s o a1 a2 a3 (g_nw V)) i := g_k7 T2
  have g9 := o_sg_b (S := V 20) w9 (by omega) (by omega) s9
  rw [← u9] at g9
  have f0 := F0.2.2
  exact ⟨trivial, fun j j0 j1 => by
    by_cases d : j = i
    · rw [d, f0]
      exact ⟨g9, fun _ => u9⟩
    · exact T1 j j0 (by omega), trivial⟩
theorem k_sta_N {V : zVw} {i x H q b s o a1 a2 a3 : Int} (T0 : q_rwo V H q b s o a1 a2 a3) (T1 : q_sta (V 83) (fun i_ => g_sg (V 20) (g_F V q b s o a1 a2 a3 (g_nw V)) i_) (g_ha (g_F V q b s o a1 a2 a3 (g_nw V))) i) (C0 : 0 ≤ i) (C1 : 0 ≤ 5 - i) (C2 : 0 ≤ i - H) (C3 : 0 ≤ x) (C4 : 0 ≤ -x) (F0 : (0 : Int) ≤ i ∧ (i : Int) < j_len 83 ∧ V 83 (i) = x) : (True) ∧ ((q_sta (V 83) (fun i_ => g_sg (V 20) (g_F V q b s o a1 a2 a3 (g_nw V)) i_) (g_ha (g_F V q b s o a1 a2 a3 (g_nw V))) (i + 1)) ∧ True) := by
  have z9 := g_ha_out T0.1.1 (h := i) (by omega) (by omega)
  have f0 := F0.2.2
  exact ⟨trivial, fun j j0 j1 => by
    by_cases d : j = i
    · rw [d, f0]
      exact ⟨⟨by omega, by omega⟩, fun c9 => absurd c9 (by rw [z9]; omega)⟩
    · exact T1 j j0 (by omega), trivial⟩
theorem k_hld0 {V : zVw} {H q b s o a1 a2 a3 : Int} (T0 : q_rwo V H q b s o a1 a2 a3) : (True) ∧ (q_hld (V 86) (g_jy V q (g_F V q b s o a1 a2 a3 (g_nw V)) (0 : Int)) (g_F V q b s o a1 a2 a3 (g_nw V)) (0 : Int) ∧ True) := by
  exact ⟨trivial, fun k k0 k1 => absurd k1 (by omega), trivial⟩
theorem k_hldY {V : zVw} {k u g1 g2 q b s o a1 a2 a3 : Int} (T0 : (mOP 107 (Int32.ofInt k) (Int32.ofInt (6 : Int))).toInt = g1) (T1 : (mOP 108 (Int32.ofInt k) (Int32.ofInt (6 : Int))).toInt = g2) (T2 : q_qry V (5 : Int) q b s o a1 a2 a3 g1 g2 u) (T3 : q_hld (V 86) (g_jy V q (g_F V q b s o a1 a2 a3 (g_nw V)) (0 : Int)) (g_F V q b s o a1 a2 a3 (g_nw V)) k) (C0 : 0 ≤ k) (C1 : 0 ≤ 35 - k) (F0 : (0 : Int) ≤ k ∧ (k : Int) < j_len 86 ∧ V 86 (k) = u) : (True) ∧ (q_hld (V 86) (g_jy V q (g_F V q b s o a1 a2 a3 (g_nw V)) (0 : Int)) (g_F V q b s o a1 a2 a3 (g_nw V)) (k + 1) ∧ True) := by
  have h1 : g_op 107 k 6 = g1 := T0
  have h2 : g_op 108 k 6 = g2 := T1
  rw [g_op_div (by omega) (by omega) (by omega) (by omega)] at h1
  rw [g_op_rem (by omega) (by omega) (by omega) (by omega)] at h2
  have u9 : u = g_jo V q (g_F V q b s o a1 a2 a3 (g_nw V)) g1 g2 := g_k5 T2
  exact ⟨trivial, o_hldS T3 (Or.inl (by rw [g_jy0 (by omega) (by omega), F0.2.2, u9, h1, h2])), trivial⟩
theorem k_hldNa {V : zVw} {k g1 g2 H q b s o a1 a2 a3 : Int} (T0 : (mOP 107 (Int32.ofInt k) (Int32.ofInt (6 : Int))).toInt = g1) (T1 : (mOP 108 (Int32.ofInt k) (Int32.ofInt (6 : Int))).toInt = g2) (T2 : q_rwo V H q b s o a1 a2 a3) (T3 : q_hld (V 86) (g_jy V q (g_F V q b s o a1 a2 a3 (g_nw V)) (0 : Int)) (g_F V q b s o a1 a2 a3 (g_nw V)) k) (C0 : 0 ≤ k) (C1 : 0 ≤ 35 - k) (C2 : 0 ≤ g1 - H) : (True) ∧ (q_hld (V 86) (g_jy V q (g_F V q b s o a1 a2 a3 (g_nw V)) (0 : Int)) (g_F V q b s o a1 a2 a3 (g_nw V)) (k + 1) ∧ True) := by
  have h1 : g_op 107 k 6 = g1 := T0
  have h2 : g_op 108 k 6 = g2 := T1
  rw [g_op_div (by omega) (by omega) (by omega) (by omega)] at h1
  rw [g_op_rem (by omega) (by omega) (by omega) (by omega)] at h2
  have z9 := g_ha_out T2.1.1 (h := g1) (by omega) (by omega)
  have m9 : ¬ o_ab (g_F V q b s o a1 a2 a3 (g_nw V)) (k / 6) := fun c9 => by
    have c8 := c9.2
    rw [h1, z9] at c8
    omega
  exact ⟨trivial, o_hldS T3 (Or.inr (Or.inl m9)), trivial⟩
theorem k_hldNb {V : zVw} {k g1 g2 H q b s o a1 a2 a3 : Int} (T0 : (mOP 107 (Int32.ofInt k) (Int32.ofInt (6 : Int))).toInt = g1) (T1 : (mOP 108 (Int32.ofInt k) (Int32.ofInt (6 : Int))).toInt = g2) (T2 : q_rwo V H q b s o a1 a2 a3) (T3 : q_hld (V 86) (g_jy V q (g_F V q b s o a1 a2 a3 (g_nw V)) (0 : Int)) (g_F V q b s o a1 a2 a3 (g_nw V)) k) (C0 : 0 ≤ k) (C1 : 0 ≤ 35 - k) (C2 : 0 ≤ g2 - H) : (True) ∧ (q_hld (V 86) (g_jy V q (g_F V q b s o a1 a2 a3 (g_nw V)) (0 : Int)) (g_F V q b s o a1 a2 a3 (g_nw V)) (k + 1) ∧ True) := by
  have h1 : g_op 107 k 6 = g1 := T0
  have h2 : g_op 108 k 6 = g2 := T1
  rw [g_op_div (by omega) (by omega) (by omega) (by omega)] at h1
  rw [g_op_rem (by omega) (by omega) (by omega) (by omega)] at h2
  have z9 := g_ha_out T2.1.1 (h := g2) (by omega) (by omega)
  have m9 : ¬ o_ab (g_F V q b s o a1 a2 a3 (g_nw V)) (k % 6) := fun c9 => by
    have c8 := c9.2
    rw [h2, z9] at c8
    omega
  exact ⟨trivial, o_hldS T3 (Or.inr (Or.inr (Or.inl m9))), trivial⟩
theorem k_hldNe {V : zVw} {k g1 g2 H q b s o a1 a2 a3 : Int} (T0 : (mOP 107 (Int32.ofInt k) (Int32.ofInt (6 : Int))).toInt = g1) (T1 : (mOP 108 (Int32.ofInt k) (Int32.ofInt (6 : Int))).toInt = g2) (T2 : q_rwo V H q b s o a1 a2 a3) (T3 : q_hld (V 86) (g_jy V q (g_F V q b s o a1 a2 a3 (g_nw V)) (0 : Int)) (g_F V q b s o a1 a2 a3 (g_nw V)) k) (C0 : 0 ≤ k) (C1 : 0 ≤ 35 - k) (C2 : 0 ≤ g1 - g2) (C3 : 0 ≤ g2 - g1) : (True) ∧ (q_hld (V 86) (g_jy V q (g_F V q b s o a1 a2 a3 (g_nw V)) (0 : Int)) (g_F V q b s o a1 a2 a3 (g_nw V)) (k + 1) ∧ True) := by
  have h1 : g_op 107 k 6 = g1 := T0
  have h2 : g_op 108 k 6 = g2 := T1
  rw [g_op_div (by omega) (by omega) (by omega) (by omega)] at h1
  rw [g_op_rem (by omega) (by omega) (by omega) (by omega)] at h2
  exact ⟨trivial, o_hldS T3 (Or.inr (Or.inr (Or.inr (by omega)))), trivial⟩
theorem k_d6r {V : zVw} {k a : Int} (T0 : (mOP 107 (Int32.ofInt k) (Int32.ofInt (6 : Int))).toInt = a) (C0 : 0 ≤ k) (C1 : 0 ≤ 35 - k) : (0 ≤ a ∧ 0 ≤ 5 - a ∧ True) ∧ (True) := by
  have h1 : g_op 107 k 6 = a := T0
  rw [g_op_div (by omega) (by omega) (by omega) (by omega)] at h1
  exact ⟨⟨by omega, by omega, trivial⟩, trivial⟩
theorem k_d6m {V : zVw} {k a : Int} (T0 : (mOP 108 (Int32.ofInt k) (Int32.ofInt (6 : Int))).toInt = a) (C0 : 0 ≤ k) (C1 : 0 ≤ 35 - k) : (0 ≤ a ∧ 0 ≤ 5 - a ∧ True) ∧ (True) := by
  have h1 : g_op 108 k 6 = a := T0
  rw [g_op_rem (by omega) (by omega) (by omega) (by omega)] at h1
  exact ⟨⟨by omega, by omega, trivial⟩, trivial⟩
theorem k_d6z {V : zVw} {k a : Int} (T0 : (mOP 108 (Int32.ofInt k) (Int32.ofInt (6 : Int))).toInt = a) (C0 : 0 ≤ k) (C1 : 0 ≤ -k) : (0 ≤ a ∧ 0 ≤ -a ∧ True) ∧ (True) := by
  have h1 : g_op 108 k 6 = a := T0
  rw [g_op_rem (by omega) (by omega) (by omega) (by omega)] at h1
  exact ⟨⟨by omega, by omega, trivial⟩, trivial⟩
theorem k_inl {V : zVw} {i h m : Int} (C0 : 0 ≤ i) (C1 : 0 ≤ m - i - 1) (C2 : 0 ≤ 6 - m) (F0 : (0 : Int) ≤ i ∧ (i : Int) < j_len 87 ∧ V 87 (i) = h) : (True) ∧ (((0 ≤ m ∧ m ≤ 6) ∧ h ∈ o_l (V 87) m.toNat) ∧ True) := by
  exact ⟨trivial, ⟨⟨by omega, by omega⟩, (o_l_mem (V 87) m.toNat).mpr ⟨i, ⟨by omega, by omega⟩, F0.2.2⟩⟩, trivial⟩
theorem k_nil0 {V : zVw} {h : Int} : (True) ∧ (((0 ≤ (0 : Int) ∧ (0 : Int) ≤ 6) ∧ ∀ t : Int, 0 ≤ t → t < (0 : Int) → V 87 t ≠ h) ∧ True) := by
  exact ⟨trivial, ⟨⟨by omega, by omega⟩, fun t t0 t1 => absurd t1 (by omega)⟩, trivial⟩
theorem k_nilA {V : zVw} {i h u : Int} (T0 : (0 ≤ i ∧ i ≤ 6) ∧ ∀ t : Int, 0 ≤ t → t < i → V 87 t ≠ h) (C0 : 0 ≤ i) (C1 : 0 ≤ 5 - i) (C2 : 0 ≤ u - h - 1) (F0 : (0 : Int) ≤ i ∧ (i : Int) < j_len 87 ∧ V 87 (i) = u) : (True) ∧ (((0 ≤ (i + 1) ∧ (i + 1) ≤ 6) ∧ ∀ t : Int, 0 ≤ t → t < (i + 1) → V 87 t ≠ h) ∧ True) := by
  have f9 := F0.2.2
  exact ⟨trivial, ⟨⟨by omega, by omega⟩, fun t t0 t1 => by
    by_cases d : t = i
    · rw [d, f9]; omega
    · exact T0.2 t t0 (by omega)⟩, trivial⟩
theorem k_nilB {V : zVw} {i h u : Int} (T0 : (0 ≤ i ∧ i ≤ 6) ∧ ∀ t : Int, 0 ≤ t → t < i → V 87 t ≠ h) (C0 : 0 ≤ i) (C1 : 0 ≤ 5 - i) (C2 : 0 ≤ h - u - 1) (F0 : (0 : Int) ≤ i ∧ (i : Int) < j_len 87 ∧ V 87 (i) = u) : (True) ∧ (((0 ≤ (i + 1) ∧ (i + 1) ≤ 6) ∧ ∀ t : Int, 0 ≤ t → t < (i + 1) → V 87 t ≠ h) ∧ True) := by
  have f9 := F0.2.2
  exact ⟨trivial, ⟨⟨by omega, by omega⟩, fun t t0 t1 => by
    by_cases d : t = i
    · rw [d, f9]; omega
    · exact T0.2 t t0 (by omega)⟩, trivial⟩
theorem k_nilE {V : zVw} {i h m : Int} (T0 : (0 ≤ i ∧ i ≤ 6) ∧ ∀ t : Int, 0 ≤ t → t < i → V 87 t ≠ h) (C0 : 0 ≤ i - m) (C1 : 0 ≤ m - i) : (True) ∧ (((0 ≤ m ∧ m ≤ 6) ∧ ∀ t : Int, 0 ≤ t → t < m → V 87 t ≠ h) ∧ True) := by
  have e9 : i = m := by omega
  rw [e9] at T0
  exact ⟨trivial, T0, trivial⟩
theorem k_nxs0 {V : zVw} {x m q b s o a1 a2 a3 : Int} (T0 : q_lng V q b s o a1 a2 a3 (6 : Int)) (C0 : 0 ≤ x) (C1 : 0 ≤ 6 - x) (C2 : 0 ≤ m) (C3 : 0 ≤ 6 - m) : (True) ∧ (q_nxs (V 87) (g_F V q b s o a1 a2 a3 (g_nw V)) x m x ∧ True) := by
  exact ⟨trivial, ⟨⟨by omega, by omega, by omega⟩, fun j j0 j1 => absurd j1 (by omega)⟩, trivial⟩
theorem k_nxsL {V : zVw} {x m k g q b s o a1 a2 a3 : Int} (T0 : q_lng V q b s o a1 a2 a3 (6 : Int)) (T1 : q_nxs (V 87) (g_F V q b s o a1 a2 a3 (g_nw V)) x m k) (C0 : 0 ≤ x) (C1 : 0 ≤ k - x) (C2 : 0 ≤ 5 - k) (C3 : 0 ≤ -g) (F0 : (0 : Int) ≤ k ∧ (k : Int) < j_len 82 ∧ V 82 (k) = g) : (True) ∧ (q_nxs (V 87) (g_F V q b s o a1 a2 a3 (g_nw V)) x m (k + 1) ∧ True) := by
  have g9 := T0.2 k (by omega) (by omega)
  have f9 := F0.2.2
  rw [f9] at g9
  exact ⟨trivial, ⟨T1.1, fun j j0 j1 c => by
    by_cases d : j = k
    · rw [d] at c; have := c.1; omega
    · exact T1.2 j j0 (by omega) c⟩, trivial⟩
theorem k_nxsI {V : zVw} {x m k q b s o a1 a2 a3 : Int} (T0 : (0 ≤ m ∧ m ≤ 6) ∧ k ∈ o_l (V 87) m.toNat) (T1 : q_nxs (V 87) (g_F V q b s o a1 a2 a3 (g_nw V)) x m k) (C0 : 0 ≤ x) (C1 : 0 ≤ k - x) (C2 : 0 ≤ 5 - k) : (True) ∧ (q_nxs (V 87) (g_F V q b s o a1 a2 a3 (g_nw V)) x m (k + 1) ∧ True) := by
  exact ⟨trivial, ⟨T1.1, fun j j0 j1 c => by
    by_cases d : j = k
    · rw [d] at c; exact c.2 T0.2
    · exact T1.2 j j0 (by omega) c⟩, trivial⟩
theorem k_nxfY {V : zVw} {x m k g q b s o a1 a2 a3 : Int} (T0 : q_lng V q b s o a1 a2 a3 (6 : Int)) (T1 : (0 ≤ m ∧ m ≤ 6) ∧ ∀ t : Int, 0 ≤ t → t < m → V 87 t ≠ k) (T2 : q_nxs (V 87) (g_F V q b s o a1 a2 a3 (g_nw V)) x m k) (C0 : 0 ≤ x) (C1 : 0 ≤ k - x) (C2 : 0 ≤ 5 - k) (C3 : 0 ≤ g - 1) (F0 : (0 : Int) ≤ k ∧ (k : Int) < j_len 82 ∧ V 82 (k) = g) : (True) ∧ (q_nxf (V 87) (g_F V q b s o a1 a2 a3 (g_nw V)) x m k ∧ True) := by
  have g9 := T0.2 k (by omega) (by omega)
  have f9 := F0.2.2
  rw [f9] at g9
  exact ⟨trivial, ⟨T2.1, Or.inr ⟨⟨by omega, by omega⟩, ⟨by omega, fun c => by
    obtain ⟨i, i0, i1⟩ := (o_l_mem (V 87) m.toNat).mp c
    exact T1.2 i i0.1 (by have := T1.1; omega) i1⟩, fun j j0 j1 => T2.2 j j0 j1⟩⟩, trivial⟩
theorem k_nxfN {V : zVw} {x m k q b s o a1 a2 a3 : Int} (T0 : q_nxs (V 87) (g_F V q b s o a1 a2 a3 (g_nw V)) x m k) (C0 : 0 ≤ k - 6) : (True) ∧ (q_nxf (V 87) (g_F V q b s o a1 a2 a3 (g_nw V)) x m (-1 : Int) ∧ True) := by
  exact ⟨trivial, ⟨T0.1, Or.inl ⟨rfl, fun j j0 j1 => T0.2 j j0 (by omega)⟩⟩, trivial⟩
theorem k_posU {V : zVw} {k x m y r q b s o a1 a2 a3 : Int} (T0 : q_pos (V 87) (g_F V q b s o a1 a2 a3 (g_nw V)) k x (m + 1)) (T1 : q_nxf (V 87) (g_F V q b s o a1 a2 a3 (g_nw V)) x (m + 1) r) (C0 : 0 ≤ m) (C1 : 0 ≤ 5 - m) (C2 : 0 ≤ -r - 1) (F0 : (0 : Int) ≤ m ∧ (m : Int) < j_len 87 ∧ V 87 (m) = y) : (0 ≤ y ∧ 0 ≤ 5 - y ∧ True) ∧ (q_pos (V 87) (g_F V q b s o a1 a2 a3 (g_nw V)) k (y + 1) m ∧ True) := by
  have h9 := o_pos_u T0 T1 (by omega) C0 F0.2.2
  have h8 := h9.1
  exact ⟨⟨by omega, by omega, trivial⟩, h9.2, trivial⟩
theorem k_posY {V : zVw} {k x m h q b s o a1 a2 a3 : Int} (T0 : q_pos (V 87) (g_F V q b s o a1 a2 a3 (g_nw V)) k x m) (T1 : q_nxf (V 87) (g_F V q b s o a1 a2 a3 (g_nw V)) x m h) (C0 : 0 ≤ h) (C1 : 0 ≤ 5 - h) (C2 : 0 ≤ m) (C3 : 0 ≤ 5 - m) (F0 : (0 : Int) ≤ m ∧ (m : Int) < j_len 87 ∧ V 87 (m) = h) : (0 ≤ 335921 - k ∧ True) ∧ (q_pos (V 87) (g_F V q b s o a1 a2 a3 (g_nw V)) (k + 1) (0 : Int) (m + 1) ∧ q_cur (V 87) (g_F V q b s o a1 a2 a3 (g_nw V)) k (m + 1) ∧ True) := by
  have h9 := o_pos_y T0 T1 C0 (by omega) F0.2.2
  have h8 := h9.1
  exact ⟨⟨by omega, trivial⟩, h9.2.1, h9.2.2, trivial⟩
theorem k_posN {V : zVw} {k x m h q b s o a1 a2 a3 : Int} (T0 : q_pos (V 87) (g_F V q b s o a1 a2 a3 (g_nw V)) k x m) (T1 : q_nxf (V 87) (g_F V q b s o a1 a2 a3 (g_nw V)) x m h) (C0 : 0 ≤ -h - 1) (C1 : 0 ≤ m) (C2 : 0 ≤ -m) : (True) ∧ ((0 ≤ k ∧ (o_A (o_a (g_F V q b s o a1 a2 a3 (g_nw V)))).drop k.toNat = []) ∧ True) := by
  exact ⟨trivial, o_pos_n T0 T1 (by omega) (by omega), trivial⟩
theorem k_spl0 {V : zVw} {k m yy q b s o a1 a2 a3 : Int} (T0 : q_hld (V 86) (g_jy V q (g_F V q b s o a1 a2 a3 (g_nw V)) yy) (g_F V q b s o a1 a2 a3 (g_nw V)) (36 : Int)) (T1 : q_cur (V 87) (g_F V q b s o a1 a2 a3 (g_nw V)) k m) (C0 : 0 ≤ m - 1) (C1 : 0 ≤ 6 - m) : (True) ∧ (q_spl (V 87) V (g_jy V q (g_F V q b s o a1 a2 a3 (g_nw V)) yy) (g_F V q b s o a1 a2 a3 (g_nw V)) m (m - 1) (999 : Int) (0 : Int) ∧ True) := by
  exact ⟨trivial, o_spl0 (by omega) (by omega), trivial⟩
theorem k_curR {V : zVw} {k m i h q b s o a1 a2 a3 : Int} (T0 : q_cur (V 87) (g_F V q b s o a1 a2 a3 (g_nw V)) k m) (C0 : 0 ≤ i) (C1 : 0 ≤ m - i - 1) (C2 : 0 ≤ 6 - m) (F0 : (0 : Int) ≤ i ∧ (i : Int) < j_len 87 ∧ V 87 (i) = h) : (0 ≤ h ∧ 0 ≤ 5 - h ∧ True) ∧ (True) := by
  have h9 := (o_cur_ab T0 (i := i) (by omega) (by omega)).1
  rw [F0.2.2] at h9
  exact ⟨⟨by omega, by omega, trivial⟩, trivial⟩
