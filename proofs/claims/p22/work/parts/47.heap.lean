/-! ===== what lies outside, arrays ===== -/
def mEX (S0 : Nat) (E : Nat → Option Nat) (X : List Int32) (U : State) : Prop :=
  S0 ≤ U.heap.size ∧ (∃ b : Nat, E 0 = some b ∧ b < S0 ∧ b < U.heap.size ∧ va_X b X.length (fun j => X.getD j 0) U U.heap) ∧
  (∃ adK adV : Nat → Nat, E 1 = some (adK 0) ∧ E 2 = some (adV 0) ∧ E 3 = some (adK 1) ∧ E 4 = some (adV 1) ∧ vk_S 2 [mST0.length, mST1.length] [mST0, mST1] adK adV (mAd S0) U U.heap) ∧
  (∀ (k : Nat) (z : String × Nat × String), mSTR[k]? = some z → ∃ a : Nat, E (2 * k + 1) = some a ∧ vk_R z.1 z.2.1 z.2.2 a U) ∧
  va_Z "java/lang/String" "COMPACT_STRINGS" "Z" (.int 1) (mAd S0) U U.heap ∧
  va_Z "jdk/internal/util/Preconditions" "SIOOBE_FORMATTER" "Ljava/util/function/BiFunction;" (va_rf (E 5)) (mAd S0) U U.heap ∧
  va_AO "HairRope$State" U ∧ (∀ w ∈ mNST, va_Nw w U)
theorem va_P1 {D : va_G} {cl : List vw_C} {q : Nat × va_E} {H : Heap} (h : va_at D cl q H) : va_P D cl [q] H := by
  intro k x hx
  have hk : k < 1 := (List.getElem?_eq_some_iff.mp hx).1
  rw [show k = 0 by omega] at hx
  cases hx
  exact h
theorem mix_in {x : Int32} {n : Nat} (h : mix x n = true) : vp_in x n := by
  simp only [mix, Bool.and_eq_true, decide_eq_true_eq] at h
  exact vp_in_iff.mpr h
theorem mix_lt {x : Int32} {n : Nat} (h : mix x n = true) : x.toNatClampNeg < n := by
  simp only [mix, Bool.and_eq_true, decide_eq_true_eq] at h
  show x.toInt.toNat < n
  omega
section MS3
variable {p : Program} {l : Launch} {e : Env} {R : Room} {s : State} {m : MethodId} {args : Array Value} {below : List Frame} {meth : Method} {c : Code} {H : Heap} {locs : List Loc} {cells slots : Nat} {Q : State → Prop}
variable {cc : ByteArray} {pc len : Nat} {lr : Array Slot} {S0 : Nat} {E : Nat → Option Nat} {D : va_G} {TA : Nat → ClassId} {X : List Int32} {i : Jvm.ClassFile.Instr} {st st' : List mV} {h h' : mH}
theorem ms_GetA (hx : p.tables.exec = Jvm.exec) (hb : c.code = cc) (hK : va_K D mcls (mtys TA) s) (hX : mEX S0 E X s) (hs : mSim D TA S0 E h H) (hS : va_S (mAd S0) s.heap H locs) (hd : decode cc pc = .ok (i, 1)) (hg : mGetA (mXA X) i st h = some st')
    (k : W p l e R s m args below meth c H locs cells slots Q (F0 m (pc + 1) lr (st'.map (mmu S0 E)))) : W p l e R s m args below meth c H locs cells slots Q (F0 m pc lr (st.map (mmu S0 E))) := by
  obtain ⟨-, ⟨b, hb0, hbS, hbs, hXX⟩, ⟨adK, adV, -, hE2, -, hE4, hV⟩, -⟩ := hX
  unfold mGetA at hg
  split at hg
  · split at hg
    · next j a r =>
      split at hg
      · next xs ha =>
        split at hg
        · next hm =>
          cases hg
          exact va_iald hx hb hK (va_P1 (hs.2 a _ ha).1) 0 0 rfl rfl (mix_in hm) hd k
        · cases hg
      · cases hg
    · next j q r =>
      split at hg
      · next xs ha =>
        split at hg
        · next hm =>
          cases hg
          unfold mXA at ha
          split at ha
          · cases ha
            simp only [List.map_cons, mmu, hb0, va_rf] at k ⊢
            exact va_sld hx hb hXX hbs (Nat.not_le.mpr hbS) hS (mix_in hm) hd k
          · cases ha
          · cases ha
          · cases ha
        · cases hg
      · cases hg
    · cases hg
  · split at hg
    · next j a r =>
      split at hg
      · next xs ha =>
        split at hg
        · next hm =>
          cases hg
          exact va_bald hx hb hK (va_P1 (hs.2 a _ ha).1) 0 2 rfl rfl (mix_in hm) hd k
        · cases hg
      · next xs ha =>
        split at hg
        · next hm =>
          cases hg
          exact va_zald hx hb hK (va_P1 (hs.2 a _ ha).1) 0 3 rfl rfl (mix_in hm) hd k
        · cases hg
      · cases hg
    · next j q r =>
      split at hg
      · next xs ha =>
        split at hg
        · next hm =>
          cases hg
          unfold mXA at ha
          split at ha
          · cases ha
          · cases ha
            simp only [List.map_cons, mmu, hE2, va_rf] at k ⊢
            exact va_tb hx hb (hV.1 0 (by decide)).2.2.2 hS (mix_in hm) rfl hd k
          · cases ha
            simp only [List.map_cons, mmu, hE4, va_rf] at k ⊢
            exact va_tb hx hb (hV.1 1 (by decide)).2.2.2 hS (mix_in hm) rfl hd k
          · cases ha
        · cases hg
      · cases hg
    · cases hg
  · split at hg
    · next j a r =>
      split at hg
      · next xs ha =>
        split at hg
        · next hm =>
          cases hg
          exact va_lald hx hb hK (va_P1 (hs.2 a _ ha).1) 0 1 rfl rfl (mix_in hm) hd k
        · cases hg
      · cases hg
    · cases hg
  · split at hg
    · next j a r =>
      split at hg
      · next xs ha =>
        split at hg
        · next hm =>
          cases hg
          exact va_aldq hx hb hK (va_P1 (hs.2 a _ ha).1) 0 4 rfl rfl (mix_in hm) hd k
        · cases hg
      · cases hg
    · cases hg
  · split at hg
    · next a r =>
      split at hg
      · next t xs ha =>
        cases hg
        obtain ⟨h1, h2, -⟩ := hs.2 a _ ha
        rcases h2 with rfl | rfl | rfl
        · exact va_alen hx hb hK (va_P1 h1) 0 0 rfl rfl rfl hd k
        · exact va_alen hx hb hK (va_P1 h1) 0 2 rfl rfl rfl hd k
        · exact va_alen hx hb hK (va_P1 h1) 0 3 rfl rfl rfl hd k
      · next t xs ha =>
        cases hg
        obtain ⟨h1, rfl, -⟩ := hs.2 a _ ha
        exact va_alen hx hb hK (va_P1 h1) 0 1 rfl rfl rfl hd k
      · next t xs ha =>
        cases hg
        obtain ⟨h1, rfl, -⟩ := hs.2 a _ ha
        exact va_alen hx hb hK (va_P1 h1) 0 4 rfl rfl rfl hd k
      · cases hg
    · next q r =>
      split at hg
      · next t xs ha =>
        cases hg
        unfold mXA at ha
        split at ha
        · cases ha
          simp only [List.map_cons, mmu, hb0, va_rf] at k ⊢
          exact va_slen hx hb hXX hbs (Nat.not_le.mpr hbS) hS hd k
        · cases ha
          simp only [List.map_cons, mmu, hE2, va_rf] at k ⊢
          exact va_tlen hx hb (hV.1 0 (by decide)).2.2.2 hS rfl hd k
        · cases ha
          simp only [List.map_cons, mmu, hE4, va_rf] at k ⊢
          exact va_tlen hx hb (hV.1 1 (by decide)).2.2.2 hS rfl hd k
        · cases ha
      · cases hg
    · cases hg
  · cases hg
theorem m_getD_set {α : Type} (xs : List α) (k : Nat) (x d : α) (hk : k < xs.length) (j : Nat) : (xs.set k x).getD j d = if j = k then x else xs.getD j d := by
  rw [List.getD_eq_getElem?_getD, List.getD_eq_getElem?_getD]
  by_cases e : j = k
  · subst e
    rw [List.getElem?_set_self hk, if_pos rfl]
    rfl
  · rw [List.getElem?_set_ne (fun q => e q.symm), if_neg e]
/-- an int array behind a store -/
theorem m_iset {TA : Nat → ClassId} {D : va_G} {a t : Nat} {xs : List Int32} {k : Nat} {x : Int32} {H1 : Heap} (hk : k < xs.length) (e1 : H1[a]? = some ((vp_cell (TA t) (xs.length, .inl (fun j => xs.getD j 0))).setSlot k (.int x))) : va_at D mcls (a, mce TA S0 E (.inr (t, .inl (xs.set k x)))) H1 := by
  show H1[a]? = some (vp_cell _ _)
  rw [e1, List.length_set]
  rw [vp_cell_i, vp_cell_i, arrV_store]
  congr 2
  funext j
  rw [m_getD_set _ _ _ _ hk]
  unfold updV
  split <;> rfl
theorem m_jset {TA : Nat → ClassId} {D : va_G} {a t : Nat} {xs : List Int64} {k : Nat} {x : Int64} {H1 : Heap} (hk : k < xs.length) (e1 : H1[a]? = some ((vp_cell (TA t) (xs.length, .inr (.inl (fun j => xs.getD j 0)))).setSlot k (.long x))) : va_at D mcls (a, mce TA S0 E (.inr (t, .inr (.inl (xs.set k x))))) H1 := by
  show H1[a]? = some (vp_cell _ _)
  rw [e1, List.length_set]
  rw [vp_cell_l, vp_cell_l, arrV_store]
  congr 2
  funext j
  rw [m_getD_set _ _ _ _ hk]
  unfold updV
  split <;> rfl
theorem m_qset {TA : Nat → ClassId} {D : va_G} {a t : Nat} {xs : List (Option Nat)} {k : Nat} {b : Nat} {H1 : Heap} (hk : k < xs.length) (e1 : H1[a]? = some ((vp_cell (TA t) (xs.length, .inr (.inr (.inr (.inr (fun j => (xs.getD j none).map fun a => S0 + a)))))).setSlot k (.ref (S0 + b)))) : va_at D mcls (a, mce TA S0 E (.inr (t, .inr (.inr (xs.set k (some b)))))) H1 := by
  show H1[a]? = some (vp_cell _ _)
  rw [e1, List.length_set]
  rw [vp_cell_q, vp_cell_q, arrV_store]
  congr 2
  funext j
  rw [m_getD_set _ _ _ _ hk]
  unfold updV
  split <;> rfl
theorem m_inarr {cA : ClassId} {n : Nat} {f : Nat → Value} {j : Int32} (hm : mix j n = true) : ¬ (j < 0 ∨ (arrV cA n f).slots.size ≤ j.toNatClampNeg) := by
  rw [arrV_size]
  exact mix_in hm
theorem ms_PutA (hx : p.tables.exec = Jvm.exec) (hb : c.code = cc) (hK : va_K D mcls (mtys TA) s) (hs : mSim D TA S0 E h H) (hS : va_S (mAd S0) s.heap H locs) (hd : decode cc pc = .ok (i, 1)) (hg : mPutA 8 i st h = some (st', h'))
    (k : ∀ (H1 : Heap) (locs1 : List Loc), mSim D TA S0 E h' H1 → va_S (mAd S0) s.heap H1 locs1 → W p l e R s m args below meth c H1 locs1 cells slots Q (F0 m (pc + 1) lr (st'.map (mmu S0 E)))) : W p l e R s m args below meth c H locs cells slots Q (F0 m pc lr (st.map (mmu S0 E))) := by
  unfold mPutA at hg
  split at hg
  · split at hg
    · next x j a r =>
      split at hg
      · next xs ha =>
        split at hg
        · next hm =>
          cases hg
          obtain ⟨h1, h2, h3⟩ := hs.2 a _ ha
          exact W.iast hx hb h1 ((hK.2 0 _ rfl).1 xs.length (fun j => .int (xs.getD j 0))) (fun q => by cases q) (m_inarr hm) rfl rfl hd fun H1 e1 z oq => k H1 _ (hs.put ha (m_iset (mix_lt hm) e1) ⟨h2, by rw [List.length_set]; exact h3⟩ z oq) (hS.put z oq (Nat.le_add_right S0 a))
        · cases hg
      · cases hg
    · cases hg
  · split at hg
    · next x j a r =>
      split at hg
      · next xs ha =>
        split at hg
        · next hm =>
          cases hg
          obtain ⟨h1, h2, h3⟩ := hs.2 a _ ha
          exact W.bast hx hb h1 ((hK.2 2 _ rfl).1 xs.length (fun j => .int (xs.getD j 0))) (fun q => by cases q) (m_inarr hm) rfl rfl hd fun H1 e1 z oq => k H1 _ (hs.put ha (m_iset (mix_lt hm) e1) ⟨h2, by rw [List.length_set]; exact h3⟩ z oq) (hS.put z oq (Nat.le_add_right S0 a))
        · cases hg
      · next xs ha =>
        split at hg
        · next hm =>
          cases hg
          obtain ⟨h1, h2, h3⟩ := hs.2 a _ ha
          exact W.zast hx hb h1 ((hK.2 3 _ rfl).1 xs.length (fun j => .int (xs.getD j 0))) (fun q => by cases q) (m_inarr hm) rfl rfl hd fun H1 e1 z oq => k H1 _ (hs.put ha (m_iset (mix_lt hm) e1) ⟨h2, by rw [List.length_set]; exact h3⟩ z oq) (hS.put z oq (Nat.le_add_right S0 a))
        · cases hg
      · cases hg
    · cases hg
  · split at hg
    · next x j a r =>
      split at hg
      · next xs ha =>
        split at hg
        · next hm =>
          cases hg
          obtain ⟨h1, h2, h3⟩ := hs.2 a _ ha
          exact W.last hx hb h1 ((hK.2 1 _ rfl).1 xs.length (fun j => .long (xs.getD j 0))) (fun q => by cases q) (m_inarr hm) rfl rfl hd fun H1 e1 z oq => k H1 _ (hs.put ha (m_jset (mix_lt hm) e1) ⟨h2, by rw [List.length_set]; exact h3⟩ z oq) (hS.put z oq (Nat.le_add_right S0 a))
        · cases hg
      · cases hg
    · cases hg
  · split at hg
    · next b j a r =>
      split at hg
      · next xs ci fs ha hv =>
        split at hg
        · next hm =>
          obtain ⟨hm, rfl⟩ := hm
          cases hg
          obtain ⟨h1, h2, h3⟩ := hs.2 a _ ha
          obtain ⟨⟨r', hr', cellV, g1, g2, g3, -⟩, -⟩ := hs.2 b _ hv
          have hr8 : r' = ("HairRope$State", mT "HairRope$State" mCL8, mCL8.length) := by
            have e8 : mcls[8]? = some ("HairRope$State", mT "HairRope$State" mCL8, mCL8.length) := rfl
            exact Option.some.inj (hr'.symm.trans e8)
          have hcls := (hK.1 8 r' hr').2
          subst hr8
          obtain ⟨kA, comp, k1, k2, k3, -⟩ := (hK.2 4 _ rfl).2
          have hcomp : comp = D.1 8 := Option.some.inj (k3.symm.trans hcls.1)
          subst hcomp
          obtain ⟨kC, hkC, -⟩ := hcls.2
          refine W.aast hx hb h1 (fun q h => by cases h) (fun h => by cases h) k1 k2 rfl hkC ⟨fun q => mix_in hm (Or.inl q), by show _ < (arrV _ _ _).slots.size; rw [arrV_size]; exact mix_lt hm⟩ g1 (fun q h => by rw [g3] at h; cases h) (by rw [g2]; exact hkC) (by rw [g2]; exact va_assign hcls) rfl rfl hd fun H1 e1 z oq => ?_
          exact k H1 _ (hs.put ha (m_qset (mix_lt hm) e1) ⟨h2, by rw [List.length_set]; exact h3⟩ z oq) (hS.put z oq (Nat.le_add_right S0 a))
        · cases hg
      · cases hg
    · cases hg
  · cases hg
end MS3
