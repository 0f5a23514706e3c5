/-! ===== an instruction is what its own bytes say: a window of the code is enough ===== -/
/-- what this reader says of l it says of l within other bytes -/
def mWr {α : Type} (pre l post : List UInt8) (r : Jvm.ClassFile.Decoder α) : Prop := ∀ (p : Nat) (x : α) (q : Nat), Jvm.ClassFile.Reader.runAt r ⟨⟨l⟩⟩ p = .ok (x, q) → Jvm.ClassFile.Reader.runAt r ⟨⟨pre ++ (l ++ post)⟩⟩ (pre.length + p) = .ok (x, pre.length + q)
theorem mWb {α β : Type} (r : Jvm.ClassFile.Decoder α) (f : α → Jvm.ClassFile.Decoder β) (b : ByteArray) (p : Nat) : Jvm.ClassFile.Reader.runAt (r >>= f) b p = (match Jvm.ClassFile.Reader.runAt r b p with
    | .error e => .error e
    | .ok v => Jvm.ClassFile.Reader.runAt (f v.1) b v.2) := by
  show (Except.bind (Jvm.ClassFile.Reader.runAt r b p) (fun v => Jvm.ClassFile.Reader.runAt (f v.1) b v.2)) = _
  cases Jvm.ClassFile.Reader.runAt r b p <;> rfl
theorem mWm {α β : Type} (r : Jvm.ClassFile.Decoder α) (g : α → β) (b : ByteArray) (p : Nat) : Jvm.ClassFile.Reader.runAt (g <$> r) b p = (match Jvm.ClassFile.Reader.runAt r b p with
    | .error e => .error e
    | .ok v => .ok (g v.1, v.2)) := by
  show (Except.bind (Jvm.ClassFile.Reader.runAt r b p) (fun v => .ok (g v.1, v.2))) = _
  cases Jvm.ClassFile.Reader.runAt r b p <;> rfl
section MWI
variable {α β : Type} {pre l post : List UInt8}
theorem mWr_pure (x : α) : mWr pre l post (pure x) := by
  intro p y q h
  have h1 : (Except.ok (x, p) : Except Jvm.ClassFile.DecodeError (α × Nat)) = .ok (y, q) := h
  cases h1
  rfl
theorem mWr_throw (e : Jvm.ClassFile.DecodeError) : mWr pre l post (throw e : Jvm.ClassFile.Decoder α) := by
  intro p y q h
  have h1 : (Except.error e : Except Jvm.ClassFile.DecodeError (α × Nat)) = .ok (y, q) := h
  cases h1
theorem mWr_bind {r : Jvm.ClassFile.Decoder α} {f : α → Jvm.ClassFile.Decoder β} (h : mWr pre l post r) (g : ∀ x, mWr pre l post (f x)) : mWr pre l post (r >>= f) := by
  intro p x q hx
  rw [mWb] at hx
  cases hr : Jvm.ClassFile.Reader.runAt r ⟨⟨l⟩⟩ p with
  | error e => rw [hr] at hx; cases hx
  | ok v =>
    rw [hr] at hx
    rw [mWb, h p v.1 v.2 hr]
    exact g v.1 v.2 x q hx
theorem mWr_map {r : Jvm.ClassFile.Decoder α} (k : α → β) (h : mWr pre l post r) : mWr pre l post (k <$> r) := by
  intro p x q hx
  rw [mWm] at hx
  cases hr : Jvm.ClassFile.Reader.runAt r ⟨⟨l⟩⟩ p with
  | error e => rw [hr] at hx; cases hx
  | ok v =>
    rw [hr] at hx
    have h1 : (Except.ok (k v.1, v.2) : Except Jvm.ClassFile.DecodeError (β × Nat)) = .ok (x, q) := hx
    cases h1
    rw [mWm, h p v.1 v.2 hr]
    try rfl
theorem mW_u1e (b : ByteArray) (p : Nat) : Jvm.ClassFile.Reader.runAt (Jvm.ClassFile.Reader.u1 : Jvm.ClassFile.Decoder Nat) b p = (if h : p < b.size then .ok ((b[p]'h).toNat, p + 1) else .error (.truncated p)) := by
  show ((if h : p < b.size then (do set (p + 1); pure (b[p]'h).toNat) else throw (Jvm.ClassFile.HasTruncated.truncated p)) : Jvm.ClassFile.Decoder Nat) b p = _
  by_cases h : p < b.size
  · rw [dif_pos h, dif_pos h]
    rfl
  · rw [dif_neg h, dif_neg h]
    rfl
theorem mWr_u1 : mWr pre l post Jvm.ClassFile.Reader.u1 := by
  intro p x q hx
  rw [mW_u1e] at hx
  split at hx
  · next h =>
    cases hx
    have h0 : p < l.length := h
    have h1 : (pre ++ (l ++ post))[pre.length + p]? = some l[p] := by
      rw [List.getElem?_append_right (Nat.le_add_right _ _), Nat.add_sub_cancel_left, List.getElem?_append_left h0]
      exact List.getElem?_eq_getElem h0
    obtain ⟨h2, h3⟩ := List.getElem?_eq_some_iff.mp h1
    have h4 : pre.length + p < (⟨⟨pre ++ (l ++ post)⟩⟩ : ByteArray).size := h2
    rw [mW_u1e, dif_pos h4]
    have h5 : (⟨⟨pre ++ (l ++ post)⟩⟩ : ByteArray)[pre.length + p]'h4 = (⟨⟨l⟩⟩ : ByteArray)[p]'h := h3
    rw [h5]
    try rfl
  · cases hx
theorem mWr_u2 : mWr pre l post Jvm.ClassFile.Reader.u2 := by
  unfold Jvm.ClassFile.Reader.u2
  exact mWr_bind mWr_u1 fun _ => mWr_bind mWr_u1 fun _ => mWr_pure _
theorem mWr_u4 : mWr pre l post Jvm.ClassFile.Reader.u4 := by
  unfold Jvm.ClassFile.Reader.u4
  exact mWr_bind mWr_u2 fun _ => mWr_bind mWr_u2 fun _ => mWr_pure _
theorem mWr_s1 : mWr pre l post Jvm.ClassFile.Reader.s1 := mWr_map _ mWr_u1
theorem mWr_s2 : mWr pre l post Jvm.ClassFile.Reader.s2 := mWr_map _ mWr_u2
theorem mWr_s4 : mWr pre l post Jvm.ClassFile.Reader.s4 := mWr_map _ mWr_u4
theorem mWr_newarray (pc : Nat) : mWr pre l post (Jvm.ClassFile.Decoder.newarray pc) := by
  unfold Jvm.ClassFile.Decoder.newarray
  refine mWr_bind mWr_u1 fun x => ?_
  split <;> first | exact mWr_pure _ | exact mWr_throw _
/-- opcodes whose instruction doesn't look at where it stands -/
def mSimp (n : Nat) : Bool := Nat.blt n 170 || (Nat.blt 171 n && Nat.blt n 185) || (Nat.blt 186 n && Nat.blt n 196) || (Nat.blt 197 n && Nat.blt n 202)
theorem mWr_bind0 {r : Jvm.ClassFile.Decoder α} {f : α → Jvm.ClassFile.Decoder β} (Q : α → Prop) (h : mWr pre l post r) (hv : ∀ x q, Jvm.ClassFile.Reader.runAt r ⟨⟨l⟩⟩ 0 = .ok (x, q) → Q x) (g : ∀ x, Q x → mWr pre l post (f x)) (x : β) (q : Nat) (hx : Jvm.ClassFile.Reader.runAt (r >>= f) ⟨⟨l⟩⟩ 0 = .ok (x, q)) : Jvm.ClassFile.Reader.runAt (r >>= f) ⟨⟨pre ++ (l ++ post)⟩⟩ pre.length = .ok (x, pre.length + q) := by
  rw [mWb] at hx
  cases hr : Jvm.ClassFile.Reader.runAt r ⟨⟨l⟩⟩ 0 with
  | error e => rw [hr] at hx; cases hx
  | ok v =>
    rw [hr] at hx
    have h1 := h 0 v.1 v.2 hr
    rw [Nat.add_zero] at h1
    rw [mWb, h1]
    exact g v.1 (hv v.1 v.2 hr) v.2 x q hx
end MWI
set_option maxHeartbeats 4000000 in
set_option maxRecDepth 100000 in
theorem mW_instr {pre post r : List UInt8} {x0 : UInt8} (pc : Nat) (hs : mSimp x0.toNat = true) (x : Jvm.ClassFile.Instr) (q : Nat) (hx : Jvm.ClassFile.Reader.runAt (Jvm.ClassFile.Decoder.instr pc) ⟨⟨x0 :: r⟩⟩ 0 = .ok (x, q)) : Jvm.ClassFile.Reader.runAt (Jvm.ClassFile.Decoder.instr pc) ⟨⟨pre ++ (x0 :: r ++ post)⟩⟩ pre.length = .ok (x, pre.length + q) := by
  unfold Jvm.ClassFile.Decoder.instr at hx ⊢
  refine mWr_bind0 (fun n => mSimp n = true) mWr_u1 (fun n k h => ?_) (fun n hn => ?_) x q hx
  · rw [mW_u1e] at h
    split at h
    · cases h
      exact hs
    · cases h
  · split
    all_goals first
      | with_reducible exact mWr_pure _
      | with_reducible exact mWr_throw _
      | with_reducible exact mWr_bind mWr_u1 fun _ => mWr_pure _
      | with_reducible exact mWr_bind mWr_u2 fun _ => mWr_pure _
      | with_reducible exact mWr_bind mWr_s1 fun _ => mWr_pure _
      | with_reducible exact mWr_bind mWr_s2 fun _ => mWr_pure _
      | with_reducible exact mWr_bind mWr_s4 fun _ => mWr_pure _
      | with_reducible exact mWr_bind mWr_u1 fun _ => mWr_bind mWr_s1 fun _ => mWr_pure _
      | with_reducible exact mWr_newarray _
      | exact mWr_pure _
      | exact mWr_throw _
      | exact mWr_bind mWr_u1 fun _ => mWr_pure _
      | exact mWr_bind mWr_u2 fun _ => mWr_pure _
      | exact mWr_bind mWr_s1 fun _ => mWr_pure _
      | exact mWr_bind mWr_s2 fun _ => mWr_pure _
      | exact mWr_bind mWr_s4 fun _ => mWr_pure _
      | exact mWr_bind mWr_u1 fun _ => mWr_bind mWr_s1 fun _ => mWr_pure _
      | exact mWr_newarray _
      | exact absurd hn (by decide)
def mDw1 (b : ByteArray) (q : Nat × Jvm.ClassFile.Instr × Nat) : List UInt8 → Bool
  | [] => mDecOK b [q]
  | x :: r => match mSimp x.toNat with
    | true => (match Jvm.ClassFile.Reader.runAt (Jvm.ClassFile.Decoder.instr q.1) ⟨⟨x :: r.take (q.2.2 - 1)⟩⟩ 0 with
      | .ok z => mIeq z q.2.1 q.2.2
      | .error _ => false)
    | false => mDecOK b [q]
/-- the instructions of a list, each looked at where the one before it began -/
def mDw (b : ByteArray) : List (Nat × Jvm.ClassFile.Instr × Nat) → Nat → List UInt8 → Bool
  | [], _, _ => true
  | q :: t, base, rest => Nat.ble base q.1 && (mDw1 b q (rest.drop (q.1 - base)) && mDw b t q.1 (rest.drop (q.1 - base)))
theorem mDec_cons (b : ByteArray) (q : Nat × Jvm.ClassFile.Instr × Nat) (t : List (Nat × Jvm.ClassFile.Instr × Nat)) : mDecOK b (q :: t) = (mDecOK b [q] && mDecOK b t) := by
  unfold mDecOK
  simp only [List.all_cons, List.all_nil, Bool.and_true]
theorem mDw1_ok {b : ByteArray} {q : Nat × Jvm.ClassFile.Instr × Nat} {rest : List UInt8} (e : rest = b.data.toList.drop q.1) (h : mDw1 b q rest = true) : mDecOK b [q] = true := by
  cases rest with
  | nil => exact h
  | cons x r =>
    have h : (match mSimp x.toNat with
      | true => (match Jvm.ClassFile.Reader.runAt (Jvm.ClassFile.Decoder.instr q.1) ⟨⟨x :: r.take (q.2.2 - 1)⟩⟩ 0 with
        | .ok z => mIeq z q.2.1 q.2.2
        | .error _ => false)
      | false => mDecOK b [q]) = true := h
    split at h
    · next hs =>
      split at h
      · next z hz =>
        have h1 := mW_instr (pre := b.data.toList.take q.1) (post := r.drop (q.2.2 - 1)) q.1 hs z.1 z.2 hz
        have e1 : b.data.toList.take q.1 ++ (x :: r.take (q.2.2 - 1) ++ r.drop (q.2.2 - 1)) = b.data.toList := by
          rw [List.cons_append, List.take_append_drop, e, List.take_append_drop]
        have e2 : (b.data.toList.take q.1).length = q.1 := by
          have := congrArg List.length e
          simp only [List.length_cons, List.length_drop] at this
          rw [List.length_take]
          omega
        rw [e1, e2] at h1
        have h2 : decode b q.1 = .ok z := by
          show (Except.bind (Jvm.ClassFile.Reader.runAt (Jvm.ClassFile.Decoder.instr q.1) b q.1) (fun v => .ok (v.1, v.2 - q.1))) = _
          rw [show Jvm.ClassFile.Reader.runAt (Jvm.ClassFile.Decoder.instr q.1) b q.1 = .ok (z.1, q.1 + z.2) from h1]
          show (Except.ok (z.1, q.1 + z.2 - q.1) : Except Jvm.ClassFile.DecodeError (Jvm.ClassFile.Instr × Nat)) = _
          rw [Nat.add_sub_cancel_left]
        unfold mDecOK
        simp only [List.all_cons, List.all_nil, Bool.and_true]
        rw [h2]
        exact h
      · cases h
    · exact h
theorem mDw_ok (b : ByteArray) : ∀ (cd : List (Nat × Jvm.ClassFile.Instr × Nat)) (base : Nat) (rest : List UInt8), rest = b.data.toList.drop base → mDw b cd base rest = true → mDecOK b cd = true
  | [], _, _, _, _ => rfl
  | q :: t, base, rest, h, hx => by
    unfold mDw at hx
    simp only [Bool.and_eq_true] at hx
    obtain ⟨h1, h2, h3⟩ := hx
    have hb := Nat.le_of_ble_eq_true h1
    have e : rest.drop (q.1 - base) = b.data.toList.drop q.1 := by
      rw [h, List.drop_drop, show base + (q.1 - base) = q.1 by omega]
    rw [mDec_cons, mDw1_ok e h2, mDw_ok b t q.1 _ e h3]
    rfl
theorem mDw_all (b : ByteArray) (cd : List (Nat × Jvm.ClassFile.Instr × Nat)) (h : mDw b cd 0 b.data.toList = true) : mDecOK b cd = true := mDw_ok b cd 0 _ rfl h
