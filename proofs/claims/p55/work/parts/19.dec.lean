section RKD
/-! The long code's instructions: a small decoder over three bytes, sound for the machine's own; a stretch of the code is walked once. -/
abbrev dU (c : ByteArray) (p : Nat) : Except DecodeError (Nat × Nat) := (Reader.u1 : Decoder Nat) c p
theorem du_at {c : ByteArray} {p : Nat} {x : UInt8} (h : c.data.toList[p]? = some x) : dU c p = .ok (x.toNat, p + 1) := by
  obtain ⟨hp, hb⟩ := List.getElem?_eq_some_iff.mp h
  have hs : p < c.size := by simpa using hp
  have e : dU c p = (if q : p < c.size then .ok (c[p].toNat, p + 1) else .error (HasTruncated.truncated p)) := by
    show (do if q : p < c.size then do set (p + 1); Pure.pure c[p].toNat else MonadExcept.throw (HasTruncated.truncated p) : Decoder Nat) c p = _
    rw [dif_pos hs, dif_pos hs]
    rfl
  rw [e, dif_pos hs]
  have e2 : c[p] = x := hb
  rw [e2]
theorem du_run {α : Type} {f : Nat → Decoder α} {c : ByteArray} {p a : Nat} (h : dU c p = .ok (a, p + 1)) : ((Reader.u1 : Decoder Nat) >>= f) c p = f a c (p + 1) := by
  show (do let (x, s) ← dU c p; f x c s : Except DecodeError (α × Nat)) = _
  rw [h]
  rfl
theorem du_run2 {α : Type} {f : Nat → Decoder α} {c : ByteArray} {p a b : Nat} (h : dU c p = .ok (a, p + 1)) (h2 : dU c (p + 1) = .ok (b, p + 1 + 1)) : ((Reader.u2 : Decoder Nat) >>= f) c p = f (a * 256 + b) c (p + 1 + 1) := by
  have e : (Reader.u2 : Decoder Nat) c p = .ok (a * 256 + b, p + 1 + 1) := by
    show ((Reader.u1 : Decoder Nat) >>= fun x => (Reader.u1 : Decoder Nat) >>= fun y => (Pure.pure (x * 256 + y) : Decoder Nat)) c p = _
    rw [du_run h, du_run h2]
    rfl
  show (do let (x, s) ← (Reader.u2 : Decoder Nat) c p; f x c s : Except DecodeError (α × Nat)) = _
  rw [e]
  rfl
theorem du_runs {α : Type} {f : Int → Decoder α} {c : ByteArray} {p a b : Nat} (h : dU c p = .ok (a, p + 1)) (h2 : dU c (p + 1) = .ok (b, p + 1 + 1)) : ((Reader.s2 : Decoder Int) >>= f) c p = f (Reader.signed 16 (a * 256 + b)) c (p + 1 + 1) := by
  have e : (Reader.s2 : Decoder Int) c p = .ok (Reader.signed 16 (a * 256 + b), p + 1 + 1) := by
    show ((Reader.u2 : Decoder Nat) >>= fun x => (Pure.pure (Reader.signed 16 x) : Decoder Int)) c p = _
    rw [du_run2 h h2]
    rfl
  show (do let (x, s) ← (Reader.s2 : Decoder Int) c p; f x c s : Except DecodeError (α × Nat)) = _
  rw [e]
  rfl
theorem du_runb {α : Type} {f : Int → Decoder α} {c : ByteArray} {p a : Nat} (h : dU c p = .ok (a, p + 1)) : ((Reader.s1 : Decoder Int) >>= f) c p = f (Reader.signed 8 a) c (p + 1) := by
  have e : (Reader.s1 : Decoder Int) c p = .ok (Reader.signed 8 a, p + 1) := by
    show ((Reader.u1 : Decoder Nat) >>= fun x => (Pure.pure (Reader.signed 8 x) : Decoder Int)) c p = _
    rw [du_run h]
    rfl
  show (do let (x, s) ← (Reader.s1 : Decoder Int) c p; f x c s : Except DecodeError (α × Nat)) = _
  rw [e]
  rfl
theorem du_dec {c : ByteArray} {pc n : Nat} {i : Instr} (h : Decoder.instr pc c pc = .ok (i, pc + n)) : decode c pc = .ok (i, n) := by
  show (do let (j, s) ← Decoder.instr pc c pc; Pure.pure (j, s - pc) : Except DecodeError (Instr × Nat)) = _
  rw [h]
  show Except.ok (i, pc + n - pc) = _
  rw [Nat.add_sub_cancel_left]
set_option maxRecDepth 20000 in
theorem de_3 {c : ByteArray} {pc : Nat} (h0 : dU c pc = .ok (3, pc + 1)) : decode c pc = .ok (.iconst 0, 1) := by
  refine du_dec ((du_run h0).trans ?_)
  exact rfl
set_option maxRecDepth 20000 in
theorem de_4 {c : ByteArray} {pc : Nat} (h0 : dU c pc = .ok (4, pc + 1)) : decode c pc = .ok (.iconst 1, 1) := by
  refine du_dec ((du_run h0).trans ?_)
  exact rfl
set_option maxRecDepth 20000 in
theorem de_5 {c : ByteArray} {pc : Nat} (h0 : dU c pc = .ok (5, pc + 1)) : decode c pc = .ok (.iconst 2, 1) := by
  refine du_dec ((du_run h0).trans ?_)
  exact rfl
set_option maxRecDepth 20000 in
theorem de_6 {c : ByteArray} {pc : Nat} (h0 : dU c pc = .ok (6, pc + 1)) : decode c pc = .ok (.iconst 3, 1) := by
  refine du_dec ((du_run h0).trans ?_)
  exact rfl
set_option maxRecDepth 20000 in
theorem de_7 {c : ByteArray} {pc : Nat} (h0 : dU c pc = .ok (7, pc + 1)) : decode c pc = .ok (.iconst 4, 1) := by
  refine du_dec ((du_run h0).trans ?_)
  exact rfl
set_option maxRecDepth 20000 in
theorem de_21 {c : ByteArray} {pc a : Nat} (h0 : dU c pc = .ok (21, pc + 1)) (h1 : dU c (pc + 1) = .ok (a, pc + 1 + 1)) : decode c pc = .ok (.iload a, 2) := by
  refine du_dec ((du_run h0).trans ?_)
  exact (du_run h1).trans rfl
set_option maxRecDepth 20000 in
theorem de_54 {c : ByteArray} {pc a : Nat} (h0 : dU c pc = .ok (54, pc + 1)) (h1 : dU c (pc + 1) = .ok (a, pc + 1 + 1)) : decode c pc = .ok (.istore a, 2) := by
  refine du_dec ((du_run h0).trans ?_)
  exact (du_run h1).trans rfl
set_option maxRecDepth 20000 in
theorem de_58 {c : ByteArray} {pc a : Nat} (h0 : dU c pc = .ok (58, pc + 1)) (h1 : dU c (pc + 1) = .ok (a, pc + 1 + 1)) : decode c pc = .ok (.astore a, 2) := by
  refine du_dec ((du_run h0).trans ?_)
  exact (du_run h1).trans rfl
set_option maxRecDepth 20000 in
theorem de_42 {c : ByteArray} {pc : Nat} (h0 : dU c pc = .ok (42, pc + 1)) : decode c pc = .ok (.aload_n 0, 1) := by
  refine du_dec ((du_run h0).trans ?_)
  exact rfl
set_option maxRecDepth 20000 in
theorem de_43 {c : ByteArray} {pc : Nat} (h0 : dU c pc = .ok (43, pc + 1)) : decode c pc = .ok (.aload_n 1, 1) := by
  refine du_dec ((du_run h0).trans ?_)
  exact rfl
set_option maxRecDepth 20000 in
theorem de_44 {c : ByteArray} {pc : Nat} (h0 : dU c pc = .ok (44, pc + 1)) : decode c pc = .ok (.aload_n 2, 1) := by
  refine du_dec ((du_run h0).trans ?_)
  exact rfl
set_option maxRecDepth 20000 in
theorem de_45 {c : ByteArray} {pc : Nat} (h0 : dU c pc = .ok (45, pc + 1)) : decode c pc = .ok (.aload_n 3, 1) := by
  refine du_dec ((du_run h0).trans ?_)
  exact rfl
set_option maxRecDepth 20000 in
theorem de_46 {c : ByteArray} {pc : Nat} (h0 : dU c pc = .ok (46, pc + 1)) : decode c pc = .ok (.iaload, 1) := by
  refine du_dec ((du_run h0).trans ?_)
  exact rfl
set_option maxRecDepth 20000 in
theorem de_87 {c : ByteArray} {pc : Nat} (h0 : dU c pc = .ok (87, pc + 1)) : decode c pc = .ok (.pop, 1) := by
  refine du_dec ((du_run h0).trans ?_)
  exact rfl
set_option maxRecDepth 20000 in
theorem de_96 {c : ByteArray} {pc : Nat} (h0 : dU c pc = .ok (96, pc + 1)) : decode c pc = .ok (.iadd, 1) := by
  refine du_dec ((du_run h0).trans ?_)
  exact rfl
set_option maxRecDepth 20000 in
theorem de_148 {c : ByteArray} {pc : Nat} (h0 : dU c pc = .ok (148, pc + 1)) : decode c pc = .ok (.lcmp, 1) := by
  refine du_dec ((du_run h0).trans ?_)
  exact rfl
set_option maxRecDepth 20000 in
theorem de_153 {c : ByteArray} {pc a b : Nat} (h0 : dU c pc = .ok (153, pc + 1)) (h1 : dU c (pc + 1) = .ok (a, pc + 1 + 1)) (h2 : dU c (pc + 1 + 1) = .ok (b, pc + 1 + 1 + 1)) : decode c pc = .ok (.ifCond .eq (Reader.signed 16 (a * 256 + b)), 3) := by
  refine du_dec ((du_run h0).trans ?_)
  exact (du_runs h1 h2).trans rfl
set_option maxRecDepth 20000 in
theorem de_167 {c : ByteArray} {pc a b : Nat} (h0 : dU c pc = .ok (167, pc + 1)) (h1 : dU c (pc + 1) = .ok (a, pc + 1 + 1)) (h2 : dU c (pc + 1 + 1) = .ok (b, pc + 1 + 1 + 1)) : decode c pc = .ok (.goto (Reader.signed 16 (a * 256 + b)), 3) := by
  refine du_dec ((du_run h0).trans ?_)
  exact (du_runs h1 h2).trans rfl
set_option maxRecDepth 20000 in
theorem de_172 {c : ByteArray} {pc : Nat} (h0 : dU c pc = .ok (172, pc + 1)) : decode c pc = .ok (.ireturn, 1) := by
  refine du_dec ((du_run h0).trans ?_)
  exact rfl
set_option maxRecDepth 20000 in
theorem de_182 {c : ByteArray} {pc a b : Nat} (h0 : dU c pc = .ok (182, pc + 1)) (h1 : dU c (pc + 1) = .ok (a, pc + 1 + 1)) (h2 : dU c (pc + 1 + 1) = .ok (b, pc + 1 + 1 + 1)) : decode c pc = .ok (.invokevirtual (a * 256 + b), 3) := by
  refine du_dec ((du_run h0).trans ?_)
  exact (du_run2 h1 h2).trans rfl
set_option maxRecDepth 20000 in
theorem de_184 {c : ByteArray} {pc a b : Nat} (h0 : dU c pc = .ok (184, pc + 1)) (h1 : dU c (pc + 1) = .ok (a, pc + 1 + 1)) (h2 : dU c (pc + 1 + 1) = .ok (b, pc + 1 + 1 + 1)) : decode c pc = .ok (.invokestatic (a * 256 + b), 3) := by
  refine du_dec ((du_run h0).trans ?_)
  exact (du_run2 h1 h2).trans rfl
def dW (o a b : Nat) : Option (Instr × Nat) :=
  bif Nat.beq o 3 then some (.iconst 0, 1) else
  bif Nat.beq o 4 then some (.iconst 1, 1) else
  bif Nat.beq o 5 then some (.iconst 2, 1) else
  bif Nat.beq o 6 then some (.iconst 3, 1) else
  bif Nat.beq o 7 then some (.iconst 4, 1) else
  bif Nat.beq o 21 then some (.iload a, 2) else
  bif Nat.beq o 54 then some (.istore a, 2) else
  bif Nat.beq o 58 then some (.astore a, 2) else
  bif Nat.beq o 42 then some (.aload_n 0, 1) else
  bif Nat.beq o 43 then some (.aload_n 1, 1) else
  bif Nat.beq o 44 then some (.aload_n 2, 1) else
  bif Nat.beq o 45 then some (.aload_n 3, 1) else
  bif Nat.beq o 46 then some (.iaload, 1) else
  bif Nat.beq o 87 then some (.pop, 1) else
  bif Nat.beq o 96 then some (.iadd, 1) else
  bif Nat.beq o 148 then some (.lcmp, 1) else
  bif Nat.beq o 153 then some (.ifCond .eq (Reader.signed 16 (a * 256 + b)), 3) else
  bif Nat.beq o 167 then some (.goto (Reader.signed 16 (a * 256 + b)), 3) else
  bif Nat.beq o 172 then some (.ireturn, 1) else
  bif Nat.beq o 182 then some (.invokevirtual (a * 256 + b), 3) else
  bif Nat.beq o 184 then some (.invokestatic (a * 256 + b), 3) else
  none
theorem du_or {α : Type} {x : Bool} {p q : Option α} {r : α} (h : (bif x then p else q) = some r) : (x = true ∧ p = some r) ∨ (x = false ∧ q = some r) := by
  cases x
  · exact Or.inr ⟨rfl, h⟩
  · exact Or.inl ⟨rfl, h⟩
set_option maxRecDepth 20000 in
theorem dW_ok {c : ByteArray} {pc o a b : Nat} {r : Instr × Nat} (h0 : dU c pc = .ok (o, pc + 1)) (h1 : dU c (pc + 1) = .ok (a, pc + 1 + 1)) (h2 : dU c (pc + 1 + 1) = .ok (b, pc + 1 + 1 + 1)) (h : dW o a b = some r) : decode c pc = .ok r := by
  unfold dW at h
  rcases du_or h with ⟨e, h⟩ | ⟨-, h⟩
  · rw [Nat.eq_of_beq_eq_true e] at h0
    rw [← Option.some.inj h]
    exact de_3 h0
  rcases du_or h with ⟨e, h⟩ | ⟨-, h⟩
  · rw [Nat.eq_of_beq_eq_true e] at h0
    rw [← Option.some.inj h]
    exact de_4 h0
  rcases du_or h with ⟨e, h⟩ | ⟨-, h⟩
  · rw [Nat.eq_of_beq_eq_true e] at h0
    rw [← Option.some.inj h]
    exact de_5 h0
  rcases du_or h with ⟨e, h⟩ | ⟨-, h⟩
  · rw [Nat.eq_of_beq_eq_true e] at h0
    rw [← Option.some.inj h]
    exact de_6 h0
  rcases du_or h with ⟨e, h⟩ | ⟨-, h⟩
  · rw [Nat.eq_of_beq_eq_true e] at h0
    rw [← Option.some.inj h]
    exact de_7 h0
  rcases du_or h with ⟨e, h⟩ | ⟨-, h⟩
  · rw [Nat.eq_of_beq_eq_true e] at h0
    rw [← Option.some.inj h]
    exact de_21 h0 h1
  rcases du_or h with ⟨e, h⟩ | ⟨-, h⟩
  · rw [Nat.eq_of_beq_eq_true e] at h0
    rw [← Option.some.inj h]
    exact de_54 h0 h1
  rcases du_or h with ⟨e, h⟩ | ⟨-, h⟩
  · rw [Nat.eq_of_beq_eq_true e] at h0
    rw [← Option.some.inj h]
    exact de_58 h0 h1
  rcases du_or h with ⟨e, h⟩ | ⟨-, h⟩
  · rw [Nat.eq_of_beq_eq_true e] at h0
    rw [← Option.some.inj h]
    exact de_42 h0
  rcases du_or h with ⟨e, h⟩ | ⟨-, h⟩
  · rw [Nat.eq_of_beq_eq_true e] at h0
    rw [← Option.some.inj h]
    exact de_43 h0
  rcases du_or h with ⟨e, h⟩ | ⟨-, h⟩
  · rw [Nat.eq_of_beq_eq_true e] at h0
    rw [← Option.some.inj h]
    exact de_44 h0
  rcases du_or h with ⟨e, h⟩ | ⟨-, h⟩
  · rw [Nat.eq_of_beq_eq_true e] at h0
    rw [← Option.some.inj h]
    exact de_45 h0
  rcases du_or h with ⟨e, h⟩ | ⟨-, h⟩
  · rw [Nat.eq_of_beq_eq_true e] at h0
    rw [← Option.some.inj h]
    exact de_46 h0
  rcases du_or h with ⟨e, h⟩ | ⟨-, h⟩
  · rw [Nat.eq_of_beq_eq_true e] at h0
    rw [← Option.some.inj h]
    exact de_87 h0
  rcases du_or h with ⟨e, h⟩ | ⟨-, h⟩
  · rw [Nat.eq_of_beq_eq_true e] at h0
    rw [← Option.some.inj h]
    exact de_96 h0
  rcases du_or h with ⟨e, h⟩ | ⟨-, h⟩
  · rw [Nat.eq_of_beq_eq_true e] at h0
    rw [← Option.some.inj h]
    exact de_148 h0
  rcases du_or h with ⟨e, h⟩ | ⟨-, h⟩
  · rw [Nat.eq_of_beq_eq_true e] at h0
    rw [← Option.some.inj h]
    exact de_153 h0 h1 h2
  rcases du_or h with ⟨e, h⟩ | ⟨-, h⟩
  · rw [Nat.eq_of_beq_eq_true e] at h0
    rw [← Option.some.inj h]
    exact de_167 h0 h1 h2
  rcases du_or h with ⟨e, h⟩ | ⟨-, h⟩
  · rw [Nat.eq_of_beq_eq_true e] at h0
    rw [← Option.some.inj h]
    exact de_172 h0
  rcases du_or h with ⟨e, h⟩ | ⟨-, h⟩
  · rw [Nat.eq_of_beq_eq_true e] at h0
    rw [← Option.some.inj h]
    exact de_182 h0 h1 h2
  rcases du_or h with ⟨e, h⟩ | ⟨-, h⟩
  · rw [Nat.eq_of_beq_eq_true e] at h0
    rw [← Option.some.inj h]
    exact de_184 h0 h1 h2
  cases h
def dchk : List UInt8 → Nat → List (Nat × Instr × Nat) → Bool
  | _, _, [] => true
  | l, pc, q :: t => match l with
    | x :: y :: z :: _ => (Nat.beq q.1 pc && (match dW x.toNat y.toNat z.toNat with
      | some r => decide (r = q.2)
      | none => false)) && dchk (l.drop q.2.2) (pc + q.2.2) t
    | _ => false
theorem dchk_ok {c : ByteArray} : ∀ (t : List (Nat × Instr × Nat)) (l : List UInt8) (pc : Nat), dchk l pc t = true → (∀ j : Nat, l[j]? = c.data.toList[pc + j]?) → ∀ (k : Nat) (q : Nat × Instr × Nat), t[k]? = some q → decode c q.1 = .ok q.2
  | [], _, _, _, _ => fun k q hq => by cases hq
  | q0 :: t, l, pc, h, hl => by
    unfold dchk at h
    split at h
    · next x y z l' =>
      rw [Bool.and_eq_true, Bool.and_eq_true] at h
      obtain ⟨⟨h1, h2⟩, h3⟩ := h
      intro k q hq
      cases k with
      | zero =>
        cases (show some q0 = some q from hq)
        rw [Nat.eq_of_beq_eq_true h1]
        split at h2
        · next r hr =>
          rw [← of_decide_eq_true h2]
          exact dW_ok (du_at (hl 0).symm) (du_at (hl 1).symm) (du_at (hl 2).symm) hr
        · cases h2
      | succ k => exact dchk_ok t _ _ h3 (fun j => by rw [List.getElem?_drop, hl, Nat.add_assoc]) k q hq
    · cases h
theorem dchk_at {c : ByteArray} {a : Nat} {t : List (Nat × Instr × Nat)} (h : dchk (c.data.toList.drop a) a t = true) : ∀ (k : Nat) (q : Nat × Instr × Nat), t[k]? = some q → decode c q.1 = .ok q.2 := dchk_ok t _ a h (fun j => by rw [List.getElem?_drop])
theorem dca {l : List (Nat × Instr × Nat)} (h : ∀ (k : Nat) (q : Nat × Instr × Nat), l[k]? = some q → decode code q.1 = .ok q.2) (j : Nat) {pc : Nat} {r : Instr × Nat} (hj : l[j]? = some (pc, r)) : decode code pc = .ok r := h j (pc, r) hj
end RKD
