section RKS
def rS (G : RG) (p : Program) (l : Launch) (e : Env) (R : Room) (s : State) (m : MethodId) (args : Array Value) (below : List Frame) (meth : Method) (c : Code) (nL b0 : Nat) (Z : State → Prop) (pc : Nat) : RK := fun lv st σ b =>
  ∀ (H : Heap) (locs : List Loc) (ls : Array Slot), va_P (rDD G) rCl (rW (rAd G) (rTy G) 0 σ) H → va_D (rA G) (rW (rAd G) (rTy G) 0 σ) → va_S (rA G) s.heap H locs → lv_has ls nL (rl (rAd G) lv) →
    W p l e R s m args below meth c H locs (b0 + b) (12 * (b0 + b)) Z (F0 m pc ls (st.map (rv (rAd G))))
def rQc (G : RG) (Q : RQ) : Array Value → State → Outcome → State → Prop := fun _ st o t =>
  ∃ (r : Option AV) (σ : List RC), o = .returned (r.map (rv (rAd G))) ∧ Q (.inl r) σ ∧ va_P (rDD G) rCl (rW (rAd G) (rTy G) 0 σ) t.heap ∧ va_D (rA G) (rW (rAd G) (rTy G) 0 σ) ∧ va_F (rA G) st t
def rXC (G : RG) (Q : RQ) : String → State → State → Prop := fun E st t =>
  ∃ (k : Nat) (σ : List RC), E = rEx k ∧ Q (.inr k) σ ∧ va_P (rDD G) rCl (rW (rAd G) (rTy G) 0 σ) t.heap ∧ va_D (rA G) (rW (rAd G) (rTy G) 0 σ) ∧ va_F (rA G) st t
def rFr (G : RG) (p : Program) (l : Launch) (R : Room) (s : State) (m : MethodId) (args : Array Value) (meth : Method) (c : Code) (cc : ByteArray) (own : String) (nL : Nat) (Ts : List Cond) (hh : List (Nat × Nat × Nat × Nat)) (b0 mcO : Nat) : Prop :=
  p.tables.exec = Jvm.exec ∧ c.code = cc ∧ c.maxLocals = nL ∧ s.vm.findClass own = some m.cls ∧ (∀ w ∈ Ts, w.before args s = true) ∧ va_K (rDD G) rCl (rTys G) s ∧ rIm G s s.heap ∧ (∀ q : Nat, s.heap.size ≤ q → rA G q) ∧ meth.locks = false ∧ l.stackTraces = false ∧ b0 + mcO ≤ R.cells ∧ 12 * (b0 + mcO) ≤ R.slots ∧ c.exceptionTable.toList = tableOf hh
/-- the law's own locals at its loop -/
def rLw (lv : RLv) (i : Int32) : Prop := rlook lv 4 = some (rI false i) ∧ rlook lv 0 = some (rR 60) ∧ rlook lv 1 = some (rR 0) ∧ rlook lv 2 = some (rR 10) ∧ rlook lv 3 = some (rR 17)
def rZ (G : RG) (p : Program) (l : Launch) (e : Env) (R : Room) (s : State) (m : MethodId) (args : Array Value) (below : List Frame) (meth : Method) (c : Code) (nL : Nat) (Q : RQ) (mcO b0 : Nat) (Z : State → Prop) (κ : Option FieldType ⊕ (Nat × Int32)) : Prop := match κ with
  | .inr x => ∀ (lv : RLv) (σ : List RC) (b : Nat), rLw lv x.2 → Q (.inr b) σ → rS G p l e R s m args below meth c nL b0 Z x.1 lv [] σ b
  | .inl ret => Z = vx_MQ below (rQc G Q) (rXC G Q) args s mcO (12 * mcO) (rA G) ∧ meth.sig.returnType = ret ∧ b0 = 0
/-- a row's step is paid -/
def rOk (φ : RG → Prop) (cc : ByteArray) (own : String) (nL : Nat) (Ts : List Cond) (R : Room) (hh : List (Nat × Nat × Nat × Nat)) (mcO : Nat) (κ : Option FieldType ⊕ (Nat × Int32)) (J : Nat → Nat) (pc npc : Nat) (t : RT) : Prop :=
  ∀ (G : RG), φ G → ∀ (p : Program) (l : Launch) (e : Env) (s : State) (m : MethodId) (args : Array Value) (below : List Frame) (meth : Method) (c : Code) (b0 : Nat) (Z : State → Prop) (Q : RQ),
    rFr G p l R s m args meth c cc own nL Ts hh b0 mcO → rZ G p l e R s m args below meth c nL Q mcO b0 Z κ → ∀ (KN : RK) (KJ : Nat → RK),
    (∀ lv st σ b, KN lv st σ b → rS G p l e R s m args below meth c nL b0 Z npc lv st σ b) → (∀ o lv st σ b, KJ o lv st σ b → rS G p l e R s m args below meth c nL b0 Z (J o) lv st σ b) →
    ∀ lv st σ b, t Q KN KJ lv st σ b → rS G p l e R s m args below meth c nL b0 Z pc lv st σ b
variable {φ : RG → Prop} {cc : ByteArray} {own : String} {nL : Nat} {Ts : List Cond} {R : Room} {hh : List (Nat × Nat × Nat × Nat)} {mcO : Nat} {κ : Option FieldType ⊕ (Nat × Int32)} {J : Nat → Nat} {pc npc : Nat}
theorem ro_bad : rOk φ cc own nL Ts R hh mcO κ J pc npc tq_bad := fun _ _ _ _ _ _ _ _ _ _ _ _ _ _ _ _ _ _ _ _ _ _ _ _ h => h.elim
theorem ro_iconst {n : Int} {x : Int32} (hd : decode cc pc = .ok (.iconst n, 1)) (hx : Int32.ofInt n = x) (hn : npc = pc + 1) : rOk φ cc own nL Ts R hh mcO κ J pc npc (tq_ic x) := by
  intro G hG p l e s m args below meth c b0 Z Q F hZ KN KJ hN hJ lv st σ b h H locs ls hP hD hS hl
  subst hn
  exact lv_iconst F.1 F.2.1 hd hx (hN _ _ _ _ h H locs ls hP hD hS hl)
theorem ro_bipush {n : Int} {x : Int32} (hd : decode cc pc = .ok (.bipush n, 2)) (hx : (Int8.ofInt n).toInt32 = x) (hn : npc = pc + 2) : rOk φ cc own nL Ts R hh mcO κ J pc npc (tq_ic x) := by
  intro G hG p l e s m args below meth c b0 Z Q F hZ KN KJ hN hJ lv st σ b h H locs ls hP hD hS hl
  subst hn
  exact lv_bipush F.1 F.2.1 hd hx (hN _ _ _ _ h H locs ls hP hD hS hl)
theorem ro_lconst {n : Fin 2} {x : Int64} (hd : decode cc pc = .ok (.lconst n, 1)) (hx : Int64.ofNat (n : Nat) = x) (hn : npc = pc + 1) : rOk φ cc own nL Ts R hh mcO κ J pc npc (tq_lc x) := by
  intro G hG p l e s m args below meth c b0 Z Q F hZ KN KJ hN hJ lv st σ b h H locs ls hP hD hS hl
  subst hn
  exact lv_lconst F.1 F.2.1 hd hx (hN _ _ _ _ h H locs ls hP hD hS hl)
theorem ro_ldc2 {i : Nat} {x : Int64} (hd : decode cc pc = .ok (.ldc2_w i, 3)) (hx : Cond.constantLong own i x ∈ Ts) (hn : npc = pc + 3) : rOk φ cc own nL Ts R hh mcO κ J pc npc (tq_lc x) := by
  intro G hG p l e s m args below meth c b0 Z Q F hZ KN KJ hN hJ lv st σ b h H locs ls hP hD hS hl
  subst hn
  exact lv_ldc2 F.1 F.2.1 F.2.2.2.1 (F.2.2.2.2.1 _ hx) hd (hN _ _ _ _ h H locs ls hP hD hS hl)
theorem ro_ldcS {i k : Nat} (hk : k < 45) {tx : String} (hq : rStr.getD k ("", 0, "") = (own, i, tx)) (hd : decode cc pc = .ok (.ldc i, 2)) (hn : npc = pc + 2) : rOk φ cc own nL Ts R hh mcO κ J pc npc (tq_rc (100 + k)) := by
  intro G hG p l e s m args below meth c b0 Z Q F hZ KN KJ hN hJ lv st σ b h H locs ls hP hD hS hl
  subst hn
  obtain ⟨-, -, -, -, -, -, -, -, h9, -⟩ := F.2.2.2.2.2.2.1
  have h10 := h9 k hk
  rw [hq] at h10
  exact va_ldcS F.1 F.2.1 F.2.2.2.1 h10 hd (hN _ _ _ _ h H locs ls hP hD hS hl)
theorem ro_iload {i : Nat} (hd : decode cc pc = .ok (.iload i, 2)) (hn : npc = pc + 2) : rOk φ cc own nL Ts R hh mcO κ J pc npc (tq_il i) := by
  intro G hG p l e s m args below meth c b0 Z Q F hZ KN KJ hN hJ lv st σ b h H locs ls hP hD hS hl
  subst hn
  unfold tq_il at h
  split at h
  · next q hq => exact lv_iload F.1 F.2.1 hd (rlook_at hl hq) (hN _ _ _ _ h H locs ls hP hD hS hl)
  · exact h.elim
theorem ro_iload_n {k : Fin 4} {i : Nat} (hi : (k : Nat) = i) (hd : decode cc pc = .ok (.iload_n k, 1)) (hn : npc = pc + 1) : rOk φ cc own nL Ts R hh mcO κ J pc npc (tq_il i) := by
  intro G hG p l e s m args below meth c b0 Z Q F hZ KN KJ hN hJ lv st σ b h H locs ls hP hD hS hl
  subst hn
  unfold tq_il at h
  split at h
  · next q hq => exact lv_iload_n F.1 F.2.1 hd hi (rlook_at hl hq) (hN _ _ _ _ h H locs ls hP hD hS hl)
  · exact h.elim
theorem ro_lload {i : Nat} (hd : decode cc pc = .ok (.lload i, 2)) (hn : npc = pc + 2) : rOk φ cc own nL Ts R hh mcO κ J pc npc (tq_ll i) := by
  intro G hG p l e s m args below meth c b0 Z Q F hZ KN KJ hN hJ lv st σ b h H locs ls hP hD hS hl
  subst hn
  unfold tq_ll at h
  split at h
  · next q hq => exact lv_lload F.1 F.2.1 hd (rlook_at hl hq) (hN _ _ _ _ h H locs ls hP hD hS hl)
  · exact h.elim
theorem ro_lload_n {k : Fin 4} {i : Nat} (hi : (k : Nat) = i) (hd : decode cc pc = .ok (.lload_n k, 1)) (hn : npc = pc + 1) : rOk φ cc own nL Ts R hh mcO κ J pc npc (tq_ll i) := by
  intro G hG p l e s m args below meth c b0 Z Q F hZ KN KJ hN hJ lv st σ b h H locs ls hP hD hS hl
  subst hn
  unfold tq_ll at h
  split at h
  · next q hq => exact lv_lload_n F.1 F.2.1 hd hi (rlook_at hl hq) (hN _ _ _ _ h H locs ls hP hD hS hl)
  · exact h.elim
theorem ro_aload {i : Nat} (hd : decode cc pc = .ok (.aload i, 2)) (hn : npc = pc + 2) : rOk φ cc own nL Ts R hh mcO κ J pc npc (tq_al i) := by
  intro G hG p l e s m args below meth c b0 Z Q F hZ KN KJ hN hJ lv st σ b h H locs ls hP hD hS hl
  subst hn
  unfold tq_al at h
  split at h
  · next q hq => exact lv_aload F.1 F.2.1 hd (rlook_at hl hq) (hN _ _ _ _ h H locs ls hP hD hS hl)
  · next q hq => exact lv_aload F.1 F.2.1 hd (rlook_at hl hq) (hN _ _ _ _ h H locs ls hP hD hS hl)
  · exact h.elim
theorem ro_aload_n {k : Fin 4} {i : Nat} (hi : (k : Nat) = i) (hd : decode cc pc = .ok (.aload_n k, 1)) (hn : npc = pc + 1) : rOk φ cc own nL Ts R hh mcO κ J pc npc (tq_al i) := by
  intro G hG p l e s m args below meth c b0 Z Q F hZ KN KJ hN hJ lv st σ b h H locs ls hP hD hS hl
  subst hn
  unfold tq_al at h
  split at h
  · next q hq => exact lv_aload_n F.1 F.2.1 hd hi (rlook_at hl hq) (hN _ _ _ _ h H locs ls hP hD hS hl)
  · next q hq => exact lv_aload_n F.1 F.2.1 hd hi (rlook_at hl hq) (hN _ _ _ _ h H locs ls hP hD hS hl)
  · exact h.elim
theorem ro_istore {i : Nat} (hd : decode cc pc = .ok (.istore i, 2)) (hn : npc = pc + 2) : rOk φ cc own nL Ts R hh mcO κ J pc npc (tq_is nL i) := by
  intro G hG p l e s m args below meth c b0 Z Q F hZ KN KJ hN hJ lv st σ b h H locs ls hP hD hS hl
  subst hn
  unfold tq_is at h
  split at h
  · next q r =>
    split at h
    · next hb =>
      rw [rforce_eq] at h
      exact lv_istore F.1 F.2.1 hd hl (Nat.le_of_ble_eq_true hb) (rst1_eq (rAd G) lv i (.inl q)) (fun ls' hl' => hN _ _ _ _ h H locs ls' hP hD hS hl')
    · exact h.elim
  · exact h.elim
theorem ro_istore_n {k : Fin 4} {i : Nat} (hi : (k : Nat) = i) (hd : decode cc pc = .ok (.istore_n k, 1)) (hn : npc = pc + 1) : rOk φ cc own nL Ts R hh mcO κ J pc npc (tq_is nL i) := by
  intro G hG p l e s m args below meth c b0 Z Q F hZ KN KJ hN hJ lv st σ b h H locs ls hP hD hS hl
  subst hn
  unfold tq_is at h
  split at h
  · next q r =>
    split at h
    · next hb =>
      rw [rforce_eq] at h
      exact lv_istore_n F.1 F.2.1 hd hi hl (Nat.le_of_ble_eq_true hb) (rst1_eq (rAd G) lv i (.inl q)) (fun ls' hl' => hN _ _ _ _ h H locs ls' hP hD hS hl')
    · exact h.elim
  · exact h.elim
theorem ro_lstore {i : Nat} (hd : decode cc pc = .ok (.lstore i, 2)) (hn : npc = pc + 2) : rOk φ cc own nL Ts R hh mcO κ J pc npc (tq_ls nL i) := by
  intro G hG p l e s m args below meth c b0 Z Q F hZ KN KJ hN hJ lv st σ b h H locs ls hP hD hS hl
  subst hn
  unfold tq_ls at h
  split at h
  · next q r =>
    split at h
    · next hb =>
      rw [rforce_eq] at h
      exact lv_lstore F.1 F.2.1 hd hl (Nat.le_of_ble_eq_true hb) (rst2_eq (rAd G) lv i (.inr (.inl q))) (fun ls' hl' => hN _ _ _ _ h H locs ls' hP hD hS hl')
    · exact h.elim
  · exact h.elim
theorem ro_lstore_n {k : Fin 4} {i : Nat} (hi : (k : Nat) = i) (hd : decode cc pc = .ok (.lstore_n k, 1)) (hn : npc = pc + 1) : rOk φ cc own nL Ts R hh mcO κ J pc npc (tq_ls nL i) := by
  intro G hG p l e s m args below meth c b0 Z Q F hZ KN KJ hN hJ lv st σ b h H locs ls hP hD hS hl
  subst hn
  unfold tq_ls at h
  split at h
  · next q r =>
    split at h
    · next hb =>
      rw [rforce_eq] at h
      exact lv_lstore_n F.1 F.2.1 hd hi hl (Nat.le_of_ble_eq_true hb) (rst2_eq (rAd G) lv i (.inr (.inl q))) (fun ls' hl' => hN _ _ _ _ h H locs ls' hP hD hS hl')
    · exact h.elim
  · exact h.elim
theorem ro_astore {i : Nat} (hd : decode cc pc = .ok (.astore i, 2)) (hn : npc = pc + 2) : rOk φ cc own nL Ts R hh mcO κ J pc npc (tq_as nL i) := by
  intro G hG p l e s m args below meth c b0 Z Q F hZ KN KJ hN hJ lv st σ b h H locs ls hP hD hS hl
  subst hn
  unfold tq_as at h
  split at h
  · next q r =>
    split at h
    · next hb =>
      rw [rforce_eq] at h
      exact lv_astore F.1 F.2.1 hd hl (Nat.le_of_ble_eq_true hb) (rst1_eq (rAd G) lv i (rR q)) (fun ls' hl' => hN _ _ _ _ h H locs ls' hP hD hS hl')
    · exact h.elim
  · next q r =>
    split at h
    · next hb =>
      rw [rforce_eq] at h
      exact lv_astore F.1 F.2.1 hd hl (Nat.le_of_ble_eq_true hb) (rst1_eq (rAd G) lv i (rO (some q))) (fun ls' hl' => hN _ _ _ _ h H locs ls' hP hD hS hl')
    · exact h.elim
  · exact h.elim
theorem ro_astore_n {k : Fin 4} {i : Nat} (hi : (k : Nat) = i) (hd : decode cc pc = .ok (.astore_n k, 1)) (hn : npc = pc + 1) : rOk φ cc own nL Ts R hh mcO κ J pc npc (tq_as nL i) := by
  intro G hG p l e s m args below meth c b0 Z Q F hZ KN KJ hN hJ lv st σ b h H locs ls hP hD hS hl
  subst hn
  unfold tq_as at h
  split at h
  · next q r =>
    split at h
    · next hb =>
      rw [rforce_eq] at h
      exact lv_astore_n F.1 F.2.1 hd hi hl (Nat.le_of_ble_eq_true hb) (rst1_eq (rAd G) lv i (rR q)) (fun ls' hl' => hN _ _ _ _ h H locs ls' hP hD hS hl')
    · exact h.elim
  · next q r =>
    split at h
    · next hb =>
      rw [rforce_eq] at h
      exact lv_astore_n F.1 F.2.1 hd hi hl (Nat.le_of_ble_eq_true hb) (rst1_eq (rAd G) lv i (rO (some q))) (fun ls' hl' => hN _ _ _ _ h H locs ls' hP hD hS hl')
    · exact h.elim
  · exact h.elim
theorem ro_iinc {i : Nat} {n : Int} (hd : decode cc pc = .ok (.iinc i n, 3)) (hn : npc = pc + 3) : rOk φ cc own nL Ts R hh mcO κ J pc npc (tq_inc nL i n) := by
  intro G hG p l e s m args below meth c b0 Z Q F hZ KN KJ hN hJ lv st σ b h H locs ls hP hD hS hl
  subst hn
  unfold tq_inc at h
  split at h
  · next q hq =>
    split at h
    · next hb =>
      rw [rforce_eq] at h
      obtain ⟨k, hk⟩ := rlook_ix (ad := rAd G) hq
      exact lv_iinc F.1 F.2.1 hd hl hk rfl (Nat.le_of_ble_eq_true hb) (rst1_eq (rAd G) lv i (rI q.1 (q.2 + Int32.ofInt n))) (fun ls' hl' => hN _ _ _ _ h H locs ls' hP hD hS hl')
    · exact h.elim
  · exact h.elim
theorem ro_iadd (hd : decode cc pc = .ok (.iadd, 1)) (hn : npc = pc + 1) : rOk φ cc own nL Ts R hh mcO κ J pc npc (tq_i2 (fun x y => x + y)) := by
  intro G hG p l e s m args below meth c b0 Z Q F hZ KN KJ hN hJ lv st σ b h H locs ls hP hD hS hl
  subst hn
  unfold tq_i2 at h
  split at h
  · next y x r => exact lv_iadd F.1 F.2.1 hd (hN _ _ _ _ h H locs ls hP hD hS hl)
  · exact h.elim
theorem ro_isub (hd : decode cc pc = .ok (.isub, 1)) (hn : npc = pc + 1) : rOk φ cc own nL Ts R hh mcO κ J pc npc (tq_i2 (fun x y => x - y)) := by
  intro G hG p l e s m args below meth c b0 Z Q F hZ KN KJ hN hJ lv st σ b h H locs ls hP hD hS hl
  subst hn
  unfold tq_i2 at h
  split at h
  · next y x r => exact lv_isub F.1 F.2.1 hd (hN _ _ _ _ h H locs ls hP hD hS hl)
  · exact h.elim
theorem ro_imul (hd : decode cc pc = .ok (.imul, 1)) (hn : npc = pc + 1) : rOk φ cc own nL Ts R hh mcO κ J pc npc (tq_i2 (fun x y => x * y)) := by
  intro G hG p l e s m args below meth c b0 Z Q F hZ KN KJ hN hJ lv st σ b h H locs ls hP hD hS hl
  subst hn
  unfold tq_i2 at h
  split at h
  · next y x r => exact lv_imul F.1 F.2.1 hd (hN _ _ _ _ h H locs ls hP hD hS hl)
  · exact h.elim
theorem ro_iand (hd : decode cc pc = .ok (.iand, 1)) (hn : npc = pc + 1) : rOk φ cc own nL Ts R hh mcO κ J pc npc (tq_i2 (fun x y => x &&& y)) := by
  intro G hG p l e s m args below meth c b0 Z Q F hZ KN KJ hN hJ lv st σ b h H locs ls hP hD hS hl
  subst hn
  unfold tq_i2 at h
  split at h
  · next y x r => exact lv_iand F.1 F.2.1 hd (hN _ _ _ _ h H locs ls hP hD hS hl)
  · exact h.elim
theorem ro_ior (hd : decode cc pc = .ok (.ior, 1)) (hn : npc = pc + 1) : rOk φ cc own nL Ts R hh mcO κ J pc npc (tq_i2 (fun x y => x ||| y)) := by
  intro G hG p l e s m args below meth c b0 Z Q F hZ KN KJ hN hJ lv st σ b h H locs ls hP hD hS hl
  subst hn
  unfold tq_i2 at h
  split at h
  · next y x r => exact lv_ior F.1 F.2.1 hd (hN _ _ _ _ h H locs ls hP hD hS hl)
  · exact h.elim
theorem ro_ishl (hd : decode cc pc = .ok (.ishl, 1)) (hn : npc = pc + 1) : rOk φ cc own nL Ts R hh mcO κ J pc npc (tq_i2 (fun x y => x <<< (y &&& 31))) := by
  intro G hG p l e s m args below meth c b0 Z Q F hZ KN KJ hN hJ lv st σ b h H locs ls hP hD hS hl
  subst hn
  unfold tq_i2 at h
  split at h
  · next y x r => exact lv_ishl F.1 F.2.1 hd (hN _ _ _ _ h H locs ls hP hD hS hl)
  · exact h.elim
theorem ro_ishr (hd : decode cc pc = .ok (.ishr, 1)) (hn : npc = pc + 1) : rOk φ cc own nL Ts R hh mcO κ J pc npc (tq_i2 (fun x y => x >>> (y &&& 31))) := by
  intro G hG p l e s m args below meth c b0 Z Q F hZ KN KJ hN hJ lv st σ b h H locs ls hP hD hS hl
  subst hn
  unfold tq_i2 at h
  split at h
  · next y x r => exact lv_ishr F.1 F.2.1 hd (hN _ _ _ _ h H locs ls hP hD hS hl)
  · exact h.elim
theorem ro_irem (hd : decode cc pc = .ok (.irem, 1)) (hn : npc = pc + 1) : rOk φ cc own nL Ts R hh mcO κ J pc npc tq_irem := by
  intro G hG p l e s m args below meth c b0 Z Q F hZ KN KJ hN hJ lv st σ b h H locs ls hP hD hS hl
  subst hn
  unfold tq_irem at h
  split at h
  · next y x r => exact lv_irem F.1 F.2.1 hd h.1 (hN _ _ _ _ h.2 H locs ls hP hD hS hl)
  · exact h.elim
theorem ro_ineg (hd : decode cc pc = .ok (.ineg, 1)) (hn : npc = pc + 1) : rOk φ cc own nL Ts R hh mcO κ J pc npc (tq_i1 (fun x => -x)) := by
  intro G hG p l e s m args below meth c b0 Z Q F hZ KN KJ hN hJ lv st σ b h H locs ls hP hD hS hl
  subst hn
  unfold tq_i1 at h
  split at h
  · next x r => exact lv_ineg F.1 F.2.1 hd (hN _ _ _ _ h H locs ls hP hD hS hl)
  · exact h.elim
theorem ro_ladd (hd : decode cc pc = .ok (.ladd, 1)) (hn : npc = pc + 1) : rOk φ cc own nL Ts R hh mcO κ J pc npc (tq_l2 (fun x y => x + y)) := by
  intro G hG p l e s m args below meth c b0 Z Q F hZ KN KJ hN hJ lv st σ b h H locs ls hP hD hS hl
  subst hn
  unfold tq_l2 at h
  split at h
  · next y x r => exact lv_ladd F.1 F.2.1 hd (hN _ _ _ _ h H locs ls hP hD hS hl)
  · exact h.elim
theorem ro_lsub (hd : decode cc pc = .ok (.lsub, 1)) (hn : npc = pc + 1) : rOk φ cc own nL Ts R hh mcO κ J pc npc (tq_l2 (fun x y => x - y)) := by
  intro G hG p l e s m args below meth c b0 Z Q F hZ KN KJ hN hJ lv st σ b h H locs ls hP hD hS hl
  subst hn
  unfold tq_l2 at h
  split at h
  · next y x r => exact lv_lsub F.1 F.2.1 hd (hN _ _ _ _ h H locs ls hP hD hS hl)
  · exact h.elim
theorem ro_lmul (hd : decode cc pc = .ok (.lmul, 1)) (hn : npc = pc + 1) : rOk φ cc own nL Ts R hh mcO κ J pc npc (tq_l2 (fun x y => x * y)) := by
  intro G hG p l e s m args below meth c b0 Z Q F hZ KN KJ hN hJ lv st σ b h H locs ls hP hD hS hl
  subst hn
  unfold tq_l2 at h
  split at h
  · next y x r => exact lv_lmul F.1 F.2.1 hd (hN _ _ _ _ h H locs ls hP hD hS hl)
  · exact h.elim
theorem ro_land (hd : decode cc pc = .ok (.land, 1)) (hn : npc = pc + 1) : rOk φ cc own nL Ts R hh mcO κ J pc npc (tq_l2 (fun x y => x &&& y)) := by
  intro G hG p l e s m args below meth c b0 Z Q F hZ KN KJ hN hJ lv st σ b h H locs ls hP hD hS hl
  subst hn
  unfold tq_l2 at h
  split at h
  · next y x r => exact lv_land F.1 F.2.1 hd (hN _ _ _ _ h H locs ls hP hD hS hl)
  · exact h.elim
theorem ro_lor (hd : decode cc pc = .ok (.lor, 1)) (hn : npc = pc + 1) : rOk φ cc own nL Ts R hh mcO κ J pc npc (tq_l2 (fun x y => x ||| y)) := by
  intro G hG p l e s m args below meth c b0 Z Q F hZ KN KJ hN hJ lv st σ b h H locs ls hP hD hS hl
  subst hn
  unfold tq_l2 at h
  split at h
  · next y x r => exact lv_lor F.1 F.2.1 hd (hN _ _ _ _ h H locs ls hP hD hS hl)
  · exact h.elim
theorem ro_lxor (hd : decode cc pc = .ok (.lxor, 1)) (hn : npc = pc + 1) : rOk φ cc own nL Ts R hh mcO κ J pc npc (tq_l2 (fun x y => x ^^^ y)) := by
  intro G hG p l e s m args below meth c b0 Z Q F hZ KN KJ hN hJ lv st σ b h H locs ls hP hD hS hl
  subst hn
  unfold tq_l2 at h
  split at h
  · next y x r => exact lv_lxor F.1 F.2.1 hd (hN _ _ _ _ h H locs ls hP hD hS hl)
  · exact h.elim
theorem ro_lrem (hd : decode cc pc = .ok (.lrem, 1)) (hn : npc = pc + 1) : rOk φ cc own nL Ts R hh mcO κ J pc npc tq_lrem := by
  intro G hG p l e s m args below meth c b0 Z Q F hZ KN KJ hN hJ lv st σ b h H locs ls hP hD hS hl
  subst hn
  unfold tq_lrem at h
  split at h
  · next y x r => exact lv_lrem F.1 F.2.1 hd h.1 (hN _ _ _ _ h.2 H locs ls hP hD hS hl)
  · exact h.elim
theorem ro_lshl (hd : decode cc pc = .ok (.lshl, 1)) (hn : npc = pc + 1) : rOk φ cc own nL Ts R hh mcO κ J pc npc tq_lshl := by
  intro G hG p l e s m args below meth c b0 Z Q F hZ KN KJ hN hJ lv st σ b h H locs ls hP hD hS hl
  subst hn
  unfold tq_lshl at h
  split at h
  · next y x r => exact lv_lshl F.1 F.2.1 hd rfl (hN _ _ _ _ h H locs ls hP hD hS hl)
  · exact h.elim
theorem ro_i2l (hd : decode cc pc = .ok (.i2l, 1)) (hn : npc = pc + 1) : rOk φ cc own nL Ts R hh mcO κ J pc npc tq_i2l := by
  intro G hG p l e s m args below meth c b0 Z Q F hZ KN KJ hN hJ lv st σ b h H locs ls hP hD hS hl
  subst hn
  unfold tq_i2l at h
  split at h
  · next x r => exact lv_i2l F.1 F.2.1 hd rfl (hN _ _ _ _ h H locs ls hP hD hS hl)
  · exact h.elim
theorem ro_l2i (hd : decode cc pc = .ok (.l2i, 1)) (hn : npc = pc + 1) : rOk φ cc own nL Ts R hh mcO κ J pc npc tq_l2i := by
  intro G hG p l e s m args below meth c b0 Z Q F hZ KN KJ hN hJ lv st σ b h H locs ls hP hD hS hl
  subst hn
  unfold tq_l2i at h
  split at h
  · next x r => exact lv_l2i F.1 F.2.1 hd rfl (hN _ _ _ _ h H locs ls hP hD hS hl)
  · exact h.elim
theorem ro_lcmp (hd : decode cc pc = .ok (.lcmp, 1)) (hn : npc = pc + 1) : rOk φ cc own nL Ts R hh mcO κ J pc npc tq_lcmp := by
  intro G hG p l e s m args below meth c b0 Z Q F hZ KN KJ hN hJ lv st σ b h H locs ls hP hD hS hl
  subst hn
  unfold tq_lcmp at h
  split at h
  · next y x r => exact W.lcmp F.1 F.2.1 hd (hN _ _ _ _ h H locs ls hP hD hS hl)
  · exact h.elim
theorem ro_dup (hd : decode cc pc = .ok (.dup, 1)) (hn : npc = pc + 1) : rOk φ cc own nL Ts R hh mcO κ J pc npc tq_dup := by
  intro G hG p l e s m args below meth c b0 Z Q F hZ KN KJ hN hJ lv st σ b h H locs ls hP hD hS hl
  subst hn
  unfold tq_dup at h
  split at h
  · next v r =>
    split at h
    · next hb => exact lv_dup F.1 F.2.1 hd (by rw [rcat_eq]; exact Nat.eq_of_beq_eq_true hb) (hN _ _ _ _ h H locs ls hP hD hS hl)
    · exact h.elim
  · exact h.elim
theorem ro_pop (hd : decode cc pc = .ok (.pop, 1)) (hn : npc = pc + 1) : rOk φ cc own nL Ts R hh mcO κ J pc npc tq_pop := by
  intro G hG p l e s m args below meth c b0 Z Q F hZ KN KJ hN hJ lv st σ b h H locs ls hP hD hS hl
  subst hn
  unfold tq_pop at h
  split at h
  · next v r =>
    split at h
    · next hb => exact lv_pop F.1 F.2.1 hd (by rw [rcat_eq]; exact Nat.eq_of_beq_eq_true hb) (hN _ _ _ _ h H locs ls hP hD hS hl)
    · exact h.elim
  · exact h.elim
theorem ro_dupx1 (hd : decode cc pc = .ok (.dup_x1, 1)) (hn : npc = pc + 1) : rOk φ cc own nL Ts R hh mcO κ J pc npc tq_dupx1 := by
  intro G hG p l e s m args below meth c b0 Z Q F hZ KN KJ hN hJ lv st σ b h H locs ls hP hD hS hl
  subst hn
  unfold tq_dupx1 at h
  split at h
  · next v w r =>
    split at h
    · next hb =>
      rw [Bool.and_eq_true] at hb
      exact lv_dup_x1 F.1 F.2.1 hd (by rw [rcat_eq]; exact Nat.eq_of_beq_eq_true hb.1) (by rw [rcat_eq]; exact Nat.eq_of_beq_eq_true hb.2) (hN _ _ _ _ h H locs ls hP hD hS hl)
    · exact h.elim
  · exact h.elim
theorem ro_goto {off : Int} {o : Nat} (hd : decode cc pc = .ok (.goto off, 3)) (ht : (pc : Int) + off = (J o : Int)) : rOk φ cc own nL Ts R hh mcO κ J pc npc (tq_go o) := by
  intro G hG p l e s m args below meth c b0 Z Q F hZ KN KJ hN hJ lv st σ b h H locs ls hP hD hS hl
  exact lv_goto F.1 F.2.1 hd ht (hJ _ _ _ _ _ h H locs ls hP hD hS hl)
theorem ro_if_eq {off : Int} {o : Nat} (hd : decode cc pc = .ok (.ifCond .eq off, 3)) (ht : (pc : Int) + off = (J o : Int)) (hn : npc = pc + 3) : rOk φ cc own nL Ts R hh mcO κ J pc npc (tq_if1 (fun x => decide (x = 0)) o) := by
  intro G hG p l e s m args below meth c b0 Z Q F hZ KN KJ hN hJ lv st σ b h H locs ls hP hD hS hl
  subst hn
  unfold tq_if1 at h
  split at h
  · next x r => exact lv_if_eq F.1 F.2.1 hd ht (fun hq => hJ _ _ _ _ _ (rbr_t h (decide_eq_true hq)) H locs ls hP hD hS hl) (fun hq => hN _ _ _ _ (rbr_f h (decide_eq_false hq)) H locs ls hP hD hS hl)
  · exact h.elim
theorem ro_icmp_eq {off : Int} {o : Nat} (hd : decode cc pc = .ok (.if_icmp .eq off, 3)) (ht : (pc : Int) + off = (J o : Int)) (hn : npc = pc + 3) : rOk φ cc own nL Ts R hh mcO κ J pc npc (tq_if2 (fun x y => decide (x = y)) o) := by
  intro G hG p l e s m args below meth c b0 Z Q F hZ KN KJ hN hJ lv st σ b h H locs ls hP hD hS hl
  subst hn
  unfold tq_if2 at h
  split at h
  · next y x r => exact lv_icmp_eq F.1 F.2.1 hd ht (fun hq => hJ _ _ _ _ _ (rbr_t h (decide_eq_true hq)) H locs ls hP hD hS hl) (fun hq => hN _ _ _ _ (rbr_f h (decide_eq_false hq)) H locs ls hP hD hS hl)
  · exact h.elim
theorem ro_if_ne {off : Int} {o : Nat} (hd : decode cc pc = .ok (.ifCond .ne off, 3)) (ht : (pc : Int) + off = (J o : Int)) (hn : npc = pc + 3) : rOk φ cc own nL Ts R hh mcO κ J pc npc (tq_if1 (fun x => !decide (x = 0)) o) := by
  intro G hG p l e s m args below meth c b0 Z Q F hZ KN KJ hN hJ lv st σ b h H locs ls hP hD hS hl
  subst hn
  unfold tq_if1 at h
  split at h
  · next x r => exact lv_if_ne F.1 F.2.1 hd ht (fun hq => hJ _ _ _ _ _ (rbr_t h (by simpa using hq)) H locs ls hP hD hS hl) (fun hq => hN _ _ _ _ (rbr_f h (by simpa using hq)) H locs ls hP hD hS hl)
  · exact h.elim
theorem ro_icmp_ne {off : Int} {o : Nat} (hd : decode cc pc = .ok (.if_icmp .ne off, 3)) (ht : (pc : Int) + off = (J o : Int)) (hn : npc = pc + 3) : rOk φ cc own nL Ts R hh mcO κ J pc npc (tq_if2 (fun x y => !decide (x = y)) o) := by
  intro G hG p l e s m args below meth c b0 Z Q F hZ KN KJ hN hJ lv st σ b h H locs ls hP hD hS hl
  subst hn
  unfold tq_if2 at h
  split at h
  · next y x r => exact lv_icmp_ne F.1 F.2.1 hd ht (fun hq => hJ _ _ _ _ _ (rbr_t h (by simpa using hq)) H locs ls hP hD hS hl) (fun hq => hN _ _ _ _ (rbr_f h (by simpa using hq)) H locs ls hP hD hS hl)
  · exact h.elim
theorem ro_if_lt {off : Int} {o : Nat} (hd : decode cc pc = .ok (.ifCond .lt off, 3)) (ht : (pc : Int) + off = (J o : Int)) (hn : npc = pc + 3) : rOk φ cc own nL Ts R hh mcO κ J pc npc (tq_if1 (fun x => decide (x < 0)) o) := by
  intro G hG p l e s m args below meth c b0 Z Q F hZ KN KJ hN hJ lv st σ b h H locs ls hP hD hS hl
  subst hn
  unfold tq_if1 at h
  split at h
  · next x r => exact lv_if_lt F.1 F.2.1 hd ht (fun hq => hJ _ _ _ _ _ (rbr_t h (decide_eq_true hq)) H locs ls hP hD hS hl) (fun hq => hN _ _ _ _ (rbr_f h (decide_eq_false hq)) H locs ls hP hD hS hl)
  · exact h.elim
theorem ro_icmp_lt {off : Int} {o : Nat} (hd : decode cc pc = .ok (.if_icmp .lt off, 3)) (ht : (pc : Int) + off = (J o : Int)) (hn : npc = pc + 3) : rOk φ cc own nL Ts R hh mcO κ J pc npc (tq_if2 (fun x y => decide (x < y)) o) := by
  intro G hG p l e s m args below meth c b0 Z Q F hZ KN KJ hN hJ lv st σ b h H locs ls hP hD hS hl
  subst hn
  unfold tq_if2 at h
  split at h
  · next y x r => exact lv_icmp_lt F.1 F.2.1 hd ht (fun hq => hJ _ _ _ _ _ (rbr_t h (decide_eq_true hq)) H locs ls hP hD hS hl) (fun hq => hN _ _ _ _ (rbr_f h (decide_eq_false hq)) H locs ls hP hD hS hl)
  · exact h.elim
theorem ro_if_ge {off : Int} {o : Nat} (hd : decode cc pc = .ok (.ifCond .ge off, 3)) (ht : (pc : Int) + off = (J o : Int)) (hn : npc = pc + 3) : rOk φ cc own nL Ts R hh mcO κ J pc npc (tq_if1 (fun x => decide (0 ≤ x)) o) := by
  intro G hG p l e s m args below meth c b0 Z Q F hZ KN KJ hN hJ lv st σ b h H locs ls hP hD hS hl
  subst hn
  unfold tq_if1 at h
  split at h
  · next x r => exact lv_if_ge F.1 F.2.1 hd ht (fun hq => hJ _ _ _ _ _ (rbr_t h (decide_eq_true hq)) H locs ls hP hD hS hl) (fun hq => hN _ _ _ _ (rbr_f h (decide_eq_false hq)) H locs ls hP hD hS hl)
  · exact h.elim
theorem ro_icmp_ge {off : Int} {o : Nat} (hd : decode cc pc = .ok (.if_icmp .ge off, 3)) (ht : (pc : Int) + off = (J o : Int)) (hn : npc = pc + 3) : rOk φ cc own nL Ts R hh mcO κ J pc npc (tq_if2 (fun x y => decide (y ≤ x)) o) := by
  intro G hG p l e s m args below meth c b0 Z Q F hZ KN KJ hN hJ lv st σ b h H locs ls hP hD hS hl
  subst hn
  unfold tq_if2 at h
  split at h
  · next y x r => exact lv_icmp_ge F.1 F.2.1 hd ht (fun hq => hJ _ _ _ _ _ (rbr_t h (decide_eq_true hq)) H locs ls hP hD hS hl) (fun hq => hN _ _ _ _ (rbr_f h (decide_eq_false hq)) H locs ls hP hD hS hl)
  · exact h.elim
theorem ro_if_gt {off : Int} {o : Nat} (hd : decode cc pc = .ok (.ifCond .gt off, 3)) (ht : (pc : Int) + off = (J o : Int)) (hn : npc = pc + 3) : rOk φ cc own nL Ts R hh mcO κ J pc npc (tq_if1 (fun x => decide (0 < x)) o) := by
  intro G hG p l e s m args below meth c b0 Z Q F hZ KN KJ hN hJ lv st σ b h H locs ls hP hD hS hl
  subst hn
  unfold tq_if1 at h
  split at h
  · next x r => exact lv_if_gt F.1 F.2.1 hd ht (fun hq => hJ _ _ _ _ _ (rbr_t h (decide_eq_true hq)) H locs ls hP hD hS hl) (fun hq => hN _ _ _ _ (rbr_f h (decide_eq_false hq)) H locs ls hP hD hS hl)
  · exact h.elim
theorem ro_icmp_gt {off : Int} {o : Nat} (hd : decode cc pc = .ok (.if_icmp .gt off, 3)) (ht : (pc : Int) + off = (J o : Int)) (hn : npc = pc + 3) : rOk φ cc own nL Ts R hh mcO κ J pc npc (tq_if2 (fun x y => decide (y < x)) o) := by
  intro G hG p l e s m args below meth c b0 Z Q F hZ KN KJ hN hJ lv st σ b h H locs ls hP hD hS hl
  subst hn
  unfold tq_if2 at h
  split at h
  · next y x r => exact lv_icmp_gt F.1 F.2.1 hd ht (fun hq => hJ _ _ _ _ _ (rbr_t h (decide_eq_true hq)) H locs ls hP hD hS hl) (fun hq => hN _ _ _ _ (rbr_f h (decide_eq_false hq)) H locs ls hP hD hS hl)
  · exact h.elim
theorem ro_if_le {off : Int} {o : Nat} (hd : decode cc pc = .ok (.ifCond .le off, 3)) (ht : (pc : Int) + off = (J o : Int)) (hn : npc = pc + 3) : rOk φ cc own nL Ts R hh mcO κ J pc npc (tq_if1 (fun x => decide (x ≤ 0)) o) := by
  intro G hG p l e s m args below meth c b0 Z Q F hZ KN KJ hN hJ lv st σ b h H locs ls hP hD hS hl
  subst hn
  unfold tq_if1 at h
  split at h
  · next x r => exact lv_if_le F.1 F.2.1 hd ht (fun hq => hJ _ _ _ _ _ (rbr_t h (decide_eq_true hq)) H locs ls hP hD hS hl) (fun hq => hN _ _ _ _ (rbr_f h (decide_eq_false hq)) H locs ls hP hD hS hl)
  · exact h.elim
theorem ro_icmp_le {off : Int} {o : Nat} (hd : decode cc pc = .ok (.if_icmp .le off, 3)) (ht : (pc : Int) + off = (J o : Int)) (hn : npc = pc + 3) : rOk φ cc own nL Ts R hh mcO κ J pc npc (tq_if2 (fun x y => decide (x ≤ y)) o) := by
  intro G hG p l e s m args below meth c b0 Z Q F hZ KN KJ hN hJ lv st σ b h H locs ls hP hD hS hl
  subst hn
  unfold tq_if2 at h
  split at h
  · next y x r => exact lv_icmp_le F.1 F.2.1 hd ht (fun hq => hJ _ _ _ _ _ (rbr_t h (decide_eq_true hq)) H locs ls hP hD hS hl) (fun hq => hN _ _ _ _ (rbr_f h (decide_eq_false hq)) H locs ls hP hD hS hl)
  · exact h.elim
theorem ro_sw {dflt lo hi : Int} {offs : Array Int} {len : Nat} {os : List Nat} {d : Nat} (hd : decode cc pc = .ok (.tableswitch dflt lo hi offs, len)) (hlen : hi = lo + (os.length : Int) - 1) (h0 : (pc : Int) + dflt = (J d : Int)) (ho : ∀ i : Nat, i < os.length → ∃ off : Int, offs[i]? = some off ∧ (pc : Int) + off = (J (os.getD i d) : Int)) : rOk φ cc own nL Ts R hh mcO κ J pc npc (tq_sw lo os d) := by
  intro G hG p l e s m args below meth c b0 Z Q F hZ KN KJ hN hJ lv st σ b h H locs ls hP hD hS hl
  unfold tq_sw at h
  split at h
  · next x r =>
    split at h
    · split at h
      · next hb =>
        have hb : x.2.toInt < lo ∨ lo + (os.length : Int) ≤ x.2.toInt := by simpa using hb
        exact lv_tableOut F.1 F.2.1 hd (by omega) h0 (hJ _ _ _ _ _ h H locs ls hP hD hS hl)
      · next hb =>
        have hb : ¬ x.2.toInt < lo ∧ ¬ lo + (os.length : Int) ≤ x.2.toInt := by simpa using hb
        obtain ⟨off, o1, o2⟩ := ho (x.2.toInt - lo).toNat (by omega)
        exact lv_tableIn F.1 F.2.1 hd hb.1 (by omega) o1 o2 (hJ _ _ _ _ _ h H locs ls hP hD hS hl)
    · exact h.elim
  · exact h.elim
theorem ro_ldcSW {i k : Nat} (hk : k < 45) {tx : String} (hq : rStr.getD k ("", 0, "") = (own, i, tx)) (hd : decode cc pc = .ok (.ldc_w i, 3)) (hn : npc = pc + 3) : rOk φ cc own nL Ts R hh mcO κ J pc npc (tq_rc (100 + k)) := by
  intro G hG p l e s m args below meth c b0 Z Q F hZ KN KJ hN hJ lv st σ b h H locs ls hP hD hS hl
  subst hn
  obtain ⟨-, -, -, -, -, -, -, -, h9, -⟩ := F.2.2.2.2.2.2.1
  have h10 := h9 k hk
  rw [hq] at h10
  intro T hT X
  obtain ⟨t, a1, b1⟩ := hN _ _ _ _ h H locs ls hP hD hS hl T hT X
  refine ⟨t, X.ldcStringW F.1 F.2.2.2.1 (text := tx) (a := rAd G (100 + k)) h10.1 ?_ (g := F0 m pc ls (st.map (rv (rAd G)))) rfl (by rw [F.2.1]; exact hd) t a1, b1⟩
  exact h10.2
theorem rget_at {σ : List RC} {i : Nat} {x : RC} (G : RG) (h : rat σ i = some x) : (rW (rAd G) (rTy G) 0 σ)[i]? = some (rAd G i, rE (rAd G) (rTy G) x) := by
  have h2 := rW_get (ad := rAd G) (ty := rTy G) σ 0 i x h
  rw [Nat.zero_add] at h2
  exact h2
theorem rset_at {σ : List RC} {i : Nat} {x y : RC} (G : RG) (h : rat σ i = some x) : (rW (rAd G) (rTy G) 0 σ).set i (rAd G i, rE (rAd G) (rTy G) y) = rW (rAd G) (rTy G) 0 (rset σ i y) := by
  have h2 := rW_set (ad := rAd G) (ty := rTy G) σ 0 i y (rat_lt h)
  rw [Nat.zero_add] at h2
  exact h2.symm
theorem ro_getf {ci k idx N : Nat} {C : String} {T : u_T} (hd : decode cc pc = .ok (.getfield idx, 3)) (hc : rCl[ci]? = some (C, T, N)) (hin : ∀ w ∈ u_ws C T N, w ∈ Ts) (hk : k < N) (hlink : Cond.fieldLink own idx (T k).1 (T k).2.1 (T k).2.2.1 ∈ Ts) (hn : npc = pc + 3) : rOk φ cc own nL Ts R hh mcO κ J pc npc (tq_getf ci k) := by
  intro G hG p l e s m args below meth c b0 Z Q F hZ KN KJ hN hJ lv st σ b h H locs ls hP hD hS hl
  subst hn
  unfold tq_getf at h
  split at h
  · next i r =>
    split at h
    · next o ho =>
      split at h
      · next hb =>
        split at h
        · next v hv =>
          have e : o.1 = ci := Nat.eq_of_beq_eq_true hb
          subst e
          exact va_get F.1 F.2.1 F.2.2.2.2.1 hin F.2.2.2.1 F.2.2.2.2.2.1 hP i (rget_at G ho) hc k hk (F.2.2.2.2.1 _ hlink) (fun _ h9 => h9) (v := rv (rAd G) v) (by rw [rat_eq] at hv; rw [List.getElem?_map, hv]; rfl) hd (hN _ _ _ _ h H locs ls hP hD hS hl)
        · exact h.elim
      · exact h.elim
    · exact h.elim
  · exact h.elim
theorem ro_putf {ci k kd idx N : Nat} {C : String} {T : u_T} {Y : Nat → FieldType} (hd : decode cc pc = .ok (.putfield idx, 3)) (hc : rCl[ci]? = some (C, T, N)) (hin : ∀ w ∈ u_ws C T N, w ∈ Ts) (hY : ∀ k, k < N → parseFieldDescriptor (T k).2.2.1 = some (Y k)) (hnm : ∀ a, a < N → ∀ b, b < N → a ≠ b → (T a).2.1 ≠ (T b).2.1) (hk : k < N) (hlink : Cond.fieldLink own idx (T k).1 (T k).2.1 (T k).2.2.1 ∈ Ts) (hfin : (T k).2.2.2 = false)
    (hkd : (kd = 0 ∧ Y k = .int) ∨ (kd = 1 ∧ Y k = .long) ∨ (kd = 2 ∧ ∃ n, Y k = .object n)) (hn : npc = pc + 3) : rOk φ cc own nL Ts R hh mcO κ J pc npc (tq_putf ci k kd) := by
  intro G hG p l e s m args below meth c b0 Z Q F hZ KN KJ hN hJ lv st σ b h H locs ls hP hD hS hl
  subst hn
  unfold tq_putf at h
  split at h
  · next v i r =>
    split at h
    · next o ho =>
      split at h
      · next hb =>
        rw [Bool.and_eq_true, Bool.and_eq_true] at hb
        obtain ⟨hb1, hb2, hb3⟩ := hb
        have e : o.1 = ci := Nat.eq_of_beq_eq_true hb1
        subst e
        rw [rforce_eq, rforce_eq] at h
        have hnf : narrow (Y k) (rv (rAd G) v) = rv (rAd G) v ∧ fits (Y k) (rv (rAd G) v) = true := by
          rcases v with q | q | q | q
          · have : kd = 0 := Nat.eq_of_beq_eq_true hb2
            rcases hkd with ⟨-, hy⟩ | ⟨h9, -⟩ | ⟨h9, -⟩
            · rw [hy]; exact ⟨rfl, rfl⟩
            · omega
            · omega
          · have : kd = 1 := Nat.eq_of_beq_eq_true hb2
            rcases hkd with ⟨h9, -⟩ | ⟨-, hy⟩ | ⟨h9, -⟩
            · omega
            · rw [hy]; exact ⟨rfl, rfl⟩
            · omega
          · have : kd = 2 := Nat.eq_of_beq_eq_true hb2
            rcases hkd with ⟨h9, -⟩ | ⟨h9, -⟩ | ⟨-, n, hy⟩
            · omega
            · omega
            · rw [hy]; exact ⟨rfl, rfl⟩
          · have : kd = 2 := Nat.eq_of_beq_eq_true hb2
            rcases hkd with ⟨h9, -⟩ | ⟨h9, -⟩ | ⟨-, n, hy⟩
            · omega
            · omega
            · rw [hy]; cases q <;> exact ⟨rfl, rfl⟩
        refine va_put F.1 F.2.1 F.2.2.2.2.1 hin Y hY hnm F.2.2.2.1 F.2.2.2.2.2.1 hP hD hS i (rget_at G ho) hc k hk (F.2.2.2.2.1 _ hlink) (fun _ h9 => h9) hfin (hY k hk) hnf.1 hnf.2 (by rw [List.length_map]; exact Nat.le_of_ble_eq_true hb3) hd (fun H1 locs1 hP1 hD1 hS1 => ?_)
        have e9 : (o.2.map (rv (rAd G))).set k (rv (rAd G) v) = (rset o.2 k v).map (rv (rAd G)) := by rw [rset_eq, List.map_set]
        rw [e9] at hP1 hD1
        have e8 := rset_at (y := .inl (o.1, rset o.2 k v)) G ho
        rw [show (rW (rAd G) (rTy G) 0 σ).set i (rAd G i, (Sum.inr (o.1, (rset o.2 k v).map (rv (rAd G))) : va_E)) = rW (rAd G) (rTy G) 0 (rset σ i (.inl (o.1, rset o.2 k v))) from e8] at hP1 hD1
        exact hN _ _ _ _ h H1 locs1 ls hP1 hD1 hS1 hl
      · exact h.elim
    · exact h.elim
  · exact h.elim
theorem ro_putfN {ci k kd idx N : Nat} {C host : String} {T : u_T} {Y : Nat → FieldType} (hd : decode cc pc = .ok (.putfield idx, 3)) (hc : rCl[ci]? = some (C, T, N)) (hin : ∀ w ∈ u_ws C T N, w ∈ Ts) (hY : ∀ k, k < N → parseFieldDescriptor (T k).2.2.1 = some (Y k)) (hnm : ∀ a, a < N → ∀ b, b < N → a ≠ b → (T a).2.1 ≠ (T b).2.1) (hk : k < N) (hlink : ∀ (G : RG) (s : State), rIm G s s.heap → va_Nw (.fieldLinkNest own idx (T k).1 (T k).2.1 (T k).2.2.1 host) s) (hfin : (T k).2.2.2 = false)
    (hkd : (kd = 0 ∧ Y k = .int) ∨ (kd = 1 ∧ Y k = .long) ∨ (kd = 2 ∧ ∃ n, Y k = .object n)) (hn : npc = pc + 3) : rOk φ cc own nL Ts R hh mcO κ J pc npc (tq_putf ci k kd) := by
  intro G hG p l e s m args below meth c b0 Z Q F hZ KN KJ hN hJ lv st σ b h H locs ls hP hD hS hl
  subst hn
  unfold tq_putf at h
  split at h
  · next v i r =>
    split at h
    · next o ho =>
      split at h
      · next hb =>
        rw [Bool.and_eq_true, Bool.and_eq_true] at hb
        obtain ⟨hb1, hb2, hb3⟩ := hb
        have e : o.1 = ci := Nat.eq_of_beq_eq_true hb1
        subst e
        rw [rforce_eq, rforce_eq] at h
        have hnf : narrow (Y k) (rv (rAd G) v) = rv (rAd G) v ∧ fits (Y k) (rv (rAd G) v) = true := by
          rcases v with q | q | q | q
          · have : kd = 0 := Nat.eq_of_beq_eq_true hb2
            rcases hkd with ⟨-, hy⟩ | ⟨h9, -⟩ | ⟨h9, -⟩
            · rw [hy]; exact ⟨rfl, rfl⟩
            · omega
            · omega
          · have : kd = 1 := Nat.eq_of_beq_eq_true hb2
            rcases hkd with ⟨h9, -⟩ | ⟨-, hy⟩ | ⟨h9, -⟩
            · omega
            · rw [hy]; exact ⟨rfl, rfl⟩
            · omega
          · have : kd = 2 := Nat.eq_of_beq_eq_true hb2
            rcases hkd with ⟨h9, -⟩ | ⟨h9, -⟩ | ⟨-, n, hy⟩
            · omega
            · omega
            · rw [hy]; exact ⟨rfl, rfl⟩
          · have : kd = 2 := Nat.eq_of_beq_eq_true hb2
            rcases hkd with ⟨h9, -⟩ | ⟨h9, -⟩ | ⟨-, n, hy⟩
            · omega
            · omega
            · rw [hy]; cases q <;> exact ⟨rfl, rfl⟩
        refine va_putN F.1 F.2.1 F.2.2.2.2.1 hin Y hY hnm F.2.2.2.1 F.2.2.2.2.2.1 hP hD hS i (rget_at G ho) hc k hk (va_Nw.use rfl (hlink G s F.2.2.2.2.2.2.1)) (fun _ h9 => h9) hfin (hY k hk) hnf.1 hnf.2 (by rw [List.length_map]; exact Nat.le_of_ble_eq_true hb3) hd (fun H1 locs1 hP1 hD1 hS1 => ?_)
        have e9 : (o.2.map (rv (rAd G))).set k (rv (rAd G) v) = (rset o.2 k v).map (rv (rAd G)) := by rw [rset_eq, List.map_set]
        rw [e9] at hP1 hD1
        have e8 := rset_at (y := .inl (o.1, rset o.2 k v)) G ho
        rw [show (rW (rAd G) (rTy G) 0 σ).set i (rAd G i, (Sum.inr (o.1, (rset o.2 k v).map (rv (rAd G))) : va_E)) = rW (rAd G) (rTy G) 0 (rset σ i (.inl (o.1, rset o.2 k v))) from e8] at hP1 hD1
        exact hN _ _ _ _ h H1 locs1 ls hP1 hD1 hS1 hl
      · exact h.elim
    · exact h.elim
  · exact h.elim
theorem ro_iald (hd : decode cc pc = .ok (.iaload, 1)) (hn : npc = pc + 1) : rOk φ cc own nL Ts R hh mcO κ J pc npc (tq_iald 0) := by
  intro G hG p l e s m args below meth c b0 Z Q F hZ KN KJ hN hJ lv st σ b h H locs ls hP hD hS hl
  subst hn
  unfold tq_iald at h
  split at h
  · next j i r =>
    split at h
    · next t n f ho =>
      split at h
      · next hb =>
        have e : t = 0 := Nat.eq_of_beq_eq_true hb
        subst e
        obtain ⟨hi, h⟩ := rin_use h
        exact va_iald F.1 F.2.1 F.2.2.2.2.2.1 hP i 0 (rget_at G ho) rfl hi hd (hN _ _ _ _ h H locs ls hP hD hS hl)
      · exact h.elim
    · exact h.elim
  · exact h.elim
theorem ro_zald (hd : decode cc pc = .ok (.baload, 1)) (hn : npc = pc + 1) : rOk φ cc own nL Ts R hh mcO κ J pc npc (tq_iald 1) := by
  intro G hG p l e s m args below meth c b0 Z Q F hZ KN KJ hN hJ lv st σ b h H locs ls hP hD hS hl
  subst hn
  unfold tq_iald at h
  split at h
  · next j i r =>
    split at h
    · next t n f ho =>
      split at h
      · next hb =>
        have e : t = 1 := Nat.eq_of_beq_eq_true hb
        subst e
        obtain ⟨hi, h⟩ := rin_use h
        exact va_zald F.1 F.2.1 F.2.2.2.2.2.1 hP i 1 (rget_at G ho) rfl hi hd (hN _ _ _ _ h H locs ls hP hD hS hl)
      · exact h.elim
    · exact h.elim
  · exact h.elim
theorem ro_iast (hd : decode cc pc = .ok (.iastore, 1)) (hn : npc = pc + 1) : rOk φ cc own nL Ts R hh mcO κ J pc npc (tq_iast 0) := by
  intro G hG p l e s m args below meth c b0 Z Q F hZ KN KJ hN hJ lv st σ b h H locs ls hP hD hS hl
  subst hn
  unfold tq_iast at h
  split at h
  · next x j i r =>
    split at h
    · next t n f ho =>
      split at h
      · next hb =>
        have e : t = 0 := Nat.eq_of_beq_eq_true hb
        subst e
        obtain ⟨hi, h⟩ := rin_use h
        rw [rforce_eq] at h
        refine va_iast F.1 F.2.1 F.2.2.2.2.2.1 hP hD hS i 0 (rget_at G ho) rfl hi hd (fun H1 locs1 hP1 hD1 hS1 => ?_)
        have e8 := rset_at (y := .inr (0, n, .inl (upd f j.2.toNatClampNeg x.2))) G ho
        rw [show (rW (rAd G) (rTy G) 0 σ).set i (rAd G i, (Sum.inl (rTy G 0, n, .inl (upd f j.2.toNatClampNeg x.2)) : va_E)) = _ from e8] at hP1 hD1
        exact hN _ _ _ _ h H1 locs1 ls hP1 hD1 hS1 hl
      · exact h.elim
    · exact h.elim
  · exact h.elim
theorem ro_zast (hd : decode cc pc = .ok (.bastore, 1)) (hn : npc = pc + 1) : rOk φ cc own nL Ts R hh mcO κ J pc npc (tq_zast 1) := by
  intro G hG p l e s m args below meth c b0 Z Q F hZ KN KJ hN hJ lv st σ b h H locs ls hP hD hS hl
  subst hn
  unfold tq_zast at h
  split at h
  · next x j i r =>
    split at h
    · next t n f ho =>
      split at h
      · next hb =>
        have e : t = 1 := Nat.eq_of_beq_eq_true hb
        subst e
        obtain ⟨hi, h⟩ := rin_use h
        rw [rforce_eq] at h
        refine va_zast F.1 F.2.1 F.2.2.2.2.2.1 hP hD hS i 1 (rget_at G ho) rfl hi hd (fun H1 locs1 hP1 hD1 hS1 => ?_)
        have e8 := rset_at (y := .inr (1, n, .inl (upd f j.2.toNatClampNeg (vp_nar .boolean x.2)))) G ho
        rw [show (rW (rAd G) (rTy G) 0 σ).set i (rAd G i, (Sum.inl (rTy G 1, n, .inl (upd f j.2.toNatClampNeg (vp_nar .boolean x.2))) : va_E)) = _ from e8] at hP1 hD1
        exact hN _ _ _ _ h H1 locs1 ls hP1 hD1 hS1 hl
      · exact h.elim
    · exact h.elim
  · exact h.elim
theorem ro_aald (hd : decode cc pc = .ok (.aaload, 1)) (hn : npc = pc + 1) : rOk φ cc own nL Ts R hh mcO κ J pc npc (tq_aald 2) := by
  intro G hG p l e s m args below meth c b0 Z Q F hZ KN KJ hN hJ lv st σ b h H locs ls hP hD hS hl
  subst hn
  unfold tq_aald at h
  split at h
  · next j i r =>
    split at h
    · next t n g ho =>
      split at h
      · next hb =>
        have e : t = 2 := Nat.eq_of_beq_eq_true hb
        subst e
        obtain ⟨hi, h⟩ := rin_use h
        have hlt : j.2.toNatClampNeg < n := Nat.not_le.mp fun q => hi (Or.inr q)
        exact W.aald (v := .ref (rAd G (bif Nat.beq j.2.toNatClampNeg 0 then g 0 else g 1))) (ty := .array .int) F.1 F.2.1 (hP i _ (rget_at G ho)) ((F.2.2.2.2.2.1.2 2 _ rfl).1 n (fun j => va_rf (some (rAd G (bif Nat.beq j 0 then g 0 else g 1))))) rfl (fun q => by cases q) (by show ¬ (j.2 < 0 ∨ (arrV _ _ _).slots.size ≤ _); rw [arrV_size]; exact hi) (by show (arrV _ _ _).slots[_]? = _; rw [arrV_read _ _ hlt]; rfl) rfl rfl hd (hN _ _ _ _ h H locs ls hP hD hS hl)
      · exact h.elim
    · exact h.elim
  · exact h.elim
theorem ro_aldS {i0 n g : Nat} (hT : ∀ (G : RG) (s : State), φ G → rIm G s s.heap → va_T (.object "java/lang/String") (rAd G i0) n (fun j => .ref (rAd G (g + j))) (rA G) s s.heap) (hd : decode cc pc = .ok (.aaload, 1)) (hn : npc = pc + 1) : rOk φ cc own nL Ts R hh mcO κ J pc npc (tq_aldS i0 n g) := by
  intro G hG p l e s m args below meth c b0 Z Q F hZ KN KJ hN hJ lv st σ b h H locs ls hP hD hS hl
  subst hn
  unfold tq_aldS at h
  split at h
  · next j i r =>
    split at h
    · next hb =>
      have e : i = i0 := Nat.eq_of_beq_eq_true hb
      subst e
      obtain ⟨hi, h⟩ := rin_use h
      exact vb_tq F.1 F.2.1 (hT G s hG F.2.2.2.2.2.2.1) hS hi rfl hd (hN _ _ _ _ h H locs ls hP hD hS hl)
    · exact h.elim
  · exact h.elim
theorem ro_ialdS {i0 n : Nat} {f : Nat → Int32} (hT : ∀ (G : RG) (s : State), φ G → rIm G s s.heap → va_T .int (rAd G i0) n (fun j => .int (f j)) (rA G) s s.heap) (hd : decode cc pc = .ok (.iaload, 1)) (hn : npc = pc + 1) : rOk φ cc own nL Ts R hh mcO κ J pc npc (tq_ialdS i0 n f) := by
  intro G hG p l e s m args below meth c b0 Z Q F hZ KN KJ hN hJ lv st σ b h H locs ls hP hD hS hl
  subst hn
  unfold tq_ialdS at h
  split at h
  · next j i r =>
    split at h
    · next hb =>
      have e : i = i0 := Nat.eq_of_beq_eq_true hb
      subst e
      obtain ⟨hi, h⟩ := rin_use h
      exact va_ti F.1 F.2.1 (hT G s hG F.2.2.2.2.2.2.1) hS hi rfl hd (hN _ _ _ _ h H locs ls hP hD hS hl)
    · exact h.elim
  · exact h.elim
theorem ro_gets {i0 idx : Nat} {C n d : String} (hT : ∀ (G : RG) (s : State), φ G → rIm G s s.heap → va_Z C n d (.ref (rAd G i0)) (rA G) s s.heap) (hlink : Cond.fieldLink own idx C n d ∈ Ts) (hd : decode cc pc = .ok (.getstatic idx, 3)) (hn : npc = pc + 3) : rOk φ cc own nL Ts R hh mcO κ J pc npc (tq_rc i0) := by
  intro G hG p l e s m args below meth c b0 Z Q F hZ KN KJ hN hJ lv st σ b h H locs ls hP hD hS hl
  subst hn
  exact va_gets F.1 F.2.1 (hT G s hG F.2.2.2.2.2.2.1) hS F.2.2.2.1 (F.2.2.2.2.1 _ hlink) (fun _ h9 => h9) hd (hN _ _ _ _ h H locs ls hP hD hS hl)
theorem rwiden {p : Program} {l : Launch} {e : Env} {s : State} {m : MethodId} {args : Array Value} {below : List Frame} {meth : Method} {c : Code} {H : Heap} {locs : List Loc} {Z : State → Prop} {g : JFrame} {b : Nat} (hb : Nat.ble b mcO = true) (k : W p l e R s m args below meth c H locs mcO (12 * mcO) Z g) : W p l e R s m args below meth c H locs (0 + b) (12 * (0 + b)) Z g := by
  have h := Nat.le_of_ble_eq_true hb
  exact W.widen (by omega) (by omega) k
theorem ro_vret (hd : decode cc pc = .ok (.return_, 1)) : rOk φ cc own nL Ts R hh mcO (.inl none) J pc npc (tq_vret mcO) := by
  intro G hG p l e s m args below meth c b0 Z Q F hZ KN KJ hN hJ lv st σ b h H locs ls hP hD hS hl
  obtain ⟨rfl, hr, rfl⟩ := hZ
  unfold tq_vret at h
  split at h
  · split at h
    · next hb => exact rwiden hb (vx_ret (W.vret F.1 F.2.1 hr (fun t ht hW => ⟨none, σ, rfl, h, by rw [ht]; exact hP, hD, hS.F ht⟩) hS.2.2 hd (hlocks := F.2.2.2.2.2.2.2.2.1)))
    · exact h.elim
  · exact h.elim
theorem ro_iret (hd : decode cc pc = .ok (.ireturn, 1)) : rOk φ cc own nL Ts R hh mcO (.inl (some .int)) J pc npc (tq_iret mcO) := by
  intro G hG p l e s m args below meth c b0 Z Q F hZ KN KJ hN hJ lv st σ b h H locs ls hP hD hS hl
  obtain ⟨rfl, hr, rfl⟩ := hZ
  unfold tq_iret at h
  split at h
  · next x =>
    split at h
    · next hb => exact rwiden hb (vx_ret (W.iret F.1 F.2.1 hr (fun t ht hW => ⟨some (.inl x), σ, rfl, h, by rw [ht]; exact hP, hD, hS.F ht⟩) hS.2.2 hd (hlocks := F.2.2.2.2.2.2.2.2.1)))
    · exact h.elim
  · exact h.elim
theorem ro_zret (hd : decode cc pc = .ok (.ireturn, 1)) : rOk φ cc own nL Ts R hh mcO (.inl (some .boolean)) J pc npc (tq_zret mcO) := by
  intro G hG p l e s m args below meth c b0 Z Q F hZ KN KJ hN hJ lv st σ b h H locs ls hP hD hS hl
  obtain ⟨rfl, hr, rfl⟩ := hZ
  unfold tq_zret at h
  split at h
  · next x =>
    split at h
    · next hb =>
      by_cases h9 : (decide (x.2 = 0) || decide (x.2 = 1)) = true
      · have h8 := rbr_t h h9
        have hn : narrow .boolean (.int x.2) = .int x.2 := by
          simp only [Bool.or_eq_true, decide_eq_true_eq] at h9
          rcases h9 with h9 | h9 <;> rw [h9] <;> rfl
        exact rwiden hb (vx_ret (W.zret F.1 F.2.1 hr hn (fun t ht hW => ⟨some (.inl x), σ, rfl, h8, by rw [ht]; exact hP, hD, hS.F ht⟩) hS.2.2 hd (hlocks := F.2.2.2.2.2.2.2.2.1)))
      · exact (rbr_f h (by simpa using h9)).elim
    · exact h.elim
  · exact h.elim
theorem ro_lret (hd : decode cc pc = .ok (.lreturn, 1)) : rOk φ cc own nL Ts R hh mcO (.inl (some .long)) J pc npc (tq_lret mcO) := by
  intro G hG p l e s m args below meth c b0 Z Q F hZ KN KJ hN hJ lv st σ b h H locs ls hP hD hS hl
  obtain ⟨rfl, hr, rfl⟩ := hZ
  unfold tq_lret at h
  split at h
  · next x =>
    split at h
    · next hb => exact rwiden hb (vx_ret (W.lret F.1 F.2.1 hr (fun t ht hW => ⟨some (.inr (.inl x)), σ, rfl, h, by rw [ht]; exact hP, hD, hS.F ht⟩) hS.2.2 hd (hlocks := F.2.2.2.2.2.2.2.2.1)))
    · exact h.elim
  · exact h.elim
theorem ro_aret {n : String} (hd : decode cc pc = .ok (.areturn, 1)) : rOk φ cc own nL Ts R hh mcO (.inl (some (.object n))) J pc npc (tq_aret mcO) := by
  intro G hG p l e s m args below meth c b0 Z Q F hZ KN KJ hN hJ lv st σ b h H locs ls hP hD hS hl
  obtain ⟨rfl, hr, rfl⟩ := hZ
  unfold tq_aret at h
  split at h
  · next x =>
    split at h
    · next hb =>
      have hv : rv (rAd G) (.inr (.inr x)) = .null ∨ ∃ a, rv (rAd G) (.inr (.inr x)) = .ref a := by
        rcases x with k | o
        · exact Or.inr ⟨_, rfl⟩
        · cases o
          · exact Or.inl rfl
          · exact Or.inr ⟨_, rfl⟩
      exact rwiden hb (vx_ret (W.aret F.1 F.2.1 hr (Or.inl ⟨n, rfl⟩) hv (fun t ht hW => ⟨some (.inr (.inr x)), σ, rfl, h, by rw [ht]; exact hP, hD, hS.F ht⟩) hS.2.2 hd (hlocks := F.2.2.2.2.2.2.2.2.1)))
    · exact h.elim
  · exact h.elim
/-- the words of a throw: the good ones are among the tables' -/
theorem rthrow_words {s : State} {args : Array Value} {own' cls : String} {ic : Nat} {names : List String} (hts : ∀ w ∈ Ts, w.before args s = true)
    (hg : ∀ w ∈ (vx_atS own' ic cls names).filter goodWord, w ∈ Ts) (hb : ∀ w ∈ (vx_atS own' ic cls names).filter (fun w => !goodWord w), w ∈ rFc) (hI : ∀ w ∈ rFc, w.before #[] s = true) : ∀ w ∈ vx_atS own' ic cls names, w.before args s = true := by
  refine vx_hat (B := rFc) (fun w hw => hts w (hg w hw)) (fun w hw => hb w hw) (fun w hw => ?_)
  have h1 := (List.mem_filter.mp hw).2
  rw [Bool.and_eq_true] at h1
  exact va_tabs h1.2 rfl (hI w hw)
theorem rcast {s : State} {args : Array Value} {cls : String} {c : ClassId} (hc : s.vm.findClass cls = some c) : (Cond.castable cls cls).before args s = true := by
  simp [Cond.before, Cond.holds, Cond.value, hc, va_asg]
theorem ro_thr {E ik is ic k : Nat} {ret : Option FieldType} (d0 : decode cc pc = .ok (.new ik, 3)) (d3 : decode cc (pc + 3) = .ok (.dup, 1)) (d4 : decode cc (pc + 4) = .ok (.ldc is, 2)) (d6 : decode cc (pc + 6) = .ok (.invokespecial ic, 3)) (d9 : decode cc (pc + 9) = .ok (.athrow, 1))
    (hh0 : hh = []) (hk : Cond.classLink own ik (rEx E) ∈ Ts) (hini : Cond.initialized (rEx E) ∈ Ts) (hfit : Bundle.fit (rEx E) = true)
    (hg : ∀ w ∈ (vx_atS own ic (rEx E) ["java/lang/RuntimeException", "java/lang/Exception"]).filter goodWord, w ∈ Ts) (hb : ∀ w ∈ (vx_atS own ic (rEx E) ["java/lang/RuntimeException", "java/lang/Exception"]).filter (fun w => !goodWord w), w ∈ rFc)
    (hot : ∀ w ∈ Cond.classLink own ik (rEx E) :: Cond.initialized (rEx E) :: vx_atS own ic (rEx E) ["java/lang/RuntimeException", "java/lang/Exception"], vx_ot w = true)
    (hk2 : k < 45) {tx : String} (hq : rStr.getD k ("", 0, "") = (own, is, tx)) (hRf : 5 < R.frames) (hRl : 90 ≤ R.locals) : rOk φ cc own nL Ts R hh mcO (.inl ret) J pc npc (tq_thr E mcO) := by
  intro G hG p l e s m args below meth c b0 Z Q F hZ KN KJ hN hJ lv st σ b h H locs ls hP hD hS hl
  obtain ⟨rfl, hr, rfl⟩ := hZ
  unfold tq_thr at h
  split at h
  · split at h
    · next hb9 =>
      have hb8 := Nat.le_of_ble_eq_true hb9
      obtain ⟨hU, hNn, -, -, -, -, -, -, h9, -, -, -, -, -, -, -, h17, -⟩ := F.2.2.2.2.2.2.1
      have hstr := h9 k hk2
      rw [hq] at hstr
      have htab := F.2.2.2.2.2.2.2.2.2.2.2.2
      rw [hh0] at htab
      have hc1 := F.2.2.2.2.2.2.2.2.2.2.1
      have hc2 := F.2.2.2.2.2.2.2.2.2.2.2.1
      exact vx_throwS (A := rA G) (cls := rEx E) (names := ["java/lang/RuntimeException", "java/lang/Exception"]) F.1 F.2.1 F.2.2.2.2.2.2.2.2.2.1 F.2.2.2.1 hfit (by decide +kernel) (F.2.2.2.2.1 _ hk) (F.2.2.2.2.1 _ hini) hstr (rthrow_words F.2.2.2.2.1 hg hb h17) hot hU hNn hS (hl.1.trans F.2.2.1.symm) d0 d3 d4 d6 d9 (by rw [htab]; intro x hx; cases hx) hRf (by simp only [List.map_nil, List.sum_nil, List.length_cons, List.length_nil]; omega) (by omega) (by omega) F.2.2.2.2.2.2.2.2.1 (fun t hvm hsz hkp => ⟨E, σ, rfl, h, hP.kept (fun k9 x hx => hkp x.1 ((hP k9 x hx).lt)), hD, ⟨Nat.le_trans hS.1 hsz, fun q h1 h2 => (hkp q (Nat.lt_of_lt_of_le h1 hS.1)).trans (hS.2.1 q h1 h2)⟩⟩) hS.2.2 (by omega) (by omega)
    · exact h.elim
  · exact h.elim
/-- what a call asks and gives -/
def rWd (G : RG) (σ : List RC) (U : State) : Prop := va_P (rDD G) rCl (rW (rAd G) (rTy G) 0 σ) U.heap ∧ va_D (rA G) (rW (rAd G) (rTy G) 0 σ) ∧ va_K (rDD G) rCl (rTys G) U ∧ rIm G U U.heap ∧ rLo G ≤ U.heap.size
def rPc (G : RG) (as : List AV) (σ : List RC) : Array Value → State → Prop := fun a U => a = (as.map (rv (rAd G))).toArray ∧ rWd G σ U
/-- the contract of a method that does M -/
def rMet (y : MethodName) (ws : List Cond) (rm : Room) (mc : Nat) (M : RM) : Prop :=
  ∀ (G : RG) (l : Launch), l.stackTraces = false → ∀ (as : List AV) (σ : List RC) (Q : RQ), M as σ Q → vx_Met l y ws rm (rPc G as σ) (rQc G Q) (rXC G Q) mc (12 * mc) (rA G)
theorem rPc_blind (G : RG) (as : List AV) (σ : List RC) : FrameBlind (rPc G as σ) := by
  intro a U g mk h
  obtain ⟨h1, h2, h3, h4, h5, h6⟩ := h
  exact ⟨h1, h2, h3, va_K.moved (u := U) (U := U.calling g mk a) (Vm.Alike.refl U.vm) h4, rIm.warm (u := U) (U := U.calling g mk a) (State.WarmedH.refl U) h5, h6⟩
theorem rrun {p : Program} {l : Launch} {e : Env} {s : State} {m : MethodId} {args : Array Value} {below : List Frame} {meth : Method} {c : Code} {H : Heap} {locs : List Loc} {Z : State → Prop} {ls : Array Slot} {cells slots mc ms : Nat} {G : RG} {Q : RQ} {a : Array Value} {st0 rest : List Value}
    (hr : vx_Run p l e R s m args below meth c H locs cells slots mc ms (F0 m pc ls st0) rest (rQc G Q a) (rXC G Q) (rA G)) (hS : va_S (rA G) s.heap H locs)
    (kx : ∀ (k : Nat) (σ : List RC) (q : Nat) (ce : Cell) (H1 : Heap) (locs1 : List Loc), Q (.inr k) σ → va_P (rDD G) rCl (rW (rAd G) (rTy G) 0 σ) H1 → va_D (rA G) (rW (rAd G) (rTy G) 0 σ) → va_S (rA G) s.heap H1 locs1 → H1[q]? = some ce → ce.vm = .none → s.vm.findClass (rEx k) = some ce.cls → vx_W p l e R s m args below meth c H1 locs1 (cells + mc) (slots + ms) Z (F0 m pc ls rest) q)
    (kk : ∀ (r : Option AV) (σ : List RC) (H1 : Heap) (locs1 : List Loc), Q (.inl r) σ → va_P (rDD G) rCl (rW (rAd G) (rTy G) 0 σ) H1 → va_D (rA G) (rW (rAd G) (rTy G) 0 σ) → va_S (rA G) s.heap H1 locs1 → W p l e R s m args below meth c H1 locs1 (cells + mc) (slots + ms) Z (F0 m (pc + 3) ls ((r.map (rv (rAd G))).toList ++ rest))) :
    W p l e R s m args below meth c H locs cells slots Z (F0 m pc ls st0) := by
  intro T hT X
  rcases hr T hT X with ⟨v, st₀, t, T', L, h0, X', hL, e1, e2, ⟨r, σ, hv, hq, hP, hD, hF⟩, st⟩ | ⟨q, st₀, t, T', L, E, ce, h0, X', hL, e1, e2, ⟨k, σ, rfl, hq, hP, hD, hF⟩, hce, hcv, hcl, st⟩
  · cases hv
    obtain ⟨k1, k2, k3⟩ := vx_keep h0 e1 hS (fun _ _ h => h) (fun _ h => h) hL hF
    obtain ⟨t2, a1, b1⟩ := kk r σ T'.heap (locs ++ L) hq (by rw [e1]; exact hP) hD k3 T' rfl X'
    exact ⟨t2, st t2 a1, b1⟩
  · obtain ⟨k1, k2, k3⟩ := vx_keep h0 e1 hS (fun _ _ h => h) (fun _ h => h) hL hF
    obtain ⟨t2, a1, b1⟩ := kx k σ q ce T'.heap (locs ++ L) hq (by rw [e1]; exact hP) hD k3 (by rw [e1]; exact hce) hcv hcl T' rfl X'
    exact ⟨t2, st.trans a1, b1⟩
/-- the rows of the table of handlers, one behind the other: the class's number, the handler's row -/
def rTab (own : String) (J : Nat → Nat) (pc : Nat) (Ts : List Cond) : List (Nat × Nat × Nat × Nat) → List (Nat × Nat) → Prop
  | [], [] => True
  | q :: r, x :: y => (covers ⟨q.1, q.2.1, q.2.2.1, q.2.2.2⟩ pc = true ∧ q.2.2.2 ≠ 0 ∧ Cond.classLink own q.2.2.2 (rEx x.1) ∈ Ts ∧ q.2.2.1 = J x.2) ∧ rTab own J pc Ts r y
  | _, _ => False
theorem rhand_use {Ts : List Cond} {own : String} {J : Nat → Nat} {pc E : Nat} {A : Prop} {B : Nat → Prop} : ∀ {hh : List (Nat × Nat × Nat × Nat)} {hs : List (Nat × Nat)}, rTab own J pc Ts hh hs → rhand hs E A B →
    (A ∧ ∀ x ∈ hs, x.1 ≠ E) ∨ ∃ (h1 : List (Nat × Nat × Nat × Nat)) (s1 : List (Nat × Nat)) (q : Nat × Nat × Nat × Nat) (h2 : List (Nat × Nat × Nat × Nat)) (s2 : List (Nat × Nat)) (o : Nat), hh = h1 ++ q :: h2 ∧ hs = s1 ++ (E, o) :: s2 ∧ (∀ x ∈ s1, x.1 ≠ E) ∧ rTab own J pc Ts h1 s1 ∧ covers ⟨q.1, q.2.1, q.2.2.1, q.2.2.2⟩ pc = true ∧ q.2.2.2 ≠ 0 ∧ Cond.classLink own q.2.2.2 (rEx E) ∈ Ts ∧ q.2.2.1 = J o ∧ B o
  | [], [], _, h => Or.inl ⟨h, fun x hx => nomatch hx⟩
  | q :: r, x :: y, hT, h => by
    have h7 : (match Nat.beq x.1 E with
      | true => B x.2
      | false => rhand y E A B) := h
    clear h
    split at h7
    · next hb =>
      have e : x.1 = E := Nat.eq_of_beq_eq_true hb
      obtain ⟨x1, x2⟩ := x
      dsimp only at e
      subst e
      exact Or.inr ⟨[], [], q, r, y, x2, rfl, rfl, fun z hz => (nomatch hz), trivial, hT.1.1, hT.1.2.1, hT.1.2.2.1, hT.1.2.2.2, h7⟩
    · next hb =>
      have ne : x.1 ≠ E := Nat.ne_of_beq_eq_false hb
      rcases rhand_use hT.2 h7 with ⟨h1, h2⟩ | ⟨h1, s1, q', h2, s2, o, e1, e2, e3, e4, e5⟩
      · exact Or.inl ⟨h1, fun z hz => (List.mem_cons.mp hz).elim (fun e => by rw [e]; exact ne) (h2 z)⟩
      · exact Or.inr ⟨q :: h1, x :: s1, q', h2, s2, o, by rw [e1]; rfl, by rw [e2]; rfl, fun z hz => (List.mem_cons.mp hz).elim (fun e => by rw [e]; exact ne) (e3 z), ⟨hT.1, e4⟩, e5⟩
  | [], _ :: _, hT, _ => hT.elim
  | _ :: _, [], hT, _ => hT.elim
/-- a class thrown that isn't the one of an earlier row -/
def rApart (hs : List (Nat × Nat)) : Prop := ∀ x ∈ hs, x.1 = 0 ∨ x.1 = 1 ∨ x.1 = 2
theorem rpass {G : RG} {s : State} {args : Array Value} {E : Nat} (hts : ∀ w ∈ Ts, w.before args s = true) (hNc : ∀ a b : Nat, a ≠ b → b = 0 → va_Nc (rEx a) (rEx b) s) : ∀ {h1 : List (Nat × Nat × Nat × Nat)} {s1 : List (Nat × Nat)}, rTab own J pc Ts h1 s1 → (∀ x ∈ s1, x.1 ≠ E) → (∀ x ∈ s1, x.1 = 0) → ∀ z ∈ tableOf h1, covers z pc = false ∨ (z.catchType ≠ 0 ∧ ∃ nm : String, (Cond.classLink own z.catchType nm).before args s = true ∧ va_Nc (rEx E) nm s)
  | [], [], _, _, _, z, hz => by simp [tableOf] at hz
  | q :: r, x :: y, hT, hE, h0, z, hz => by
    simp only [tableOf, List.map_cons, List.mem_cons] at hz
    rcases hz with hz | hz
    · rw [hz]
      exact Or.inr ⟨hT.1.2.1, rEx x.1, hts _ hT.1.2.2.1, hNc E x.1 (fun e => hE x List.mem_cons_self e.symm) (h0 x List.mem_cons_self)⟩
    · exact rpass (G := G) hts hNc hT.2 (fun w hw => hE w (List.mem_cons_of_mem _ hw)) (fun w hw => h0 w (List.mem_cons_of_mem _ hw)) z hz
  | [], _ :: _, hT, _, _, _, _ => hT.elim
  | _ :: _, [], hT, _, _, _, _ => hT.elim
theorem rNc_of {G : RG} {s : State} (h : rIm G s s.heap) : ∀ a b : Nat, a ≠ b → b = 0 → va_Nc (rEx a) (rEx b) s := by
  obtain ⟨-, -, -, -, -, -, -, -, -, -, -, -, h13, h14, -, -, -, -⟩ := h
  intro a b hab hb
  subst hb
  match a, hab with
  | 0, hab => exact absurd rfl hab
  | 1, _ => exact h13
  | a + 2, _ => exact h14
theorem rwt_eq (ad : Nat → Nat) : ∀ st : List AV, ((st.map (rv ad)).map fun v => v.category).sum = rwt st
  | [] => rfl
  | v :: r => by
    have h := rwt_eq ad r
    rw [show rwt (v :: r) = rcat v + rwt r from rfl, ← h]
    simp only [List.map_cons, List.sum_cons, rcat_eq]
theorem rpcS {G : RG} {s : State} {H : Heap} {locs : List Loc} {as : List AV} {σ : List RC} (hK : va_K (rDD G) rCl (rTys G) s) (hI : rIm G s s.heap) (hlo : ∀ q : Nat, s.heap.size ≤ q → rA G q) (hP : va_P (rDD G) rCl (rW (rAd G) (rTy G) 0 σ) H) (hD : va_D (rA G) (rW (rAd G) (rTy G) 0 σ)) (hS : va_S (rA G) s.heap H locs) :
    ∀ U : State, U.heap = H → s.WarmedH U.vm → rPc G as σ (as.map (rv (rAd G))).toArray U := by
  intro U hU hW
  refine ⟨rfl, by rw [hU]; exact hP, hD, va_K.moved hW.alike hK, rIm.warm hW (by rw [hU]; exact hI.kept hS.2.1), ?_⟩
  rw [hU]
  exact Nat.le_trans (hlo _ (Nat.le_refl _)) hS.1
/-- a static call, and what is thrown goes on -/
theorem ro_callS {M : RM} {y : MethodName} {bytes : ByteArray} {maxL n mc idx : Nat} {rt ret : Option FieldType} {ws : List Cond} {rm : Room} (hM : rMet y ws rm mc M) (hd : decode cc pc = .ok (.invokestatic idx, 3)) (hh0 : hh = [])
    (hcw : ∀ (s : State) (args : Array Value), (∀ w ∈ Ts, w.before args s = true) → CallB R s args own idx y bytes maxL rt ws rm mc (12 * mc) n ∧ (Cond.static y).before args s = true) (hn : npc = pc + 3) : rOk φ cc own nL Ts R hh mcO (.inl ret) J pc npc (tq_call M n mc mcO) := by
  intro G hG p l e s m args below meth c b0 Z Q F hZ KN KJ hN hJ lv st σ b h H locs ls hP hD hS hl
  subst hn
  obtain ⟨rfl, hr, rfl⟩ := hZ
  unfold tq_call at h
  obtain ⟨as, r, e1, e2, h⟩ := rtake_use n [] st _ h
  simp only [List.length_nil, Nat.add_zero] at e1
  simp only [List.reverse_nil, List.nil_append] at e2
  split at h
  · next hb =>
    rw [Bool.and_eq_true] at hb
    have hb1 := Nat.le_of_ble_eq_true hb.1
    have hb2 := Nat.le_of_ble_eq_true hb.2
    obtain ⟨f1, f2, f3, f4, f5, f6, f7, f8, f9, f10, f11, f12, f13⟩ := F
    have hst : st.map (rv (rAd G)) = (as.map (rv (rAd G))).reverse ++ r.map (rv (rAd G)) := by rw [e2, List.map_append, List.map_reverse]
    refine rrun (Q := _) (vx_runS (As := as.map (rv (rAd G))) (rest := r.map (rv (rAd G))) ⟨f1, f2, f3, f4, f5⟩ (hM G l f10 as σ _ h) (hcw s args f5) ⟨rPc_blind G as σ, rpcS f6 f7 f8 hP hD hS⟩ rfl (by rw [List.length_map]; exact e1) hl.1 hst (lv_room (by rw [rwt_eq]; exact hb1)) hd ⟨by omega, by omega⟩) hS ?_ ?_
    · intro k σ' q ce H1 locs1 hq hP1 hD1 hS1 hce hcv hcl
      exact vx_out (by rw [f13, hh0]; intro x hx; cases hx) f9 hce hcv hcl (fun t ht hvm => ⟨k, σ', rfl, hq, by rw [ht]; exact hP1, hD1, hS1.F ht⟩) hS1.2.2 (by omega) (by omega)
    · intro z σ' H1 locs1 hq hP1 hD1 hS1
      have e4 : 12 * (0 + b) + 12 * mc = 12 * (0 + (b + mc)) := by omega
      have e5 : 0 + b + mc = 0 + (b + mc) := by omega
      rw [e4, e5]
      cases z with
      | none => exact hN _ _ _ _ hq H1 locs1 ls hP1 hD1 hS1 hl
      | some v => exact hN _ _ _ _ hq H1 locs1 ls hP1 hD1 hS1 hl
  · exact h.elim
/-- the receiver is a thing of the world, of the class that the call names -/
noncomputable def rrecv (ci : Nat) (as : List AV) (σ : List RC) : Bool := match as with
  | .inr (.inr (.inl i)) :: _ => match rat σ i with
    | some (.inl o) => Nat.beq o.1 ci
    | _ => false
  | _ => false
def rV (ci : Nat) (M : RM) : RM := fun as σ Q => match rrecv ci as σ with
  | true => M as σ Q
  | false => False
theorem rrecv_use {ci : Nat} {as : List AV} {σ : List RC} {C : String} {T : u_T} {N : Nat} {G : RG} {s : State} {H : Heap} (hc : rCl[ci]? = some (C, T, N)) (hK : va_K (rDD G) rCl (rTys G) s) (hP : va_P (rDD G) rCl (rW (rAd G) (rTy G) 0 σ) H) (h : rrecv ci as σ = true) :
    ∃ (i : Nat) (r : List AV), as = rR i :: r ∧ ∃ cell : Cell, H[rAd G i]? = some cell ∧ cell.vm.isStatics = false ∧ s.vm.findClass C = some cell.cls := by
  unfold rrecv at h
  split at h
  · next i r =>
    split at h
    · next o ho =>
      have e : o.1 = ci := Nat.eq_of_beq_eq_true h
      subst e
      exact ⟨i, r, rfl, va_recv hK hP hc (rget_at G ho)⟩
    · cases h
  · cases h
/-- a virtual call (the receiver of the class itself), and what is thrown goes on -/
theorem ro_callV {M : RM} {y : MethodName} {bytes : ByteArray} {maxL n mc idx ci N : Nat} {rt ret : Option FieldType} {ws : List Cond} {rm : Room} {C : String} {T : u_T} (hc : rCl[ci]? = some (C, T, N)) (hM : rMet y ws rm mc M) (hd : decode cc pc = .ok (.invokevirtual idx, 3)) (hh0 : hh = [])
    (hcw : ∀ (s : State) (args : Array Value), (∀ w ∈ Ts, w.before args s = true) → CallW R s args own C idx y bytes maxL rt ws rm mc (12 * mc) n) (hn : npc = pc + 3) : rOk φ cc own nL Ts R hh mcO (.inl ret) J pc npc (tq_call (rV ci M) (n + 1) mc mcO) := by
  intro G hG p l e s m args below meth c b0 Z Q F hZ KN KJ hN hJ lv st σ b h H locs ls hP hD hS hl
  subst hn
  obtain ⟨rfl, hr, rfl⟩ := hZ
  unfold tq_call at h
  obtain ⟨as, r, e1, e2, h⟩ := rtake_use (n + 1) [] st _ h
  simp only [List.length_nil, Nat.add_zero] at e1
  simp only [List.reverse_nil, List.nil_append] at e2
  split at h
  · next hb =>
    rw [Bool.and_eq_true] at hb
    have hb1 := Nat.le_of_ble_eq_true hb.1
    have hb2 := Nat.le_of_ble_eq_true hb.2
    obtain ⟨f1, f2, f3, f4, f5, f6, f7, f8, f9, f10, f11, f12, f13⟩ := F
    unfold rV at h
    split at h
    · next hre =>
      obtain ⟨i, as2, rfl, hcell⟩ := rrecv_use hc f6 hP hre
      have hst : st.map (rv (rAd G)) = (as2.map (rv (rAd G))).reverse ++ .ref (rAd G i) :: r.map (rv (rAd G)) := by
        rw [e2]
        simp [List.map_append, List.map_reverse, rv]
      refine rrun (Q := _) (vx_runV (As := as2.map (rv (rAd G))) (rest := r.map (rv (rAd G))) ⟨f1, f2, f3, f4, f5⟩ (hM G l f10 (rR i :: as2) σ _ h) (hcw s args f5) ⟨rPc_blind G _ σ, hcell, rpcS (as := rR i :: as2) f6 f7 f8 hP hD hS⟩ rfl (by rw [List.length_map]; simpa using e1) hl.1 hst (lv_room (by rw [rwt_eq]; exact hb1)) hd ⟨by omega, by omega⟩) hS ?_ ?_
      · intro k σ' q ce H1 locs1 hq hP1 hD1 hS1 hce hcv hcl
        exact vx_out (by rw [f13, hh0]; intro x hx; cases hx) f9 hce hcv hcl (fun t ht hvm => ⟨k, σ', rfl, hq, by rw [ht]; exact hP1, hD1, hS1.F ht⟩) hS1.2.2 (by omega) (by omega)
      · intro z σ' H1 locs1 hq hP1 hD1 hS1
        have e4 : 12 * (0 + b) + 12 * mc = 12 * (0 + (b + mc)) := by omega
        have e5 : 0 + b + mc = 0 + (b + mc) := by omega
        rw [e4, e5]
        cases z with
        | none => exact hN _ _ _ _ hq H1 locs1 ls hP1 hD1 hS1 hl
        | some v => exact hN _ _ _ _ hq H1 locs1 ls hP1 hD1 hS1 hl
    · exact h.elim
  · exact h.elim
theorem rcatch {G : RG} {p : Program} {l : Launch} {e : Env} {s : State} {m : MethodId} {args : Array Value} {below : List Frame} {meth : Method} {c : Code} {b0 : Nat} {Z : State → Prop} {hs : List (Nat × Nat)} {k q b : Nat} {ce : Cell} {H1 : Heap} {locs1 : List Loc} {ls : Array Slot} {rest : List Value} {lv : RLv} {σ' : List RC} {KJ : Nat → RK}
    (F : rFr G p l R s m args meth c cc own nL Ts hh b0 mcO) (hJ : ∀ o lv st σ b, KJ o lv st σ b → rS G p l e R s m args below meth c nL b0 Z (J o) lv st σ b) (hT : rTab own J pc Ts hh hs) (h0 : ∀ x ∈ hs.dropLast, x.1 = 0)
    (hq : rhand hs k False (fun o => ∀ q : Nat, KJ o lv [rO (some q)] σ' b)) (hP1 : va_P (rDD G) rCl (rW (rAd G) (rTy G) 0 σ') H1) (hD1 : va_D (rA G) (rW (rAd G) (rTy G) 0 σ')) (hS1 : va_S (rA G) s.heap H1 locs1) (hl : lv_has ls nL (rl (rAd G) lv)) (hce : H1[q]? = some ce) (hcv : ce.vm = .none) (hcl : s.vm.findClass (rEx k) = some ce.cls) :
    vx_W p l e R s m args below meth c H1 locs1 (b0 + b) (12 * (b0 + b)) Z (F0 m pc ls rest) q := by
  obtain ⟨f1, f2, f3, f4, f5, f6, f7, f8, f9, f10, f11, f12, f13⟩ := F
  rcases rhand_use hT hq with ⟨hf, -⟩ | ⟨h1, s1, x, h2, s2, o, e1, e2, e3, e4, e5, e6, e7, e8, e9⟩
  · exact hf.elim
  · have hpre : ∀ z ∈ s1, z.1 = 0 := fun z hz => h0 z (by
      rw [e2, List.dropLast_append_of_ne_nil (by simp)]
      exact List.mem_append_left _ hz)
    refine vx_catch f4 (tableOf h1) ⟨x.1, x.2.1, x.2.2.1, x.2.2.2⟩ (tableOf h2) (by rw [f13, e1]; simp [tableOf]) (rpass (G := G) f5 (rNc_of f7) e4 e3 hpre) e5 e6 (f5 _ e7) (rcast hcl) hce hcv hcl ?_
    have h9 := hJ o lv [rO (some q)] σ' b (e9 q) H1 locs1 ls hP1 hD1 hS1 hl
    rw [show x.2.2.1 = J o from e8]
    exact h9
theorem ro_callVH {M : RM} {y : MethodName} {bytes : ByteArray} {maxL n mc idx ci N : Nat} {rt : Option FieldType} {ws : List Cond} {rm : Room} {C : String} {T : u_T} {hs : List (Nat × Nat)} (hc : rCl[ci]? = some (C, T, N)) (hM : rMet y ws rm mc M) (hd : decode cc pc = .ok (.invokevirtual idx, 3)) (hT : rTab own J pc Ts hh hs) (h0 : ∀ x ∈ hs.dropLast, x.1 = 0)
    (hcw : ∀ (s : State) (args : Array Value), (∀ w ∈ Ts, w.before args s = true) → CallW R s args own C idx y bytes maxL rt ws rm mc (12 * mc) n) (hn : npc = pc + 3) : rOk φ cc own nL Ts R hh mcO κ J pc npc (tq_callH (rV ci M) (n + 1) mc mcO hs) := by
  intro G hG p l e s m args below meth c b0 Z Q F hZ KN KJ hN hJ lv st σ b h H locs ls hP hD hS hl
  subst hn
  unfold tq_callH at h
  obtain ⟨as, r, e1, e2, h⟩ := rtake_use (n + 1) [] st _ h
  simp only [List.length_nil, Nat.add_zero] at e1
  simp only [List.reverse_nil, List.nil_append] at e2
  split at h
  · next hb =>
    rw [Bool.and_eq_true] at hb
    have hb1 := Nat.le_of_ble_eq_true hb.1
    have hb2 := Nat.le_of_ble_eq_true hb.2
    obtain ⟨f1, f2, f3, f4, f5, f6, f7, f8, f9, f10, f11, f12, f13⟩ := id F
    unfold rV at h
    split at h
    · next hre =>
      obtain ⟨i, as2, rfl, hcell⟩ := rrecv_use hc f6 hP hre
      have hst : st.map (rv (rAd G)) = (as2.map (rv (rAd G))).reverse ++ .ref (rAd G i) :: r.map (rv (rAd G)) := by
        rw [e2]
        simp [List.map_append, List.map_reverse, rv]
      have e4 : 12 * (b0 + b) + 12 * mc = 12 * (b0 + (b + mc)) := by omega
      have e5 : b0 + b + mc = b0 + (b + mc) := by omega
      refine rrun (Q := _) (vx_runV (As := as2.map (rv (rAd G))) (rest := r.map (rv (rAd G))) ⟨f1, f2, f3, f4, f5⟩ (hM G l f10 (rR i :: as2) σ _ h) (hcw s args f5) ⟨rPc_blind G _ σ, hcell, rpcS (as := rR i :: as2) f6 f7 f8 hP hD hS⟩ rfl (by rw [List.length_map]; simpa using e1) hl.1 hst (lv_room (by rw [rwt_eq]; exact hb1)) hd ⟨by omega, by omega⟩) hS ?_ ?_
      · intro k σ' q ce H1 locs1 hq hP1 hD1 hS1 hce hcv hcl
        rw [e4, e5]
        exact rcatch F hJ hT h0 hq hP1 hD1 hS1 hl hce hcv hcl
      · intro z σ' H1 locs1 hq hP1 hD1 hS1
        rw [e4, e5]
        cases z with
        | none => exact hN _ _ _ _ hq H1 locs1 ls hP1 hD1 hS1 hl
        | some v => exact hN _ _ _ _ hq H1 locs1 ls hP1 hD1 hS1 hl
    · exact h.elim
  · exact h.elim
/-- a static call of a method with handlers of its own; nothing is thrown -/
theorem ro_callSX {M : RM} {y : MethodName} {bytes : ByteArray} {maxL n mc idx : Nat} {rt : Option FieldType} {ws : List Cond} {rm : Room} {h9 : List (Nat × Nat × Nat × Nat)} (hM : rMet y ws rm mc M) (hd : decode cc pc = .ok (.invokestatic idx, 3)) (hh0 : hh = [])
    (hcw : ∀ (s : State) (args : Array Value), (∀ w ∈ Ts, w.before args s = true) → vx_CSW R s args own idx y bytes maxL rt h9 ws rm mc (12 * mc) n) (hn : npc = pc + 3) : rOk φ cc own nL Ts R hh mcO κ J pc npc (tq_callH M n mc mcO []) := by
  intro G hG p l e s m args below meth c b0 Z Q F hZ KN KJ hN hJ lv st σ b h H locs ls hP hD hS hl
  subst hn
  unfold tq_callH at h
  obtain ⟨as, r, e1, e2, h⟩ := rtake_use n [] st _ h
  simp only [List.length_nil, Nat.add_zero] at e1
  simp only [List.reverse_nil, List.nil_append] at e2
  split at h
  · next hb =>
    rw [Bool.and_eq_true] at hb
    have hb1 := Nat.le_of_ble_eq_true hb.1
    have hb2 := Nat.le_of_ble_eq_true hb.2
    obtain ⟨f1, f2, f3, f4, f5, f6, f7, f8, f9, f10, f11, f12, f13⟩ := id F
    have hst : st.map (rv (rAd G)) = (as.map (rv (rAd G))).reverse ++ r.map (rv (rAd G)) := by rw [e2, List.map_append, List.map_reverse]
    have e4 : 12 * (b0 + b) + 12 * mc = 12 * (b0 + (b + mc)) := by omega
    have e5 : b0 + b + mc = b0 + (b + mc) := by omega
    refine rrun (Q := _) (vx_runSX (As := as.map (rv (rAd G))) (rest := r.map (rv (rAd G))) ⟨f1, f2, f3, f4, f5⟩ (hM G l f10 as σ _ h) (hcw s args f5) ⟨rPc_blind G as σ, rpcS f6 f7 f8 hP hD hS⟩ rfl (by rw [List.length_map]; exact e1) hl.1 hst (lv_room (by rw [rwt_eq]; exact hb1)) hd ⟨by omega, by omega⟩) hS ?_ ?_
    · intro k σ' q ce H1 locs1 hq hP1 hD1 hS1 hce hcv hcl
      exact hq.elim
    · intro z σ' H1 locs1 hq hP1 hD1 hS1
      rw [e4, e5]
      cases z with
      | none => exact hN _ _ _ _ hq H1 locs1 ls hP1 hD1 hS1 hl
      | some v => exact hN _ _ _ _ hq H1 locs1 ls hP1 hD1 hS1 hl
  · exact h.elim
/-- Math.min, Math.max -/
theorem ro_mmin {idx : Nat} (hlink : Cond.methodLink own idx Lib.Math.min.name ∈ Ts) (hstat : Cond.static Lib.Math.min.name ∈ Ts) (hini : Cond.initialized "java/lang/Math" ∈ Ts) (hcode : Cond.code Lib.Math.min.name Lib.Math.min.code 2 (some .int) ∈ Ts) (hR : 1 ≤ R.frames ∧ 21 ≤ R.locals) (hd : decode cc pc = .ok (.invokestatic idx, 3)) (hn : npc = pc + 3) :
    rOk φ cc own nL Ts R hh mcO κ J pc npc (tq_mmin mcO) := by
  intro G hG p l e s m args below meth c b0 Z Q F hZ KN KJ hN hJ lv st σ b h H locs ls hP hD hS hl
  subst hn
  obtain ⟨f1, f2, f3, f4, f5, f6, f7, f8, f9, f10, f11, f12, f13⟩ := F
  unfold tq_mmin at h
  split at h
  · next y x =>
    split at h
    · next hb =>
      have hb := Nat.le_of_ble_eq_true hb
      exact va_mmin (rest := []) f1 f2 (f3.trans hl.1.symm) f4 (f5 _ hlink) (f5 _ hstat) (f5 _ hini) (f5 _ hcode) hR.1 (by simp only [List.map_nil, List.sum_nil]; omega) (by omega) (by omega) hd (hN _ _ _ _ h H locs ls hP hD hS hl)
    · exact h.elim
  · exact h.elim
theorem ro_mmax {idx : Nat} (hlink : Cond.methodLink own idx Lib.Math.max.name ∈ Ts) (hstat : Cond.static Lib.Math.max.name ∈ Ts) (hini : Cond.initialized "java/lang/Math" ∈ Ts) (hcode : Cond.code Lib.Math.max.name Lib.Math.max.code 2 (some .int) ∈ Ts) (hR : 1 ≤ R.frames ∧ 21 ≤ R.locals) (hd : decode cc pc = .ok (.invokestatic idx, 3)) (hn : npc = pc + 3) :
    rOk φ cc own nL Ts R hh mcO κ J pc npc (tq_mmax mcO) := by
  intro G hG p l e s m args below meth c b0 Z Q F hZ KN KJ hN hJ lv st σ b h H locs ls hP hD hS hl
  subst hn
  obtain ⟨f1, f2, f3, f4, f5, f6, f7, f8, f9, f10, f11, f12, f13⟩ := F
  unfold tq_mmax at h
  split at h
  · next y x =>
    split at h
    · next hb =>
      have hb := Nat.le_of_ble_eq_true hb
      exact va_mmax (rest := []) f1 f2 (f3.trans hl.1.symm) f4 (f5 _ hlink) (f5 _ hstat) (f5 _ hini) (f5 _ hcode) hR.1 (by simp only [List.map_nil, List.sum_nil]; omega) (by omega) (by omega) hd (hN _ _ _ _ h H locs ls hP hD hS hl)
    · exact h.elim
  · exact h.elim
/-- the rows of a method, from any of them -/
theorem rEv_ok {tab : List RT} {ps : List Nat} (hA : rAll (rOk φ cc own nL Ts R hh mcO κ (fun o => ps.getD o 0)) ps tab) {G : RG} (hG : φ G) {p : Program} {l : Launch} {e : Env} {s : State} {m : MethodId} {args : Array Value} {below : List Frame} {meth : Method} {c : Code} {b0 : Nat} {Z : State → Prop} {Q : RQ}
    (F : rFr G p l R s m args meth c cc own nL Ts hh b0 mcO) (hZ : rZ G p l e R s m args below meth c nL Q mcO b0 Z κ) : ∀ (n k : Nat) (lv : RLv) (st : List AV) (σ : List RC) (b : Nat), rEv tab Q n (tab.drop k) lv st σ b → rS G p l e R s m args below meth c nL b0 Z (ps.getD k 0) lv st σ b
  | 0, k, lv, st, σ, b, h => (show False from h).elim
  | n + 1, k, lv, st, σ, b, h => by
    have h : (match tab.drop k with
      | t :: r => t Q (rEv tab Q n r) (fun o => rEv tab Q n (rdrop o tab)) lv st σ b
      | [] => False) := h
    split at h
    · next t r he =>
      obtain ⟨h1, h2⟩ := rAll_at hA k t r he
      refine h1 G hG p l e s m args below meth c b0 Z Q F hZ _ _ ?_ ?_ lv st σ b h
      · intro lv2 st2 σ2 b2 h3
        rw [h2] at h3
        exact rEv_ok hA hG F hZ n (k + 1) lv2 st2 σ2 b2 h3
      · intro o lv2 st2 σ2 b2 h3
        rw [rdrop_eq] at h3
        exact rEv_ok hA hG F hZ n o lv2 st2 σ2 b2 h3
    · exact h.elim
theorem rsl_len (ad : Nat → Nat) : ∀ as : List AV, (lg_sl (as.map (rv ad))).length = rwt as
  | [] => rfl
  | v :: r => by
    have h := rsl_len ad r
    have h0 : lg_sl ((v :: r).map (rv ad)) = (if (rv ad v).category = 2 then [.val (rv ad v), .second] else [.val (rv ad v)]) ++ lg_sl (r.map (rv ad)) := by simp [lg_sl]
    rw [h0, List.length_append, h, rcat_eq, show rwt (v :: r) = rcat v + rwt r from rfl]
    rcases v with q | q | q | q <;> rfl
theorem rent_eq (ad : Nat → Nat) : ∀ (as : List AV) (i : Nat), rl ad (rent i as) = lv_args i (as.map (rv ad))
  | [], i => rfl
  | v :: r, i => by
    have h := rent_eq ad r
    show (i, rv ad v) :: rl ad (rent _ r) = (i, rv ad v) :: lv_args _ (r.map (rv ad))
    rw [h, rcat_eq]
    rcases v with q | q | q | q <;> rfl
theorem rofW {l : Launch} {y : MethodName} {ws ws' : List Cond} {rm : Room} {Pc : Array Value → State → Prop} {Qc : Array Value → State → Outcome → State → Prop} {XC : String → State → State → Prop} {mc ms : Nat} {free : Addr → Prop} {cc : ByteArray} {maxL : Nat} {ret : Option FieldType}
    (hy : plainFor y = true) (hw : ws = Cond.code y cc maxL ret :: ws')
    (body : ∀ p e s m args below meth c s₁, BodyLoose p l y (headSpec ws rm) cc maxL ret e s m args below meth c s₁ → c.maxLocals = maxL → (∀ x ∈ c.exceptionTable.toList, False) → Pc args s →
      W p l e (headSpec ws rm).room s m args below meth c s.heap [] 0 0 (vx_MQ below Qc XC args s mc ms free) (entryFrame m args maxL)) : vx_Met l y ws rm Pc Qc XC mc ms free := by
  refine MetFree.of_bodySF (code := cc) (maxLocals := maxL) (ret := ret) hy ?_ ?_
  · intro args s m h hn
    obtain ⟨meth, c, h1, h2, h3, h4, h5, h6, -, -⟩ := Cond.code_spec hn (atoms_spec (ws := ws) h _ (by rw [hw]; exact List.mem_cons_self))
    exact ⟨meth, c, h1, h2, h3, h4, h5, h6⟩
  · intro p e s m args below meth c s₁ B hml hP _
    have hh0 : s₁.heap = s.heap := by rw [B.state]; rfl
    have ht : ∀ x ∈ c.exceptionTable.toList, False := by
      obtain ⟨meth9, c9, h1, h2, -, -, -, -, h7, -⟩ := Cond.code_spec B.named (atoms_spec (ws := ws) B.pre _ (by rw [hw]; exact List.mem_cons_self))
      cases Option.some.inj (h1.symm.trans B.method)
      cases Option.some.inj (h2.symm.trans (Stand.of_body B).code)
      intro x hx
      rw [Array.isEmpty_iff.mp h7] at hx
      cases hx
    obtain ⟨t, a1, o, b1, b2, b3⟩ := body p e s m args below meth c s₁ B hml ht hP s₁ hh0 (Stand.of_body B)
    exact ⟨t, o, a1, b1, b2, b3⟩
theorem rMeth_ok {y : MethodName} {ps : List Nat} {tab : List RT} {fuel : Nat} {ret : Option FieldType} {rm : Room} (hy : plainFor y = true) (hc : y.cls = own) (hrc : rm.cells = mcO) (hrs : rm.slots = 12 * mcO) (hp0 : ps.getD 0 0 = 0)
    (hA : rAll (rOk (fun _ => True) cc own nL (Cond.code y cc nL ret :: rT) rm [] mcO (.inl ret) (fun o => ps.getD o 0)) ps tab) : rMet y (Cond.code y cc nL ret :: rT) rm mcO (rMeth tab fuel nL) := by
  intro G l hl as σ Q h
  refine rofW (cc := cc) (maxL := nL) (ret := ret) hy rfl ?_
  intro p e s m args below meth c s₁ B hml htb hv
  obtain ⟨rfl, hP, hD, hK, hI, hlo⟩ := hv
  unfold rMeth at h
  split at h
  · next hb =>
    rw [rforce_eq] at h
    have hle := lv_entry (as.map (rv (rAd G))) (n := nL) (by rw [rsl_len]; exact Nat.le_of_ble_eq_true hb)
    rw [lg_entry_eq]
    have F : rFr G p l (headSpec (Cond.code y cc nL ret :: rT) rm).room s m (as.map (rv (rAd G))).toArray meth c cc own nL (Cond.code y cc nL ret :: rT) [] 0 mcO := by
      refine ⟨B.exec, B.bytes, hml, by rw [← hc]; exact findClass_of_methodNamed B.named, atoms_spec (ws := Cond.code y cc nL ret :: rT) B.pre, hK, hI, fun q hq => Nat.le_trans hlo hq, B.notSynchronized, hl, by show 0 + mcO ≤ rm.cells; omega, by show 12 * (0 + mcO) ≤ rm.slots; omega, ?_⟩
      cases ht : c.exceptionTable.toList with
      | nil => rfl
      | cons x r => exact (htb x (by rw [ht]; exact List.mem_cons_self)).elim
    have hZ : rZ G p l e (headSpec (Cond.code y cc nL ret :: rT) rm).room s m (as.map (rv (rAd G))).toArray below meth c nL Q mcO 0 (vx_MQ below (rQc G Q) (rXC G Q) (as.map (rv (rAd G))).toArray s mcO (12 * mcO) (rA G)) (.inl ret) := ⟨rfl, B.returns, rfl⟩
    have h2 := rEv_ok hA trivial F hZ fuel 0 (rent 0 as) [] σ 0 (e := e) h s.heap [] _ hP hD va_S.rf (by rw [rent_eq]; exact hle)
    rw [hp0] at h2
    exact h2
  · exact h.elim
theorem rMeth_okH {y : MethodName} {ps : List Nat} {tab : List RT} {fuel : Nat} {ret : Option FieldType} {rm : Room} {hh : List (Nat × Nat × Nat × Nat)} (hy : plainName y.cls = true) (hc : y.cls = own) (hrc : rm.cells = mcO) (hrs : rm.slots = 12 * mcO) (hp0 : ps.getD 0 0 = 0)
    (hA : rAll (rOk (fun _ => True) cc own nL (Cond.codeWith y cc nL ret hh :: rT) rm hh mcO (.inl ret) (fun o => ps.getD o 0)) ps tab) : rMet y (Cond.codeWith y cc nL ret hh :: rT) rm mcO (rMeth tab fuel nL) := by
  intro G l hl as σ Q h
  refine vx_ofWH (cc := cc) (maxL := nL) (ret := ret) (hh := hh) hy rfl ?_
  intro p e s m args below meth c s₁ B hml hv
  obtain ⟨rfl, hP, hD, hK, hI, hlo⟩ := hv
  unfold rMeth at h
  split at h
  · next hb =>
    rw [rforce_eq] at h
    have hle := lv_entry (as.map (rv (rAd G))) (n := nL) (by rw [rsl_len]; exact Nat.le_of_ble_eq_true hb)
    rw [lg_entry_eq]
    have hts := atoms_spec (ws := Cond.codeWith y cc nL ret hh :: rT) B.pre
    have F : rFr G p l (headSpec (Cond.codeWith y cc nL ret hh :: rT) rm).room s m (as.map (rv (rAd G))).toArray meth c cc own nL (Cond.codeWith y cc nL ret hh :: rT) hh 0 mcO := by
      refine ⟨B.exec, B.bytes, hml, by rw [← hc]; exact findClass_of_methodNamed B.named, hts, hK, hI, fun q hq => Nat.le_trans hlo hq, B.notSynchronized, hl, by show 0 + mcO ≤ rm.cells; omega, by show 12 * (0 + mcO) ≤ rm.slots; omega, ?_⟩
      exact vx_table (x := y) B (hts _ List.mem_cons_self)
    have hZ : rZ G p l e (headSpec (Cond.codeWith y cc nL ret hh :: rT) rm).room s m (as.map (rv (rAd G))).toArray below meth c nL Q mcO 0 (vx_MQ below (rQc G Q) (rXC G Q) (as.map (rv (rAd G))).toArray s mcO (12 * mcO) (rA G)) (.inl ret) := ⟨rfl, B.returns, rfl⟩
    have h2 := rEv_ok hA trivial F hZ fuel 0 (rent 0 as) [] σ 0 (e := e) h s.heap [] _ hP hD va_S.rf (by rw [rent_eq]; exact hle)
    rw [hp0] at h2
    exact h2
  · exact h.elim
theorem rMet_mono {y : MethodName} {ws : List Cond} {rm : Room} {mc : Nat} {M M' : RM} (h : rMet y ws rm mc M) (hm : ∀ as σ Q, M' as σ Q → M as σ Q) : rMet y ws rm mc M' := fun G l hl as σ Q hq => h G l hl as σ Q (hm as σ Q hq)
end RKS
