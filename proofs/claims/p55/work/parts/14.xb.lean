section RKXB
/-! Steps of Strings and of things that are made. -/
def tq_i1f (op : Int32 → Int32) : RT := fun _ K _ lv st σ b => match st with
  | .inl x :: r => K lv (rI x.1 (op x.2) :: r) σ b
  | _ => False
def tq_nul : RT := fun _ K _ lv st σ b => K lv (rO none :: st) σ b
/-- a thing that is there isn't null: on, or to o -/
def tq_nn (o : Nat) : RT := fun _ _ J lv st σ b => match st with
  | .inr (.inr (.inl _)) :: r => J o lv r σ b
  | _ => False
def tq_nu : RT := fun _ K _ lv st σ b => match st with
  | .inr (.inr (.inl _)) :: r => K lv r σ b
  | _ => False
def tq_any : RT := fun _ K _ lv st σ b => ∀ o : Option Nat, K lv (rO o :: st) σ b
def tq_len : RT := fun _ K _ lv st σ b => match st with
  | .inr (.inr (.inl i)) :: r => match rat σ i with
    | some (.inr (t, n, .inl _)) => match Nat.ble t 3 && !(Nat.beq t 2) with
      | true => K lv (rI true (Int32.ofNat n) :: r) σ b
      | false => False
    | _ => False
  | _ => False
def tq_bast (t0 : Nat) : RT := fun _ K _ lv st σ b => match st with
  | .inl x :: .inl j :: .inr (.inr (.inl i)) :: r => match rat σ i with
    | some (.inr (t, n, .inl f)) => match Nat.beq t t0 with
      | true => rin j.1 j.2 n (rforce (rset σ i (.inr (t, n, .inl (upd f j.2.toNatClampNeg (vp_nar .byte x.2))))) (fun σ' => K lv r σ' b))
      | false => False
    | _ => False
  | _ => False
/-- a String constant's own -/
def tq_sval : RT := fun _ K _ lv st σ b => match st with
  | .inr (.inr (.inl k)) :: r => (100 ≤ k ∧ k < 145) ∧ K lv (rR (k + 100) :: r) σ b
  | _ => False
def tq_scod : RT := fun _ K _ lv st σ b => match st with
  | .inr (.inr (.inl k)) :: r => (100 ≤ k ∧ k < 145) ∧ K lv (rI true 0 :: r) σ b
  | _ => False
def tq_slen : RT := fun _ K _ lv st σ b => match st with
  | .inr (.inr (.inl k)) :: r => (200 ≤ k ∧ k < 245) ∧ K lv (rI false (Int32.ofNat (rSLen.getD (k - 200) 0)) :: r) σ b
  | _ => False
def tq_sald : RT := fun _ K _ lv st σ b => match st with
  | .inl j :: .inr (.inr (.inl k)) :: r => (200 ≤ k ∧ k < 245) ∧ (vp_in j.2 (rSLen.getD (k - 200) 0) ∧ K lv (rI false ((rSByt.getD (k - 200) []).getD j.2.toNatClampNeg 0) :: r) σ b)
  | _ => False
abbrev bfit (f : Nat → Int32) : Prop := sb_Fit f
def cpok (sp dp n : Int32) (n0 n1 : Nat) : Prop := (¬ sp < 0) ∧ (¬ dp < 0) ∧ (¬ n < 0) ∧ sp.toNatClampNeg + n.toNatClampNeg ≤ n0 ∧ dp.toNatClampNeg + n.toNatClampNeg ≤ n1
def tq_cpS (mcO : Nat) : RT := fun _ K _ lv st σ b => match st with
  | .inl n :: .inl dp :: .inr (.inr (.inl i)) :: .inl sp :: .inr (.inr (.inl k)) :: r => match rat σ i with
    | some (.inr (t, n1, .inl g)) => match Nat.beq t 3 && Nat.ble (rwt r) 8 with
      | true => (200 ≤ k ∧ k < 245) ∧ (cpok sp.2 dp.2 n.2 (rSLen.getD (k - 200) 0) n1 ∧ rforce (rset σ i (.inr (3, n1, .inl (va_cpy (fun j => (rSByt.getD (k - 200) []).getD j 0) g sp.2.toNatClampNeg dp.2.toNatClampNeg n.2.toNatClampNeg)))) (fun σ' => K lv r σ' b))
      | false => False
    | _ => False
  | _ => False
def tq_cpW (mcO : Nat) : RT := fun _ K _ lv st σ b => match st with
  | .inl n :: .inl dp :: .inr (.inr (.inl i)) :: .inl sp :: .inr (.inr (.inl k)) :: r => match rat σ i with
    | some (.inr (t, n1, .inl g)) => match rat σ k with
      | some (.inr (t0, n0, .inl f)) => match Nat.beq t 3 && (Nat.beq t0 3 && Nat.ble (rwt r) 8) with
        | true => (bfit f ∧ cpok sp.2 dp.2 n.2 n0 n1) ∧ rforce (rset σ i (.inr (3, n1, .inl (va_cpy f g sp.2.toNatClampNeg dp.2.toNatClampNeg n.2.toNatClampNeg)))) (fun σ' => K lv r σ' b)
        | false => False
      | _ => False
    | _ => False
  | _ => False
/-- a field of bytes or truths gets 0 or 1 -/
def tq_put01 (ci k : Nat) : RT := fun _ K _ lv st σ b => match st with
  | .inl x :: .inr (.inr (.inl i)) :: r => match rat σ i with
    | some (.inl o) => match Nat.beq o.1 ci && (Nat.blt k o.2.length && x.1) with
      | true => (x.2 = 0 ∨ x.2 = 1) ∧ rforce (rset o.2 k (.inl x)) (fun fs => rforce (rset σ i (.inl (o.1, fs))) (fun σ' => K lv r σ' b))
      | false => False
    | _ => False
  | _ => False
def tq_objinit : RT := fun _ K _ lv st σ b => match st with
  | .inr (.inr (.inl _)) :: r => match Nat.ble (rwt r) 8 with
    | true => K lv r σ b
    | false => False
  | _ => False
def tq_castA : RT := fun _ K _ lv st σ b => match st with
  | .inr (.inr (.inl i)) :: r => match rat σ i with
    | some (.inr (t, _, .inl _)) => match Nat.beq t 3 with
      | true => K lv (.inr (.inr (.inl i)) :: r) σ b
      | false => False
    | _ => False
  | _ => False
-- what makes things
def tq_new (n ci : Nat) (df : List AV) (mcO : Nat) : RT := fun _ K _ lv st σ b => match Nat.beq (rlen σ) n && (rKv n lv && (rKl n st && (rKs n σ && Nat.ble (b + 1) mcO))) with
  | true => rforce (rapp σ (.inl (ci, df))) (fun σ' => K lv (rR n :: st) σ' (b + 1))
  | false => False
def tq_newb (n mcO : Nat) : RT := fun _ K _ lv st σ b => match st with
  | .inl x :: r => match Nat.beq (rlen σ) n && (rKv n lv && (rKl n r && (rKs n σ && Nat.ble (b + 9) mcO))) with
    | true => (decide (x.2 < 0) = false ∧ x.2.toNatClampNeg ≤ 96) ∧ rforce (rapp σ (.inr (3, x.2.toNatClampNeg, .inl (fun _ => 0)))) (fun σ' => K lv (rR n :: r) σ' (b + 9))
    | false => False
  | _ => False
def tq_clone (n mcO : Nat) : RT := fun _ K _ lv st σ b => match st with
  | .inr (.inr (.inl i)) :: r => match rat σ i with
    | some (.inr (t, n1, .inl g)) => match Nat.beq t 3 && (Nat.ble (rwt r) 8 && (Nat.beq (rlen σ) n && (rKv n lv && (rKl n r && (rKs n σ && Nat.ble (b + 9) mcO))))) with
      | true => (bfit g ∧ n1 ≤ 96) ∧ rforce (rapp σ (.inr (3, n1, .inl g))) (fun σ' => K lv (rR n :: r) σ' (b + 9))
      | false => False
    | _ => False
  | _ => False
def rQk (K : RK) (lv : RLv) (r : List AV) (b : Nat) : RQ := fun z σ' => match z with
  | .inl (some v) => K lv (v :: r) σ' b
  | .inl none => K lv r σ' b
  | .inr _ => False
def tq_callX (n' : Nat) (M : RM) (n mc mcO : Nat) : RT := fun _ K _ lv st σ b =>
  rtake n [] st (fun as r => match Nat.ble (rwt r) 8 && Nat.ble (b + mc) mcO with
    | true => (rKl n' r && rKv n' lv) = true ∧ M as σ (rQk K lv r (b + mc))
    | false => False)
def rThis (M : RM) : RM := fun as σ Q => match as with
  | .inr (.inr (.inl i)) :: r => M (.inr (.inr (.inl i)) :: r) σ Q
  | _ => False
def rVK (M : RM) : RM := fun as σ Q => match as with
  | .inr (.inr (.inl k)) :: r => (100 ≤ k ∧ k < 145) ∧ M (.inr (.inr (.inl k)) :: r) σ Q
  | _ => False
def tq_xvret (mcO : Nat) : RT := fun Q _ _ _ st σ b => match st with
  | [] => match Nat.ble b mcO with
    | true => Q (.inl none) σ
    | false => False
  | _ => False
def tq_xaret (mcO : Nat) : RT := fun Q _ _ _ st σ b => match st with
  | [.inr (.inr x)] => match Nat.ble b mcO with
    | true => Q (.inl (some (.inr (.inr x)))) σ
    | false => False
  | _ => False
section
variable {φ : RG → Prop} {cc : ByteArray} {own : String} {nL : Nat} {Ts : List Cond} {R : Room} {hh : List (Nat × Nat × Nat × Nat)} {mcO : Nat} {κ : Option FieldType ⊕ (Nat × Int32)} {J : Nat → Nat} {pc npc : Nat}
theorem ro_sipush {n : Int} {x : Int32} (hd : decode cc pc = .ok (.sipush n, 3)) (hx : (Int16.ofInt n).toInt32 = x) (hn : npc = pc + 3) : rOk φ cc own nL Ts R hh mcO κ J pc npc (tq_ic x) := by
  intro G hG p l e s m args below meth c b0 Z Q F hZ KN KJ hN hJ lv st σ b h H locs ls hP hD hS hl
  subst hn
  exact lv_sipush F.1 F.2.1 hd hx (hN _ _ _ _ h H locs ls hP hD hS hl)
theorem ro_ldcI {i : Nat} {x : Int32} (hx : Cond.constant own i x ∈ Ts) (hd : decode cc pc = .ok (.ldc i, 2)) (hn : npc = pc + 2) : rOk φ cc own nL Ts R hh mcO κ J pc npc (tq_ic x) := by
  intro G hG p l e s m args below meth c b0 Z Q F hZ KN KJ hN hJ lv st σ b h H locs ls hP hD hS hl
  subst hn
  exact lv_ldc F.1 F.2.1 F.2.2.2.1 (F.2.2.2.2.1 _ hx) hd (hN _ _ _ _ h H locs ls hP hD hS hl)
theorem ro_i2b (hd : decode cc pc = .ok (.i2b, 1)) (hn : npc = pc + 1) : rOk φ cc own nL Ts R hh mcO κ J pc npc (tq_i1f (fun x => x.toInt8.toInt32)) := by
  intro G hG p l e s m args below meth c b0 Z Q F hZ KN KJ hN hJ lv st σ b h H locs ls hP hD hS hl
  subst hn
  unfold tq_i1f at h
  split at h
  · next x r => exact lv_i2b F.1 F.2.1 hd rfl (hN _ _ _ _ h H locs ls hP hD hS hl)
  · exact h.elim
theorem ro_i2c (hd : decode cc pc = .ok (.i2c, 1)) (hn : npc = pc + 1) : rOk φ cc own nL Ts R hh mcO κ J pc npc (tq_i1f (fun x => (x.toUInt32 % 65536).toInt32)) := by
  intro G hG p l e s m args below meth c b0 Z Q F hZ KN KJ hN hJ lv st σ b h H locs ls hP hD hS hl
  subst hn
  unfold tq_i1f at h
  split at h
  · next x r => exact lv_i2c F.1 F.2.1 hd rfl (hN _ _ _ _ h H locs ls hP hD hS hl)
  · exact h.elim
theorem ro_nul (hd : decode cc pc = .ok (.aconst_null, 1)) (hn : npc = pc + 1) : rOk φ cc own nL Ts R hh mcO κ J pc npc tq_nul := by
  intro G hG p l e s m args below meth c b0 Z Q F hZ KN KJ hN hJ lv st σ b h H locs ls hP hD hS hl
  subst hn
  exact lv_null F.1 F.2.1 hd (hN _ _ _ _ h H locs ls hP hD hS hl)
theorem ro_nn {off : Int} {o : Nat} (hd : decode cc pc = .ok (.ifnonnull off, 3)) (ht : (pc : Int) + off = (J o : Int)) : rOk φ cc own nL Ts R hh mcO κ J pc npc (tq_nn o) := by
  intro G hG p l e s m args below meth c b0 Z Q F hZ KN KJ hN hJ lv st σ b h H locs ls hP hD hS hl
  unfold tq_nn at h
  split at h
  · next i r => exact lv_ifnonnull F.1 F.2.1 hd ht (hJ _ _ _ _ _ h H locs ls hP hD hS hl)
  · exact h.elim
theorem ro_getsI {x : Int32} {idx : Nat} {C n d : String} (hT : ∀ (G : RG) (s : State), rIm G s s.heap → va_Z C n d (.int x) (rA G) s s.heap) (hlink : Cond.fieldLink own idx C n d ∈ Ts) (hd : decode cc pc = .ok (.getstatic idx, 3)) (hn : npc = pc + 3) : rOk φ cc own nL Ts R hh mcO κ J pc npc (tq_ic x) := by
  intro G hG p l e s m args below meth c b0 Z Q F hZ KN KJ hN hJ lv st σ b h H locs ls hP hD hS hl
  subst hn
  exact va_gets F.1 F.2.1 (hT G s F.2.2.2.2.2.2.1) hS F.2.2.2.1 (F.2.2.2.2.1 _ hlink) (fun _ h9 => h9) hd (hN _ _ _ _ h H locs ls hP hD hS hl)
theorem ro_getsQ {idx : Nat} {C n d : String} (hT : ∀ (G : RG) (s : State), rIm G s s.heap → va_Zq C n d (rA G) s s.heap) (hlink : Cond.fieldLink own idx C n d ∈ Ts) (hd : decode cc pc = .ok (.getstatic idx, 3)) (hn : npc = pc + 3) : rOk φ cc own nL Ts R hh mcO κ J pc npc tq_any := by
  intro G hG p l e s m args below meth c b0 Z Q F hZ KN KJ hN hJ lv st σ b h H locs ls hP hD hS hl
  subst hn
  rcases hT G s F.2.2.2.2.2.2.1 with h9 | ⟨t, h9⟩
  · exact va_gets F.1 F.2.1 h9 hS F.2.2.2.1 (F.2.2.2.2.1 _ hlink) (fun _ h9 => h9) hd (hN _ _ _ _ (h none) H locs ls hP hD hS hl)
  · exact va_gets F.1 F.2.1 h9 hS F.2.2.2.1 (F.2.2.2.2.1 _ hlink) (fun _ h9 => h9) hd (hN _ _ _ _ (h (some t)) H locs ls hP hD hS hl)
theorem rtys_at {G : RG} {t : Nat} (h : (Nat.ble t 3 && !(Nat.beq t 2)) = true) : ∃ ty : FieldType, (rTys G)[t]? = some (rTy G t, ty) := by
  match t, h with
  | 0, _ => exact ⟨_, rfl⟩
  | 1, _ => exact ⟨_, rfl⟩
  | 3, _ => exact ⟨_, rfl⟩
theorem ro_len (hd : decode cc pc = .ok (.arraylength, 1)) (hn : npc = pc + 1) : rOk φ cc own nL Ts R hh mcO κ J pc npc tq_len := by
  intro G hG p l e s m args below meth c b0 Z Q F hZ KN KJ hN hJ lv st σ b h H locs ls hP hD hS hl
  subst hn
  unfold tq_len at h
  split at h
  · next i r =>
    split at h
    · next t n f ho =>
      split at h
      · next hb =>
        obtain ⟨ty, hty⟩ := rtys_at (G := G) hb
        exact va_alen F.1 F.2.1 F.2.2.2.2.2.1 hP i t (rget_at G ho) hty rfl hd (hN _ _ _ _ h H locs ls hP hD hS hl)
      · exact h.elim
    · exact h.elim
  · exact h.elim
theorem ro_bast (hd : decode cc pc = .ok (.bastore, 1)) (hn : npc = pc + 1) : rOk φ cc own nL Ts R hh mcO κ J pc npc (tq_bast 3) := by
  intro G hG p l e s m args below meth c b0 Z Q F hZ KN KJ hN hJ lv st σ b h H locs ls hP hD hS hl
  subst hn
  unfold tq_bast at h
  split at h
  · next x j i r =>
    split at h
    · next t n f ho =>
      split at h
      · next hb =>
        have e : t = 3 := Nat.eq_of_beq_eq_true hb
        subst e
        obtain ⟨hi, h⟩ := rin_use h
        rw [rforce_eq] at h
        refine va_bast F.1 F.2.1 F.2.2.2.2.2.1 hP hD hS i 3 (rget_at G ho) rfl hi hd (fun H1 locs1 hP1 hD1 hS1 => ?_)
        have e8 := rset_at (y := .inr (3, n, .inl (upd f j.2.toNatClampNeg (vp_nar .byte x.2)))) G ho
        rw [show (rW (rAd G) (rTy G) 0 σ).set i (rAd G i, (Sum.inl (rTy G 3, n, .inl (upd f j.2.toNatClampNeg (vp_nar .byte x.2))) : va_E)) = rW (rAd G) (rTy G) 0 (rset σ i (.inr (3, n, .inl (upd f j.2.toNatClampNeg (vp_nar .byte x.2))))) from e8] at hP1 hD1
        exact hN _ _ _ _ h H1 locs1 ls hP1 hD1 hS1 hl
      · exact h.elim
    · exact h.elim
  · exact h.elim
theorem rstr_of {G : RG} {s : State} (h : rIm G s s.heap) {k : Nat} (hk : 100 ≤ k ∧ k < 145) : va_O "java/lang/String" (rAd G k) (rA G) s s.heap ∧ va_OF "java/lang/String" "coder" "B" (.int 0) (rAd G k) (rA G) s s.heap ∧ va_OF "java/lang/String" "value" "[B" (.ref (rAd G (k + 100))) (rAd G k) (rA G) s s.heap ∧ va_T .byte (rAd G (k + 100)) (rSLen.getD (k - 100) 0) (fun j => .int ((rSByt.getD (k - 100) []).getD j 0)) (rA G) s s.heap := by
  obtain ⟨-, -, -, -, -, -, -, -, -, h10, -⟩ := h
  have h9 := h10 (k - 100) (by omega)
  rw [show 100 + (k - 100) = k by omega, show 200 + (k - 100) = k + 100 by omega] at h9
  exact h9
theorem ro_sval {idx : Nat} (hlink : Cond.fieldLink own idx "java/lang/String" "value" "[B" ∈ Ts) (hd : decode cc pc = .ok (.getfield idx, 3)) (hn : npc = pc + 3) : rOk φ cc own nL Ts R hh mcO κ J pc npc tq_sval := by
  intro G hG p l e s m args below meth c b0 Z Q F hZ KN KJ hN hJ lv st σ b h H locs ls hP hD hS hl
  subst hn
  unfold tq_sval at h
  split at h
  · next k r => exact vk_getf F.1 F.2.1 (rstr_of F.2.2.2.2.2.2.1 h.1).2.2.1 hS F.2.2.2.1 (F.2.2.2.2.1 _ hlink) (fun _ h9 => h9) hd (hN _ _ _ _ h.2 H locs ls hP hD hS hl)
  · exact h.elim
theorem ro_scod {idx : Nat} (hlink : Cond.fieldLink own idx "java/lang/String" "coder" "B" ∈ Ts) (hd : decode cc pc = .ok (.getfield idx, 3)) (hn : npc = pc + 3) : rOk φ cc own nL Ts R hh mcO κ J pc npc tq_scod := by
  intro G hG p l e s m args below meth c b0 Z Q F hZ KN KJ hN hJ lv st σ b h H locs ls hP hD hS hl
  subst hn
  unfold tq_scod at h
  split at h
  · next k r => exact vk_getf F.1 F.2.1 (rstr_of F.2.2.2.2.2.2.1 h.1).2.1 hS F.2.2.2.1 (F.2.2.2.2.1 _ hlink) (fun _ h9 => h9) hd (hN _ _ _ _ h.2 H locs ls hP hD hS hl)
  · exact h.elim
theorem rbyt_of {G : RG} {s : State} (h : rIm G s s.heap) {k : Nat} (hk : 200 ≤ k ∧ k < 245) : va_T .byte (rAd G k) (rSLen.getD (k - 200) 0) (fun j => .int ((rSByt.getD (k - 200) []).getD j 0)) (rA G) s s.heap := by
  have h9 := (rstr_of h (k := k - 100) (by omega)).2.2.2
  rw [show k - 100 + 100 = k by omega, show k - 100 - 100 = k - 200 by omega] at h9
  exact h9
theorem ro_slen (hd : decode cc pc = .ok (.arraylength, 1)) (hn : npc = pc + 1) : rOk φ cc own nL Ts R hh mcO κ J pc npc tq_slen := by
  intro G hG p l e s m args below meth c b0 Z Q F hZ KN KJ hN hJ lv st σ b h H locs ls hP hD hS hl
  subst hn
  unfold tq_slen at h
  split at h
  · next k r => exact va_tlen F.1 F.2.1 (rbyt_of F.2.2.2.2.2.2.1 h.1) hS rfl hd (hN _ _ _ _ h.2 H locs ls hP hD hS hl)
  · exact h.elim
theorem rsb_all : ∀ i : Nat, i < 45 → ∀ x ∈ rSByt.getD i [], fits .byte (.int x) = true := by decide +kernel
theorem rsb_fit {i : Nat} (hi : i < 45) (j : Nat) : fits .byte (.int ((rSByt.getD i []).getD j 0)) = true := by
  by_cases h : j < (rSByt.getD i []).length
  · rw [List.getD_eq_getElem?_getD, List.getElem?_eq_getElem h]
    exact rsb_all i hi _ (List.getElem_mem h)
  · rw [List.getD_eq_getElem?_getD, List.getElem?_eq_none (by omega)]
    rfl
theorem ro_cpS {idx : Nat} (hlink : Cond.methodLink own idx arraycopyName ∈ Ts) (hnat : Cond.native arraycopyName ∈ Ts) (hstat : Cond.static arraycopyName ∈ Ts) (hini : Cond.initialized "java/lang/System" ∈ Ts) (hR : 1 ≤ R.frames ∧ 8 + (nativeFrameWords "java/lang/System" "arraycopy" 5 + 11) ≤ R.locals) (hd : decode cc pc = .ok (.invokestatic idx, 3)) (hn : npc = pc + 3) : rOk φ cc own nL Ts R hh mcO κ J pc npc (tq_cpS mcO) := by
  intro G hG p l e s m args below meth c b0 Z Q F hZ KN KJ hN hJ lv st σ b h H locs ls hP hD hS hl
  subst hn
  unfold tq_cpS at h
  split at h
  · next n dp i sp k r =>
    split at h
    · next t n1 g ho =>
      split at h
      · next hb =>
        rw [Bool.and_eq_true] at hb
        have e : t = 3 := Nat.eq_of_beq_eq_true hb.1
        subst e
        obtain ⟨hk, ⟨h1, h2, h3, h4, h5⟩, h⟩ := h
        rw [rforce_eq] at h
        have h8 := Nat.le_of_ble_eq_true hb.2
        refine vk_copyt F.1 F.2.1 (F.2.2.1.trans hl.1.symm) F.2.2.2.1 (F.2.2.2.2.1 _ hlink) (F.2.2.2.2.1 _ hnat) (F.2.2.2.2.1 _ hstat) (F.2.2.2.2.1 _ hini) F.2.2.2.2.2.1 hP hD hS (rbyt_of F.2.2.2.2.2.2.1 hk) i 3 (rget_at G ho) rfl h1 h2 h3 h4 h5 (fun j _ => rsb_fit (by omega) _) hR.1 (by rw [rwt_eq]; omega) hd (fun H1 locs1 hP1 hD1 hS1 => ?_)
        have e8 := rset_at (y := .inr (3, n1, .inl (va_cpy (fun j => (rSByt.getD (k - 200) []).getD j 0) g sp.2.toNatClampNeg dp.2.toNatClampNeg n.2.toNatClampNeg))) G ho
        rw [show (rW (rAd G) (rTy G) 0 σ).set i (rAd G i, (Sum.inl (rTy G 3, n1, .inl (va_cpy (fun j => (rSByt.getD (k - 200) []).getD j 0) g sp.2.toNatClampNeg dp.2.toNatClampNeg n.2.toNatClampNeg)) : va_E)) = rW (rAd G) (rTy G) 0 (rset σ i (.inr (3, n1, .inl (va_cpy (fun j => (rSByt.getD (k - 200) []).getD j 0) g sp.2.toNatClampNeg dp.2.toNatClampNeg n.2.toNatClampNeg)))) from e8] at hP1 hD1
        exact hN _ _ _ _ h H1 locs1 ls hP1 hD1 hS1 hl
      · exact h.elim
    · exact h.elim
  · exact h.elim
theorem ro_cpW {idx : Nat} (hlink : Cond.methodLink own idx arraycopyName ∈ Ts) (hnat : Cond.native arraycopyName ∈ Ts) (hstat : Cond.static arraycopyName ∈ Ts) (hini : Cond.initialized "java/lang/System" ∈ Ts) (hR : 1 ≤ R.frames ∧ 8 + (nativeFrameWords "java/lang/System" "arraycopy" 5 + 11) ≤ R.locals) (hd : decode cc pc = .ok (.invokestatic idx, 3)) (hn : npc = pc + 3) : rOk φ cc own nL Ts R hh mcO κ J pc npc (tq_cpW mcO) := by
  intro G hG p l e s m args below meth c b0 Z Q F hZ KN KJ hN hJ lv st σ b h H locs ls hP hD hS hl
  subst hn
  unfold tq_cpW at h
  split at h
  · next n dp i sp k r =>
    split at h
    · next t n1 g ho =>
      split at h
      · next t0 n0 f hk =>
        split at h
        · next hb =>
          rw [Bool.and_eq_true, Bool.and_eq_true] at hb
          have e : t = 3 := Nat.eq_of_beq_eq_true hb.1
          have e0 : t0 = 3 := Nat.eq_of_beq_eq_true hb.2.1
          subst e
          subst e0
          obtain ⟨⟨hf, h1, h2, h3, h4, h5⟩, h⟩ := h
          rw [rforce_eq] at h
          have h8 := Nat.le_of_ble_eq_true hb.2.2
          refine va_copyi F.1 F.2.1 (F.2.2.1.trans hl.1.symm) F.2.2.2.1 (F.2.2.2.2.1 _ hlink) (F.2.2.2.2.1 _ hnat) (F.2.2.2.2.1 _ hstat) (F.2.2.2.2.1 _ hini) F.2.2.2.2.2.1 hP hD hS k i 3 3 (rget_at G hk) (rget_at G ho) rfl rfl rfl h1 h2 h3 h4 h5 (fun j _ => hf _) hR.1 (by rw [rwt_eq]; omega) hd (fun H1 locs1 hP1 hD1 hS1 => ?_)
          have e8 := rset_at (y := .inr (3, n1, .inl (va_cpy f g sp.2.toNatClampNeg dp.2.toNatClampNeg n.2.toNatClampNeg))) G ho
          rw [show (rW (rAd G) (rTy G) 0 σ).set i (rAd G i, (Sum.inl (rTy G 3, n1, .inl (va_cpy f g sp.2.toNatClampNeg dp.2.toNatClampNeg n.2.toNatClampNeg)) : va_E)) = rW (rAd G) (rTy G) 0 (rset σ i (.inr (3, n1, .inl (va_cpy f g sp.2.toNatClampNeg dp.2.toNatClampNeg n.2.toNatClampNeg)))) from e8] at hP1 hD1
          exact hN _ _ _ _ h H1 locs1 ls hP1 hD1 hS1 hl
        · exact h.elim
      · exact h.elim
    · exact h.elim
  · exact h.elim
theorem ro_objinit {idx : Nat} (hlink : Cond.methodLink own idx Lib.objectInit ∈ Ts) (hinst : Cond.instanceMethod Lib.objectInit ∈ Ts) (hcode : Cond.code Lib.objectInit ⟨#[0xb1]⟩ 1 none ∈ Ts) (hR : 1 ≤ R.frames ∧ 20 ≤ R.locals) (hd : decode cc pc = .ok (.invokespecial idx, 3)) (hn : npc = pc + 3) : rOk φ cc own nL Ts R hh mcO κ J pc npc tq_objinit := by
  intro G hG p l e s m args below meth c b0 Z Q F hZ KN KJ hN hJ lv st σ b h H locs ls hP hD hS hl
  subst hn
  unfold tq_objinit at h
  split at h
  · next i r =>
    split at h
    · next hb =>
      have h8 := Nat.le_of_ble_eq_true hb
      refine W.objInit F.1 F.2.1 F.2.2.2.1 (F.2.2.2.2.1 _ hlink) (F.2.2.2.2.1 _ hinst) (F.2.2.2.2.1 _ hcode) (g := F0 m pc ls (.ref (rAd G i) :: r.map (rv (rAd G)))) rfl (hl.1.trans F.2.2.1.symm) (a := rAd G i) (rest := r.map (rv (rAd G))) rfl hd hR.1 ?_ (hN _ _ _ _ h H locs ls hP hD hS hl)
      rw [rwt_eq]
      show 0 + rwt r + 12 ≤ R.locals
      omega
    · exact h.elim
  · exact h.elim
theorem ro_castA {idx : Nat} (hlink : Cond.classLink own idx "[B" ∈ Ts) (hd : decode cc pc = .ok (.checkcast idx, 3)) (hn : npc = pc + 3) : rOk φ cc own nL Ts R hh mcO κ J pc npc tq_castA := by
  intro G hG p l e s m args below meth c b0 Z Q F hZ KN KJ hN hJ lv st σ b h H locs ls hP hD hS hl
  subst hn
  unfold tq_castA at h
  split at h
  · next i r =>
    split at h
    · next t n g ho =>
      split at h
      · next hb =>
        have e : t = 3 := Nat.eq_of_beq_eq_true hb
        subst e
        exact va_castA F.1 F.2.1 F.2.2.2.1 (F.2.2.2.2.1 _ hlink) hP i (rget_at G ho) (F.2.2.2.2.2.1.2 3 _ rfl).2 hd (hN _ _ _ _ h H locs ls hP hD hS hl)
      · exact h.elim
    · exact h.elim
  · exact h.elim
end
end RKXB
