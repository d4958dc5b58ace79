section RKX
/-- a store that forgets that the number was written out -/
def tq_isf (nL i : Nat) : RT := fun _ K _ lv st σ b => match st with
  | .inl q :: r => match Nat.blt i nL with
    | true => rforce (rst1 lv i (rI false q.2)) (fun lv' => K lv' r σ b)
    | false => False
  | _ => False
/-- 'c ? B : A' of numbers written out, the whole of it: no fork -/
def tq_s1 (c : Int32 → Bool) (A B : Int32) (o : Nat) : RT := fun _ _ J lv st σ b => match st with
  | .inl x :: r => J o lv (rI x.1 (bif c x.2 then B else A) :: r) σ b
  | _ => False
def tq_s2 (c : Int32 → Int32 → Bool) (A B : Int32) (o : Nat) : RT := fun _ _ J lv st σ b => match st with
  | .inl y :: .inl x :: r => J o lv (rI (x.1 && y.1) (bif c x.2 y.2 then B else A) :: r) σ b
  | _ => False
def tq_s1L (c : Int32 → Bool) (A B : Int64) (o : Nat) : RT := fun _ _ J lv st σ b => match st with
  | .inl x :: r => J o lv (rL x.1 (bif c x.2 then B else A) :: r) σ b
  | _ => False
variable {φ : RG → Prop} {cc : ByteArray} {own : String} {nL : Nat} {Ts : List Cond} {R : Room} {hh : List (Nat × Nat × Nat × Nat)} {mcO : Nat} {κ : Option FieldType ⊕ (Nat × Int32)} {J : Nat → Nat} {pc npc : Nat}
theorem ro_isf {i : Nat} (hd : decode cc pc = .ok (.istore i, 2)) (hn : npc = pc + 2) : rOk φ cc own nL Ts R hh mcO κ J pc npc (tq_isf nL i) := by
  intro G hG p l e s m args below meth c b0 Z Q F hZ KN KJ hN hJ lv st σ b h H locs ls hP hD hS hl
  subst hn
  unfold tq_isf at h
  split at h
  · next q r =>
    split at h
    · next hb =>
      rw [rforce_eq] at h
      exact lv_istore F.1 F.2.1 hd hl (Nat.le_of_ble_eq_true hb) (rst1_eq (rAd G) lv i (rI false q.2)) (fun ls' hl' => hN _ _ _ _ h H locs ls' hP hD hS hl')
    · exact h.elim
  · exact h.elim
theorem ro_isf_n {k : Fin 4} {i : Nat} (hi : (k : Nat) = i) (hd : decode cc pc = .ok (.istore_n k, 1)) (hn : npc = pc + 1) : rOk φ cc own nL Ts R hh mcO κ J pc npc (tq_isf nL i) := by
  intro G hG p l e s m args below meth c b0 Z Q F hZ KN KJ hN hJ lv st σ b h H locs ls hP hD hS hl
  subst hn
  unfold tq_isf at h
  split at h
  · next q r =>
    split at h
    · next hb =>
      rw [rforce_eq] at h
      exact lv_istore_n F.1 F.2.1 hd hi hl (Nat.le_of_ble_eq_true hb) (rst1_eq (rAd G) lv i (rI false q.2)) (fun ls' hl' => hN _ _ _ _ h H locs ls' hP hD hS hl')
    · exact h.elim
  · exact h.elim
theorem ro_s1_eq {off off2 : Int} {o : Nat} {n1 n2 : Int} {A B : Int32} (hd : decode cc pc = .ok (.ifCond .eq off, 3)) (d1 : decode cc (pc + 3) = .ok (.iconst n1, 1)) (h1 : Int32.ofInt n1 = A) (d2 : decode cc (pc + 4) = .ok (.goto off2, 3)) (d3 : decode cc (pc + 7) = .ok (.iconst n2, 1)) (h2 : Int32.ofInt n2 = B) (ht : off = 7) (ht2 : off2 = 4) (ho : J o = pc + 8) : rOk φ cc own nL Ts R hh mcO κ J pc npc (tq_s1 (fun x => decide (x = 0)) A B o) := by
  intro G hG p l e s m args below meth c b0 Z Q F hZ KN KJ hN hJ lv st σ b h H locs ls hP hD hS hl
  subst ht
  subst ht2
  unfold tq_s1 at h
  split at h
  · next x r =>
    refine lv_if_eq (tgt := pc + 7) F.1 F.2.1 hd (by omega) (fun hq => ?_) (fun hq => ?_)
    · have e : ((fun x => decide (x = 0)) x.2) = true := (decide_eq_true hq)
      rw [e] at h
      have k := hJ _ _ _ _ _ h H locs ls hP hD hS hl
      rw [ho] at k
      exact lv_iconst F.1 F.2.1 d3 h2 k
    · have e : ((fun x => decide (x = 0)) x.2) = false := (decide_eq_false hq)
      rw [e] at h
      have k := hJ _ _ _ _ _ h H locs ls hP hD hS hl
      rw [ho] at k
      exact lv_iconst F.1 F.2.1 d1 h1 (lv_goto (tgt := pc + 8) F.1 F.2.1 d2 (by omega) k)
  · exact h.elim
theorem ro_s1L_eq {off off2 : Int} {o : Nat} {n1 n2 : Fin 2} {A B : Int64} (hd : decode cc pc = .ok (.ifCond .eq off, 3)) (d1 : decode cc (pc + 3) = .ok (.lconst n1, 1)) (h1 : Int64.ofNat (n1 : Nat) = A) (d2 : decode cc (pc + 4) = .ok (.goto off2, 3)) (d3 : decode cc (pc + 7) = .ok (.lconst n2, 1)) (h2 : Int64.ofNat (n2 : Nat) = B) (ht : off = 7) (ht2 : off2 = 4) (ho : J o = pc + 8) : rOk φ cc own nL Ts R hh mcO κ J pc npc (tq_s1L (fun x => decide (x = 0)) A B o) := by
  intro G hG p l e s m args below meth c b0 Z Q F hZ KN KJ hN hJ lv st σ b h H locs ls hP hD hS hl
  subst ht
  subst ht2
  unfold tq_s1L at h
  split at h
  · next x r =>
    refine lv_if_eq (tgt := pc + 7) F.1 F.2.1 hd (by omega) (fun hq => ?_) (fun hq => ?_)
    · have e : ((fun x => decide (x = 0)) x.2) = true := (decide_eq_true hq)
      rw [e] at h
      have k := hJ _ _ _ _ _ h H locs ls hP hD hS hl
      rw [ho] at k
      exact lv_lconst F.1 F.2.1 d3 h2 k
    · have e : ((fun x => decide (x = 0)) x.2) = false := (decide_eq_false hq)
      rw [e] at h
      have k := hJ _ _ _ _ _ h H locs ls hP hD hS hl
      rw [ho] at k
      exact lv_lconst F.1 F.2.1 d1 h1 (lv_goto (tgt := pc + 8) F.1 F.2.1 d2 (by omega) k)
  · exact h.elim
theorem ro_s2_eq {off off2 : Int} {o : Nat} {n1 n2 : Int} {A B : Int32} (hd : decode cc pc = .ok (.if_icmp .eq off, 3)) (d1 : decode cc (pc + 3) = .ok (.iconst n1, 1)) (h1 : Int32.ofInt n1 = A) (d2 : decode cc (pc + 4) = .ok (.goto off2, 3)) (d3 : decode cc (pc + 7) = .ok (.iconst n2, 1)) (h2 : Int32.ofInt n2 = B) (ht : off = 7) (ht2 : off2 = 4) (ho : J o = pc + 8) : rOk φ cc own nL Ts R hh mcO κ J pc npc (tq_s2 (fun x y => decide (x = y)) A B o) := by
  intro G hG p l e s m args below meth c b0 Z Q F hZ KN KJ hN hJ lv st σ b h H locs ls hP hD hS hl
  subst ht
  subst ht2
  unfold tq_s2 at h
  split at h
  · next y x r =>
    refine lv_icmp_eq (tgt := pc + 7) F.1 F.2.1 hd (by omega) (fun hq => ?_) (fun hq => ?_)
    · have e : ((fun x y => decide (x = y)) x.2 y.2) = true := (decide_eq_true hq)
      rw [e] at h
      have k := hJ _ _ _ _ _ h H locs ls hP hD hS hl
      rw [ho] at k
      exact lv_iconst F.1 F.2.1 d3 h2 k
    · have e : ((fun x y => decide (x = y)) x.2 y.2) = false := (decide_eq_false hq)
      rw [e] at h
      have k := hJ _ _ _ _ _ h H locs ls hP hD hS hl
      rw [ho] at k
      exact lv_iconst F.1 F.2.1 d1 h1 (lv_goto (tgt := pc + 8) F.1 F.2.1 d2 (by omega) k)
  · exact h.elim
theorem ro_s1_ne {off off2 : Int} {o : Nat} {n1 n2 : Int} {A B : Int32} (hd : decode cc pc = .ok (.ifCond .ne off, 3)) (d1 : decode cc (pc + 3) = .ok (.iconst n1, 1)) (h1 : Int32.ofInt n1 = A) (d2 : decode cc (pc + 4) = .ok (.goto off2, 3)) (d3 : decode cc (pc + 7) = .ok (.iconst n2, 1)) (h2 : Int32.ofInt n2 = B) (ht : off = 7) (ht2 : off2 = 4) (ho : J o = pc + 8) : rOk φ cc own nL Ts R hh mcO κ J pc npc (tq_s1 (fun x => !decide (x = 0)) A B o) := by
  intro G hG p l e s m args below meth c b0 Z Q F hZ KN KJ hN hJ lv st σ b h H locs ls hP hD hS hl
  subst ht
  subst ht2
  unfold tq_s1 at h
  split at h
  · next x r =>
    refine lv_if_ne (tgt := pc + 7) F.1 F.2.1 hd (by omega) (fun hq => ?_) (fun hq => ?_)
    · have e : ((fun x => !decide (x = 0)) x.2) = true := (by simpa using hq)
      rw [e] at h
      have k := hJ _ _ _ _ _ h H locs ls hP hD hS hl
      rw [ho] at k
      exact lv_iconst F.1 F.2.1 d3 h2 k
    · have e : ((fun x => !decide (x = 0)) x.2) = false := (by simpa using hq)
      rw [e] at h
      have k := hJ _ _ _ _ _ h H locs ls hP hD hS hl
      rw [ho] at k
      exact lv_iconst F.1 F.2.1 d1 h1 (lv_goto (tgt := pc + 8) F.1 F.2.1 d2 (by omega) k)
  · exact h.elim
theorem ro_s1L_ne {off off2 : Int} {o : Nat} {n1 n2 : Fin 2} {A B : Int64} (hd : decode cc pc = .ok (.ifCond .ne off, 3)) (d1 : decode cc (pc + 3) = .ok (.lconst n1, 1)) (h1 : Int64.ofNat (n1 : Nat) = A) (d2 : decode cc (pc + 4) = .ok (.goto off2, 3)) (d3 : decode cc (pc + 7) = .ok (.lconst n2, 1)) (h2 : Int64.ofNat (n2 : Nat) = B) (ht : off = 7) (ht2 : off2 = 4) (ho : J o = pc + 8) : rOk φ cc own nL Ts R hh mcO κ J pc npc (tq_s1L (fun x => !decide (x = 0)) A B o) := by
  intro G hG p l e s m args below meth c b0 Z Q F hZ KN KJ hN hJ lv st σ b h H locs ls hP hD hS hl
  subst ht
  subst ht2
  unfold tq_s1L at h
  split at h
  · next x r =>
    refine lv_if_ne (tgt := pc + 7) F.1 F.2.1 hd (by omega) (fun hq => ?_) (fun hq => ?_)
    · have e : ((fun x => !decide (x = 0)) x.2) = true := (by simpa using hq)
      rw [e] at h
      have k := hJ _ _ _ _ _ h H locs ls hP hD hS hl
      rw [ho] at k
      exact lv_lconst F.1 F.2.1 d3 h2 k
    · have e : ((fun x => !decide (x = 0)) x.2) = false := (by simpa using hq)
      rw [e] at h
      have k := hJ _ _ _ _ _ h H locs ls hP hD hS hl
      rw [ho] at k
      exact lv_lconst F.1 F.2.1 d1 h1 (lv_goto (tgt := pc + 8) F.1 F.2.1 d2 (by omega) k)
  · exact h.elim
theorem ro_s2_ne {off off2 : Int} {o : Nat} {n1 n2 : Int} {A B : Int32} (hd : decode cc pc = .ok (.if_icmp .ne off, 3)) (d1 : decode cc (pc + 3) = .ok (.iconst n1, 1)) (h1 : Int32.ofInt n1 = A) (d2 : decode cc (pc + 4) = .ok (.goto off2, 3)) (d3 : decode cc (pc + 7) = .ok (.iconst n2, 1)) (h2 : Int32.ofInt n2 = B) (ht : off = 7) (ht2 : off2 = 4) (ho : J o = pc + 8) : rOk φ cc own nL Ts R hh mcO κ J pc npc (tq_s2 (fun x y => !decide (x = y)) A B o) := by
  intro G hG p l e s m args below meth c b0 Z Q F hZ KN KJ hN hJ lv st σ b h H locs ls hP hD hS hl
  subst ht
  subst ht2
  unfold tq_s2 at h
  split at h
  · next y x r =>
    refine lv_icmp_ne (tgt := pc + 7) F.1 F.2.1 hd (by omega) (fun hq => ?_) (fun hq => ?_)
    · have e : ((fun x y => !decide (x = y)) x.2 y.2) = true := (by simpa using hq)
      rw [e] at h
      have k := hJ _ _ _ _ _ h H locs ls hP hD hS hl
      rw [ho] at k
      exact lv_iconst F.1 F.2.1 d3 h2 k
    · have e : ((fun x y => !decide (x = y)) x.2 y.2) = false := (by simpa using hq)
      rw [e] at h
      have k := hJ _ _ _ _ _ h H locs ls hP hD hS hl
      rw [ho] at k
      exact lv_iconst F.1 F.2.1 d1 h1 (lv_goto (tgt := pc + 8) F.1 F.2.1 d2 (by omega) k)
  · exact h.elim
theorem ro_s1_lt {off off2 : Int} {o : Nat} {n1 n2 : Int} {A B : Int32} (hd : decode cc pc = .ok (.ifCond .lt off, 3)) (d1 : decode cc (pc + 3) = .ok (.iconst n1, 1)) (h1 : Int32.ofInt n1 = A) (d2 : decode cc (pc + 4) = .ok (.goto off2, 3)) (d3 : decode cc (pc + 7) = .ok (.iconst n2, 1)) (h2 : Int32.ofInt n2 = B) (ht : off = 7) (ht2 : off2 = 4) (ho : J o = pc + 8) : rOk φ cc own nL Ts R hh mcO κ J pc npc (tq_s1 (fun x => decide (x < 0)) A B o) := by
  intro G hG p l e s m args below meth c b0 Z Q F hZ KN KJ hN hJ lv st σ b h H locs ls hP hD hS hl
  subst ht
  subst ht2
  unfold tq_s1 at h
  split at h
  · next x r =>
    refine lv_if_lt (tgt := pc + 7) F.1 F.2.1 hd (by omega) (fun hq => ?_) (fun hq => ?_)
    · have e : ((fun x => decide (x < 0)) x.2) = true := (decide_eq_true hq)
      rw [e] at h
      have k := hJ _ _ _ _ _ h H locs ls hP hD hS hl
      rw [ho] at k
      exact lv_iconst F.1 F.2.1 d3 h2 k
    · have e : ((fun x => decide (x < 0)) x.2) = false := (decide_eq_false hq)
      rw [e] at h
      have k := hJ _ _ _ _ _ h H locs ls hP hD hS hl
      rw [ho] at k
      exact lv_iconst F.1 F.2.1 d1 h1 (lv_goto (tgt := pc + 8) F.1 F.2.1 d2 (by omega) k)
  · exact h.elim
theorem ro_s1L_lt {off off2 : Int} {o : Nat} {n1 n2 : Fin 2} {A B : Int64} (hd : decode cc pc = .ok (.ifCond .lt off, 3)) (d1 : decode cc (pc + 3) = .ok (.lconst n1, 1)) (h1 : Int64.ofNat (n1 : Nat) = A) (d2 : decode cc (pc + 4) = .ok (.goto off2, 3)) (d3 : decode cc (pc + 7) = .ok (.lconst n2, 1)) (h2 : Int64.ofNat (n2 : Nat) = B) (ht : off = 7) (ht2 : off2 = 4) (ho : J o = pc + 8) : rOk φ cc own nL Ts R hh mcO κ J pc npc (tq_s1L (fun x => decide (x < 0)) A B o) := by
  intro G hG p l e s m args below meth c b0 Z Q F hZ KN KJ hN hJ lv st σ b h H locs ls hP hD hS hl
  subst ht
  subst ht2
  unfold tq_s1L at h
  split at h
  · next x r =>
    refine lv_if_lt (tgt := pc + 7) F.1 F.2.1 hd (by omega) (fun hq => ?_) (fun hq => ?_)
    · have e : ((fun x => decide (x < 0)) x.2) = true := (decide_eq_true hq)
      rw [e] at h
      have k := hJ _ _ _ _ _ h H locs ls hP hD hS hl
      rw [ho] at k
      exact lv_lconst F.1 F.2.1 d3 h2 k
    · have e : ((fun x => decide (x < 0)) x.2) = false := (decide_eq_false hq)
      rw [e] at h
      have k := hJ _ _ _ _ _ h H locs ls hP hD hS hl
      rw [ho] at k
      exact lv_lconst F.1 F.2.1 d1 h1 (lv_goto (tgt := pc + 8) F.1 F.2.1 d2 (by omega) k)
  · exact h.elim
theorem ro_s2_lt {off off2 : Int} {o : Nat} {n1 n2 : Int} {A B : Int32} (hd : decode cc pc = .ok (.if_icmp .lt off, 3)) (d1 : decode cc (pc + 3) = .ok (.iconst n1, 1)) (h1 : Int32.ofInt n1 = A) (d2 : decode cc (pc + 4) = .ok (.goto off2, 3)) (d3 : decode cc (pc + 7) = .ok (.iconst n2, 1)) (h2 : Int32.ofInt n2 = B) (ht : off = 7) (ht2 : off2 = 4) (ho : J o = pc + 8) : rOk φ cc own nL Ts R hh mcO κ J pc npc (tq_s2 (fun x y => decide (x < y)) A B o) := by
  intro G hG p l e s m args below meth c b0 Z Q F hZ KN KJ hN hJ lv st σ b h H locs ls hP hD hS hl
  subst ht
  subst ht2
  unfold tq_s2 at h
  split at h
  · next y x r =>
    refine lv_icmp_lt (tgt := pc + 7) F.1 F.2.1 hd (by omega) (fun hq => ?_) (fun hq => ?_)
    · have e : ((fun x y => decide (x < y)) x.2 y.2) = true := (decide_eq_true hq)
      rw [e] at h
      have k := hJ _ _ _ _ _ h H locs ls hP hD hS hl
      rw [ho] at k
      exact lv_iconst F.1 F.2.1 d3 h2 k
    · have e : ((fun x y => decide (x < y)) x.2 y.2) = false := (decide_eq_false hq)
      rw [e] at h
      have k := hJ _ _ _ _ _ h H locs ls hP hD hS hl
      rw [ho] at k
      exact lv_iconst F.1 F.2.1 d1 h1 (lv_goto (tgt := pc + 8) F.1 F.2.1 d2 (by omega) k)
  · exact h.elim
theorem ro_s1_ge {off off2 : Int} {o : Nat} {n1 n2 : Int} {A B : Int32} (hd : decode cc pc = .ok (.ifCond .ge off, 3)) (d1 : decode cc (pc + 3) = .ok (.iconst n1, 1)) (h1 : Int32.ofInt n1 = A) (d2 : decode cc (pc + 4) = .ok (.goto off2, 3)) (d3 : decode cc (pc + 7) = .ok (.iconst n2, 1)) (h2 : Int32.ofInt n2 = B) (ht : off = 7) (ht2 : off2 = 4) (ho : J o = pc + 8) : rOk φ cc own nL Ts R hh mcO κ J pc npc (tq_s1 (fun x => decide (0 ≤ x)) A B o) := by
  intro G hG p l e s m args below meth c b0 Z Q F hZ KN KJ hN hJ lv st σ b h H locs ls hP hD hS hl
  subst ht
  subst ht2
  unfold tq_s1 at h
  split at h
  · next x r =>
    refine lv_if_ge (tgt := pc + 7) F.1 F.2.1 hd (by omega) (fun hq => ?_) (fun hq => ?_)
    · have e : ((fun x => decide (0 ≤ x)) x.2) = true := (decide_eq_true hq)
      rw [e] at h
      have k := hJ _ _ _ _ _ h H locs ls hP hD hS hl
      rw [ho] at k
      exact lv_iconst F.1 F.2.1 d3 h2 k
    · have e : ((fun x => decide (0 ≤ x)) x.2) = false := (decide_eq_false hq)
      rw [e] at h
      have k := hJ _ _ _ _ _ h H locs ls hP hD hS hl
      rw [ho] at k
      exact lv_iconst F.1 F.2.1 d1 h1 (lv_goto (tgt := pc + 8) F.1 F.2.1 d2 (by omega) k)
  · exact h.elim
theorem ro_s1L_ge {off off2 : Int} {o : Nat} {n1 n2 : Fin 2} {A B : Int64} (hd : decode cc pc = .ok (.ifCond .ge off, 3)) (d1 : decode cc (pc + 3) = .ok (.lconst n1, 1)) (h1 : Int64.ofNat (n1 : Nat) = A) (d2 : decode cc (pc + 4) = .ok (.goto off2, 3)) (d3 : decode cc (pc + 7) = .ok (.lconst n2, 1)) (h2 : Int64.ofNat (n2 : Nat) = B) (ht : off = 7) (ht2 : off2 = 4) (ho : J o = pc + 8) : rOk φ cc own nL Ts R hh mcO κ J pc npc (tq_s1L (fun x => decide (0 ≤ x)) A B o) := by
  intro G hG p l e s m args below meth c b0 Z Q F hZ KN KJ hN hJ lv st σ b h H locs ls hP hD hS hl
  subst ht
  subst ht2
  unfold tq_s1L at h
  split at h
  · next x r =>
    refine lv_if_ge (tgt := pc + 7) F.1 F.2.1 hd (by omega) (fun hq => ?_) (fun hq => ?_)
    · have e : ((fun x => decide (0 ≤ x)) x.2) = true := (decide_eq_true hq)
      rw [e] at h
      have k := hJ _ _ _ _ _ h H locs ls hP hD hS hl
      rw [ho] at k
      exact lv_lconst F.1 F.2.1 d3 h2 k
    · have e : ((fun x => decide (0 ≤ x)) x.2) = false := (decide_eq_false hq)
      rw [e] at h
      have k := hJ _ _ _ _ _ h H locs ls hP hD hS hl
      rw [ho] at k
      exact lv_lconst F.1 F.2.1 d1 h1 (lv_goto (tgt := pc + 8) F.1 F.2.1 d2 (by omega) k)
  · exact h.elim
theorem ro_s2_ge {off off2 : Int} {o : Nat} {n1 n2 : Int} {A B : Int32} (hd : decode cc pc = .ok (.if_icmp .ge off, 3)) (d1 : decode cc (pc + 3) = .ok (.iconst n1, 1)) (h1 : Int32.ofInt n1 = A) (d2 : decode cc (pc + 4) = .ok (.goto off2, 3)) (d3 : decode cc (pc + 7) = .ok (.iconst n2, 1)) (h2 : Int32.ofInt n2 = B) (ht : off = 7) (ht2 : off2 = 4) (ho : J o = pc + 8) : rOk φ cc own nL Ts R hh mcO κ J pc npc (tq_s2 (fun x y => decide (y ≤ x)) A B o) := by
  intro G hG p l e s m args below meth c b0 Z Q F hZ KN KJ hN hJ lv st σ b h H locs ls hP hD hS hl
  subst ht
  subst ht2
  unfold tq_s2 at h
  split at h
  · next y x r =>
    refine lv_icmp_ge (tgt := pc + 7) F.1 F.2.1 hd (by omega) (fun hq => ?_) (fun hq => ?_)
    · have e : ((fun x y => decide (y ≤ x)) x.2 y.2) = true := (decide_eq_true hq)
      rw [e] at h
      have k := hJ _ _ _ _ _ h H locs ls hP hD hS hl
      rw [ho] at k
      exact lv_iconst F.1 F.2.1 d3 h2 k
    · have e : ((fun x y => decide (y ≤ x)) x.2 y.2) = false := (decide_eq_false hq)
      rw [e] at h
      have k := hJ _ _ _ _ _ h H locs ls hP hD hS hl
      rw [ho] at k
      exact lv_iconst F.1 F.2.1 d1 h1 (lv_goto (tgt := pc + 8) F.1 F.2.1 d2 (by omega) k)
  · exact h.elim
theorem ro_s1_gt {off off2 : Int} {o : Nat} {n1 n2 : Int} {A B : Int32} (hd : decode cc pc = .ok (.ifCond .gt off, 3)) (d1 : decode cc (pc + 3) = .ok (.iconst n1, 1)) (h1 : Int32.ofInt n1 = A) (d2 : decode cc (pc + 4) = .ok (.goto off2, 3)) (d3 : decode cc (pc + 7) = .ok (.iconst n2, 1)) (h2 : Int32.ofInt n2 = B) (ht : off = 7) (ht2 : off2 = 4) (ho : J o = pc + 8) : rOk φ cc own nL Ts R hh mcO κ J pc npc (tq_s1 (fun x => decide (0 < x)) A B o) := by
  intro G hG p l e s m args below meth c b0 Z Q F hZ KN KJ hN hJ lv st σ b h H locs ls hP hD hS hl
  subst ht
  subst ht2
  unfold tq_s1 at h
  split at h
  · next x r =>
    refine lv_if_gt (tgt := pc + 7) F.1 F.2.1 hd (by omega) (fun hq => ?_) (fun hq => ?_)
    · have e : ((fun x => decide (0 < x)) x.2) = true := (decide_eq_true hq)
      rw [e] at h
      have k := hJ _ _ _ _ _ h H locs ls hP hD hS hl
      rw [ho] at k
      exact lv_iconst F.1 F.2.1 d3 h2 k
    · have e : ((fun x => decide (0 < x)) x.2) = false := (decide_eq_false hq)
      rw [e] at h
      have k := hJ _ _ _ _ _ h H locs ls hP hD hS hl
      rw [ho] at k
      exact lv_iconst F.1 F.2.1 d1 h1 (lv_goto (tgt := pc + 8) F.1 F.2.1 d2 (by omega) k)
  · exact h.elim
theorem ro_s1L_gt {off off2 : Int} {o : Nat} {n1 n2 : Fin 2} {A B : Int64} (hd : decode cc pc = .ok (.ifCond .gt off, 3)) (d1 : decode cc (pc + 3) = .ok (.lconst n1, 1)) (h1 : Int64.ofNat (n1 : Nat) = A) (d2 : decode cc (pc + 4) = .ok (.goto off2, 3)) (d3 : decode cc (pc + 7) = .ok (.lconst n2, 1)) (h2 : Int64.ofNat (n2 : Nat) = B) (ht : off = 7) (ht2 : off2 = 4) (ho : J o = pc + 8) : rOk φ cc own nL Ts R hh mcO κ J pc npc (tq_s1L (fun x => decide (0 < x)) A B o) := by
  intro G hG p l e s m args below meth c b0 Z Q F hZ KN KJ hN hJ lv st σ b h H locs ls hP hD hS hl
  subst ht
  subst ht2
  unfold tq_s1L at h
  split at h
  · next x r =>
    refine lv_if_gt (tgt := pc + 7) F.1 F.2.1 hd (by omega) (fun hq => ?_) (fun hq => ?_)
    · have e : ((fun x => decide (0 < x)) x.2) = true := (decide_eq_true hq)
      rw [e] at h
      have k := hJ _ _ _ _ _ h H locs ls hP hD hS hl
      rw [ho] at k
      exact lv_lconst F.1 F.2.1 d3 h2 k
    · have e : ((fun x => decide (0 < x)) x.2) = false := (decide_eq_false hq)
      rw [e] at h
      have k := hJ _ _ _ _ _ h H locs ls hP hD hS hl
      rw [ho] at k
      exact lv_lconst F.1 F.2.1 d1 h1 (lv_goto (tgt := pc + 8) F.1 F.2.1 d2 (by omega) k)
  · exact h.elim
theorem ro_s2_gt {off off2 : Int} {o : Nat} {n1 n2 : Int} {A B : Int32} (hd : decode cc pc = .ok (.if_icmp .gt off, 3)) (d1 : decode cc (pc + 3) = .ok (.iconst n1, 1)) (h1 : Int32.ofInt n1 = A) (d2 : decode cc (pc + 4) = .ok (.goto off2, 3)) (d3 : decode cc (pc + 7) = .ok (.iconst n2, 1)) (h2 : Int32.ofInt n2 = B) (ht : off = 7) (ht2 : off2 = 4) (ho : J o = pc + 8) : rOk φ cc own nL Ts R hh mcO κ J pc npc (tq_s2 (fun x y => decide (y < x)) A B o) := by
  intro G hG p l e s m args below meth c b0 Z Q F hZ KN KJ hN hJ lv st σ b h H locs ls hP hD hS hl
  subst ht
  subst ht2
  unfold tq_s2 at h
  split at h
  · next y x r =>
    refine lv_icmp_gt (tgt := pc + 7) F.1 F.2.1 hd (by omega) (fun hq => ?_) (fun hq => ?_)
    · have e : ((fun x y => decide (y < x)) x.2 y.2) = true := (decide_eq_true hq)
      rw [e] at h
      have k := hJ _ _ _ _ _ h H locs ls hP hD hS hl
      rw [ho] at k
      exact lv_iconst F.1 F.2.1 d3 h2 k
    · have e : ((fun x y => decide (y < x)) x.2 y.2) = false := (decide_eq_false hq)
      rw [e] at h
      have k := hJ _ _ _ _ _ h H locs ls hP hD hS hl
      rw [ho] at k
      exact lv_iconst F.1 F.2.1 d1 h1 (lv_goto (tgt := pc + 8) F.1 F.2.1 d2 (by omega) k)
  · exact h.elim
theorem ro_s1_le {off off2 : Int} {o : Nat} {n1 n2 : Int} {A B : Int32} (hd : decode cc pc = .ok (.ifCond .le off, 3)) (d1 : decode cc (pc + 3) = .ok (.iconst n1, 1)) (h1 : Int32.ofInt n1 = A) (d2 : decode cc (pc + 4) = .ok (.goto off2, 3)) (d3 : decode cc (pc + 7) = .ok (.iconst n2, 1)) (h2 : Int32.ofInt n2 = B) (ht : off = 7) (ht2 : off2 = 4) (ho : J o = pc + 8) : rOk φ cc own nL Ts R hh mcO κ J pc npc (tq_s1 (fun x => decide (x ≤ 0)) A B o) := by
  intro G hG p l e s m args below meth c b0 Z Q F hZ KN KJ hN hJ lv st σ b h H locs ls hP hD hS hl
  subst ht
  subst ht2
  unfold tq_s1 at h
  split at h
  · next x r =>
    refine lv_if_le (tgt := pc + 7) F.1 F.2.1 hd (by omega) (fun hq => ?_) (fun hq => ?_)
    · have e : ((fun x => decide (x ≤ 0)) x.2) = true := (decide_eq_true hq)
      rw [e] at h
      have k := hJ _ _ _ _ _ h H locs ls hP hD hS hl
      rw [ho] at k
      exact lv_iconst F.1 F.2.1 d3 h2 k
    · have e : ((fun x => decide (x ≤ 0)) x.2) = false := (decide_eq_false hq)
      rw [e] at h
      have k := hJ _ _ _ _ _ h H locs ls hP hD hS hl
      rw [ho] at k
      exact lv_iconst F.1 F.2.1 d1 h1 (lv_goto (tgt := pc + 8) F.1 F.2.1 d2 (by omega) k)
  · exact h.elim
theorem ro_s1L_le {off off2 : Int} {o : Nat} {n1 n2 : Fin 2} {A B : Int64} (hd : decode cc pc = .ok (.ifCond .le off, 3)) (d1 : decode cc (pc + 3) = .ok (.lconst n1, 1)) (h1 : Int64.ofNat (n1 : Nat) = A) (d2 : decode cc (pc + 4) = .ok (.goto off2, 3)) (d3 : decode cc (pc + 7) = .ok (.lconst n2, 1)) (h2 : Int64.ofNat (n2 : Nat) = B) (ht : off = 7) (ht2 : off2 = 4) (ho : J o = pc + 8) : rOk φ cc own nL Ts R hh mcO κ J pc npc (tq_s1L (fun x => decide (x ≤ 0)) A B o) := by
  intro G hG p l e s m args below meth c b0 Z Q F hZ KN KJ hN hJ lv st σ b h H locs ls hP hD hS hl
  subst ht
  subst ht2
  unfold tq_s1L at h
  split at h
  · next x r =>
    refine lv_if_le (tgt := pc + 7) F.1 F.2.1 hd (by omega) (fun hq => ?_) (fun hq => ?_)
    · have e : ((fun x => decide (x ≤ 0)) x.2) = true := (decide_eq_true hq)
      rw [e] at h
      have k := hJ _ _ _ _ _ h H locs ls hP hD hS hl
      rw [ho] at k
      exact lv_lconst F.1 F.2.1 d3 h2 k
    · have e : ((fun x => decide (x ≤ 0)) x.2) = false := (decide_eq_false hq)
      rw [e] at h
      have k := hJ _ _ _ _ _ h H locs ls hP hD hS hl
      rw [ho] at k
      exact lv_lconst F.1 F.2.1 d1 h1 (lv_goto (tgt := pc + 8) F.1 F.2.1 d2 (by omega) k)
  · exact h.elim
theorem ro_s2_le {off off2 : Int} {o : Nat} {n1 n2 : Int} {A B : Int32} (hd : decode cc pc = .ok (.if_icmp .le off, 3)) (d1 : decode cc (pc + 3) = .ok (.iconst n1, 1)) (h1 : Int32.ofInt n1 = A) (d2 : decode cc (pc + 4) = .ok (.goto off2, 3)) (d3 : decode cc (pc + 7) = .ok (.iconst n2, 1)) (h2 : Int32.ofInt n2 = B) (ht : off = 7) (ht2 : off2 = 4) (ho : J o = pc + 8) : rOk φ cc own nL Ts R hh mcO κ J pc npc (tq_s2 (fun x y => decide (x ≤ y)) A B o) := by
  intro G hG p l e s m args below meth c b0 Z Q F hZ KN KJ hN hJ lv st σ b h H locs ls hP hD hS hl
  subst ht
  subst ht2
  unfold tq_s2 at h
  split at h
  · next y x r =>
    refine lv_icmp_le (tgt := pc + 7) F.1 F.2.1 hd (by omega) (fun hq => ?_) (fun hq => ?_)
    · have e : ((fun x y => decide (x ≤ y)) x.2 y.2) = true := (decide_eq_true hq)
      rw [e] at h
      have k := hJ _ _ _ _ _ h H locs ls hP hD hS hl
      rw [ho] at k
      exact lv_iconst F.1 F.2.1 d3 h2 k
    · have e : ((fun x y => decide (x ≤ y)) x.2 y.2) = false := (decide_eq_false hq)
      rw [e] at h
      have k := hJ _ _ _ _ _ h H locs ls hP hD hS hl
      rw [ho] at k
      exact lv_iconst F.1 F.2.1 d1 h1 (lv_goto (tgt := pc + 8) F.1 F.2.1 d2 (by omega) k)
  · exact h.elim
end RKX
section RKL2
/-! 'if (x != y) n += k' without a fork. -/
def tq_ni (nL i : Nat) (n : Int) (o : Nat) : RT := fun _ _ J lv st σ b => match st with
  | .inl y :: .inl x :: r => match rlook lv i with
    | some (.inl q) => match Nat.blt i nL with
      | true => rforce (rst1 lv i (rI false (bif decide (x.2 = y.2) then q.2 else q.2 + Int32.ofInt n))) (fun lv' => J o lv' r σ b)
      | false => False
    | _ => False
  | _ => False
variable {φ : RG → Prop} {cc : ByteArray} {own : String} {nL : Nat} {Ts : List Cond} {R : Room} {hh : List (Nat × Nat × Nat × Nat)} {mcO : Nat} {κ : Option FieldType ⊕ (Nat × Int32)} {J : Nat → Nat} {pc npc : Nat}
theorem ro_ni {i o : Nat} {n off : Int} (hd : decode cc pc = .ok (.if_icmp .eq off, 3)) (d1 : decode cc (pc + 3) = .ok (.iinc i n, 3)) (hoff : off = 6) (ho : J o = pc + 6) : rOk φ cc own nL Ts R hh mcO κ J pc npc (tq_ni nL i n o) := by
  intro G hG p l e s m args below meth c b0 Z Q F hZ KN KJ hN hJ lv st σ b h H locs ls hP hD hS hl
  subst hoff
  unfold tq_ni at h
  split at h
  · next y x r =>
    split at h
    · next q hq =>
      split at h
      · next hb =>
        rw [rforce_eq] at h
        obtain ⟨k, hk⟩ := rlook_ix (ad := rAd G) hq
        refine lv_icmp_eq (tgt := pc + 6) F.1 F.2.1 hd (by omega) (fun he => ?_) (fun he => ?_)
        · rw [decide_eq_true he] at h
          have hl2 : lv_has ls nL (rl (rAd G) (rst1 lv i (rI false q.2))) := by
            rw [← rst1_eq]
            refine ⟨hl.1, hl.2.1, fun z hz => ?_⟩
            rcases List.mem_cons.mp hz with e9 | hz
            · rw [e9]
              exact rlook_at hl hq
            · exact hl.2.2 z (List.mem_filter.mp hz).1
          have k9 := hJ _ _ _ _ _ h H locs ls hP hD hS hl2
          rw [ho] at k9
          exact k9
        · rw [decide_eq_false he] at h
          refine lv_iinc F.1 F.2.1 d1 hl hk rfl (Nat.le_of_ble_eq_true hb) (rst1_eq (rAd G) lv i (rI false (q.2 + Int32.ofInt n))) (fun ls' hl' => ?_)
          have k9 := hJ _ _ _ _ _ h H locs ls' hP hD hS hl'
          rw [ho] at k9
          exact k9
      · exact h.elim
    · exact h.elim
  · exact h.elim
end RKL2
