section RKL
/-! The law's own rows: the script's numbers by name, 'c ? 1 : 0' with its outcome told, the loop's end. -/
def tq_isc (L : Nat) (xs : Nat → Int32) (g : Bool) (v : Int32) : RT := fun _ K _ lv st σ b => match st with
  | .inl j :: .inr (.inr (.inl i)) :: r => match Nat.beq i 60 with
    | true => (vp_in j.2 L ∧ xs j.2.toNatClampNeg = v) ∧ K lv (rI g v :: r) σ b
    | false => False
  | _ => False
def tq_stop (i : Int32) : RT := fun Q _ _ lv st σ b => match st with
  | [] => rLw lv i ∧ Q (.inr b) σ
  | _ => False
def tq_sv (f : Int32 → Bool) (bb : Bool) (A B : Int32) (o : Nat) : RT := fun _ _ J lv st σ b => match st with
  | .inl x :: r => f x.2 = bb ∧ J o lv (rI true (bif bb then B else A) :: r) σ b
  | _ => False
def tq_pop2 : RT := fun _ K _ lv st σ b => match st with
  | .inr (.inl _) :: r => K lv r σ b
  | _ => False
variable {φ : RG → Prop} {cc : ByteArray} {own : String} {nL : Nat} {Ts : List Cond} {R : Room} {hh : List (Nat × Nat × Nat × Nat)} {mcO : Nat} {κ : Option FieldType ⊕ (Nat × Int32)} {J : Nat → Nat} {pc npc : Nat}
theorem ro_pop2 (hd : decode cc pc = .ok (.pop2, 1)) (hn : npc = pc + 1) : rOk φ cc own nL Ts R hh mcO κ J pc npc tq_pop2 := by
  intro G hG p l e s m args below meth c b0 Z Q F hZ KN KJ hN hJ lv st σ b h H locs ls hP hD hS hl
  subst hn
  unfold tq_pop2 at h
  split at h
  · next q r => exact lv_pop2_2 F.1 F.2.1 hd rfl (hN _ _ _ _ h H locs ls hP hD hS hl)
  · exact h.elim
/-- two numbers compared that must be the same -/
def tq_lcmpE : RT := fun _ K _ lv st σ b => match st with
  | .inr (.inl y) :: .inr (.inl x) :: r => x.2 = y.2 ∧ K lv (rI true 0 :: r) σ b
  | _ => False
theorem lg_cmp_same (x : Int64) : lg_cmp x x = 0 := by
  unfold lg_cmp
  simp
theorem ro_lcmpE (hd : decode cc pc = .ok (.lcmp, 1)) (hn : npc = pc + 1) : rOk φ cc own nL Ts R hh mcO κ J pc npc tq_lcmpE := by
  intro G hG p l e s m args below meth c b0 Z Q F hZ KN KJ hN hJ lv st σ b h
  refine ro_lcmp hd hn G hG p l e s m args below meth c b0 Z Q F hZ (fun lv st σ b => rS G p l e R s m args below meth c nL b0 Z npc lv st σ b) (fun o lv st σ b => rS G p l e R s m args below meth c nL b0 Z (J o) lv st σ b) (fun _ _ _ _ h => h) (fun _ _ _ _ _ h => h) lv st σ b ?_
  unfold tq_lcmpE at h
  split at h
  · next y x r =>
    obtain ⟨h1, h2⟩ := h
    have h3 := hN _ _ _ _ h2
    unfold tq_lcmp
    dsimp only
    rw [h1, lg_cmp_same]
    exact h3
  · exact h.elim
theorem ro_getfN {ci k idx N : Nat} {C host : String} {T : u_T} (hd : decode cc pc = .ok (.getfield idx, 3)) (hc : rCl[ci]? = some (C, T, N)) (hin : ∀ w ∈ u_ws C T N, w ∈ Ts) (hk : k < N) (hlink : ∀ (G : RG) (s : State), rIm G s s.heap → va_Nw (.fieldLinkNest own idx (T k).1 (T k).2.1 (T k).2.2.1 host) s) (hn : npc = pc + 3) : rOk φ cc own nL Ts R hh mcO κ J pc npc (tq_getf ci k) := by
  intro G hG p l e s m args below meth c b0 Z Q F hZ KN KJ hN hJ lv st σ b h H locs ls hP hD hS hl
  subst hn
  unfold tq_getf at h
  split at h
  · next i r =>
    split at h
    · next o ho =>
      split at h
      · next hb =>
        split at h
        · next v hv =>
          have e : o.1 = ci := Nat.eq_of_beq_eq_true hb
          subst e
          exact va_getN F.1 F.2.1 F.2.2.2.2.1 hin F.2.2.2.1 F.2.2.2.2.2.1 hP i (rget_at G ho) hc k hk (va_Nw.use rfl (hlink G s F.2.2.2.2.2.2.1)) (fun _ h9 => h9) (v := rv (rAd G) v) (by rw [rat_eq] at hv; rw [List.getElem?_map, hv]; rfl) hd (hN _ _ _ _ h H locs ls hP hD hS hl)
        · exact h.elim
      · exact h.elim
    · exact h.elim
  · exact h.elim
theorem ro_isc {L : Nat} {xs : Nat → Int32} {g : Bool} {v : Int32} (hφ : ∀ G : RG, φ G → rSc G = (L, xs)) (hd : decode cc pc = .ok (.iaload, 1)) (hn : npc = pc + 1) : rOk φ cc own nL Ts R hh mcO κ J pc npc (tq_isc L xs g v) := by
  intro G hG p l e s m args below meth c b0 Z Q F hZ KN KJ hN hJ lv st σ b h H locs ls hP hD hS hl
  subst hn
  unfold tq_isc at h
  split at h
  · next j i r =>
    split at h
    · next hb =>
      have e : i = 60 := Nat.eq_of_beq_eq_true hb
      subst e
      obtain ⟨⟨hi, hv⟩, h⟩ := h
      obtain ⟨-, -, -, -, -, -, -, -, -, -, -, -, -, -, -, -, -, h18⟩ := F.2.2.2.2.2.2.1
      rw [hφ G hG] at h18
      exact va_ti F.1 F.2.1 h18 hS hi (by show Value.int (xs j.2.toNatClampNeg) = Value.int v; rw [hv]) hd (hN _ _ _ _ h H locs ls hP hD hS hl)
    · exact h.elim
  · exact h.elim
theorem ro_stop {i : Int32} : rOk φ cc own nL Ts R hh mcO (.inr (pc, i)) J pc npc (tq_stop i) := by
  intro G hG p l e s m args below meth c b0 Z Q F hZ KN KJ hN hJ lv st σ b h H locs ls hP hD hS hl
  unfold tq_stop at h
  split at h
  · exact hZ lv σ b h.1 h.2 H locs ls hP hD hS hl
  · exact h.elim
theorem ro_sv {f : Int32 → Bool} {bb : Bool} {A B : Int32} {o : Nat} (h0 : rOk φ cc own nL Ts R hh mcO κ J pc npc (tq_s1 f A B o)) : rOk φ cc own nL Ts R hh mcO κ J pc npc (tq_sv f bb A B o) := by
  intro G hG p l e s m args below meth c b0 Z Q F hZ KN KJ hN hJ lv st σ b h
  refine h0 G hG p l e s m args below meth c b0 Z Q F hZ (fun lv st σ b => rS G p l e R s m args below meth c nL b0 Z npc lv st σ b) (fun o lv st σ b => rS G p l e R s m args below meth c nL b0 Z (J o) lv st σ b) (fun _ _ _ _ h => h) (fun _ _ _ _ _ h => h) lv st σ b ?_
  unfold tq_sv at h
  split at h
  · next x r =>
    obtain ⟨h1, h2⟩ := h
    have h3 := hJ _ _ _ _ _ h2
    subst h1
    exact h3
  · exact h.elim
end RKL
section RKT2
abbrev rTL : List Cond := Cond.initialized "RingdaysLaw" :: rT
end RKT2
