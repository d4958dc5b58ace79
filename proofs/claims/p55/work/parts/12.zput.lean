section RKPO
/-- a reference is stored, and it is forgotten which -/
def tq_putfO (ci k : Nat) : RT := fun _ K _ lv st σ b => match st with
  | .inr (.inr _) :: .inr (.inr (.inl i)) :: r => match rat σ i with
    | some (.inl o) => match Nat.beq o.1 ci && Nat.blt k o.2.length with
      | true => ∀ z : Option Nat, rforce (rset o.2 k (rO z)) (fun fs => rforce (rset σ i (.inl (o.1, fs))) (fun σ' => K lv r σ' b))
      | false => False
    | _ => False
  | _ => False
variable {φ : RG → Prop} {cc : ByteArray} {own : String} {nL : Nat} {Ts : List Cond} {R : Room} {hh : List (Nat × Nat × Nat × Nat)} {mcO : Nat} {κ : Option FieldType ⊕ (Nat × Int32)} {J : Nat → Nat} {pc npc : Nat}
theorem rS_congr {G : RG} {p : Program} {l : Launch} {e : Env} {s : State} {m : MethodId} {args : Array Value} {below : List Frame} {meth : Method} {c : Code} {b0 : Nat} {Z : State → Prop} {lv : RLv} {st : List AV} {σ σ' : List RC} {b : Nat} (h : rW (rAd G) (rTy G) 0 σ = rW (rAd G) (rTy G) 0 σ') (k : rS G p l e R s m args below meth c nL b0 Z pc lv st σ' b) : rS G p l e R s m args below meth c nL b0 Z pc lv st σ b := by
  intro H locs ls hP hD
  rw [h] at hP hD
  exact k H locs ls hP hD
theorem ro_putfO {ci k : Nat} (h0 : rOk φ cc own nL Ts R hh mcO κ J pc npc (tq_putf ci k 2)) : rOk φ cc own nL Ts R hh mcO κ J pc npc (tq_putfO ci k) := by
  intro G hG p l e s m args below meth c b0 Z Q F hZ KN KJ hN hJ lv st σ b h
  refine h0 G hG p l e s m args below meth c b0 Z Q F hZ (fun lv st σ b => rS G p l e R s m args below meth c nL b0 Z npc lv st σ b) (fun o lv st σ b => rS G p l e R s m args below meth c nL b0 Z (J o) lv st σ b) (fun _ _ _ _ h => h) (fun _ _ _ _ _ h => h) lv st σ b ?_
  unfold tq_putfO at h
  split at h
  · next v i r =>
    split at h
    · next o ho =>
      split at h
      · next hb =>
        rw [Bool.and_eq_true] at hb
        have hz : ∃ z : Option Nat, rv (rAd G) (rO z) = rv (rAd G) (.inr (.inr v)) := by
          rcases v with j | z
          · exact ⟨some (rAd G j), rfl⟩
          · exact ⟨z, rfl⟩
        obtain ⟨z, hz⟩ := hz
        have h := h z
        rw [rforce_eq, rforce_eq] at h
        have k9 := hN _ _ _ _ h
        have e : (Nat.beq o.1 ci && (rkind 2 (.inr (.inr v)) && Nat.blt k o.2.length)) = true := by
          rw [hb.1, hb.2]
          rfl
        unfold tq_putf
        simp only [ho, e]
        rw [rforce_eq, rforce_eq]
        refine rS_congr ?_ k9
        have hi := rat_lt ho
        rw [rW_set σ 0 i _ hi, rW_set σ 0 i _ hi]
        have e2 : rE (rAd G) (rTy G) (.inl (o.1, rset o.2 k (.inr (.inr v)))) = rE (rAd G) (rTy G) (.inl (o.1, rset o.2 k (rO z))) := by
          show (Sum.inr (o.1, (rset o.2 k (.inr (.inr v))).map (rv (rAd G))) : va_E) = Sum.inr (o.1, (rset o.2 k (rO z)).map (rv (rAd G)))
          rw [rset_eq, rset_eq, List.map_set, List.map_set, hz]
        rw [e2]
      · exact h.elim
    · exact h.elim
  · exact h.elim
end RKPO
