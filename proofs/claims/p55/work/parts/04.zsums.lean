section RKP
/-! Plain facts: numbers. -/
def rd (f c : Bool) (K : Prop) : Prop := match f with
  | true => match c with
    | true => K
    | false => False
  | false => c = true ∧ K
theorem rd_use {f c : Bool} {K : Prop} (h : rd f c K) : c = true ∧ K := by
  cases f
  · exact h
  · cases c
    · exact h.elim
    · exact ⟨rfl, h⟩
theorem rd_mk {f c : Bool} {K : Prop} (hc : c = true) (h : K) : rd f c K := by
  subst hc
  cases f
  · exact ⟨rfl, h⟩
  · exact h
/-- an answer of another method that does no more -/
theorem rMet_sum {y : MethodName} {ws : List Cond} {rm : Room} {mc : Nat} {M M' : RM} (h : rMet y ws rm mc M)
    (hm : ∀ as σ Q, M' as σ Q → ∃ (as' : List AV) (Q' : RQ), (∀ ad : Nat → Nat, as'.map (rv ad) = as.map (rv ad)) ∧ M as' σ Q' ∧ (∀ (r : Option AV) (σ' : List RC), Q' (.inl r) σ' → ∃ r2 : Option AV, (∀ ad : Nat → Nat, r2.map (rv ad) = r.map (rv ad)) ∧ Q (.inl r2) σ') ∧ (∀ (k : Nat) (σ' : List RC), Q' (.inr k) σ' → Q (.inr k) σ')) : rMet y ws rm mc M' := by
  intro G l hl as σ Q hq
  obtain ⟨as', Q', h1, h2, h3, h4⟩ := hm as σ Q hq
  have hM := h G l hl as' σ Q' h2
  intro p e ha hc hk s m args below hf happ hP hK
  have hP' : rPc G as' σ args s := ⟨by rw [h1]; exact hP.1, hP.2⟩
  obtain ⟨n, o, g1, g2, g3, g4⟩ := hM p e ha hc hk s m args below hf happ hP' hK
  refine ⟨n, o, g1, g2, g3, ?_⟩
  rcases g4 with ⟨⟨r, σ', e1, e2, e3⟩, g5⟩ | ⟨q, e1, E, ce, L, ⟨k, σ', e2, e3, e4⟩, g6⟩
  · obtain ⟨r2, f1, f2⟩ := h3 r σ' e2
    exact Or.inl ⟨⟨r2, σ', by rw [f1]; exact e1, f2, e3⟩, g5⟩
  · exact Or.inr ⟨q, e1, E, ce, L, ⟨k, σ', e2, h4 k σ' e3, e4⟩, g6⟩
/-- .. of an answer v, the world as it was -/
theorem rMet_val {y : MethodName} {ws : List Cond} {rm : Room} {mc : Nat} {M M' : RM} (h : rMet y ws rm mc M)
    (hm : ∀ as σ Q, M' as σ Q → ∃ (as' : List AV) (r r2 : Option AV), (∀ ad : Nat → Nat, as'.map (rv ad) = as.map (rv ad)) ∧ M as' σ (fun z σ' => z = .inl r ∧ σ' = σ) ∧ (∀ ad : Nat → Nat, r2.map (rv ad) = r.map (rv ad)) ∧ Q (.inl r2) σ) : rMet y ws rm mc M' := by
  refine rMet_sum h (fun as σ Q hq => ?_)
  obtain ⟨as', r, r2, h1, h2, h3, h4⟩ := hm as σ Q hq
  refine ⟨as', _, h1, h2, fun r' σ' hr => ?_, fun k σ' hr => ?_⟩
  · obtain ⟨e1, e2⟩ := hr
    cases e1
    subst e2
    exact ⟨r2, h3, h4⟩
  · cases hr.1
/-- .. of a number, its mark aside -/
theorem rMet_int {y : MethodName} {ws : List Cond} {rm : Room} {mc : Nat} {M M' : RM} (h : rMet y ws rm mc M)
    (hm : ∀ as σ Q, M' as σ Q → ∃ (as' : List AV) (v : Int32) (g : Bool), (∀ ad : Nat → Nat, as'.map (rv ad) = as.map (rv ad)) ∧ M as' σ (fun z σ' => (∃ f : Bool, z = .inl (some (rI f v))) ∧ σ' = σ) ∧ Q (.inl (some (rI g v))) σ) : rMet y ws rm mc M' := by
  refine rMet_sum h (fun as σ Q hq => ?_)
  obtain ⟨as', v, g, h1, h2, h3⟩ := hm as σ Q hq
  refine ⟨as', _, h1, h2, fun r' σ' hr => ?_, fun k σ' hr => ?_⟩
  · obtain ⟨⟨f, e1⟩, e2⟩ := hr
    cases e1
    subst e2
    exact ⟨some (rI g v), fun _ => rfl, h3⟩
  · obtain ⟨⟨f, e1⟩, e2⟩ := hr
    cases e1
/-- .. whatever it answers, as long as it keeps P -/
theorem rMet_any {y : MethodName} {ws : List Cond} {rm : Room} {mc : Nat} {M M' : RM} (h : rMet y ws rm mc M)
    (hm : ∀ as σ Q, M' as σ Q → ∃ (as' : List AV) (P : AV → Prop), (∀ ad : Nat → Nat, as'.map (rv ad) = as.map (rv ad)) ∧ M as' σ (fun z σ' => (∃ v, z = .inl (some v) ∧ P v) ∧ σ' = σ) ∧ (∀ v, P v → ∃ v2, (∀ ad : Nat → Nat, rv ad v2 = rv ad v) ∧ Q (.inl (some v2)) σ)) : rMet y ws rm mc M' := by
  refine rMet_sum h (fun as σ Q hq => ?_)
  obtain ⟨as', P, h1, h2, h3⟩ := hm as σ Q hq
  refine ⟨as', _, h1, h2, fun r' σ' hr => ?_, fun k σ' hr => ?_⟩
  · obtain ⟨⟨v, e1, e3⟩, e2⟩ := hr
    cases e1
    subst e2
    obtain ⟨v2, f1, f2⟩ := h3 v e3
    exact ⟨some v2, fun ad => by rw [Option.map_some, Option.map_some, f1], f2⟩
  · obtain ⟨⟨v, e1, e3⟩, e2⟩ := hr
    cases e1
def restF (a : Int64) (r : Int32) : Int32 := Int32.ofInt (a.toInt % r.toInt)
def opF (n : Int32) (a : Int64) (r : Int32) : Int32 := Int32.ofInt ((n.toInt - 1 + a.toInt) % r.toInt + 1)
def opB (n : Int32) (a : Int64) (r : Int32) : Int32 := Int32.ofInt ((n.toInt - 1 - a.toInt) % r.toInt + 1)
def lenF (n b : Int32) : Int32 := bif decide (n = 2) then (bif decide (b = 0) then 28 else 29) else bif (decide (n = 4) || decide (n = 6)) || (decide (n = 9) || decide (n = 11)) then 30 else 31
def dM (n : Int32) : Bool := decide (1 ≤ n) && decide (n ≤ 12)
def dB (n : Int32) : Bool := decide (n = 0) || decide (n = 1)
def dR (n : Int32) : Bool := decide (n = 7) || decide (n = 12)
def dR3 (n : Int32) : Bool := decide (n = 3) || (decide (n = 7) || decide (n = 12))
theorem dM_nat {n : Int32} (h : dM n = true) : ∃ k : Nat, 1 ≤ k ∧ k ≤ 12 ∧ n = nI k := by
  simp only [dM, Bool.and_eq_true, decide_eq_true_eq, Int32.le_iff_toInt_le] at h
  obtain ⟨h1, h2⟩ := h
  have h1 : (1 : Int) ≤ n.toInt := h1
  have h2 : n.toInt ≤ 12 := h2
  refine ⟨n.toInt.toNat, by omega, by omega, ?_⟩
  apply Int32.toInt_inj.mp
  rw [nI_toInt (by omega)]
  omega
theorem dM_int {n : Int32} (h : dM n = true) : 1 ≤ n.toInt ∧ n.toInt ≤ 12 := by
  simp only [dM, Bool.and_eq_true, decide_eq_true_eq, Int32.le_iff_toInt_le] at h
  exact h
theorem dR_int {n : Int32} (h : dR n = true) : n.toInt = 7 ∨ n.toInt = 12 := by
  simp only [dR, Bool.or_eq_true, decide_eq_true_eq] at h
  rcases h with h | h <;> rw [h]
  · exact Or.inl rfl
  · exact Or.inr rfl
theorem dR3_int {n : Int32} (h : dR3 n = true) : n.toInt = 3 ∨ n.toInt = 7 ∨ n.toInt = 12 := by
  simp only [dR3, Bool.or_eq_true, decide_eq_true_eq] at h
  rcases h with h | h | h <;> rw [h]
  · exact Or.inl rfl
  · exact Or.inr (Or.inl rfl)
  · exact Or.inr (Or.inr rfl)
theorem ofI_toInt {z : Int} (h1 : -2147483648 ≤ z) (h2 : z < 2147483648) : (Int32.ofInt z).toInt = z := by
  rw [Int32.toInt_ofInt]
  exact Int.bmod_eq_of_le_mul_two (by show -(4294967296 : Int) ≤ z * 2; omega) (by show z * 2 < (4294967296 : Int); omega)
theorem restF_toInt {a : Int64} {r : Int32} (h : dR3 r = true) : (restF a r).toInt = a.toInt % r.toInt := by
  have h1 := dR3_int h
  have h2 := Int.emod_nonneg a.toInt (show r.toInt ≠ 0 by omega)
  have h3 := Int.emod_lt_of_pos a.toInt (show 0 < r.toInt by omega)
  exact ofI_toInt (by omega) (by omega)
theorem opF_toInt {n : Int32} {a : Int64} {r : Int32} (h : dR r = true) : (opF n a r).toInt = (n.toInt - 1 + a.toInt) % r.toInt + 1 := by
  have h1 := dR_int h
  have h2 := Int.emod_nonneg (n.toInt - 1 + a.toInt) (show r.toInt ≠ 0 by omega)
  have h3 := Int.emod_lt_of_pos (n.toInt - 1 + a.toInt) (show 0 < r.toInt by omega)
  exact ofI_toInt (by omega) (by omega)
theorem opB_toInt {n : Int32} {a : Int64} {r : Int32} (h : dR r = true) : (opB n a r).toInt = (n.toInt - 1 - a.toInt) % r.toInt + 1 := by
  have h1 := dR_int h
  have h2 := Int.emod_nonneg (n.toInt - 1 - a.toInt) (show r.toInt ≠ 0 by omega)
  have h3 := Int.emod_lt_of_pos (n.toInt - 1 - a.toInt) (show 0 < r.toInt by omega)
  exact ofI_toInt (by omega) (by omega)
theorem i2l_toInt (x : Int32) : x.toInt64.toInt = x.toInt := Int32.toInt_toInt64 x
theorem i32_addI {x y : Int32} (h1 : -2147483648 ≤ x.toInt + y.toInt) (h2 : x.toInt + y.toInt < 2147483648) : (x + y).toInt = x.toInt + y.toInt := by
  rw [Int32.toInt_add]
  exact Int.bmod_eq_of_le_mul_two (by show -(4294967296 : Int) ≤ _ * 2; omega) (by show _ * 2 < (4294967296 : Int); omega)
theorem i32_subI {x y : Int32} (h1 : -2147483648 ≤ x.toInt - y.toInt) (h2 : x.toInt - y.toInt < 2147483648) : (x - y).toInt = x.toInt - y.toInt := by
  rw [Int32.toInt_sub]
  exact Int.bmod_eq_of_le_mul_two (by show -(4294967296 : Int) ≤ _ * 2; omega) (by show _ * 2 < (4294967296 : Int); omega)
theorem i32_rng (x : Int32) : -2147483648 ≤ x.toInt ∧ x.toInt < 2147483648 := ⟨Int32.le_toInt x, Int32.toInt_lt x⟩
theorem xor_neg (x y : Int64) (hy : 0 ≤ y.toInt) : (x ^^^ y).toInt < 0 ↔ x.toInt < 0 := by
  have e : (x ^^^ y).toBitVec.msb = (x.toBitVec.msb ^^ y.toBitVec.msb) := BitVec.msb_xor
  have key : ∀ z : Int64, z.toInt < 0 ↔ z.toBitVec.msb = true := fun z => by
    rw [show z.toInt = z.toBitVec.toInt from rfl, BitVec.msb_eq_toInt]
    simp
  have hy' : y.toBitVec.msb = false := by
    cases hm : y.toBitVec.msb
    · rfl
    · have := (key y).mpr hm
      omega
  rw [key, key, e, hy', Bool.xor_false]
end RKP
section RKP1
theorem rvI {f : Bool} {v w : Int32} (h : v = w) : (.inl (some (rI f v)) : RR) = .inl (some (rI f w)) := by rw [h]
theorem rvL {f : Bool} {v w : Int64} (h : v = w) : (.inl (some (rL f v)) : RR) = .inl (some (rL f w)) := by rw [h]
theorem lg_ge {x y : Int64} (h : decide (0 ≤ lg_cmp x y) = true) : y.toInt ≤ x.toInt := by
  have h := of_decide_eq_true h
  unfold lg_cmp at h
  split at h
  · next h1 =>
    have := Int64.lt_iff_toInt_lt.mp h1
    omega
  · split at h
    · next h2 => rw [h2]; exact Int.le_refl _
    · exact absurd h (by decide)
theorem lg_nge {x y : Int64} (h : decide (0 ≤ lg_cmp x y) = false) : x.toInt < y.toInt := by
  have h := of_decide_eq_false h
  unfold lg_cmp at h
  split at h
  · exact absurd (by decide) h
  · next h1 =>
    split at h
    · exact absurd (by decide) h
    · next h2 =>
      have h3 : ¬ y.toInt < x.toInt := fun q => h1 (Int64.lt_iff_toInt_lt.mpr q)
      have h4 : ¬ x.toInt = y.toInt := fun q => h2 (Int64.toInt_inj.mp q)
      omega
theorem lg_eq0 {x y : Int64} (h : decide (lg_cmp x y = 0) = true) : x = y := by
  have h := of_decide_eq_true h
  unfold lg_cmp at h
  split at h
  · exact absurd h (by decide)
  · split at h
    · next h2 => exact h2
    · exact absurd h (by decide)
theorem lg_ne0 {x y : Int64} (h : decide (lg_cmp x y = 0) = false) : ¬ x = y := by
  intro e
  subst e
  have h := of_decide_eq_false h
  unfold lg_cmp at h
  simp at h
theorem lg_le {x y : Int64} (h : decide (lg_cmp x y ≤ 0) = true) : x.toInt ≤ y.toInt := by
  have h := of_decide_eq_true h
  unfold lg_cmp at h
  split at h
  · exact absurd h (by decide)
  · next h1 =>
    have h3 : ¬ y.toInt < x.toInt := fun q => h1 (Int64.lt_iff_toInt_lt.mpr q)
    omega
theorem lg_nle {x y : Int64} (h : decide (lg_cmp x y ≤ 0) = false) : y.toInt < x.toInt := by
  have h := of_decide_eq_false h
  unfold lg_cmp at h
  split at h
  · next h1 => exact Int64.lt_iff_toInt_lt.mp h1
  · split at h
    · exact absurd (by decide) h
    · exact absurd (by decide) h
theorem rest_ne {y : Int32} (h : dR3 y = true) : ¬ y.toInt64 = 0 := by
  have h1 := dR3_int h
  intro e
  have h2 := i2l_toInt y
  rw [e] at h2
  have h3 : (0 : Int64).toInt = 0 := rfl
  omega
theorem l2i_small {x : Int64} (h1 : -2147483648 ≤ x.toInt) (h2 : x.toInt < 2147483648) : x.toInt32.toInt = x.toInt := by
  rw [Int64.toInt_toInt32]
  exact Int.bmod_eq_of_le_mul_two (by show -(4294967296 : Int) ≤ _ * 2; omega) (by show _ * 2 < (4294967296 : Int); omega)
theorem tmod_cases (a r : Int) (hr : r = 3 ∨ r = 7 ∨ r = 12) : (0 ≤ a → a.tmod r = a % r) ∧ (a < 0 → (a.tmod r = 0 ∧ a % r = 0) ∨ (a.tmod r ≠ 0 ∧ a % r = a.tmod r + r)) ∧ -r < a.tmod r ∧ a.tmod r < r := by
  refine ⟨fun h => Int.tmod_eq_emod_of_nonneg h, fun h => ?_, ?_, ?_⟩
  · have e : a.tmod r = -((-a) % r) := by
      rw [← Int.tmod_eq_emod_of_nonneg (by omega), Int.neg_tmod, Int.neg_neg]
    rw [e]
    rcases hr with h9 | h9 | h9 <;> subst h9 <;> omega
  · exact (tmod_bounds (by omega)).1
  · exact (tmod_bounds (by omega)).2
theorem rest_val {x : Int64} {y : Int32} (h : dR3 y = true) (z : Int64) (hz : z.toInt = x.toInt % y.toInt) : z.toInt32 = restF x y := by
  have h1 := dR3_int h
  have h2 := Int.emod_nonneg x.toInt (show y.toInt ≠ 0 by omega)
  have h3 := Int.emod_lt_of_pos x.toInt (show 0 < y.toInt by omega)
  apply Int32.toInt_inj.mp
  rw [l2i_small (by omega) (by omega), restF_toInt h, hz]
theorem rsv_1 {x : Int64} {y : Int32} (h : dR3 y = true) (h2 : (0 : Int64).toInt ≤ (x ^^^ y.toInt64).toInt) : (x - x / y.toInt64 * y.toInt64).toInt32 = restF x y := by
  have h1 := dR3_int h
  have e0 : (0 : Int64).toInt = 0 := rfl
  have hx := xor_neg x y.toInt64 (by rw [i2l_toInt]; omega)
  refine rest_val h _ ?_
  rw [Jvm.Kit.i64_rem, i2l_toInt]
  exact (tmod_cases x.toInt y.toInt h1).1 (by omega)
theorem rsv_2 {x : Int64} {y : Int32} (h : dR3 y = true) (h2 : (x ^^^ y.toInt64).toInt < (0 : Int64).toInt) (h3 : x - x / y.toInt64 * y.toInt64 = 0) : (x - x / y.toInt64 * y.toInt64).toInt32 = restF x y := by
  have h1 := dR3_int h
  have e0 : (0 : Int64).toInt = 0 := rfl
  have hx := xor_neg x y.toInt64 (by rw [i2l_toInt]; omega)
  have e1 := Jvm.Kit.i64_rem x y.toInt64
  rw [h3, i2l_toInt] at e1
  refine rest_val h _ ?_
  rw [h3]
  rcases (tmod_cases x.toInt y.toInt h1).2.1 (by omega) with q | q <;> omega
theorem rsv_3 {x : Int64} {y : Int32} (h : dR3 y = true) (h2 : (x ^^^ y.toInt64).toInt < (0 : Int64).toInt) (h3 : ¬ x - x / y.toInt64 * y.toInt64 = 0) : (x - x / y.toInt64 * y.toInt64 + y.toInt64).toInt32 = restF x y := by
  have h1 := dR3_int h
  have e0 : (0 : Int64).toInt = 0 := rfl
  have hx := xor_neg x y.toInt64 (by rw [i2l_toInt]; omega)
  have e1 := Jvm.Kit.i64_rem x y.toInt64
  rw [i2l_toInt] at e1
  have h4 : x.toInt.tmod y.toInt ≠ 0 := fun q => h3 (Int64.toInt_inj.mp (by rw [e1, q]; rfl))
  have t := tmod_cases x.toInt y.toInt h1
  refine rest_val h _ ?_
  rw [Int64.toInt_add, e1, i2l_toInt]
  rw [Int.bmod_eq_of_le_mul_two (by show -(18446744073709551616 : Int) ≤ _ * 2; omega) (by show _ * 2 < (18446744073709551616 : Int); omega)]
  rcases t.2.1 (by omega) with q | q <;> omega
theorem on_val {n : Int32} {a : Int64} {r : Int32} (hn : dM n = true) (hr : dR r = true) : restF ((n - 1 + restF a r).toInt64) r + 1 = opF n a r := by
  have h1 := dM_int hn
  have h2 := dR_int hr
  have hr3 : dR3 r = true := by unfold dR3; rw [show (decide (r = 7) || decide (r = 12)) = true from hr, Bool.or_true]
  have e1 : (1 : Int32).toInt = 1 := rfl
  have e2 := restF_toInt (a := a) hr3
  have b1 := Int.emod_nonneg a.toInt (show r.toInt ≠ 0 by omega)
  have b2 := Int.emod_lt_of_pos a.toInt (show 0 < r.toInt by omega)
  have e3 : (n - 1).toInt = n.toInt - 1 := by rw [i32_subI (by omega) (by omega), e1]
  have e4 : (n - 1 + restF a r).toInt = n.toInt - 1 + a.toInt % r.toInt := by rw [i32_addI (by omega) (by omega), e3, e2]
  have e5 := restF_toInt (a := (n - 1 + restF a r).toInt64) hr3
  rw [i2l_toInt, e4] at e5
  have b3 := Int.emod_nonneg (n.toInt - 1 + a.toInt % r.toInt) (show r.toInt ≠ 0 by omega)
  have b4 := Int.emod_lt_of_pos (n.toInt - 1 + a.toInt % r.toInt) (show 0 < r.toInt by omega)
  apply Int32.toInt_inj.mp
  rw [i32_addI (by omega) (by omega), e5, opF_toInt hr, e1]
  rcases h2 with h2 | h2 <;> rw [h2] <;> omega
theorem back_val {n : Int32} {a : Int64} {r : Int32} (hr : dR r = true) : opF n ((-(restF a r)).toInt64) r = opB n a r := by
  have h2 := dR_int hr
  have hr3 : dR3 r = true := by unfold dR3; rw [show (decide (r = 7) || decide (r = 12)) = true from hr, Bool.or_true]
  have e2 := restF_toInt (a := a) hr3
  have b1 := Int.emod_nonneg a.toInt (show r.toInt ≠ 0 by omega)
  have b2 := Int.emod_lt_of_pos a.toInt (show 0 < r.toInt by omega)
  have e3 : (-(restF a r)).toInt = -(a.toInt % r.toInt) := by
    rw [Int32.toInt_neg, e2]
    exact Int.bmod_eq_of_le_mul_two (by show -(4294967296 : Int) ≤ _ * 2; omega) (by show _ * 2 < (4294967296 : Int); omega)
  apply Int32.toInt_inj.mp
  rw [opF_toInt hr, opB_toInt hr, i2l_toInt, e3]
  rcases h2 with h2 | h2 <;> rw [h2] <;> omega
theorem dR3_of {r : Int32} (h : dR r = true) : dR3 r = true := by unfold dR3; rw [show (decide (r = 7) || decide (r = 12)) = true from h, Bool.or_true]
def dD (n : Int32) : Bool := decide (1 ≤ n) && decide (n ≤ 7)
theorem dD_nat {n : Int32} (h : dD n = true) : ∃ k : Nat, 1 ≤ k ∧ k ≤ 7 ∧ n = nI k := by
  simp only [dD, Bool.and_eq_true, decide_eq_true_eq, Int32.le_iff_toInt_le] at h
  obtain ⟨h1, h2⟩ := h
  have h1 : (1 : Int) ≤ n.toInt := h1
  have h2 : n.toInt ≤ 7 := h2
  refine ⟨n.toInt.toNat, by omega, by omega, ?_⟩
  apply Int32.toInt_inj.mp
  rw [nI_toInt (by omega)]
  omega
theorem k12 {k : Nat} (h1 : 1 ≤ k) (h2 : k ≤ 12) : k = 1 ∨ k = 2 ∨ k = 3 ∨ k = 4 ∨ k = 5 ∨ k = 6 ∨ k = 7 ∨ k = 8 ∨ k = 9 ∨ k = 10 ∨ k = 11 ∨ k = 12 := by omega
theorem k7 {k : Nat} (h1 : 1 ≤ k) (h2 : k ≤ 7) : k = 1 ∨ k = 2 ∨ k = 3 ∨ k = 4 ∨ k = 5 ∨ k = 6 ∨ k = 7 := by omega
theorem dB_or {b : Int32} (h : dB b = true) : b = 0 ∨ b = 1 := by
  simp only [dB, Bool.or_eq_true, decide_eq_true_eq] at h
  exact h
noncomputable def firN (b : Int32) (k : Nat) : Int32 := Nat.rec (motive := fun _ => Int32) 1 (fun j ih => ih + lenF (nI (j + 1)) b) k
noncomputable def firstF (n b : Int32) : Int32 := firN b (n.toNatClampNeg - 1)
def ordF (a b : Int32) : Int32 := bif decide (a < b) then -1 else bif decide (b < a) then 1 else 0
theorem ord_2 {a b : Int32} (h : decide (a < b) = false) : (bif decide (a ≤ b) then 0 else 1) = ordF a b := by
  unfold ordF
  rw [h]
  cases h2 : decide (b < a)
  · rw [decide_eq_true (Int32.not_lt.mp (of_decide_eq_false h2))]
    rfl
  · rw [decide_eq_false (fun q => Int32.not_lt.mpr q (of_decide_eq_true h2))]
    rfl
def dO (n r : Int32) : Bool := (decide (r = 7) && dD n) || (decide (r = 12) && dM n)
def opZ (m : Int32) (t : Int) (r : Int32) : Int32 := Int32.ofInt ((m.toInt - 1 + t) % r.toInt + 1)
theorem dD_int {n : Int32} (h : dD n = true) : 1 ≤ n.toInt ∧ n.toInt ≤ 7 := by
  simp only [dD, Bool.and_eq_true, decide_eq_true_eq, Int32.le_iff_toInt_le] at h
  exact h
theorem dD_of {n : Int32} (h1 : 1 ≤ n.toInt) (h2 : n.toInt ≤ 7) : dD n = true := by
  simp only [dD, Bool.and_eq_true, decide_eq_true_eq, Int32.le_iff_toInt_le]
  exact ⟨h1, h2⟩
theorem dM_of {n : Int32} (h1 : 1 ≤ n.toInt) (h2 : n.toInt ≤ 12) : dM n = true := by
  simp only [dM, Bool.and_eq_true, decide_eq_true_eq, Int32.le_iff_toInt_le]
  exact ⟨h1, h2⟩
theorem dD_dM {n : Int32} (h : dD n = true) : dM n = true := by
  have := dD_int h
  exact dM_of (by omega) (by omega)
theorem dO_int {n r : Int32} (h : dO n r = true) : (r.toInt = 7 ∨ r.toInt = 12) ∧ 1 ≤ n.toInt ∧ n.toInt ≤ r.toInt := by
  simp only [dO, Bool.or_eq_true, Bool.and_eq_true, decide_eq_true_eq] at h
  rcases h with ⟨h1, h2⟩ | ⟨h1, h2⟩
  · have := dD_int h2
    rw [h1]
    exact ⟨Or.inl rfl, this⟩
  · have := dM_int h2
    rw [h1]
    exact ⟨Or.inr rfl, this⟩
theorem dO_R {n r : Int32} (h : dO n r = true) : dR r = true := by
  simp only [dO, Bool.or_eq_true, Bool.and_eq_true, decide_eq_true_eq] at h
  rcases h with ⟨h1, h2⟩ | ⟨h1, h2⟩ <;> rw [h1] <;> rfl
theorem dO_of {n r : Int32} (hr : dR r = true) (h1 : 1 ≤ n.toInt) (h2 : n.toInt ≤ r.toInt) : dO n r = true := by
  simp only [dR, Bool.or_eq_true, decide_eq_true_eq] at hr
  rcases hr with hr | hr <;> rw [hr] at h2 ⊢
  · unfold dO; rw [dD_of h1 h2]; rfl
  · unfold dO; rw [dM_of h1 h2]; rfl
theorem opZ_0 {m r : Int32} (hr : dR r = true) (hm : dO m r = true) {t : Int} (ht : t = 0 := by rfl) : opZ m t r = m := by
  have h1 := dO_int hm
  apply Int32.toInt_inj.mp
  rw [opZ, ht, Int.add_zero, Int.emod_eq_of_lt (by omega) (by omega)]
  rw [ofI_toInt (by omega) (by omega)]
  omega
theorem opZ_next_ne {m r : Int32} (j : Nat) (hr : dR r = true) (hm : dO m r = true) (h : ¬ m = r) : dO (m + 1) r = true ∧ opZ (m + 1) (j : Int) r = opZ m ((j + 1 : Nat) : Int) r := by
  have h1 := dO_int hm
  have h2 : ¬ m.toInt = r.toInt := fun q => h (Int32.toInt_inj.mp q)
  have e1 : (1 : Int32).toInt = 1 := rfl
  have e2 : (m + 1).toInt = m.toInt + 1 := by rw [i32_addI (by omega) (by omega), e1]
  refine ⟨dO_of hr (by omega) (by omega), ?_⟩
  rw [opZ, opZ, e2]
  congr 3
  omega
theorem opZ_next_eq {m r : Int32} (j : Nat) (hr : dR r = true) (hm : dO m r = true) (h : m = r) : dO 1 r = true ∧ opZ 1 (j : Int) r = opZ m ((j + 1 : Nat) : Int) r := by
  have h1 := dO_int hm
  have e1 : (1 : Int32).toInt = 1 := rfl
  subst h
  refine ⟨dO_of hr (by omega) (by omega), ?_⟩
  rw [opZ, opZ, e1]
  congr 2
  rcases h1.1 with h9 | h9 <;> rw [h9] <;> omega
theorem opZ_prev_ne {m r : Int32} (j : Nat) (hr : dR r = true) (hm : dO m r = true) (h : ¬ m = 1) : dO (m - 1) r = true ∧ opZ (m - 1) (-(j : Int)) r = opZ m (-((j + 1 : Nat) : Int)) r := by
  have h1 := dO_int hm
  have e1 : (1 : Int32).toInt = 1 := rfl
  have h2 : ¬ m.toInt = 1 := fun q => h (Int32.toInt_inj.mp (q.trans e1.symm))
  have e2 : (m - 1).toInt = m.toInt - 1 := by rw [i32_subI (by omega) (by omega), e1]
  refine ⟨dO_of hr (by omega) (by omega), ?_⟩
  rw [opZ, opZ, e2]
  congr 3
  omega
theorem opZ_prev_eq {m r : Int32} (j : Nat) (hr : dR r = true) (hm : dO m r = true) (h : m = 1) : dO r r = true ∧ opZ r (-(j : Int)) r = opZ m (-((j + 1 : Nat) : Int)) r := by
  have h1 := dO_int hm
  have e1 : (1 : Int32).toInt = 1 := rfl
  subst h
  refine ⟨dO_of hr (by omega) (by omega), ?_⟩
  rw [opZ, opZ, e1]
  congr 2
  rcases h1.1 with h9 | h9 <;> rw [h9] <;> omega
theorem opZ_end {m r : Int32} {t : Int} {a : Int64} (hr : dR r = true) (ht : t = a.toInt.tmod r.toInt) : opZ m t r = opF m a r := by
  have h1 := dR_int hr
  have h2 := tmod_cases a.toInt r.toInt (by omega)
  rw [opZ, opF, ht]
  congr 2
  by_cases h3 : 0 ≤ a.toInt
  · rw [h2.1 h3]
    rcases h1 with h9 | h9 <;> rw [h9] <;> omega
  · rcases h2.2.1 (by omega) with ⟨q1, q2⟩ | ⟨q1, q2⟩
    · rw [q1]
      rcases h1 with h9 | h9 <;> rw [h9] at q2 ⊢ <;> omega
    · rw [show a.toInt.tmod r.toInt = a.toInt % r.toInt - r.toInt by omega]
      rcases h1 with h9 | h9 <;> rw [h9] <;> omega
theorem opZ_endB {m r : Int32} {t : Int} {a : Int64} (hr : dR r = true) (ht : t = -(a.toInt.tmod r.toInt)) : opZ m t r = opB m a r := by
  have h1 := dR_int hr
  have h2 := tmod_cases a.toInt r.toInt (by omega)
  rw [opZ, opB, ht]
  congr 2
  by_cases h3 : 0 ≤ a.toInt
  · rw [h2.1 h3]
    rcases h1 with h9 | h9 <;> rw [h9] <;> omega
  · rcases h2.2.1 (by omega) with ⟨q1, q2⟩ | ⟨q1, q2⟩
    · rw [q1]
      rcases h1 with h9 | h9 <;> rw [h9] at q2 ⊢ <;> omega
    · rw [show a.toInt.tmod r.toInt = a.toInt % r.toInt - r.toInt by omega]
      rcases h1 with h9 | h9 <;> rw [h9] <;> omega
theorem lo32 (y : Int32) : (y.toInt64 &&& 4294967295).toInt = y.toInt % 4294967296 := by
  have e : (y.toInt64 &&& 4294967295).toBitVec = y.toInt64.toBitVec &&& 4294967295#64 := rfl
  have h2 : (y.toInt64 &&& 4294967295).toBitVec.toNat = y.toInt64.toBitVec.toNat % 4294967296 := by
    rw [e, BitVec.toNat_and]
    exact Nat.and_two_pow_sub_one_eq_mod _ 32
  have h3 := i2l_toInt y
  have h4 := i32_rng y
  have h5 : y.toInt64.toInt = y.toInt64.toBitVec.toInt := rfl
  have h6 : (y.toInt64 &&& 4294967295).toInt = (y.toInt64 &&& 4294967295).toBitVec.toInt := rfl
  rw [h6, BitVec.toInt_eq_toNat_cond, h2]
  rw [h5, BitVec.toInt_eq_toNat_cond] at h3
  have h7 := y.toInt64.toBitVec.isLt
  split at h3 <;> split <;> omega
theorem hi32 (x : Int32) (z : Int64) (hz : 0 ≤ z.toInt ∧ z.toInt < 4294967296) : (x.toInt64 <<< ((32 : Int32).toInt64 &&& 63) ||| z).toInt = x.toInt * 4294967296 + z.toInt := by
  have e1 : ((32 : Int32).toInt64 &&& 63) = (32 : Int64) := by decide
  rw [e1]
  have ha := x.toInt64.toBitVec.isLt
  have hc := z.toBitVec.isLt
  have h3 := i2l_toInt x
  have h4 := i32_rng x
  have h5 : x.toInt64.toInt = x.toInt64.toBitVec.toInt := rfl
  have h6 : z.toInt = z.toBitVec.toInt := rfl
  have h7 : (x.toInt64 <<< (32 : Int64) ||| z).toInt = (x.toInt64 <<< (32 : Int64) ||| z).toBitVec.toInt := rfl
  rw [h5, BitVec.toInt_eq_toNat_cond] at h3
  rw [h6, BitVec.toInt_eq_toNat_cond] at hz
  have e2 : (x.toInt64 <<< (32 : Int64) ||| z).toBitVec.toNat = 4294967296 * (x.toInt64.toBitVec.toNat % 4294967296) + z.toBitVec.toNat := by
    rw [Int64.toBitVec_or, Int64.toBitVec_shiftLeft, BitVec.toNat_or, show ((32 : Int64).toBitVec.smod 64) = 32#64 by decide, BitVec.shiftLeft_eq', BitVec.toNat_shiftLeft, Nat.shiftLeft_eq]
    have e3 : x.toInt64.toBitVec.toNat * 2 ^ (32#64).toNat % 2 ^ 64 = 2 ^ 32 * (x.toInt64.toBitVec.toNat % 4294967296) := by
      show x.toInt64.toBitVec.toNat * 4294967296 % 18446744073709551616 = 4294967296 * (x.toInt64.toBitVec.toNat % 4294967296)
      omega
    rw [e3, ← Nat.two_pow_add_eq_or_of_lt (by split at hz <;> omega)]
  rw [h7, BitVec.toInt_eq_toNat_cond, e2, h6, BitVec.toInt_eq_toNat_cond]
  split at h3 <;> split at hz <;> split <;> omega
theorem am_1 {x y : Int32} (h : 0 ≤ y) : x.toInt64 * 4294967296 + y.toInt64 = (x.toInt64 <<< ((32 : Int32).toInt64 &&& 63) ||| (y.toInt64 &&& 4294967295)) := by
  have h1 : (0 : Int32).toInt ≤ y.toInt := Int32.le_iff_toInt_le.mp h
  have e0 : (0 : Int32).toInt = 0 := rfl
  have e1 : (4294967296 : Int64).toInt = 4294967296 := rfl
  have h2 := i32_rng y
  have h3 := i32_rng x
  have h4 := lo32 y
  apply Int64.toInt_inj.mp
  rw [hi32 _ _ (by omega), h4, Int64.toInt_add, Int64.toInt_mul, i2l_toInt, i2l_toInt, e1]
  rw [Int.bmod_eq_of_le_mul_two (x := x.toInt * 4294967296) (by show -(18446744073709551616 : Int) ≤ _ * 2; omega) (by show _ * 2 < (18446744073709551616 : Int); omega)]
  rw [Int.bmod_eq_of_le_mul_two (by show -(18446744073709551616 : Int) ≤ _ * 2; omega) (by show _ * 2 < (18446744073709551616 : Int); omega)]
  omega
theorem am_2 {x y : Int32} (h : ¬ 0 ≤ y) : x.toInt64 * 4294967296 + (y.toInt64 + 4294967296) = (x.toInt64 <<< ((32 : Int32).toInt64 &&& 63) ||| (y.toInt64 &&& 4294967295)) := by
  have h1 : ¬ (0 : Int32).toInt ≤ y.toInt := fun q => h (Int32.le_iff_toInt_le.mpr q)
  have e0 : (0 : Int32).toInt = 0 := rfl
  have e1 : (4294967296 : Int64).toInt = 4294967296 := rfl
  have h2 := i32_rng y
  have h3 := i32_rng x
  have h4 := lo32 y
  apply Int64.toInt_inj.mp
  rw [hi32 _ _ (by omega), h4, Int64.toInt_add, Int64.toInt_mul, Int64.toInt_add, i2l_toInt, i2l_toInt, e1]
  rw [Int.bmod_eq_of_le_mul_two (x := x.toInt * 4294967296) (by show -(18446744073709551616 : Int) ≤ _ * 2; omega) (by show _ * 2 < (18446744073709551616 : Int); omega)]
  rw [Int.bmod_eq_of_le_mul_two (x := y.toInt + 4294967296) (by show -(18446744073709551616 : Int) ≤ _ * 2; omega) (by show _ * 2 < (18446744073709551616 : Int); omega)]
  rw [Int.bmod_eq_of_le_mul_two (by show -(18446744073709551616 : Int) ≤ _ * 2; omega) (by show _ * 2 < (18446744073709551616 : Int); omega)]
  omega
end RKP1
