section RKM
theorem dO_F {n y : Int32} {x : Int64} (h : dR y = true) : dO (opF n x y) y = true := by
  have h2 : y = 7 ∨ y = 12 := by simpa [dR] using h
  rcases h2 with rfl | rfl
  · exact dO_7 dD_F
  · exact dO_12 dM_F
theorem dO_B {n y : Int32} {x : Int64} (h : dR y = true) : dO (opB n x y) y = true := by
  have h2 : y = 7 ∨ y = 12 := by simpa [dR] using h
  rcases h2 with rfl | rfl
  · exact dO_7 dD_B
  · exact dO_12 dM_B
theorem dM_O {n r : Int32} (h : dO n r = true) : dM n = true := by
  have h1 := dO_int h
  exact dM_of (by omega) (by omega)
theorem dD_O {n : Int32} (h : dO n 7 = true) : dD n = true := by
  have h1 := dO_int h
  have e : (7 : Int32).toInt = 7 := rfl
  exact dD_of (by omega) (by omega)
def PB (v : AV) : Prop := ∃ (g : Bool) (x : Int32), v = rI g x ∧ (x = 0 ∨ x = 1)
def PL (v : AV) : Prop := ∃ (g : Bool) (x : Int64), v = rL g x
def PI (v : AV) : Prop := ∃ (g : Bool) (x : Int32), v = rI g x
theorem b01 (c : Bool) : (bif c then (0 : Int32) else 1) = 0 ∨ (bif c then (0 : Int32) else 1) = 1 := by
  cases c
  · exact Or.inr rfl
  · exact Or.inl rfl
theorem b01d {x : Int32} (h : x = 0 ∨ x = 1) : (decide (x = 0) || decide (x = 1)) = true := by rcases h with rfl | rfl <;> rfl
/-- a method of which it is only told what kind of answer it gives -/
def sAnyL (pre : List AV → List RC → Prop) : RM := fun as σ Q => pre as σ ∧ ∀ w : Int64, Q (.inl (some (rL false w))) σ
def sAnyB (pre : List AV → List RC → Prop) : RM := fun as σ Q => pre as σ ∧ (Q (.inl (some (rI false 0))) σ ∧ Q (.inl (some (rI false 1))) σ)
def sAnyI (pre : List AV → List RC → Prop) : RM := fun as σ Q => pre as σ ∧ ∀ w : Int32, Q (.inl (some (rI false w))) σ
def QL (σ : List RC) : RQ := fun z σ' => (∃ v, z = .inl (some v) ∧ PL v) ∧ σ' = σ
def QB (σ : List RC) : RQ := fun z σ' => (∃ v, z = .inl (some v) ∧ PB v) ∧ σ' = σ
def QI (σ : List RC) : RQ := fun z σ' => (∃ v, z = .inl (some v) ∧ PI v) ∧ σ' = σ
theorem qL {g : Bool} {x : Int64} {σ : List RC} : QL σ (.inl (some (rL g x))) σ := ⟨⟨_, rfl, g, x, rfl⟩, rfl⟩
theorem qI {g : Bool} {x : Int32} {σ : List RC} : QI σ (.inl (some (rI g x))) σ := ⟨⟨_, rfl, g, x, rfl⟩, rfl⟩
theorem qB0 {g : Bool} {σ : List RC} : QB σ (.inl (some (rI g 0))) σ := ⟨⟨_, rfl, g, 0, rfl, Or.inl rfl⟩, rfl⟩
theorem qB1 {g : Bool} {σ : List RC} : QB σ (.inl (some (rI g 1))) σ := ⟨⟨_, rfl, g, 1, rfl, Or.inr rfl⟩, rfl⟩
theorem qBc {g c : Bool} {σ : List RC} : QB σ (.inl (some (rI g (bif c then 0 else 1)))) σ := ⟨⟨_, rfl, g, _, rfl, b01 c⟩, rfl⟩
theorem any_L {y : MethodName} {ws : List Cond} {rm : Room} {mc : Nat} {M : RM} {pre : List AV → List RC → Prop} (h : rMet y ws rm mc M) (hm : ∀ as σ, pre as σ → ∃ as' : List AV, (∀ ad : Nat → Nat, as'.map (rv ad) = as.map (rv ad)) ∧ M as' σ (QL σ)) : rMet y ws rm mc (sAnyL pre) := by
  refine rMet_any h (fun as σ Q hq => ?_)
  obtain ⟨as', h1, h2⟩ := hm as σ hq.1
  refine ⟨as', PL, h1, h2, fun v hv => ?_⟩
  obtain ⟨g, x, rfl⟩ := hv
  exact ⟨rL false x, fun _ => rfl, hq.2 x⟩
theorem any_I {y : MethodName} {ws : List Cond} {rm : Room} {mc : Nat} {M : RM} {pre : List AV → List RC → Prop} (h : rMet y ws rm mc M) (hm : ∀ as σ, pre as σ → ∃ as' : List AV, (∀ ad : Nat → Nat, as'.map (rv ad) = as.map (rv ad)) ∧ M as' σ (QI σ)) : rMet y ws rm mc (sAnyI pre) := by
  refine rMet_any h (fun as σ Q hq => ?_)
  obtain ⟨as', h1, h2⟩ := hm as σ hq.1
  refine ⟨as', PI, h1, h2, fun v hv => ?_⟩
  obtain ⟨g, x, rfl⟩ := hv
  exact ⟨rI false x, fun _ => rfl, hq.2 x⟩
theorem any_B {y : MethodName} {ws : List Cond} {rm : Room} {mc : Nat} {M : RM} {pre : List AV → List RC → Prop} (h : rMet y ws rm mc M) (hm : ∀ as σ, pre as σ → ∃ as' : List AV, (∀ ad : Nat → Nat, as'.map (rv ad) = as.map (rv ad)) ∧ M as' σ (QB σ)) : rMet y ws rm mc (sAnyB pre) := by
  refine rMet_any h (fun as σ Q hq => ?_)
  obtain ⟨as', h1, h2⟩ := hm as σ hq.1
  refine ⟨as', PB, h1, h2, fun v hv => ?_⟩
  obtain ⟨g, x, rfl, hx⟩ := hv
  rcases hx with rfl | rfl
  · exact ⟨rI false 0, fun _ => rfl, hq.2.1⟩
  · exact ⟨rI false 1, fun _ => rfl, hq.2.2⟩
def pLI : List AV → List RC → Prop := fun as _ => ∃ (g h : Bool) (d : Int64) (v : Int32), as = [rL g d, rI h v]
def pLL : List AV → List RC → Prop := fun as _ => ∃ (g h : Bool) (d v : Int64), as = [rL g d, rL h v]
def pLS : List AV → List RC → Prop := fun as _ => ∃ (g : Bool) (d : Int64) (k : Nat), as = [rL g d, rR k] ∧ 100 ≤ k ∧ k < 145
def pLDM : List AV → List RC → Prop := fun as _ => ∃ (g h i : Bool) (d : Int64) (a b : Int32), as = [rL g d, rI h a, rI i b] ∧ dD a = true ∧ dM b = true
theorem sl_100 {k : Nat} (hk : 100 ≤ k ∧ k < 145) : rSl k ≤ 100 := by
  have h : ∀ i : Nat, i < 45 → rSLen.getD i 0 ≤ 100 := by decide +kernel
  exact h (k - 100) (by omega)
def pSz : List AV → List RC → Prop := fun as _ => as = [rI true 7] ∨ as = [rI true 12]
def pStSz : List AV → List RC → Prop := fun as _ => ∃ (g : Bool) (s : Int32), (as = [rI g s, rI true 7] ∧ dO s 7 = true) ∨ (as = [rI g s, rI true 12] ∧ dO s 12 = true)
def dom4 (P : PW) (i j : Nat) : Prop := (dD (P.1 i 0) = true ∧ dD (P.1 i 1) = true ∧ dD (P.1 i 2) = true ∧ dD (P.1 i 3) = true) ∧ (dM (P.1 j 0) = true ∧ dM (P.1 j 1) = true ∧ dM (P.1 j 2) = true ∧ dM (P.1 j 3) = true)
def pThis : List AV → List RC → Prop := fun as σ => as = [rR 0] ∧ ∃ P : PW, σ = CWP P ∧ dom4 P 0 1
def pYear : List AV → List RC → Prop := fun as σ => (∃ (c : Int32) (b : Int32), as = [rR 0, rI true c, rI true b] ∧ (c = 0 ∨ c = 1 ∨ c = 2 ∨ c = 3) ∧ (b = 0 ∨ b = 1)) ∧ ∃ P : PW, σ = CWP P ∧ dom4 P 0 1
def pDig : List AV → List RC → Prop := fun as σ => as = [rR 0] ∧ ∃ P : PW, σ = CWP P ∧ dom4 P 0 1 ∧ ((P.1 6 0 = 0 ∨ P.1 6 0 = 1) ∧ (P.1 6 1 = 0 ∨ P.1 6 1 = 1))
theorem pyear' {P : PW} {c b : Int32} (hp : dom4 P 0 1) (hc : c = 0 ∨ c = 1 ∨ c = 2 ∨ c = 3) (hb : b = 0 ∨ b = 1) : pYear [rR 0, rI true c, rI true b] (CWP P) := ⟨⟨c, b, rfl, hc, hb⟩, P, rfl, hp⟩
end RKM
