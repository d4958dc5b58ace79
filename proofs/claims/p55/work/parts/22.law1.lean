section RKV
def WW (d m kd0 kd1 km0 km1 mk d' m' q0 q1 mk' : CF) (a k t a' k' : Bool × Int32) (n : Bool × Int64) (s : Option Nat) : List RC :=
  [.inl (0, [rR 1, rR 2, rR 3, rR 4, rR 9, .inl a, .inl k]), .inr (0, 4, .inl d), .inr (0, 4, .inl m), .inr (2, 2, .inr (fun j => 5 + j)), .inr (2, 2, .inr (fun j => 7 + j)),
   .inr (0, 4, .inl kd0), .inr (0, 4, .inl kd1), .inr (0, 4, .inl km0), .inr (0, 4, .inl km1), .inr (1, 2, .inl mk),
   .inl (1, [.inl t, rR 11, rR 12, rR 13, rR 16, .inl a', .inl k']), .inr (0, 4, .inl d'), .inr (0, 4, .inl m'), .inr (2, 2, .inr (fun j => 14 + j)),
   .inr (0, 8, .inl q0), .inr (0, 8, .inl q1), .inr (1, 2, .inl mk'), .inl (2, [.inr (.inl n), .inr (.inr (.inr s))])]
def CW (d m kd0 kd1 km0 km1 mk q0 q1 : CF) (a k t : Int32) (n : Int64) (s : Option Nat) : List RC :=
  WW d m kd0 kd1 km0 km1 mk d m q0 q1 mk (false, a) (false, k) (false, t) (false, a) (false, k) (false, n) s
def d7 (d : CF) : Prop := (dD (d 0) = true ∧ dD (d 1) = true) ∧ (dD (d 2) = true ∧ dD (d 3) = true)
def d12 (d : CF) : Prop := (dM (d 0) = true ∧ dM (d 1) = true) ∧ (dM (d 2) = true ∧ dM (d 3) = true)
def kr (kd km q : CF) (x : Int32) : Prop := ((q 0 = kd 0 ∧ q 1 = kd 1) ∧ (q 2 = kd 2 ∧ q 3 = kd 3)) ∧ ((q 4 = km 0 ∧ q 5 = km 1) ∧ (q 6 = km 2 ∧ q 7 = km 3)) ∧ (x = 0 ∨ (x = 1 ∧ d7 kd ∧ d12 km))
def IV (d m kd0 kd1 km0 km1 mk q0 q1 : CF) : Prop := d7 d ∧ d12 m ∧ kr kd0 km0 q0 (mk 0) ∧ kr kd1 km1 q1 (mk 1)
def LInv (σ : List RC) : Prop := ∃ (d m kd0 kd1 km0 km1 mk q0 q1 : CF) (a k t : Int32) (n : Int64) (s : Option Nat), (∀ (ad : Nat → Nat) (ty : Nat → ClassId), rW ad ty 0 σ = rW ad ty 0 (CW d m kd0 kd1 km0 km1 mk q0 q1 a k t n s)) ∧ IV d m kd0 kd1 km0 km1 mk q0 q1
theorem inv_mk {d m kd0 kd1 km0 km1 mk d' m' q0 q1 mk' : CF} {a k t a' k' : Bool × Int32} {n : Bool × Int64} {s : Option Nat} (e1 : d' = d) (e2 : m' = m) (e3 : mk' = mk) (e4 : a'.2 = a.2) (e5 : k'.2 = k.2) (h : IV d m kd0 kd1 km0 km1 mk q0 q1) : LInv (WW d m kd0 kd1 km0 km1 mk d' m' q0 q1 mk' a k t a' k' n s) := by
  refine ⟨d, m, kd0, kd1, km0, km1, mk, q0, q1, a.2, k.2, t.2, n.2, s, fun ad ty => ?_, h⟩
  subst e1 e2 e3
  obtain ⟨a1, a2⟩ := a
  obtain ⟨b1, b2⟩ := a'
  obtain ⟨c1, c2⟩ := k
  obtain ⟨f1, f2⟩ := k'
  dsimp only at e4 e5
  subst e4 e5
  rfl
def LQ : RQ := fun z σ => ∃ b : Nat, z = .inr b ∧ Nat.ble b 1000 = true ∧ LInv σ
theorem lq_mk {b : Nat} {σ : List RC} (hb : Nat.ble b 1000 = true) (h : LInv σ) : LQ (.inr b) σ := ⟨b, rfl, hb, h⟩
theorem iv_day {d m kd0 kd1 km0 km1 mk q0 q1 : CF} {c : Nat} {v : Int32} (h : IV d m kd0 kd1 km0 km1 mk q0 q1) (hv : dD v = true) : IV (upd d c v) m kd0 kd1 km0 km1 mk q0 q1 := by
  refine ⟨⟨⟨?_, ?_⟩, ⟨?_, ?_⟩⟩, h.2⟩ <;> unfold upd <;> split
  all_goals first | exact hv | exact h.1.1.1 | exact h.1.1.2 | exact h.1.2.1 | exact h.1.2.2
theorem iv_month {d m kd0 kd1 km0 km1 mk q0 q1 : CF} {c : Nat} {v : Int32} (h : IV d m kd0 kd1 km0 km1 mk q0 q1) (hv : dM v = true) : IV d (upd m c v) kd0 kd1 km0 km1 mk q0 q1 := by
  refine ⟨h.1, ⟨⟨?_, ?_⟩, ⟨?_, ?_⟩⟩, h.2.2⟩ <;> unfold upd <;> split
  all_goals first | exact hv | exact h.2.1.1.1 | exact h.2.1.1.2 | exact h.2.1.2.1 | exact h.2.1.2.2
theorem upd_comm {f : CF} {a b : Nat} {x y : Int32} (h : ¬ a = b) : upd (upd f a x) b y = upd (upd f b y) a x := by
  funext j
  unfold upd
  by_cases h1 : j = b
  · by_cases h2 : j = a
    · exact absurd (h2.symm.trans h1) h
    · simp [h1, h2, show ¬ b = a from fun e => h e.symm]
  · by_cases h2 : j = a <;> simp [h1, h2, h]
theorem dM_D {n : Int32} (h : dD n = true) : dM n = true := by
  have h1 := dD_int h
  simp only [dM, Bool.and_eq_true, decide_eq_true_eq, Int32.le_iff_toInt_le]
  have e1 : (1 : Int32).toInt = 1 := rfl
  have e2 : (12 : Int32).toInt = 12 := rfl
  omega
theorem dO_7 {n : Int32} (h : dD n = true) : dO n 7 = true := by
  unfold dO
  rw [h]
  rfl
theorem dO_12 {n : Int32} (h : dM n = true) : dO n 12 = true := by
  unfold dO
  rw [h]
  rfl
theorem dD_F {n : Int32} {x : Int64} : dD (opF n x 7) = true := by
  have h := opF_toInt (n := n) (a := x) (r := 7) rfl
  have e : (7 : Int32).toInt = 7 := rfl
  rw [e] at h
  exact dD_of (by omega) (by omega)
theorem dD_B {n : Int32} {x : Int64} : dD (opB n x 7) = true := by
  have h := opB_toInt (n := n) (a := x) (r := 7) rfl
  have e : (7 : Int32).toInt = 7 := rfl
  rw [e] at h
  exact dD_of (by omega) (by omega)
theorem dM_F {n : Int32} {x : Int64} : dM (opF n x 12) = true := by
  have h := opF_toInt (n := n) (a := x) (r := 12) rfl
  have e : (12 : Int32).toInt = 12 := rfl
  rw [e] at h
  exact dM_of (by omega) (by omega)
theorem dM_B {n : Int32} {x : Int64} : dM (opB n x 12) = true := by
  have h := opB_toInt (n := n) (a := x) (r := 12) rfl
  have e : (12 : Int32).toInt = 12 := rfl
  rw [e] at h
  exact dM_of (by omega) (by omega)
theorem dM_Q {n : Int32} (h : dM n = true) : dM (n - restF (n - 1).toInt64 3) = true := by
  obtain ⟨k, k1, k2, rfl⟩ := dM_nat h
  rcases k12 k1 k2 with rfl | rfl | rfl | rfl | rfl | rfl | rfl | rfl | rfl | rfl | rfl | rfl <;> rfl
theorem vp_D {n : Int32} (h : dD n = true) : vp_in (n - 1) 7 := by
  obtain ⟨k, k1, k2, rfl⟩ := dD_nat h
  rcases k7 k1 k2 with rfl | rfl | rfl | rfl | rfl | rfl | rfl <;> (unfold vp_in; decide)
theorem vp_M {n : Int32} (h : dM n = true) : vp_in (n - 1) 12 := by
  obtain ⟨k, k1, k2, rfl⟩ := dM_nat h
  rcases k12 k1 k2 with rfl | rfl | rfl | rfl | rfl | rfl | rfl | rfl | rfl | rfl | rfl | rfl <;> (unfold vp_in; decide)
theorem and_mk {a b : Bool} (h1 : a = true) (h2 : b = true) : (a && b) = true := by rw [h1, h2]; rfl
theorem dR_7 : dR 7 = true := rfl
theorem dR_12 : dR 12 = true := rfl
theorem dR3_3 : dR3 3 = true := rfl
theorem dR3_7 : dR3 7 = true := rfl
theorem dB_0 : dB 0 = true := rfl
theorem dB_1 : dB 1 = true := rfl
theorem or_mk0 {P : Prop} {x : Int32} (h : x = 0 ∨ (x = 1 ∧ P)) : (decide (x = 0) || decide (x = 1)) = true := by
  rcases h with h | ⟨h, -⟩ <;> rw [h] <;> rfl
theorem cell_cases (v : Int32) : v = 0 ∨ v = 1 ∨ v = 2 ∨ v = 3 ∨ decide (v < 0) = true ∨ (decide (v < 0) = false ∧ decide (v < 4) = false ∧ decide (v ≤ 3) = false) := by
  simp only [decide_eq_true_eq, decide_eq_false_iff_not, Int32.lt_iff_toInt_lt, Int32.le_iff_toInt_le, ← Int32.toInt_inj]
  have e0 : (0 : Int32).toInt = 0 := rfl
  have e1 : (1 : Int32).toInt = 1 := rfl
  have e2 : (2 : Int32).toInt = 2 := rfl
  have e3 : (3 : Int32).toInt = 3 := rfl
  have e4 : (4 : Int32).toInt = 4 := rfl
  omega
theorem cell_in (v : Int32) : noC v = false ∨ decide (v < 0) = true ∨ (decide (v < 0) = false ∧ decide (v < 4) = false ∧ decide (v ≤ 3) = false) := by
  rcases cell_cases v with h | h | h | h | h | h
  · exact Or.inl (by rw [h]; rfl)
  · exact Or.inl (by rw [h]; rfl)
  · exact Or.inl (by rw [h]; rfl)
  · exact Or.inl (by rw [h]; rfl)
  · exact Or.inr (Or.inl h)
  · exact Or.inr (Or.inr h)
theorem noC_cases {v : Int32} (h : noC v = false) : v = 0 ∨ v = 1 ∨ v = 2 ∨ v = 3 := by
  obtain ⟨h1, h2⟩ := noC_f h
  rcases cell_cases v with h | h | h | h | h | h
  · exact Or.inl h
  · exact Or.inr (Or.inl h)
  · exact Or.inr (Or.inr (Or.inl h))
  · exact Or.inr (Or.inr (Or.inr h))
  · rw [h1] at h
    cases h
  · rw [h.2.2] at h2
    cases h2
theorem noC_lt {v : Int32} (h : noC v = false) : decide (v < 4) = true := by
  rcases noC_cases h with h | h | h | h <;> rw [h] <;> rfl
theorem vp_in4 {v : Int32} (h1 : decide (v < 0) = false) (h2 : decide (v < 4) = true) : vp_in v 4 := by
  rcases cell_cases v with h | h | h | h | h | h
  · rw [h]; unfold vp_in; decide
  · rw [h]; unfold vp_in; decide
  · rw [h]; unfold vp_in; decide
  · rw [h]; unfold vp_in; decide
  · rw [h1] at h
    cases h
  · rw [h.2.1] at h2
    cases h2
theorem noC_in {v : Int32} (h : noC v = false) : vp_in v 4 := by
  rcases noC_cases h with h | h | h | h <;> rw [h] <;> (unfold vp_in; decide)
theorem d7_at {d : CF} {v : Int32} (hd : d7 d) (h : noC v = false) : dD (d v.toNatClampNeg) = true := by
  rcases noC_cases h with h | h | h | h <;> rw [h]
  · exact hd.1.1
  · exact hd.1.2
  · exact hd.2.1
  · exact hd.2.2
theorem d12_at {d : CF} {v : Int32} (hd : d12 d) (h : noC v = false) : dM (d v.toNatClampNeg) = true := by
  rcases noC_cases h with h | h | h | h <;> rw [h]
  · exact hd.1.1
  · exact hd.1.2
  · exact hd.2.1
  · exact hd.2.2
theorem upd_swap {f : CF} {a b : Nat} : upd (upd f a (f b)) b (f a) = upd (upd f b (f a)) a (f b) := by
  by_cases h : a = b
  · subst h
    rfl
  · exact upd_comm h
theorem upd_same {f : CF} {a : Nat} {x : Int32} : upd f a x a = x := pk_us
theorem dM_u {f : CF} {a : Nat} {x : Int32} (h : dM x = true) : dM (upd f a x a) = true := by rw [upd_same]; exact h
theorem mark_cases (v : Int32) : v = 0 ∨ v = 1 ∨ decide (v < 0) = true ∨ (decide (v < 0) = false ∧ decide (v < 2) = false ∧ decide (v ≤ 1) = false) := by
  simp only [decide_eq_true_eq, decide_eq_false_iff_not, Int32.lt_iff_toInt_lt, Int32.le_iff_toInt_le, ← Int32.toInt_inj]
  have e0 : (0 : Int32).toInt = 0 := rfl
  have e1 : (1 : Int32).toInt = 1 := rfl
  have e2 : (2 : Int32).toInt = 2 := rfl
  omega
theorem num_cases (v w : Int32) : decide (v < 1) = true ∨ (decide (v < 1) = false ∧ decide (v ≤ w) = false) ∨ (decide (v < 1) = false ∧ decide (v ≤ w) = true) := by
  cases decide (v < 1) <;> cases decide (v ≤ w) <;> simp
theorem num_7 {v : Int32} (h : decide (v < 1) = false ∧ decide (v ≤ 7) = true) : dD v = true := by
  unfold dD
  rw [h.2, Bool.and_true]
  exact decide_eq_true (Int32.not_lt.mp (of_decide_eq_false h.1))
theorem num_12 {v : Int32} (h : decide (v < 1) = false ∧ decide (v ≤ 12) = true) : dM v = true := by
  unfold dM
  rw [h.2, Bool.and_true]
  exact decide_eq_true (Int32.not_lt.mp (of_decide_eq_false h.1))
theorem bool_cases (v : Int32) : ((fun x : Int32 => decide (x = 0)) v) = true ∨ ((fun x : Int32 => decide (x = 0)) v) = false := by
  cases h : decide (v = 0)
  · exact Or.inr h
  · exact Or.inl h
def lv0 (i : Int32) : RLv := [(4, rI false i), (3, rR 17), (2, rR 10), (1, rR 0), (0, rR 60)]
/-- what is known of the world at a turn's start -/
theorem iv_use {d m kd0 kd1 km0 km1 mk q0 q1 : CF} (h : IV d m kd0 kd1 km0 km1 mk q0 q1) : (dD (d 0) = true ∧ dD (d 1) = true ∧ dD (d 2) = true ∧ dD (d 3) = true) ∧ (dM (m 0) = true ∧ dM (m 1) = true ∧ dM (m 2) = true ∧ dM (m 3) = true) :=
  ⟨⟨h.1.1.1, h.1.1.2, h.1.2.1, h.1.2.2⟩, ⟨h.2.1.1.1, h.2.1.1.2, h.2.1.2.1, h.2.1.2.2⟩⟩
theorem mk_cases0 {d m kd0 kd1 km0 km1 mk q0 q1 : CF} (h : IV d m kd0 kd1 km0 km1 mk q0 q1) : mk 0 = 0 ∨ mk 0 = 1 := by
  rcases h.2.2.1.2.2 with h | ⟨h, -⟩
  · exact Or.inl h
  · exact Or.inr h
theorem mk_cases1 {d m kd0 kd1 km0 km1 mk q0 q1 : CF} (h : IV d m kd0 kd1 km0 km1 mk q0 q1) : mk 1 = 0 ∨ mk 1 = 1 := by
  rcases h.2.2.2.2.2 with h | ⟨h, -⟩
  · exact Or.inl h
  · exact Or.inr h
theorem kr_use {kd km q : CF} {x : Int32} (h : kr kd km q x) (hx : x = 1) : ((dD (kd 0) = true ∧ dD (kd 1) = true ∧ dD (kd 2) = true ∧ dD (kd 3) = true) ∧ (dM (km 0) = true ∧ dM (km 1) = true ∧ dM (km 2) = true ∧ dM (km 3) = true)) ∧ (q 0 = kd 0 ∧ q 1 = kd 1 ∧ q 2 = kd 2 ∧ q 3 = kd 3) ∧ (q 4 = km 0 ∧ q 5 = km 1 ∧ q 6 = km 2 ∧ q 7 = km 3) := by
  obtain ⟨⟨⟨a0, a1⟩, a2, a3⟩, ⟨⟨b0, b1⟩, b2, b3⟩, h⟩ := h
  rcases h with h | ⟨-, ⟨⟨c0, c1⟩, c2, c3⟩, ⟨⟨e0, e1⟩, e2, e3⟩⟩
  · rw [h] at hx
    exact absurd hx (by decide)
  · exact ⟨⟨⟨c0, c1, c2, c3⟩, e0, e1, e2, e3⟩, ⟨a0, a1, a2, a3⟩, b0, b1, b2, b3⟩
theorem upd4 {f : CF} {x0 x1 x2 x3 y0 y1 y2 y3 : Int32} (h0 : x0 = y0) (h1 : x1 = y1) (h2 : x2 = y2) (h3 : x3 = y3) : upd (upd (upd (upd f 0 x0) 1 x1) 2 x2) 3 x3 = upd (upd (upd (upd f 0 y0) 1 y1) 2 y2) 3 y3 := by
  rw [h0, h1, h2, h3]
theorem iv_keep0 {d m kd0 kd1 km0 km1 mk q0 q1 : CF} (h : IV d m kd0 kd1 km0 km1 mk q0 q1) : IV d m (upd (upd (upd (upd kd0 0 (d 0)) 1 (d 1)) 2 (d 2)) 3 (d 3)) kd1 (upd (upd (upd (upd km0 0 (m 0)) 1 (m 1)) 2 (m 2)) 3 (m 3)) km1 (upd mk 0 1)
    (upd (upd (upd (upd (upd (upd (upd (upd q0 0 (d 0)) 4 (m 0)) 1 (d 1)) 5 (m 1)) 2 (d 2)) 6 (m 2)) 3 (d 3)) 7 (m 3)) q1 :=
  ⟨h.1, h.2.1, ⟨⟨⟨rfl, rfl⟩, rfl, rfl⟩, ⟨⟨rfl, rfl⟩, rfl, rfl⟩, Or.inr ⟨rfl, h.1, h.2.1⟩⟩, h.2.2.2⟩
theorem iv_keep1 {d m kd0 kd1 km0 km1 mk q0 q1 : CF} (h : IV d m kd0 kd1 km0 km1 mk q0 q1) : IV d m kd0 (upd (upd (upd (upd kd1 0 (d 0)) 1 (d 1)) 2 (d 2)) 3 (d 3)) km0 (upd (upd (upd (upd km1 0 (m 0)) 1 (m 1)) 2 (m 2)) 3 (m 3)) (upd mk 1 1)
    q0 (upd (upd (upd (upd (upd (upd (upd (upd q1 0 (d 0)) 4 (m 0)) 1 (d 1)) 5 (m 1)) 2 (d 2)) 6 (m 2)) 3 (d 3)) 7 (m 3)) :=
  ⟨h.1, h.2.1, h.2.2.1, ⟨⟨⟨rfl, rfl⟩, rfl, rfl⟩, ⟨⟨rfl, rfl⟩, rfl, rfl⟩, Or.inr ⟨rfl, h.1, h.2.1⟩⟩⟩
theorem iv_back0 {d m kd0 kd1 km0 km1 mk q0 q1 : CF} (h : IV d m kd0 kd1 km0 km1 mk q0 q1) (hk : mk 0 = 1) : IV (upd (upd (upd (upd d 0 (kd0 0)) 1 (kd0 1)) 2 (kd0 2)) 3 (kd0 3)) (upd (upd (upd (upd m 0 (km0 0)) 1 (km0 1)) 2 (km0 2)) 3 (km0 3)) kd0 kd1 km0 km1 mk q0 q1 := by
  obtain ⟨⟨⟨a0, a1, a2, a3⟩, b0, b1, b2, b3⟩, -⟩ := kr_use h.2.2.1 hk
  exact ⟨⟨⟨a0, a1⟩, a2, a3⟩, ⟨⟨b0, b1⟩, b2, b3⟩, h.2.2.1, h.2.2.2⟩
theorem iv_back1 {d m kd0 kd1 km0 km1 mk q0 q1 : CF} (h : IV d m kd0 kd1 km0 km1 mk q0 q1) (hk : mk 1 = 1) : IV (upd (upd (upd (upd d 0 (kd1 0)) 1 (kd1 1)) 2 (kd1 2)) 3 (kd1 3)) (upd (upd (upd (upd m 0 (km1 0)) 1 (km1 1)) 2 (km1 2)) 3 (km1 3)) kd0 kd1 km0 km1 mk q0 q1 := by
  obtain ⟨⟨⟨a0, a1, a2, a3⟩, b0, b1, b2, b3⟩, -⟩ := kr_use h.2.2.2 hk
  exact ⟨⟨⟨a0, a1⟩, a2, a3⟩, ⟨⟨b0, b1⟩, b2, b3⟩, h.2.2.1, h.2.2.2⟩
theorem n70 : ¬ (7 : Int32) = 0 := by decide
theorem rne {x : Int32} (h : decide (x = x) = false) : False := (of_decide_eq_false h) rfl
theorem s01 (c : Bool) : (decide ((bif c then (0 : Int32) else 1) = 0) || decide ((bif c then (0 : Int32) else 1) = 1)) = true := by cases c <;> rfl
theorem s0t {c : Bool} (h : c = true) : decide ((bif c then (0 : Int32) else 1) = 0) = true := by rw [h]; rfl
theorem s0f {c : Bool} (h : c = false) : decide ((bif c then (0 : Int32) else 1) = 0) = false := by rw [h]; rfl
theorem s0nt {c : Bool} (h : c = false) : (!decide ((bif c then (0 : Int32) else 1) = 0)) = true := by rw [h]; rfl
theorem s0nf {c : Bool} (h : c = true) : (!decide ((bif c then (0 : Int32) else 1) = 0)) = false := by rw [h]; rfl
theorem rno {b : Bool} {T : Prop} (h1 : b = true) (h2 : b = false) : T := Bool.noConfusion (h1.symm.trans h2)
theorem iv_id {d m kd0 kd1 km0 km1 mk q0 q1 : CF} (h : IV d m kd0 kd1 km0 km1 mk q0 q1) : IV d m kd0 kd1 km0 km1 mk q0 q1 := h
theorem rand_id {A B : Prop} (h : A ∧ B) : A ∧ B := h
theorem rbr_yes {b : Bool} {T F : Prop} (h : b = true) (t : T) : (b = true → T) ∧ (b = false → F) := ⟨fun _ => t, fun q => rno h q⟩
theorem rbr_no {b : Bool} {T F : Prop} (h : b = false) (t : F) : (b = true → T) ∧ (b = false → F) := ⟨fun q => rno q h, fun _ => t⟩
theorem rdq {x : Int32} : decide (x = x) = true := decide_eq_true rfl
-- answers that class and reference write otherwise
theorem upd_sw {f : CF} {a b : Nat} : (f b).toInt64 = (upd (upd f a (f b)) b (f a) a).toInt64 := by
  by_cases h : b = a
  · subst h
    rw [upd_same]
  · rw [upd_comm (fun e => h e.symm), upd_same]
theorem beg_1 (x : Int32) : x - 1 + 1 - 1 = x - 1 := by rw [Int32.sub_add_cancel]
theorem kp_eq {c : Bool} : (bif c then (0 : Int64) else 1) = (bif decide ((bif c then (0 : Int32) else 1) = 0) then 0 else 1) := by cases c <;> rfl
theorem al_r {n b : Int32} (h : dM n = true) (hb : dB b = true) : restF (firstF n b).toInt64 7 = firstF n b - firstF n b / 7 * 7 := by
  obtain ⟨k, k1, k2, rfl⟩ := dM_nat h
  rcases dB_or hb with rfl | rfl <;> rcases k12 k1 k2 with rfl | rfl | rfl | rfl | rfl | rfl | rfl | rfl | rfl | rfl | rfl | rfl <;> (first | rfl | decide +kernel)
theorem al_eq {a b c e : Int32} (h1 : a = c) (h2 : b = e) : (bif decide ((bif !decide (a = b) then (0 : Int32) else 1) = 0) then (0 : Int64) else 1) = (bif decide ((bif decide ((bif !decide (c = e) then (0 : Int32) else 1) = 0) then (0 : Int32) else 1) = 0) then 0 else 1) := by
  rw [h1, h2]
  cases decide (c = e) <;> rfl
-- how many differ: counted row by row, or both rows at once
def ctB (p : Bool) (c : Int32) : Int32 := bif p then c else c + Int32.ofInt 1
def s1B (p : Bool) : Int32 := bif p then 0 else 1
theorem bk_all : ∀ p0 p1 p2 p3 r0 r1 r2 r3 : Bool, ctB p3 (ctB p2 (ctB p1 (ctB p0 0))) + ctB r3 (ctB r2 (ctB r1 (ctB r0 0))) = 0 + (s1B p0 + s1B r0) + (s1B p1 + s1B r1) + (s1B p2 + s1B r2) + (s1B p3 + s1B r3) := by decide +kernel
theorem bk_eq {x0 x1 x2 x3 y0 y1 y2 y3 z0 z1 z2 z3 u0 u1 u2 u3 v0 v1 v2 v3 w0 w1 w2 w3 : Int32} (h0 : z0 = y0) (h1 : z1 = y1) (h2 : z2 = y2) (h3 : z3 = y3) (h4 : w0 = v0) (h5 : w1 = v1) (h6 : w2 = v2) (h7 : w3 = v3) :
    (ctB (decide (x3 = y3)) (ctB (decide (x2 = y2)) (ctB (decide (x1 = y1)) (ctB (decide (x0 = y0)) 0))) + ctB (decide (u3 = v3)) (ctB (decide (u2 = v2)) (ctB (decide (u1 = v1)) (ctB (decide (u0 = v0)) 0)))).toInt64 =
    (0 + (s1B (decide (x0 = z0)) + s1B (decide (u0 = w0))) + (s1B (decide (x1 = z1)) + s1B (decide (u1 = w1))) + (s1B (decide (x2 = z2)) + s1B (decide (u2 = w2))) + (s1B (decide (x3 = z3)) + s1B (decide (u3 = w3)))).toInt64 := by
  subst h0 h1 h2 h3 h4 h5 h6 h7
  exact congrArg Int32.toInt64 (bk_all _ _ _ _ _ _ _ _)
theorem lmn_x {n : Int32} (h : dM n = true) : (if lenF n 1 < lenF n 0 then lenF n 1 else lenF n 0).toInt64 = (lenF n 0).toInt64 := by
  obtain ⟨k, k1, k2, rfl⟩ := dM_nat h
  rcases k12 k1 k2 with rfl | rfl | rfl | rfl | rfl | rfl | rfl | rfl | rfl | rfl | rfl | rfl <;> (first | rfl | decide +kernel)
theorem lmx_x {n : Int32} (h : dM n = true) : (if lenF n 0 < lenF n 1 then lenF n 1 else lenF n 0).toInt64 = (lenF n 1).toInt64 := by
  obtain ⟨k, k1, k2, rfl⟩ := dM_nat h
  rcases k12 k1 k2 with rfl | rfl | rfl | rfl | rfl | rfl | rfl | rfl | rfl | rfl | rfl | rfl <;> (first | rfl | decide +kernel)
end RKV
