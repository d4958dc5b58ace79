section RKV2
/-! The turns that make texts, soundness and digests: cases 48, 49, 52, 53. -/
def Pcw (d m kd0 kd1 km0 km1 mk q0 q1 : CF) (a k t : Int32) (n : Int64) (s : Option Nat) : PW :=
  (fun j => match j with
    | 0 => d
    | 1 => m
    | 2 => kd0
    | 3 => kd1
    | 4 => km0
    | 5 => km1
    | 6 => mk
    | 7 => d
    | 8 => m
    | 9 => q0
    | 10 => q1
    | _ => mk,
   fun j => match j with
    | 0 => (false, a)
    | 1 => (false, k)
    | 2 => (false, a)
    | _ => (false, k), (false, t), (false, n), s)
theorem cw_P {d m kd0 kd1 km0 km1 mk q0 q1 : CF} {a k t : Int32} {n : Int64} {s : Option Nat} : CW d m kd0 kd1 km0 km1 mk q0 q1 a k t n s = CWP (Pcw d m kd0 kd1 km0 km1 mk q0 q1 a k t n s) := rfl
theorem lq_t {d m kd0 kd1 km0 km1 mk q0 q1 : CF} {a k : Int32} {t : Bool × Int32} {n : Int64} {s : Option Nat} {b : Nat} (hb : Nat.ble b 1000 = true) (hI : IV d m kd0 kd1 km0 km1 mk q0 q1) : LQ (.inr b) (WW d m kd0 kd1 km0 km1 mk d m q0 q1 mk (false, a) (false, k) t (false, a) (false, k) (false, n) s) :=
  lq_mk hb (inv_mk rfl rfl rfl rfl rfl hI)
set_option maxHeartbeats 4000000 in
set_option maxRecDepth 20000 in
theorem ce_l48 {L : Nat} {xs : Nat → Int32} {i : Int32} {d m kd0 kd1 km0 km1 mk q0 q1 : CF} {a k t : Int32} {n : Int64} {s : Option Nat} (hI : IV d m kd0 kd1 km0 km1 mk q0 q1) (hs1 : vp_in (i + 1) L) (hs2 : vp_in (i + 2) L) (hs3 : vp_in (i + 3) L) (hs4 : vp_in (i + 4) L) : ∃ (g1 : Bool) (v1 : Int32) (g2 : Bool) (v2 : Int32) (g3 : Bool) (v3 : Int32) (g4 : Bool) (v4 : Int32) (z2 z3 z4 : Bool), rEv (tb_l48 L xs i g1 v1 g2 v2 g3 v3 g4 v4 z2 z3 z4) LQ 100 (tb_l48 L xs i g1 v1 g2 v2 g3 v3 g4 v4 z2 z3 z4) (lv0 i) [] (CW d m kd0 kd1 km0 km1 mk q0 q1 a k t n s) 0 := by
  obtain ⟨⟨hd0, hd1, hd2, hd3⟩, hm0, hm1, hm2, hm3⟩ := iv_use hI
  refine ⟨false, 0, false, 0, false, 0, false, 0, true, true, true, ?_⟩
  refine And.intro rfl (And.intro ⟨Pcw d m kd0 kd1 km0 km1 mk q0 q1 a k t n s, rfl, hd0, hd1, hd2, hd3⟩ ?_)
  intro a1
  refine And.intro rfl (Exists.intro (Pcw d m kd0 kd1 km0 km1 mk q0 q1 a k t n s) ⟨rfl, ⟨hd0, hd1, hd2, hd3⟩, ?_⟩)
  intro a2
  exact And.intro ⟨rfl, rfl, rfl, rfl, rfl⟩ (lq_t (d := d) (m := m) (kd0 := kd0) (kd1 := kd1) (km0 := km0) (km1 := km1) (mk := mk) (q0 := q0) (q1 := q1) (a := a) (k := k) (t := (true, 0)) (n := n) (s := s) rfl hI)
set_option maxHeartbeats 4000000 in
set_option maxRecDepth 20000 in
theorem ce_l49 {L : Nat} {xs : Nat → Int32} {i : Int32} {d m kd0 kd1 km0 km1 mk q0 q1 : CF} {a k t : Int32} {n : Int64} {s : Option Nat} (hI : IV d m kd0 kd1 km0 km1 mk q0 q1) (hs1 : vp_in (i + 1) L) (hs2 : vp_in (i + 2) L) (hs3 : vp_in (i + 3) L) (hs4 : vp_in (i + 4) L) : ∃ (g1 : Bool) (v1 : Int32) (g2 : Bool) (v2 : Int32) (g3 : Bool) (v3 : Int32) (g4 : Bool) (v4 : Int32) (z2 z3 z4 : Bool), rEv (tb_l49 L xs i g1 v1 g2 v2 g3 v3 g4 v4 z2 z3 z4) LQ 100 (tb_l49 L xs i g1 v1 g2 v2 g3 v3 g4 v4 z2 z3 z4) (lv0 i) [] (CW d m kd0 kd1 km0 km1 mk q0 q1 a k t n s) 0 := by
  obtain ⟨⟨hd0, hd1, hd2, hd3⟩, hm0, hm1, hm2, hm3⟩ := iv_use hI
  refine ⟨false, 0, false, 0, false, 0, false, 0, true, true, true, ?_⟩
  refine And.intro rfl (And.intro ⟨Pcw d m kd0 kd1 km0 km1 mk q0 q1 a k t n s, rfl, hm0, hm1, hm2, hm3⟩ ?_)
  intro a1
  refine And.intro rfl (Exists.intro (Pcw d m kd0 kd1 km0 km1 mk q0 q1 a k t n s) ⟨rfl, ⟨hm0, hm1, hm2, hm3⟩, ?_⟩)
  intro a2
  exact And.intro ⟨rfl, rfl, rfl, rfl, rfl⟩ (lq_t (d := d) (m := m) (kd0 := kd0) (kd1 := kd1) (km0 := km0) (km1 := km1) (mk := mk) (q0 := q0) (q1 := q1) (a := a) (k := k) (t := (true, 0)) (n := n) (s := s) rfl hI)
set_option maxHeartbeats 4000000 in
set_option maxRecDepth 20000 in
theorem ce_l52 {L : Nat} {xs : Nat → Int32} {i : Int32} {d m kd0 kd1 km0 km1 mk q0 q1 : CF} {a k t : Int32} {n : Int64} {s : Option Nat} (hI : IV d m kd0 kd1 km0 km1 mk q0 q1) (hs1 : vp_in (i + 1) L) (hs2 : vp_in (i + 2) L) (hs3 : vp_in (i + 3) L) (hs4 : vp_in (i + 4) L) : ∃ (g1 : Bool) (v1 : Int32) (g2 : Bool) (v2 : Int32) (g3 : Bool) (v3 : Int32) (g4 : Bool) (v4 : Int32) (z2 z3 z4 : Bool), rEv (tb_l52 L xs i g1 v1 g2 v2 g3 v3 g4 v4 z2 z3 z4) LQ 100 (tb_l52 L xs i g1 v1 g2 v2 g3 v3 g4 v4 z2 z3 z4) (lv0 i) [] (CW d m kd0 kd1 km0 km1 mk q0 q1 a k t n s) 0 := by
  obtain ⟨⟨hd0, hd1, hd2, hd3⟩, hm0, hm1, hm2, hm3⟩ := iv_use hI
  refine ⟨false, 0, false, 0, false, 0, false, 0, true, true, true, ?_⟩
  refine And.intro ⟨rfl, Pcw d m kd0 kd1 km0 km1 mk q0 q1 a k t n s, rfl, ⟨hd0, hd1, hd2, hd3⟩, hm0, hm1, hm2, hm3⟩ ?_
  exact And.intro ⟨rfl, rfl, rfl, rfl, rfl⟩ (lq_t (d := d) (m := m) (kd0 := kd0) (kd1 := kd1) (km0 := km0) (km1 := km1) (mk := mk) (q0 := q0) (q1 := q1) (a := a) (k := k) (t := (true, 0)) (n := n) (s := s) rfl hI)
set_option maxHeartbeats 4000000 in
set_option maxRecDepth 20000 in
theorem ce_l53 {L : Nat} {xs : Nat → Int32} {i : Int32} {d m kd0 kd1 km0 km1 mk q0 q1 : CF} {a k t : Int32} {n : Int64} {s : Option Nat} (hI : IV d m kd0 kd1 km0 km1 mk q0 q1) (hs1 : vp_in (i + 1) L) (hs2 : vp_in (i + 2) L) (hs3 : vp_in (i + 3) L) (hs4 : vp_in (i + 4) L) : ∃ (g1 : Bool) (v1 : Int32) (g2 : Bool) (v2 : Int32) (g3 : Bool) (v3 : Int32) (g4 : Bool) (v4 : Int32) (z2 z3 z4 : Bool), rEv (tb_l53 L xs i g1 v1 g2 v2 g3 v3 g4 v4 z2 z3 z4) LQ 100 (tb_l53 L xs i g1 v1 g2 v2 g3 v3 g4 v4 z2 z3 z4) (lv0 i) [] (CW d m kd0 kd1 km0 km1 mk q0 q1 a k t n s) 0 := by
  obtain ⟨⟨hd0, hd1, hd2, hd3⟩, hm0, hm1, hm2, hm3⟩ := iv_use hI
  refine ⟨false, 0, false, 0, false, 0, false, 0, true, true, true, ?_⟩
  refine And.intro rfl (Exists.intro (Pcw d m kd0 kd1 km0 km1 mk q0 q1 a k t n s) ⟨rfl, ⟨⟨hd0, hd1, hd2, hd3⟩, hm0, hm1, hm2, hm3⟩, ⟨mk_cases0 hI, mk_cases1 hI⟩, ?_⟩)
  refine And.intro rfl (Exists.intro (Pcw d m kd0 kd1 km0 km1 mk q0 q1 a k t n s) ⟨rfl, ⟨⟨hd0, hd1, hd2, hd3⟩, hm0, hm1, hm2, hm3⟩, ?_⟩)
  refine And.intro (dig_x (d := d) (m := m) (q := mk) (a := a) (k := k) ⟨hd0, hd1, hd2, hd3⟩ ⟨hm0, hm1, hm2, hm3⟩) ?_
  exact And.intro ⟨rfl, rfl, rfl, rfl, rfl⟩ (lq_t (d := d) (m := m) (kd0 := kd0) (kd1 := kd1) (km0 := km0) (km1 := km1) (mk := mk) (q0 := q0) (q1 := q1) (a := a) (k := k) (t := (true, 0)) (n := n) (s := s) rfl hI)
end RKV2
