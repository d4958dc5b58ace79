section RKY
seal dD dM dR dR3 dO dB opF opB restF lenF firstF ordF
set_option maxHeartbeats 2000000 in
set_option maxRecDepth 20000 in
theorem ct_l8_0 {L : Nat} {xs : Nat → Int32} {i : Int32} {d m kd0 kd1 km0 km1 mk q0 q1 : CF} {a k t : Int32} {n : Int64} {s : Option Nat} (hI : IV d m kd0 kd1 km0 km1 mk q0 q1) (hs1 : vp_in (i + 1) L) (hs2 : vp_in (i + 2) L) (e1 : noC (xs (i + 1).toNatClampNeg) = false) : rEv (tb_l8 L xs i false (xs (i + 1).toNatClampNeg) false (xs (i + 2).toNatClampNeg) false 0 false 0 true true true) LQ 100 (tb_l8 L xs i false (xs (i + 1).toNatClampNeg) false (xs (i + 2).toNatClampNeg) false 0 false 0 true true true) (lv0 i) [] (CW d m kd0 kd1 km0 km1 mk q0 q1 a k t n s) 0 := by
  obtain ⟨⟨hd0, hd1, hd2, hd3⟩, hm0, hm1, hm2, hm3⟩ := iv_use hI
  have e1a := (noC_f e1).1
  have e1b := noC_lt e1
  have e1i := noC_in e1
  have e1d := d7_at hI.1 e1
  have e1m := d12_at hI.2.1 e1
  repeat' (first | refine And.intro ?_ ?_ | with_reducible assumption | (intro h; first | with_reducible exact rno h (by assumption) | with_reducible exact rno (by assumption) h | skip))
  all_goals sorry
set_option maxHeartbeats 2000000 in
set_option maxRecDepth 20000 in
theorem ct_l10_0 {L : Nat} {xs : Nat → Int32} {i : Int32} {d m kd0 kd1 km0 km1 mk q0 q1 : CF} {a k t : Int32} {n : Int64} {s : Option Nat} (hI : IV d m kd0 kd1 km0 km1 mk q0 q1) (hs1 : vp_in (i + 1) L) (hs2 : vp_in (i + 2) L) (hs3 : vp_in (i + 3) L) (hs4 : vp_in (i + 4) L) (e1 : noC (xs (i + 1).toNatClampNeg) = false) (e4 : (fun x : Int32 => decide (x = 0)) (xs (i + 4).toNatClampNeg) = true) : rEv (tb_l10 L xs i false (xs (i + 1).toNatClampNeg) false (xs (i + 2).toNatClampNeg) false (xs (i + 3).toNatClampNeg) false (xs (i + 4).toNatClampNeg) true true true) LQ 100 (tb_l10 L xs i false (xs (i + 1).toNatClampNeg) false (xs (i + 2).toNatClampNeg) false (xs (i + 3).toNatClampNeg) false (xs (i + 4).toNatClampNeg) true true true) (lv0 i) [] (CW d m kd0 kd1 km0 km1 mk q0 q1 a k t n s) 0 := by
  obtain ⟨⟨hd0, hd1, hd2, hd3⟩, hm0, hm1, hm2, hm3⟩ := iv_use hI
  have e1a := (noC_f e1).1
  have e1b := noC_lt e1
  have e1i := noC_in e1
  have e1d := d7_at hI.1 e1
  have e1m := d12_at hI.2.1 e1
  repeat' (first | refine And.intro ?_ ?_ | with_reducible assumption | (intro h; first | with_reducible exact rno h (by assumption) | with_reducible exact rno (by assumption) h | skip))
  all_goals sorry
end RKY
