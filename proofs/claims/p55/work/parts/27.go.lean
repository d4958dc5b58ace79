section RKZ
def loffs : Array Int := #[229, 269, 297, 325, 353, 393, 433, 485, 537, 577, 617, 697, 749, 789, 829, 869, 909, 949, 989, 1017, 1045, 1073, 1113, 1153, 1205, 1257, 1297, 1337, 1417, 1469, 1509, 1549, 1589, 1629, 1669, 1725, 1753, 1781, 1837, 1865, 1893, 1961, 2029, 2097, 2177, 2245, 2273, 2301, 2329, 2342, 2355, 2368, 2381, 2394]
def CGo (L : Nat) (xs : Nat → Int32) (i : Int32) (σ : List RC) (z : Nat) : Prop := ∃ (off : Int) (tgt : Nat) (tab : List RT) (ps : List Nat), loffs[z]? = some off ∧ (43 : Int) + off = (tgt : Int) ∧ ps.getD 0 0 = tgt ∧ rAll (rOk (fun G => rSc G = (L, xs)) code "RingdaysLaw" 7 rTL room_1 [] 1000 (.inr (2451, i)) (fun o => ps.getD o 0)) ps tab ∧ rEv tab LQ 100 tab (lv0 i) [] σ 0
theorem cg_l0 {L : Nat} {xs : Nat → Int32} {i : Int32} {d m kd0 kd1 km0 km1 mk q0 q1 : CF} {a k t : Int32} {n : Int64} {s : Option Nat} (hI : IV d m kd0 kd1 km0 km1 mk q0 q1) (hs1 : vp_in (i + 1) L) (hs2 : vp_in (i + 2) L) (hs3 : vp_in (i + 3) L) (hs4 : vp_in (i + 4) L) : CGo L xs i (CW d m kd0 kd1 km0 km1 mk q0 q1 a k t n s) 0 := by
  obtain ⟨g1, v1, g2, v2, g3, v3, g4, v4, z2, z3, z4, h⟩ := ce_l0 (L := L) (xs := xs) (i := i) (a := a) (k := k) (t := t) (n := n) (s := s) hI hs1 hs2 hs3 hs4
  exact ⟨229, 272, _, ps_l0, rfl, rfl, rfl, ok_l0 L xs i g1 v1 g2 v2 g3 v3 g4 v4 z2 z3 z4, h⟩
theorem cg_l1 {L : Nat} {xs : Nat → Int32} {i : Int32} {d m kd0 kd1 km0 km1 mk q0 q1 : CF} {a k t : Int32} {n : Int64} {s : Option Nat} (hI : IV d m kd0 kd1 km0 km1 mk q0 q1) (hs1 : vp_in (i + 1) L) (hs2 : vp_in (i + 2) L) (hs3 : vp_in (i + 3) L) (hs4 : vp_in (i + 4) L) : CGo L xs i (CW d m kd0 kd1 km0 km1 mk q0 q1 a k t n s) 1 := by
  obtain ⟨g1, v1, g2, v2, g3, v3, g4, v4, z2, z3, z4, h⟩ := ce_l1 (L := L) (xs := xs) (i := i) (a := a) (k := k) (t := t) (n := n) (s := s) hI hs1 hs2 hs3 hs4
  exact ⟨269, 312, _, ps_l1, rfl, rfl, rfl, ok_l1 L xs i g1 v1 g2 v2 g3 v3 g4 v4 z2 z3 z4, h⟩
theorem cg_l2 {L : Nat} {xs : Nat → Int32} {i : Int32} {d m kd0 kd1 km0 km1 mk q0 q1 : CF} {a k t : Int32} {n : Int64} {s : Option Nat} (hI : IV d m kd0 kd1 km0 km1 mk q0 q1) (hs1 : vp_in (i + 1) L) (hs2 : vp_in (i + 2) L) (hs3 : vp_in (i + 3) L) (hs4 : vp_in (i + 4) L) : CGo L xs i (CW d m kd0 kd1 km0 km1 mk q0 q1 a k t n s) 2 := by
  obtain ⟨g1, v1, g2, v2, g3, v3, g4, v4, z2, z3, z4, h⟩ := ce_l2 (L := L) (xs := xs) (i := i) (a := a) (k := k) (t := t) (n := n) (s := s) hI hs1 hs2 hs3 hs4
  exact ⟨297, 340, _, ps_l2, rfl, rfl, rfl, ok_l2 L xs i g1 v1 g2 v2 g3 v3 g4 v4 z2 z3 z4, h⟩
theorem cg_l3 {L : Nat} {xs : Nat → Int32} {i : Int32} {d m kd0 kd1 km0 km1 mk q0 q1 : CF} {a k t : Int32} {n : Int64} {s : Option Nat} (hI : IV d m kd0 kd1 km0 km1 mk q0 q1) (hs1 : vp_in (i + 1) L) (hs2 : vp_in (i + 2) L) (hs3 : vp_in (i + 3) L) (hs4 : vp_in (i + 4) L) : CGo L xs i (CW d m kd0 kd1 km0 km1 mk q0 q1 a k t n s) 3 := by
  obtain ⟨g1, v1, g2, v2, g3, v3, g4, v4, z2, z3, z4, h⟩ := ce_l3 (L := L) (xs := xs) (i := i) (a := a) (k := k) (t := t) (n := n) (s := s) hI hs1 hs2 hs3 hs4
  exact ⟨325, 368, _, ps_l3, rfl, rfl, rfl, ok_l3 L xs i g1 v1 g2 v2 g3 v3 g4 v4 z2 z3 z4, h⟩
theorem cg_l4 {L : Nat} {xs : Nat → Int32} {i : Int32} {d m kd0 kd1 km0 km1 mk q0 q1 : CF} {a k t : Int32} {n : Int64} {s : Option Nat} (hI : IV d m kd0 kd1 km0 km1 mk q0 q1) (hs1 : vp_in (i + 1) L) (hs2 : vp_in (i + 2) L) (hs3 : vp_in (i + 3) L) (hs4 : vp_in (i + 4) L) : CGo L xs i (CW d m kd0 kd1 km0 km1 mk q0 q1 a k t n s) 4 := by
  obtain ⟨g1, v1, g2, v2, g3, v3, g4, v4, z2, z3, z4, h⟩ := ce_l4 (L := L) (xs := xs) (i := i) (a := a) (k := k) (t := t) (n := n) (s := s) hI hs1 hs2 hs3 hs4
  exact ⟨353, 396, _, ps_l4, rfl, rfl, rfl, ok_l4 L xs i g1 v1 g2 v2 g3 v3 g4 v4 z2 z3 z4, h⟩
theorem cg_l5 {L : Nat} {xs : Nat → Int32} {i : Int32} {d m kd0 kd1 km0 km1 mk q0 q1 : CF} {a k t : Int32} {n : Int64} {s : Option Nat} (hI : IV d m kd0 kd1 km0 km1 mk q0 q1) (hs1 : vp_in (i + 1) L) (hs2 : vp_in (i + 2) L) (hs3 : vp_in (i + 3) L) (hs4 : vp_in (i + 4) L) : CGo L xs i (CW d m kd0 kd1 km0 km1 mk q0 q1 a k t n s) 5 := by
  obtain ⟨g1, v1, g2, v2, g3, v3, g4, v4, z2, z3, z4, h⟩ := ce_l5 (L := L) (xs := xs) (i := i) (a := a) (k := k) (t := t) (n := n) (s := s) hI hs1 hs2 hs3 hs4
  exact ⟨393, 436, _, ps_l5, rfl, rfl, rfl, ok_l5 L xs i g1 v1 g2 v2 g3 v3 g4 v4 z2 z3 z4, h⟩
theorem cg_l6 {L : Nat} {xs : Nat → Int32} {i : Int32} {d m kd0 kd1 km0 km1 mk q0 q1 : CF} {a k t : Int32} {n : Int64} {s : Option Nat} (hI : IV d m kd0 kd1 km0 km1 mk q0 q1) (hs1 : vp_in (i + 1) L) (hs2 : vp_in (i + 2) L) (hs3 : vp_in (i + 3) L) (hs4 : vp_in (i + 4) L) : CGo L xs i (CW d m kd0 kd1 km0 km1 mk q0 q1 a k t n s) 6 := by
  obtain ⟨g1, v1, g2, v2, g3, v3, g4, v4, z2, z3, z4, h⟩ := ce_l6 (L := L) (xs := xs) (i := i) (a := a) (k := k) (t := t) (n := n) (s := s) hI hs1 hs2 hs3 hs4
  exact ⟨433, 476, _, ps_l6, rfl, rfl, rfl, ok_l6 L xs i g1 v1 g2 v2 g3 v3 g4 v4 z2 z3 z4, h⟩
theorem cg_l7 {L : Nat} {xs : Nat → Int32} {i : Int32} {d m kd0 kd1 km0 km1 mk q0 q1 : CF} {a k t : Int32} {n : Int64} {s : Option Nat} (hI : IV d m kd0 kd1 km0 km1 mk q0 q1) (hs1 : vp_in (i + 1) L) (hs2 : vp_in (i + 2) L) (hs3 : vp_in (i + 3) L) (hs4 : vp_in (i + 4) L) : CGo L xs i (CW d m kd0 kd1 km0 km1 mk q0 q1 a k t n s) 7 := by
  obtain ⟨g1, v1, g2, v2, g3, v3, g4, v4, z2, z3, z4, h⟩ := ce_l7 (L := L) (xs := xs) (i := i) (a := a) (k := k) (t := t) (n := n) (s := s) hI hs1 hs2 hs3 hs4
  exact ⟨485, 528, _, ps_l7, rfl, rfl, rfl, ok_l7 L xs i g1 v1 g2 v2 g3 v3 g4 v4 z2 z3 z4, h⟩
theorem cg_l8 {L : Nat} {xs : Nat → Int32} {i : Int32} {d m kd0 kd1 km0 km1 mk q0 q1 : CF} {a k t : Int32} {n : Int64} {s : Option Nat} (hI : IV d m kd0 kd1 km0 km1 mk q0 q1) (hs1 : vp_in (i + 1) L) (hs2 : vp_in (i + 2) L) (hs3 : vp_in (i + 3) L) (hs4 : vp_in (i + 4) L) : CGo L xs i (CW d m kd0 kd1 km0 km1 mk q0 q1 a k t n s) 8 := by
  obtain ⟨g1, v1, g2, v2, g3, v3, g4, v4, z2, z3, z4, h⟩ := ce_l8 (L := L) (xs := xs) (i := i) (a := a) (k := k) (t := t) (n := n) (s := s) hI hs1 hs2 hs3 hs4
  exact ⟨537, 580, _, ps_l8, rfl, rfl, rfl, ok_l8 L xs i g1 v1 g2 v2 g3 v3 g4 v4 z2 z3 z4, h⟩
theorem cg_l9 {L : Nat} {xs : Nat → Int32} {i : Int32} {d m kd0 kd1 km0 km1 mk q0 q1 : CF} {a k t : Int32} {n : Int64} {s : Option Nat} (hI : IV d m kd0 kd1 km0 km1 mk q0 q1) (hs1 : vp_in (i + 1) L) (hs2 : vp_in (i + 2) L) (hs3 : vp_in (i + 3) L) (hs4 : vp_in (i + 4) L) : CGo L xs i (CW d m kd0 kd1 km0 km1 mk q0 q1 a k t n s) 9 := by
  obtain ⟨g1, v1, g2, v2, g3, v3, g4, v4, z2, z3, z4, h⟩ := ce_l9 (L := L) (xs := xs) (i := i) (a := a) (k := k) (t := t) (n := n) (s := s) hI hs1 hs2 hs3 hs4
  exact ⟨577, 620, _, ps_l9, rfl, rfl, rfl, ok_l9 L xs i g1 v1 g2 v2 g3 v3 g4 v4 z2 z3 z4, h⟩
theorem cg_l10 {L : Nat} {xs : Nat → Int32} {i : Int32} {d m kd0 kd1 km0 km1 mk q0 q1 : CF} {a k t : Int32} {n : Int64} {s : Option Nat} (hI : IV d m kd0 kd1 km0 km1 mk q0 q1) (hs1 : vp_in (i + 1) L) (hs2 : vp_in (i + 2) L) (hs3 : vp_in (i + 3) L) (hs4 : vp_in (i + 4) L) : CGo L xs i (CW d m kd0 kd1 km0 km1 mk q0 q1 a k t n s) 10 := by
  obtain ⟨g1, v1, g2, v2, g3, v3, g4, v4, z2, z3, z4, h⟩ := ce_l10 (L := L) (xs := xs) (i := i) (a := a) (k := k) (t := t) (n := n) (s := s) hI hs1 hs2 hs3 hs4
  exact ⟨617, 660, _, ps_l10, rfl, rfl, rfl, ok_l10 L xs i g1 v1 g2 v2 g3 v3 g4 v4 z2 z3 z4, h⟩
theorem cg_l11 {L : Nat} {xs : Nat → Int32} {i : Int32} {d m kd0 kd1 km0 km1 mk q0 q1 : CF} {a k t : Int32} {n : Int64} {s : Option Nat} (hI : IV d m kd0 kd1 km0 km1 mk q0 q1) (hs1 : vp_in (i + 1) L) (hs2 : vp_in (i + 2) L) (hs3 : vp_in (i + 3) L) (hs4 : vp_in (i + 4) L) : CGo L xs i (CW d m kd0 kd1 km0 km1 mk q0 q1 a k t n s) 11 := by
  obtain ⟨g1, v1, g2, v2, g3, v3, g4, v4, z2, z3, z4, h⟩ := ce_l11 (L := L) (xs := xs) (i := i) (a := a) (k := k) (t := t) (n := n) (s := s) hI hs1 hs2 hs3 hs4
  exact ⟨697, 740, _, ps_l11, rfl, rfl, rfl, ok_l11 L xs i g1 v1 g2 v2 g3 v3 g4 v4 z2 z3 z4, h⟩
theorem cg_l12 {L : Nat} {xs : Nat → Int32} {i : Int32} {d m kd0 kd1 km0 km1 mk q0 q1 : CF} {a k t : Int32} {n : Int64} {s : Option Nat} (hI : IV d m kd0 kd1 km0 km1 mk q0 q1) (hs1 : vp_in (i + 1) L) (hs2 : vp_in (i + 2) L) (hs3 : vp_in (i + 3) L) (hs4 : vp_in (i + 4) L) : CGo L xs i (CW d m kd0 kd1 km0 km1 mk q0 q1 a k t n s) 12 := by
  obtain ⟨g1, v1, g2, v2, g3, v3, g4, v4, z2, z3, z4, h⟩ := ce_l12 (L := L) (xs := xs) (i := i) (a := a) (k := k) (t := t) (n := n) (s := s) hI hs1 hs2 hs3 hs4
  exact ⟨749, 792, _, ps_l12, rfl, rfl, rfl, ok_l12 L xs i g1 v1 g2 v2 g3 v3 g4 v4 z2 z3 z4, h⟩
theorem cg_l13 {L : Nat} {xs : Nat → Int32} {i : Int32} {d m kd0 kd1 km0 km1 mk q0 q1 : CF} {a k t : Int32} {n : Int64} {s : Option Nat} (hI : IV d m kd0 kd1 km0 km1 mk q0 q1) (hs1 : vp_in (i + 1) L) (hs2 : vp_in (i + 2) L) (hs3 : vp_in (i + 3) L) (hs4 : vp_in (i + 4) L) : CGo L xs i (CW d m kd0 kd1 km0 km1 mk q0 q1 a k t n s) 13 := by
  obtain ⟨g1, v1, g2, v2, g3, v3, g4, v4, z2, z3, z4, h⟩ := ce_l13 (L := L) (xs := xs) (i := i) (a := a) (k := k) (t := t) (n := n) (s := s) hI hs1 hs2 hs3 hs4
  exact ⟨789, 832, _, ps_l13, rfl, rfl, rfl, ok_l13 L xs i g1 v1 g2 v2 g3 v3 g4 v4 z2 z3 z4, h⟩
theorem cg_l14 {L : Nat} {xs : Nat → Int32} {i : Int32} {d m kd0 kd1 km0 km1 mk q0 q1 : CF} {a k t : Int32} {n : Int64} {s : Option Nat} (hI : IV d m kd0 kd1 km0 km1 mk q0 q1) (hs1 : vp_in (i + 1) L) (hs2 : vp_in (i + 2) L) (hs3 : vp_in (i + 3) L) (hs4 : vp_in (i + 4) L) : CGo L xs i (CW d m kd0 kd1 km0 km1 mk q0 q1 a k t n s) 14 := by
  obtain ⟨g1, v1, g2, v2, g3, v3, g4, v4, z2, z3, z4, h⟩ := ce_l14 (L := L) (xs := xs) (i := i) (a := a) (k := k) (t := t) (n := n) (s := s) hI hs1 hs2 hs3 hs4
  exact ⟨829, 872, _, ps_l14, rfl, rfl, rfl, ok_l14 L xs i g1 v1 g2 v2 g3 v3 g4 v4 z2 z3 z4, h⟩
theorem cg_l15 {L : Nat} {xs : Nat → Int32} {i : Int32} {d m kd0 kd1 km0 km1 mk q0 q1 : CF} {a k t : Int32} {n : Int64} {s : Option Nat} (hI : IV d m kd0 kd1 km0 km1 mk q0 q1) (hs1 : vp_in (i + 1) L) (hs2 : vp_in (i + 2) L) (hs3 : vp_in (i + 3) L) (hs4 : vp_in (i + 4) L) : CGo L xs i (CW d m kd0 kd1 km0 km1 mk q0 q1 a k t n s) 15 := by
  obtain ⟨g1, v1, g2, v2, g3, v3, g4, v4, z2, z3, z4, h⟩ := ce_l15 (L := L) (xs := xs) (i := i) (a := a) (k := k) (t := t) (n := n) (s := s) hI hs1 hs2 hs3 hs4
  exact ⟨869, 912, _, ps_l15, rfl, rfl, rfl, ok_l15 L xs i g1 v1 g2 v2 g3 v3 g4 v4 z2 z3 z4, h⟩
theorem cg_l16 {L : Nat} {xs : Nat → Int32} {i : Int32} {d m kd0 kd1 km0 km1 mk q0 q1 : CF} {a k t : Int32} {n : Int64} {s : Option Nat} (hI : IV d m kd0 kd1 km0 km1 mk q0 q1) (hs1 : vp_in (i + 1) L) (hs2 : vp_in (i + 2) L) (hs3 : vp_in (i + 3) L) (hs4 : vp_in (i + 4) L) : CGo L xs i (CW d m kd0 kd1 km0 km1 mk q0 q1 a k t n s) 16 := by
  obtain ⟨g1, v1, g2, v2, g3, v3, g4, v4, z2, z3, z4, h⟩ := ce_l16 (L := L) (xs := xs) (i := i) (a := a) (k := k) (t := t) (n := n) (s := s) hI hs1 hs2 hs3 hs4
  exact ⟨909, 952, _, ps_l16, rfl, rfl, rfl, ok_l16 L xs i g1 v1 g2 v2 g3 v3 g4 v4 z2 z3 z4, h⟩
theorem cg_l17 {L : Nat} {xs : Nat → Int32} {i : Int32} {d m kd0 kd1 km0 km1 mk q0 q1 : CF} {a k t : Int32} {n : Int64} {s : Option Nat} (hI : IV d m kd0 kd1 km0 km1 mk q0 q1) (hs1 : vp_in (i + 1) L) (hs2 : vp_in (i + 2) L) (hs3 : vp_in (i + 3) L) (hs4 : vp_in (i + 4) L) : CGo L xs i (CW d m kd0 kd1 km0 km1 mk q0 q1 a k t n s) 17 := by
  obtain ⟨g1, v1, g2, v2, g3, v3, g4, v4, z2, z3, z4, h⟩ := ce_l17 (L := L) (xs := xs) (i := i) (a := a) (k := k) (t := t) (n := n) (s := s) hI hs1 hs2 hs3 hs4
  exact ⟨949, 992, _, ps_l17, rfl, rfl, rfl, ok_l17 L xs i g1 v1 g2 v2 g3 v3 g4 v4 z2 z3 z4, h⟩
theorem cg_l18 {L : Nat} {xs : Nat → Int32} {i : Int32} {d m kd0 kd1 km0 km1 mk q0 q1 : CF} {a k t : Int32} {n : Int64} {s : Option Nat} (hI : IV d m kd0 kd1 km0 km1 mk q0 q1) (hs1 : vp_in (i + 1) L) (hs2 : vp_in (i + 2) L) (hs3 : vp_in (i + 3) L) (hs4 : vp_in (i + 4) L) : CGo L xs i (CW d m kd0 kd1 km0 km1 mk q0 q1 a k t n s) 18 := by
  obtain ⟨g1, v1, g2, v2, g3, v3, g4, v4, z2, z3, z4, h⟩ := ce_l18 (L := L) (xs := xs) (i := i) (a := a) (k := k) (t := t) (n := n) (s := s) hI hs1 hs2 hs3 hs4
  exact ⟨989, 1032, _, ps_l18, rfl, rfl, rfl, ok_l18 L xs i g1 v1 g2 v2 g3 v3 g4 v4 z2 z3 z4, h⟩
theorem cg_l19 {L : Nat} {xs : Nat → Int32} {i : Int32} {d m kd0 kd1 km0 km1 mk q0 q1 : CF} {a k t : Int32} {n : Int64} {s : Option Nat} (hI : IV d m kd0 kd1 km0 km1 mk q0 q1) (hs1 : vp_in (i + 1) L) (hs2 : vp_in (i + 2) L) (hs3 : vp_in (i + 3) L) (hs4 : vp_in (i + 4) L) : CGo L xs i (CW d m kd0 kd1 km0 km1 mk q0 q1 a k t n s) 19 := by
  obtain ⟨g1, v1, g2, v2, g3, v3, g4, v4, z2, z3, z4, h⟩ := ce_l19 (L := L) (xs := xs) (i := i) (a := a) (k := k) (t := t) (n := n) (s := s) hI hs1 hs2 hs3 hs4
  exact ⟨1017, 1060, _, ps_l19, rfl, rfl, rfl, ok_l19 L xs i g1 v1 g2 v2 g3 v3 g4 v4 z2 z3 z4, h⟩
theorem cg_l20 {L : Nat} {xs : Nat → Int32} {i : Int32} {d m kd0 kd1 km0 km1 mk q0 q1 : CF} {a k t : Int32} {n : Int64} {s : Option Nat} (hI : IV d m kd0 kd1 km0 km1 mk q0 q1) (hs1 : vp_in (i + 1) L) (hs2 : vp_in (i + 2) L) (hs3 : vp_in (i + 3) L) (hs4 : vp_in (i + 4) L) : CGo L xs i (CW d m kd0 kd1 km0 km1 mk q0 q1 a k t n s) 20 := by
  obtain ⟨g1, v1, g2, v2, g3, v3, g4, v4, z2, z3, z4, h⟩ := ce_l20 (L := L) (xs := xs) (i := i) (a := a) (k := k) (t := t) (n := n) (s := s) hI hs1 hs2 hs3 hs4
  exact ⟨1045, 1088, _, ps_l20, rfl, rfl, rfl, ok_l20 L xs i g1 v1 g2 v2 g3 v3 g4 v4 z2 z3 z4, h⟩
theorem cg_l21 {L : Nat} {xs : Nat → Int32} {i : Int32} {d m kd0 kd1 km0 km1 mk q0 q1 : CF} {a k t : Int32} {n : Int64} {s : Option Nat} (hI : IV d m kd0 kd1 km0 km1 mk q0 q1) (hs1 : vp_in (i + 1) L) (hs2 : vp_in (i + 2) L) (hs3 : vp_in (i + 3) L) (hs4 : vp_in (i + 4) L) : CGo L xs i (CW d m kd0 kd1 km0 km1 mk q0 q1 a k t n s) 21 := by
  obtain ⟨g1, v1, g2, v2, g3, v3, g4, v4, z2, z3, z4, h⟩ := ce_l21 (L := L) (xs := xs) (i := i) (a := a) (k := k) (t := t) (n := n) (s := s) hI hs1 hs2 hs3 hs4
  exact ⟨1073, 1116, _, ps_l21, rfl, rfl, rfl, ok_l21 L xs i g1 v1 g2 v2 g3 v3 g4 v4 z2 z3 z4, h⟩
theorem cg_l22 {L : Nat} {xs : Nat → Int32} {i : Int32} {d m kd0 kd1 km0 km1 mk q0 q1 : CF} {a k t : Int32} {n : Int64} {s : Option Nat} (hI : IV d m kd0 kd1 km0 km1 mk q0 q1) (hs1 : vp_in (i + 1) L) (hs2 : vp_in (i + 2) L) (hs3 : vp_in (i + 3) L) (hs4 : vp_in (i + 4) L) : CGo L xs i (CW d m kd0 kd1 km0 km1 mk q0 q1 a k t n s) 22 := by
  obtain ⟨g1, v1, g2, v2, g3, v3, g4, v4, z2, z3, z4, h⟩ := ce_l22 (L := L) (xs := xs) (i := i) (a := a) (k := k) (t := t) (n := n) (s := s) hI hs1 hs2 hs3 hs4
  exact ⟨1113, 1156, _, ps_l22, rfl, rfl, rfl, ok_l22 L xs i g1 v1 g2 v2 g3 v3 g4 v4 z2 z3 z4, h⟩
theorem cg_l23 {L : Nat} {xs : Nat → Int32} {i : Int32} {d m kd0 kd1 km0 km1 mk q0 q1 : CF} {a k t : Int32} {n : Int64} {s : Option Nat} (hI : IV d m kd0 kd1 km0 km1 mk q0 q1) (hs1 : vp_in (i + 1) L) (hs2 : vp_in (i + 2) L) (hs3 : vp_in (i + 3) L) (hs4 : vp_in (i + 4) L) : CGo L xs i (CW d m kd0 kd1 km0 km1 mk q0 q1 a k t n s) 23 := by
  obtain ⟨g1, v1, g2, v2, g3, v3, g4, v4, z2, z3, z4, h⟩ := ce_l23 (L := L) (xs := xs) (i := i) (a := a) (k := k) (t := t) (n := n) (s := s) hI hs1 hs2 hs3 hs4
  exact ⟨1153, 1196, _, ps_l23, rfl, rfl, rfl, ok_l23 L xs i g1 v1 g2 v2 g3 v3 g4 v4 z2 z3 z4, h⟩
theorem cg_l24 {L : Nat} {xs : Nat → Int32} {i : Int32} {d m kd0 kd1 km0 km1 mk q0 q1 : CF} {a k t : Int32} {n : Int64} {s : Option Nat} (hI : IV d m kd0 kd1 km0 km1 mk q0 q1) (hs1 : vp_in (i + 1) L) (hs2 : vp_in (i + 2) L) (hs3 : vp_in (i + 3) L) (hs4 : vp_in (i + 4) L) : CGo L xs i (CW d m kd0 kd1 km0 km1 mk q0 q1 a k t n s) 24 := by
  obtain ⟨g1, v1, g2, v2, g3, v3, g4, v4, z2, z3, z4, h⟩ := ce_l24 (L := L) (xs := xs) (i := i) (a := a) (k := k) (t := t) (n := n) (s := s) hI hs1 hs2 hs3 hs4
  exact ⟨1205, 1248, _, ps_l24, rfl, rfl, rfl, ok_l24 L xs i g1 v1 g2 v2 g3 v3 g4 v4 z2 z3 z4, h⟩
theorem cg_l25 {L : Nat} {xs : Nat → Int32} {i : Int32} {d m kd0 kd1 km0 km1 mk q0 q1 : CF} {a k t : Int32} {n : Int64} {s : Option Nat} (hI : IV d m kd0 kd1 km0 km1 mk q0 q1) (hs1 : vp_in (i + 1) L) (hs2 : vp_in (i + 2) L) (hs3 : vp_in (i + 3) L) (hs4 : vp_in (i + 4) L) : CGo L xs i (CW d m kd0 kd1 km0 km1 mk q0 q1 a k t n s) 25 := by
  obtain ⟨g1, v1, g2, v2, g3, v3, g4, v4, z2, z3, z4, h⟩ := ce_l25 (L := L) (xs := xs) (i := i) (a := a) (k := k) (t := t) (n := n) (s := s) hI hs1 hs2 hs3 hs4
  exact ⟨1257, 1300, _, ps_l25, rfl, rfl, rfl, ok_l25 L xs i g1 v1 g2 v2 g3 v3 g4 v4 z2 z3 z4, h⟩
theorem cg_l26 {L : Nat} {xs : Nat → Int32} {i : Int32} {d m kd0 kd1 km0 km1 mk q0 q1 : CF} {a k t : Int32} {n : Int64} {s : Option Nat} (hI : IV d m kd0 kd1 km0 km1 mk q0 q1) (hs1 : vp_in (i + 1) L) (hs2 : vp_in (i + 2) L) (hs3 : vp_in (i + 3) L) (hs4 : vp_in (i + 4) L) : CGo L xs i (CW d m kd0 kd1 km0 km1 mk q0 q1 a k t n s) 26 := by
  obtain ⟨g1, v1, g2, v2, g3, v3, g4, v4, z2, z3, z4, h⟩ := ce_l26 (L := L) (xs := xs) (i := i) (a := a) (k := k) (t := t) (n := n) (s := s) hI hs1 hs2 hs3 hs4
  exact ⟨1297, 1340, _, ps_l26, rfl, rfl, rfl, ok_l26 L xs i g1 v1 g2 v2 g3 v3 g4 v4 z2 z3 z4, h⟩
theorem cg_l27 {L : Nat} {xs : Nat → Int32} {i : Int32} {d m kd0 kd1 km0 km1 mk q0 q1 : CF} {a k t : Int32} {n : Int64} {s : Option Nat} (hI : IV d m kd0 kd1 km0 km1 mk q0 q1) (hs1 : vp_in (i + 1) L) (hs2 : vp_in (i + 2) L) (hs3 : vp_in (i + 3) L) (hs4 : vp_in (i + 4) L) : CGo L xs i (CW d m kd0 kd1 km0 km1 mk q0 q1 a k t n s) 27 := by
  obtain ⟨g1, v1, g2, v2, g3, v3, g4, v4, z2, z3, z4, h⟩ := ce_l27 (L := L) (xs := xs) (i := i) (a := a) (k := k) (t := t) (n := n) (s := s) hI hs1 hs2 hs3 hs4
  exact ⟨1337, 1380, _, ps_l27, rfl, rfl, rfl, ok_l27 L xs i g1 v1 g2 v2 g3 v3 g4 v4 z2 z3 z4, h⟩
theorem cg_l28 {L : Nat} {xs : Nat → Int32} {i : Int32} {d m kd0 kd1 km0 km1 mk q0 q1 : CF} {a k t : Int32} {n : Int64} {s : Option Nat} (hI : IV d m kd0 kd1 km0 km1 mk q0 q1) (hs1 : vp_in (i + 1) L) (hs2 : vp_in (i + 2) L) (hs3 : vp_in (i + 3) L) (hs4 : vp_in (i + 4) L) : CGo L xs i (CW d m kd0 kd1 km0 km1 mk q0 q1 a k t n s) 28 := by
  obtain ⟨g1, v1, g2, v2, g3, v3, g4, v4, z2, z3, z4, h⟩ := ce_l28 (L := L) (xs := xs) (i := i) (a := a) (k := k) (t := t) (n := n) (s := s) hI hs1 hs2 hs3 hs4
  exact ⟨1417, 1460, _, ps_l28, rfl, rfl, rfl, ok_l28 L xs i g1 v1 g2 v2 g3 v3 g4 v4 z2 z3 z4, h⟩
theorem cg_l29 {L : Nat} {xs : Nat → Int32} {i : Int32} {d m kd0 kd1 km0 km1 mk q0 q1 : CF} {a k t : Int32} {n : Int64} {s : Option Nat} (hI : IV d m kd0 kd1 km0 km1 mk q0 q1) (hs1 : vp_in (i + 1) L) (hs2 : vp_in (i + 2) L) (hs3 : vp_in (i + 3) L) (hs4 : vp_in (i + 4) L) : CGo L xs i (CW d m kd0 kd1 km0 km1 mk q0 q1 a k t n s) 29 := by
  obtain ⟨g1, v1, g2, v2, g3, v3, g4, v4, z2, z3, z4, h⟩ := ce_l29 (L := L) (xs := xs) (i := i) (a := a) (k := k) (t := t) (n := n) (s := s) hI hs1 hs2 hs3 hs4
  exact ⟨1469, 1512, _, ps_l29, rfl, rfl, rfl, ok_l29 L xs i g1 v1 g2 v2 g3 v3 g4 v4 z2 z3 z4, h⟩
theorem cg_l30 {L : Nat} {xs : Nat → Int32} {i : Int32} {d m kd0 kd1 km0 km1 mk q0 q1 : CF} {a k t : Int32} {n : Int64} {s : Option Nat} (hI : IV d m kd0 kd1 km0 km1 mk q0 q1) (hs1 : vp_in (i + 1) L) (hs2 : vp_in (i + 2) L) (hs3 : vp_in (i + 3) L) (hs4 : vp_in (i + 4) L) : CGo L xs i (CW d m kd0 kd1 km0 km1 mk q0 q1 a k t n s) 30 := by
  obtain ⟨g1, v1, g2, v2, g3, v3, g4, v4, z2, z3, z4, h⟩ := ce_l30 (L := L) (xs := xs) (i := i) (a := a) (k := k) (t := t) (n := n) (s := s) hI hs1 hs2 hs3 hs4
  exact ⟨1509, 1552, _, ps_l30, rfl, rfl, rfl, ok_l30 L xs i g1 v1 g2 v2 g3 v3 g4 v4 z2 z3 z4, h⟩
theorem cg_l31 {L : Nat} {xs : Nat → Int32} {i : Int32} {d m kd0 kd1 km0 km1 mk q0 q1 : CF} {a k t : Int32} {n : Int64} {s : Option Nat} (hI : IV d m kd0 kd1 km0 km1 mk q0 q1) (hs1 : vp_in (i + 1) L) (hs2 : vp_in (i + 2) L) (hs3 : vp_in (i + 3) L) (hs4 : vp_in (i + 4) L) : CGo L xs i (CW d m kd0 kd1 km0 km1 mk q0 q1 a k t n s) 31 := by
  obtain ⟨g1, v1, g2, v2, g3, v3, g4, v4, z2, z3, z4, h⟩ := ce_l31 (L := L) (xs := xs) (i := i) (a := a) (k := k) (t := t) (n := n) (s := s) hI hs1 hs2 hs3 hs4
  exact ⟨1549, 1592, _, ps_l31, rfl, rfl, rfl, ok_l31 L xs i g1 v1 g2 v2 g3 v3 g4 v4 z2 z3 z4, h⟩
theorem cg_l32 {L : Nat} {xs : Nat → Int32} {i : Int32} {d m kd0 kd1 km0 km1 mk q0 q1 : CF} {a k t : Int32} {n : Int64} {s : Option Nat} (hI : IV d m kd0 kd1 km0 km1 mk q0 q1) (hs1 : vp_in (i + 1) L) (hs2 : vp_in (i + 2) L) (hs3 : vp_in (i + 3) L) (hs4 : vp_in (i + 4) L) : CGo L xs i (CW d m kd0 kd1 km0 km1 mk q0 q1 a k t n s) 32 := by
  obtain ⟨g1, v1, g2, v2, g3, v3, g4, v4, z2, z3, z4, h⟩ := ce_l32 (L := L) (xs := xs) (i := i) (a := a) (k := k) (t := t) (n := n) (s := s) hI hs1 hs2 hs3 hs4
  exact ⟨1589, 1632, _, ps_l32, rfl, rfl, rfl, ok_l32 L xs i g1 v1 g2 v2 g3 v3 g4 v4 z2 z3 z4, h⟩
theorem cg_l33 {L : Nat} {xs : Nat → Int32} {i : Int32} {d m kd0 kd1 km0 km1 mk q0 q1 : CF} {a k t : Int32} {n : Int64} {s : Option Nat} (hI : IV d m kd0 kd1 km0 km1 mk q0 q1) (hs1 : vp_in (i + 1) L) (hs2 : vp_in (i + 2) L) (hs3 : vp_in (i + 3) L) (hs4 : vp_in (i + 4) L) : CGo L xs i (CW d m kd0 kd1 km0 km1 mk q0 q1 a k t n s) 33 := by
  obtain ⟨g1, v1, g2, v2, g3, v3, g4, v4, z2, z3, z4, h⟩ := ce_l33 (L := L) (xs := xs) (i := i) (a := a) (k := k) (t := t) (n := n) (s := s) hI hs1 hs2 hs3 hs4
  exact ⟨1629, 1672, _, ps_l33, rfl, rfl, rfl, ok_l33 L xs i g1 v1 g2 v2 g3 v3 g4 v4 z2 z3 z4, h⟩
theorem cg_l34 {L : Nat} {xs : Nat → Int32} {i : Int32} {d m kd0 kd1 km0 km1 mk q0 q1 : CF} {a k t : Int32} {n : Int64} {s : Option Nat} (hI : IV d m kd0 kd1 km0 km1 mk q0 q1) (hs1 : vp_in (i + 1) L) (hs2 : vp_in (i + 2) L) (hs3 : vp_in (i + 3) L) (hs4 : vp_in (i + 4) L) : CGo L xs i (CW d m kd0 kd1 km0 km1 mk q0 q1 a k t n s) 34 := by
  obtain ⟨g1, v1, g2, v2, g3, v3, g4, v4, z2, z3, z4, h⟩ := ce_l34 (L := L) (xs := xs) (i := i) (a := a) (k := k) (t := t) (n := n) (s := s) hI hs1 hs2 hs3 hs4
  exact ⟨1669, 1712, _, ps_l34, rfl, rfl, rfl, ok_l34 L xs i g1 v1 g2 v2 g3 v3 g4 v4 z2 z3 z4, h⟩
theorem cg_l35 {L : Nat} {xs : Nat → Int32} {i : Int32} {d m kd0 kd1 km0 km1 mk q0 q1 : CF} {a k t : Int32} {n : Int64} {s : Option Nat} (hI : IV d m kd0 kd1 km0 km1 mk q0 q1) (hs1 : vp_in (i + 1) L) (hs2 : vp_in (i + 2) L) (hs3 : vp_in (i + 3) L) (hs4 : vp_in (i + 4) L) : CGo L xs i (CW d m kd0 kd1 km0 km1 mk q0 q1 a k t n s) 35 := by
  obtain ⟨g1, v1, g2, v2, g3, v3, g4, v4, z2, z3, z4, h⟩ := ce_l35 (L := L) (xs := xs) (i := i) (a := a) (k := k) (t := t) (n := n) (s := s) hI hs1 hs2 hs3 hs4
  exact ⟨1725, 1768, _, ps_l35, rfl, rfl, rfl, ok_l35 L xs i g1 v1 g2 v2 g3 v3 g4 v4 z2 z3 z4, h⟩
theorem cg_l36 {L : Nat} {xs : Nat → Int32} {i : Int32} {d m kd0 kd1 km0 km1 mk q0 q1 : CF} {a k t : Int32} {n : Int64} {s : Option Nat} (hI : IV d m kd0 kd1 km0 km1 mk q0 q1) (hs1 : vp_in (i + 1) L) (hs2 : vp_in (i + 2) L) (hs3 : vp_in (i + 3) L) (hs4 : vp_in (i + 4) L) : CGo L xs i (CW d m kd0 kd1 km0 km1 mk q0 q1 a k t n s) 36 := by
  obtain ⟨g1, v1, g2, v2, g3, v3, g4, v4, z2, z3, z4, h⟩ := ce_l36 (L := L) (xs := xs) (i := i) (a := a) (k := k) (t := t) (n := n) (s := s) hI hs1 hs2 hs3 hs4
  exact ⟨1753, 1796, _, ps_l36, rfl, rfl, rfl, ok_l36 L xs i g1 v1 g2 v2 g3 v3 g4 v4 z2 z3 z4, h⟩
theorem cg_l37 {L : Nat} {xs : Nat → Int32} {i : Int32} {d m kd0 kd1 km0 km1 mk q0 q1 : CF} {a k t : Int32} {n : Int64} {s : Option Nat} (hI : IV d m kd0 kd1 km0 km1 mk q0 q1) (hs1 : vp_in (i + 1) L) (hs2 : vp_in (i + 2) L) (hs3 : vp_in (i + 3) L) (hs4 : vp_in (i + 4) L) : CGo L xs i (CW d m kd0 kd1 km0 km1 mk q0 q1 a k t n s) 37 := by
  obtain ⟨g1, v1, g2, v2, g3, v3, g4, v4, z2, z3, z4, h⟩ := ce_l37 (L := L) (xs := xs) (i := i) (a := a) (k := k) (t := t) (n := n) (s := s) hI hs1 hs2 hs3 hs4
  exact ⟨1781, 1824, _, ps_l37, rfl, rfl, rfl, ok_l37 L xs i g1 v1 g2 v2 g3 v3 g4 v4 z2 z3 z4, h⟩
theorem cg_l38 {L : Nat} {xs : Nat → Int32} {i : Int32} {d m kd0 kd1 km0 km1 mk q0 q1 : CF} {a k t : Int32} {n : Int64} {s : Option Nat} (hI : IV d m kd0 kd1 km0 km1 mk q0 q1) (hs1 : vp_in (i + 1) L) (hs2 : vp_in (i + 2) L) (hs3 : vp_in (i + 3) L) (hs4 : vp_in (i + 4) L) : CGo L xs i (CW d m kd0 kd1 km0 km1 mk q0 q1 a k t n s) 38 := by
  obtain ⟨g1, v1, g2, v2, g3, v3, g4, v4, z2, z3, z4, h⟩ := ce_l38 (L := L) (xs := xs) (i := i) (a := a) (k := k) (t := t) (n := n) (s := s) hI hs1 hs2 hs3 hs4
  exact ⟨1837, 1880, _, ps_l38, rfl, rfl, rfl, ok_l38 L xs i g1 v1 g2 v2 g3 v3 g4 v4 z2 z3 z4, h⟩
theorem cg_l39 {L : Nat} {xs : Nat → Int32} {i : Int32} {d m kd0 kd1 km0 km1 mk q0 q1 : CF} {a k t : Int32} {n : Int64} {s : Option Nat} (hI : IV d m kd0 kd1 km0 km1 mk q0 q1) (hs1 : vp_in (i + 1) L) (hs2 : vp_in (i + 2) L) (hs3 : vp_in (i + 3) L) (hs4 : vp_in (i + 4) L) : CGo L xs i (CW d m kd0 kd1 km0 km1 mk q0 q1 a k t n s) 39 := by
  obtain ⟨g1, v1, g2, v2, g3, v3, g4, v4, z2, z3, z4, h⟩ := ce_l39 (L := L) (xs := xs) (i := i) (a := a) (k := k) (t := t) (n := n) (s := s) hI hs1 hs2 hs3 hs4
  exact ⟨1865, 1908, _, ps_l39, rfl, rfl, rfl, ok_l39 L xs i g1 v1 g2 v2 g3 v3 g4 v4 z2 z3 z4, h⟩
theorem cg_l40 {L : Nat} {xs : Nat → Int32} {i : Int32} {d m kd0 kd1 km0 km1 mk q0 q1 : CF} {a k t : Int32} {n : Int64} {s : Option Nat} (hI : IV d m kd0 kd1 km0 km1 mk q0 q1) (hs1 : vp_in (i + 1) L) (hs2 : vp_in (i + 2) L) (hs3 : vp_in (i + 3) L) (hs4 : vp_in (i + 4) L) : CGo L xs i (CW d m kd0 kd1 km0 km1 mk q0 q1 a k t n s) 40 := by
  obtain ⟨g1, v1, g2, v2, g3, v3, g4, v4, z2, z3, z4, h⟩ := ce_l40 (L := L) (xs := xs) (i := i) (a := a) (k := k) (t := t) (n := n) (s := s) hI hs1 hs2 hs3 hs4
  exact ⟨1893, 1936, _, ps_l40, rfl, rfl, rfl, ok_l40 L xs i g1 v1 g2 v2 g3 v3 g4 v4 z2 z3 z4, h⟩
theorem cg_l41 {L : Nat} {xs : Nat → Int32} {i : Int32} {d m kd0 kd1 km0 km1 mk q0 q1 : CF} {a k t : Int32} {n : Int64} {s : Option Nat} (hI : IV d m kd0 kd1 km0 km1 mk q0 q1) (hs1 : vp_in (i + 1) L) (hs2 : vp_in (i + 2) L) (hs3 : vp_in (i + 3) L) (hs4 : vp_in (i + 4) L) : CGo L xs i (CW d m kd0 kd1 km0 km1 mk q0 q1 a k t n s) 41 := by
  obtain ⟨g1, v1, g2, v2, g3, v3, g4, v4, z2, z3, z4, h⟩ := ce_l41 (L := L) (xs := xs) (i := i) (a := a) (k := k) (t := t) (n := n) (s := s) hI hs1 hs2 hs3 hs4
  exact ⟨1961, 2004, _, ps_l41, rfl, rfl, rfl, ok_l41 L xs i g1 v1 g2 v2 g3 v3 g4 v4 z2 z3 z4, h⟩
theorem cg_l42 {L : Nat} {xs : Nat → Int32} {i : Int32} {d m kd0 kd1 km0 km1 mk q0 q1 : CF} {a k t : Int32} {n : Int64} {s : Option Nat} (hI : IV d m kd0 kd1 km0 km1 mk q0 q1) (hs1 : vp_in (i + 1) L) (hs2 : vp_in (i + 2) L) (hs3 : vp_in (i + 3) L) (hs4 : vp_in (i + 4) L) : CGo L xs i (CW d m kd0 kd1 km0 km1 mk q0 q1 a k t n s) 42 := by
  obtain ⟨g1, v1, g2, v2, g3, v3, g4, v4, z2, z3, z4, h⟩ := ce_l42 (L := L) (xs := xs) (i := i) (a := a) (k := k) (t := t) (n := n) (s := s) hI hs1 hs2 hs3 hs4
  exact ⟨2029, 2072, _, ps_l42, rfl, rfl, rfl, ok_l42 L xs i g1 v1 g2 v2 g3 v3 g4 v4 z2 z3 z4, h⟩
theorem cg_l43 {L : Nat} {xs : Nat → Int32} {i : Int32} {d m kd0 kd1 km0 km1 mk q0 q1 : CF} {a k t : Int32} {n : Int64} {s : Option Nat} (hI : IV d m kd0 kd1 km0 km1 mk q0 q1) (hs1 : vp_in (i + 1) L) (hs2 : vp_in (i + 2) L) (hs3 : vp_in (i + 3) L) (hs4 : vp_in (i + 4) L) : CGo L xs i (CW d m kd0 kd1 km0 km1 mk q0 q1 a k t n s) 43 := by
  obtain ⟨g1, v1, g2, v2, g3, v3, g4, v4, z2, z3, z4, h⟩ := ce_l43 (L := L) (xs := xs) (i := i) (a := a) (k := k) (t := t) (n := n) (s := s) hI hs1 hs2 hs3 hs4
  exact ⟨2097, 2140, _, ps_l43, rfl, rfl, rfl, ok_l43 L xs i g1 v1 g2 v2 g3 v3 g4 v4 z2 z3 z4, h⟩
theorem cg_l44 {L : Nat} {xs : Nat → Int32} {i : Int32} {d m kd0 kd1 km0 km1 mk q0 q1 : CF} {a k t : Int32} {n : Int64} {s : Option Nat} (hI : IV d m kd0 kd1 km0 km1 mk q0 q1) (hs1 : vp_in (i + 1) L) (hs2 : vp_in (i + 2) L) (hs3 : vp_in (i + 3) L) (hs4 : vp_in (i + 4) L) : CGo L xs i (CW d m kd0 kd1 km0 km1 mk q0 q1 a k t n s) 44 := by
  obtain ⟨g1, v1, g2, v2, g3, v3, g4, v4, z2, z3, z4, h⟩ := ce_l44 (L := L) (xs := xs) (i := i) (a := a) (k := k) (t := t) (n := n) (s := s) hI hs1 hs2 hs3 hs4
  exact ⟨2177, 2220, _, ps_l44, rfl, rfl, rfl, ok_l44 L xs i g1 v1 g2 v2 g3 v3 g4 v4 z2 z3 z4, h⟩
theorem cg_l45 {L : Nat} {xs : Nat → Int32} {i : Int32} {d m kd0 kd1 km0 km1 mk q0 q1 : CF} {a k t : Int32} {n : Int64} {s : Option Nat} (hI : IV d m kd0 kd1 km0 km1 mk q0 q1) (hs1 : vp_in (i + 1) L) (hs2 : vp_in (i + 2) L) (hs3 : vp_in (i + 3) L) (hs4 : vp_in (i + 4) L) : CGo L xs i (CW d m kd0 kd1 km0 km1 mk q0 q1 a k t n s) 45 := by
  obtain ⟨g1, v1, g2, v2, g3, v3, g4, v4, z2, z3, z4, h⟩ := ce_l45 (L := L) (xs := xs) (i := i) (a := a) (k := k) (t := t) (n := n) (s := s) hI hs1 hs2 hs3 hs4
  exact ⟨2245, 2288, _, ps_l45, rfl, rfl, rfl, ok_l45 L xs i g1 v1 g2 v2 g3 v3 g4 v4 z2 z3 z4, h⟩
theorem cg_l46 {L : Nat} {xs : Nat → Int32} {i : Int32} {d m kd0 kd1 km0 km1 mk q0 q1 : CF} {a k t : Int32} {n : Int64} {s : Option Nat} (hI : IV d m kd0 kd1 km0 km1 mk q0 q1) (hs1 : vp_in (i + 1) L) (hs2 : vp_in (i + 2) L) (hs3 : vp_in (i + 3) L) (hs4 : vp_in (i + 4) L) : CGo L xs i (CW d m kd0 kd1 km0 km1 mk q0 q1 a k t n s) 46 := by
  obtain ⟨g1, v1, g2, v2, g3, v3, g4, v4, z2, z3, z4, h⟩ := ce_l46 (L := L) (xs := xs) (i := i) (a := a) (k := k) (t := t) (n := n) (s := s) hI hs1 hs2 hs3 hs4
  exact ⟨2273, 2316, _, ps_l46, rfl, rfl, rfl, ok_l46 L xs i g1 v1 g2 v2 g3 v3 g4 v4 z2 z3 z4, h⟩
theorem cg_l47 {L : Nat} {xs : Nat → Int32} {i : Int32} {d m kd0 kd1 km0 km1 mk q0 q1 : CF} {a k t : Int32} {n : Int64} {s : Option Nat} (hI : IV d m kd0 kd1 km0 km1 mk q0 q1) (hs1 : vp_in (i + 1) L) (hs2 : vp_in (i + 2) L) (hs3 : vp_in (i + 3) L) (hs4 : vp_in (i + 4) L) : CGo L xs i (CW d m kd0 kd1 km0 km1 mk q0 q1 a k t n s) 47 := by
  obtain ⟨g1, v1, g2, v2, g3, v3, g4, v4, z2, z3, z4, h⟩ := ce_l47 (L := L) (xs := xs) (i := i) (a := a) (k := k) (t := t) (n := n) (s := s) hI hs1 hs2 hs3 hs4
  exact ⟨2301, 2344, _, ps_l47, rfl, rfl, rfl, ok_l47 L xs i g1 v1 g2 v2 g3 v3 g4 v4 z2 z3 z4, h⟩
theorem cg_l48 {L : Nat} {xs : Nat → Int32} {i : Int32} {d m kd0 kd1 km0 km1 mk q0 q1 : CF} {a k t : Int32} {n : Int64} {s : Option Nat} (hI : IV d m kd0 kd1 km0 km1 mk q0 q1) (hs1 : vp_in (i + 1) L) (hs2 : vp_in (i + 2) L) (hs3 : vp_in (i + 3) L) (hs4 : vp_in (i + 4) L) : CGo L xs i (CW d m kd0 kd1 km0 km1 mk q0 q1 a k t n s) 48 := by
  obtain ⟨g1, v1, g2, v2, g3, v3, g4, v4, z2, z3, z4, h⟩ := ce_l48 (L := L) (xs := xs) (i := i) (a := a) (k := k) (t := t) (n := n) (s := s) hI hs1 hs2 hs3 hs4
  exact ⟨2329, 2372, _, ps_l48, rfl, rfl, rfl, ok_l48 L xs i g1 v1 g2 v2 g3 v3 g4 v4 z2 z3 z4, h⟩
theorem cg_l49 {L : Nat} {xs : Nat → Int32} {i : Int32} {d m kd0 kd1 km0 km1 mk q0 q1 : CF} {a k t : Int32} {n : Int64} {s : Option Nat} (hI : IV d m kd0 kd1 km0 km1 mk q0 q1) (hs1 : vp_in (i + 1) L) (hs2 : vp_in (i + 2) L) (hs3 : vp_in (i + 3) L) (hs4 : vp_in (i + 4) L) : CGo L xs i (CW d m kd0 kd1 km0 km1 mk q0 q1 a k t n s) 49 := by
  obtain ⟨g1, v1, g2, v2, g3, v3, g4, v4, z2, z3, z4, h⟩ := ce_l49 (L := L) (xs := xs) (i := i) (a := a) (k := k) (t := t) (n := n) (s := s) hI hs1 hs2 hs3 hs4
  exact ⟨2342, 2385, _, ps_l49, rfl, rfl, rfl, ok_l49 L xs i g1 v1 g2 v2 g3 v3 g4 v4 z2 z3 z4, h⟩
theorem cg_l50 {L : Nat} {xs : Nat → Int32} {i : Int32} {d m kd0 kd1 km0 km1 mk q0 q1 : CF} {a k t : Int32} {n : Int64} {s : Option Nat} (hI : IV d m kd0 kd1 km0 km1 mk q0 q1) (hs1 : vp_in (i + 1) L) (hs2 : vp_in (i + 2) L) (hs3 : vp_in (i + 3) L) (hs4 : vp_in (i + 4) L) : CGo L xs i (CW d m kd0 kd1 km0 km1 mk q0 q1 a k t n s) 50 := by
  obtain ⟨g1, v1, g2, v2, g3, v3, g4, v4, z2, z3, z4, h⟩ := ce_l50 (L := L) (xs := xs) (i := i) (a := a) (k := k) (t := t) (n := n) (s := s) hI hs1 hs2 hs3 hs4
  exact ⟨2355, 2398, _, ps_l50, rfl, rfl, rfl, ok_l50 L xs i g1 v1 g2 v2 g3 v3 g4 v4 z2 z3 z4, h⟩
theorem cg_l51 {L : Nat} {xs : Nat → Int32} {i : Int32} {d m kd0 kd1 km0 km1 mk q0 q1 : CF} {a k t : Int32} {n : Int64} {s : Option Nat} (hI : IV d m kd0 kd1 km0 km1 mk q0 q1) (hs1 : vp_in (i + 1) L) (hs2 : vp_in (i + 2) L) (hs3 : vp_in (i + 3) L) (hs4 : vp_in (i + 4) L) : CGo L xs i (CW d m kd0 kd1 km0 km1 mk q0 q1 a k t n s) 51 := by
  obtain ⟨g1, v1, g2, v2, g3, v3, g4, v4, z2, z3, z4, h⟩ := ce_l51 (L := L) (xs := xs) (i := i) (a := a) (k := k) (t := t) (n := n) (s := s) hI hs1 hs2 hs3 hs4
  exact ⟨2368, 2411, _, ps_l51, rfl, rfl, rfl, ok_l51 L xs i g1 v1 g2 v2 g3 v3 g4 v4 z2 z3 z4, h⟩
theorem cg_l52 {L : Nat} {xs : Nat → Int32} {i : Int32} {d m kd0 kd1 km0 km1 mk q0 q1 : CF} {a k t : Int32} {n : Int64} {s : Option Nat} (hI : IV d m kd0 kd1 km0 km1 mk q0 q1) (hs1 : vp_in (i + 1) L) (hs2 : vp_in (i + 2) L) (hs3 : vp_in (i + 3) L) (hs4 : vp_in (i + 4) L) : CGo L xs i (CW d m kd0 kd1 km0 km1 mk q0 q1 a k t n s) 52 := by
  obtain ⟨g1, v1, g2, v2, g3, v3, g4, v4, z2, z3, z4, h⟩ := ce_l52 (L := L) (xs := xs) (i := i) (a := a) (k := k) (t := t) (n := n) (s := s) hI hs1 hs2 hs3 hs4
  exact ⟨2381, 2424, _, ps_l52, rfl, rfl, rfl, ok_l52 L xs i g1 v1 g2 v2 g3 v3 g4 v4 z2 z3 z4, h⟩
theorem cg_l53 {L : Nat} {xs : Nat → Int32} {i : Int32} {d m kd0 kd1 km0 km1 mk q0 q1 : CF} {a k t : Int32} {n : Int64} {s : Option Nat} (hI : IV d m kd0 kd1 km0 km1 mk q0 q1) (hs1 : vp_in (i + 1) L) (hs2 : vp_in (i + 2) L) (hs3 : vp_in (i + 3) L) (hs4 : vp_in (i + 4) L) : CGo L xs i (CW d m kd0 kd1 km0 km1 mk q0 q1 a k t n s) 53 := by
  obtain ⟨g1, v1, g2, v2, g3, v3, g4, v4, z2, z3, z4, h⟩ := ce_l53 (L := L) (xs := xs) (i := i) (a := a) (k := k) (t := t) (n := n) (s := s) hI hs1 hs2 hs3 hs4
  exact ⟨2394, 2437, _, ps_l53, rfl, rfl, rfl, ok_l53 L xs i g1 v1 g2 v2 g3 v3 g4 v4 z2 z3 z4, h⟩
theorem cases_go {L : Nat} {xs : Nat → Int32} {i : Int32} {d m kd0 kd1 km0 km1 mk q0 q1 : CF} {a k t : Int32} {n : Int64} {s : Option Nat} (hI : IV d m kd0 kd1 km0 km1 mk q0 q1) (hs1 : vp_in (i + 1) L) (hs2 : vp_in (i + 2) L) (hs3 : vp_in (i + 3) L) (hs4 : vp_in (i + 4) L) : ∀ z : Nat, z < 54 → CGo L xs i (CW d m kd0 kd1 km0 km1 mk q0 q1 a k t n s) z
  | 0, _ => cg_l0 hI hs1 hs2 hs3 hs4
  | 1, _ => cg_l1 hI hs1 hs2 hs3 hs4
  | 2, _ => cg_l2 hI hs1 hs2 hs3 hs4
  | 3, _ => cg_l3 hI hs1 hs2 hs3 hs4
  | 4, _ => cg_l4 hI hs1 hs2 hs3 hs4
  | 5, _ => cg_l5 hI hs1 hs2 hs3 hs4
  | 6, _ => cg_l6 hI hs1 hs2 hs3 hs4
  | 7, _ => cg_l7 hI hs1 hs2 hs3 hs4
  | 8, _ => cg_l8 hI hs1 hs2 hs3 hs4
  | 9, _ => cg_l9 hI hs1 hs2 hs3 hs4
  | 10, _ => cg_l10 hI hs1 hs2 hs3 hs4
  | 11, _ => cg_l11 hI hs1 hs2 hs3 hs4
  | 12, _ => cg_l12 hI hs1 hs2 hs3 hs4
  | 13, _ => cg_l13 hI hs1 hs2 hs3 hs4
  | 14, _ => cg_l14 hI hs1 hs2 hs3 hs4
  | 15, _ => cg_l15 hI hs1 hs2 hs3 hs4
  | 16, _ => cg_l16 hI hs1 hs2 hs3 hs4
  | 17, _ => cg_l17 hI hs1 hs2 hs3 hs4
  | 18, _ => cg_l18 hI hs1 hs2 hs3 hs4
  | 19, _ => cg_l19 hI hs1 hs2 hs3 hs4
  | 20, _ => cg_l20 hI hs1 hs2 hs3 hs4
  | 21, _ => cg_l21 hI hs1 hs2 hs3 hs4
  | 22, _ => cg_l22 hI hs1 hs2 hs3 hs4
  | 23, _ => cg_l23 hI hs1 hs2 hs3 hs4
  | 24, _ => cg_l24 hI hs1 hs2 hs3 hs4
  | 25, _ => cg_l25 hI hs1 hs2 hs3 hs4
  | 26, _ => cg_l26 hI hs1 hs2 hs3 hs4
  | 27, _ => cg_l27 hI hs1 hs2 hs3 hs4
  | 28, _ => cg_l28 hI hs1 hs2 hs3 hs4
  | 29, _ => cg_l29 hI hs1 hs2 hs3 hs4
  | 30, _ => cg_l30 hI hs1 hs2 hs3 hs4
  | 31, _ => cg_l31 hI hs1 hs2 hs3 hs4
  | 32, _ => cg_l32 hI hs1 hs2 hs3 hs4
  | 33, _ => cg_l33 hI hs1 hs2 hs3 hs4
  | 34, _ => cg_l34 hI hs1 hs2 hs3 hs4
  | 35, _ => cg_l35 hI hs1 hs2 hs3 hs4
  | 36, _ => cg_l36 hI hs1 hs2 hs3 hs4
  | 37, _ => cg_l37 hI hs1 hs2 hs3 hs4
  | 38, _ => cg_l38 hI hs1 hs2 hs3 hs4
  | 39, _ => cg_l39 hI hs1 hs2 hs3 hs4
  | 40, _ => cg_l40 hI hs1 hs2 hs3 hs4
  | 41, _ => cg_l41 hI hs1 hs2 hs3 hs4
  | 42, _ => cg_l42 hI hs1 hs2 hs3 hs4
  | 43, _ => cg_l43 hI hs1 hs2 hs3 hs4
  | 44, _ => cg_l44 hI hs1 hs2 hs3 hs4
  | 45, _ => cg_l45 hI hs1 hs2 hs3 hs4
  | 46, _ => cg_l46 hI hs1 hs2 hs3 hs4
  | 47, _ => cg_l47 hI hs1 hs2 hs3 hs4
  | 48, _ => cg_l48 hI hs1 hs2 hs3 hs4
  | 49, _ => cg_l49 hI hs1 hs2 hs3 hs4
  | 50, _ => cg_l50 hI hs1 hs2 hs3 hs4
  | 51, _ => cg_l51 hI hs1 hs2 hs3 hs4
  | 52, _ => cg_l52 hI hs1 hs2 hs3 hs4
  | 53, _ => cg_l53 hI hs1 hs2 hs3 hs4
  | z + 54, h => absurd h (by omega)
end RKZ
