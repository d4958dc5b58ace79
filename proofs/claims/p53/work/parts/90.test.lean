section
set_option maxRecDepth 10000 in
theorem ev_test0 (c : Int32) (f1 f2 f3 f4 f5 f6 f7 : Nat → Int32) (a k : Int32) (Q : RQ) (h0 : c < 0 → Q (.inr 0) [.inl (0, [rR 1, rR 2, rR 3, rR 4, rR 9, rI false a, rI false k]), .inr (0, 4, .inl f1), .inr (0, 4, .inl f2), .inr (2, 2, .inr (fun j => 5 + j)), .inr (2, 2, .inr (fun j => 7 + j)), .inr (0, 4, .inl f3), .inr (0, 4, .inl f4), .inr (0, 4, .inl f5), .inr (0, 4, .inl f6), .inr (1, 2, .inl f7)])
  (h1 : 4 ≤ c → Q (.inr 0) [.inl (0, [rR 1, rR 2, rR 3, rR 4, rR 9, rI false a, rI false k]), .inr (0, 4, .inl f1), .inr (0, 4, .inl f2), .inr (2, 2, .inr (fun j => 5 + j)), .inr (2, 2, .inr (fun j => 7 + j)), .inr (0, 4, .inl f3), .inr (0, 4, .inl f4), .inr (0, 4, .inl f5), .inr (0, 4, .inl f6), .inr (1, 2, .inl f7)])
  (h2 : vp_in c 4 → Q (.inl (some (rI false (f1 c.toNatClampNeg)))) [.inl (0, [rR 1, rR 2, rR 3, rR 4, rR 9, rI false a, rI false k]), .inr (0, 4, .inl f1), .inr (0, 4, .inl f2), .inr (2, 2, .inr (fun j => 5 + j)), .inr (2, 2, .inr (fun j => 7 + j)), .inr (0, 4, .inl f3), .inr (0, 4, .inl f4), .inr (0, 4, .inl f5), .inr (0, 4, .inl f6), .inr (1, 2, .inl f7)]) (h3 : ¬ c < 0 → c < 4 → vp_in c 4) :
  m_c_dayNumber [rR 0, rI false c] [.inl (0, [rR 1, rR 2, rR 3, rR 4, rR 9, rI false a, rI false k]), .inr (0, 4, .inl f1), .inr (0, 4, .inl f2), .inr (2, 2, .inr (fun j => 5 + j)), .inr (2, 2, .inr (fun j => 7 + j)), .inr (0, 4, .inl f3), .inr (0, 4, .inl f4), .inr (0, 4, .inl f5), .inr (0, 4, .inl f6), .inr (1, 2, .inl f7)] Q := by
  apply And.intro
  · intro hc
    exact h0 (of_decide_eq_true hc)
  · intro hc
    apply And.intro
    · intro hd
      apply And.intro
      · exact h3 (of_decide_eq_false hc) (of_decide_eq_true hd)
      · exact h2 (h3 (of_decide_eq_false hc) (of_decide_eq_true hd))
    · intro hd
      exact h1 (Int32.not_lt.mp (of_decide_eq_false hd))
set_option maxRecDepth 10000 in
theorem ev_test1 (c : Int32) (f1 f2 f3 f4 f5 f6 f7 : Nat → Int32) (a k : Int32) (Q : RQ) (h0 : c < 0 → Q (.inr 0) [.inl (0, [rR 1, rR 2, rR 3, rR 4, rR 9, rI false a, rI false k]), .inr (0, 4, .inl f1), .inr (0, 4, .inl f2), .inr (2, 2, .inr (fun j => 5 + j)), .inr (2, 2, .inr (fun j => 7 + j)), .inr (0, 4, .inl f3), .inr (0, 4, .inl f4), .inr (0, 4, .inl f5), .inr (0, 4, .inl f6), .inr (1, 2, .inl f7)])
  (h1 : 4 ≤ c → Q (.inr 0) [.inl (0, [rR 1, rR 2, rR 3, rR 4, rR 9, rI false a, rI false k]), .inr (0, 4, .inl f1), .inr (0, 4, .inl f2), .inr (2, 2, .inr (fun j => 5 + j)), .inr (2, 2, .inr (fun j => 7 + j)), .inr (0, 4, .inl f3), .inr (0, 4, .inl f4), .inr (0, 4, .inl f5), .inr (0, 4, .inl f6), .inr (1, 2, .inl f7)])
  (h2 : vp_in c 4 → Q (.inl (some (rI false (f1 c.toNatClampNeg)))) [.inl (0, [rR 1, rR 2, rR 3, rR 4, rR 9, rI false a, rI false k]), .inr (0, 4, .inl f1), .inr (0, 4, .inl f2), .inr (2, 2, .inr (fun j => 5 + j)), .inr (2, 2, .inr (fun j => 7 + j)), .inr (0, 4, .inl f3), .inr (0, 4, .inl f4), .inr (0, 4, .inl f5), .inr (0, 4, .inl f6), .inr (1, 2, .inl f7)]) (h3 : ¬ c < 0 → c < 4 → vp_in c 4) :
  m_c_dayNumber [rR 0, rI false c] [.inl (0, [rR 1, rR 2, rR 3, rR 4, rR 9, rI false a, rI false k]), .inr (0, 4, .inl f1), .inr (0, 4, .inl f2), .inr (2, 2, .inr (fun j => 5 + j)), .inr (2, 2, .inr (fun j => 7 + j)), .inr (0, 4, .inl f3), .inr (0, 4, .inl f4), .inr (0, 4, .inl f5), .inr (0, 4, .inl f6), .inr (1, 2, .inl f7)] Q := by
  apply And.intro
  · intro hc
    exact h0 (of_decide_eq_true hc)
  · intro hc
    apply And.intro
    · intro hd
      apply And.intro
      · exact h3 (of_decide_eq_false hc) (of_decide_eq_true hd)
      · exact h2 (h3 (of_decide_eq_false hc) (of_decide_eq_true hd))
    · intro hd
      exact h1 (Int32.not_lt.mp (of_decide_eq_false hd))
set_option maxRecDepth 10000 in
theorem ev_test2 (c : Int32) (f1 f2 f3 f4 f5 f6 f7 : Nat → Int32) (a k : Int32) (Q : RQ) (h0 : c < 0 → Q (.inr 0) [.inl (0, [rR 1, rR 2, rR 3, rR 4, rR 9, rI false a, rI false k]), .inr (0, 4, .inl f1), .inr (0, 4, .inl f2), .inr (2, 2, .inr (fun j => 5 + j)), .inr (2, 2, .inr (fun j => 7 + j)), .inr (0, 4, .inl f3), .inr (0, 4, .inl f4), .inr (0, 4, .inl f5), .inr (0, 4, .inl f6), .inr (1, 2, .inl f7)])
  (h1 : 4 ≤ c → Q (.inr 0) [.inl (0, [rR 1, rR 2, rR 3, rR 4, rR 9, rI false a, rI false k]), .inr (0, 4, .inl f1), .inr (0, 4, .inl f2), .inr (2, 2, .inr (fun j => 5 + j)), .inr (2, 2, .inr (fun j => 7 + j)), .inr (0, 4, .inl f3), .inr (0, 4, .inl f4), .inr (0, 4, .inl f5), .inr (0, 4, .inl f6), .inr (1, 2, .inl f7)])
  (h2 : vp_in c 4 → Q (.inl (some (rI false (f1 c.toNatClampNeg)))) [.inl (0, [rR 1, rR 2, rR 3, rR 4, rR 9, rI false a, rI false k]), .inr (0, 4, .inl f1), .inr (0, 4, .inl f2), .inr (2, 2, .inr (fun j => 5 + j)), .inr (2, 2, .inr (fun j => 7 + j)), .inr (0, 4, .inl f3), .inr (0, 4, .inl f4), .inr (0, 4, .inl f5), .inr (0, 4, .inl f6), .inr (1, 2, .inl f7)]) (h3 : ¬ c < 0 → c < 4 → vp_in c 4) :
  m_c_dayNumber [rR 0, rI false c] [.inl (0, [rR 1, rR 2, rR 3, rR 4, rR 9, rI false a, rI false k]), .inr (0, 4, .inl f1), .inr (0, 4, .inl f2), .inr (2, 2, .inr (fun j => 5 + j)), .inr (2, 2, .inr (fun j => 7 + j)), .inr (0, 4, .inl f3), .inr (0, 4, .inl f4), .inr (0, 4, .inl f5), .inr (0, 4, .inl f6), .inr (1, 2, .inl f7)] Q := by
  apply And.intro
  · intro hc
    exact h0 (of_decide_eq_true hc)
  · intro hc
    apply And.intro
    · intro hd
      apply And.intro
      · exact h3 (of_decide_eq_false hc) (of_decide_eq_true hd)
      · exact h2 (h3 (of_decide_eq_false hc) (of_decide_eq_true hd))
    · intro hd
      exact h1 (Int32.not_lt.mp (of_decide_eq_false hd))
set_option maxRecDepth 10000 in
theorem ev_test3 (c : Int32) (f1 f2 f3 f4 f5 f6 f7 : Nat → Int32) (a k : Int32) (Q : RQ) (h0 : c < 0 → Q (.inr 0) [.inl (0, [rR 1, rR 2, rR 3, rR 4, rR 9, rI false a, rI false k]), .inr (0, 4, .inl f1), .inr (0, 4, .inl f2), .inr (2, 2, .inr (fun j => 5 + j)), .inr (2, 2, .inr (fun j => 7 + j)), .inr (0, 4, .inl f3), .inr (0, 4, .inl f4), .inr (0, 4, .inl f5), .inr (0, 4, .inl f6), .inr (1, 2, .inl f7)])
  (h1 : 4 ≤ c → Q (.inr 0) [.inl (0, [rR 1, rR 2, rR 3, rR 4, rR 9, rI false a, rI false k]), .inr (0, 4, .inl f1), .inr (0, 4, .inl f2), .inr (2, 2, .inr (fun j => 5 + j)), .inr (2, 2, .inr (fun j => 7 + j)), .inr (0, 4, .inl f3), .inr (0, 4, .inl f4), .inr (0, 4, .inl f5), .inr (0, 4, .inl f6), .inr (1, 2, .inl f7)])
  (h2 : vp_in c 4 → Q (.inl (some (rI false (f1 c.toNatClampNeg)))) [.inl (0, [rR 1, rR 2, rR 3, rR 4, rR 9, rI false a, rI false k]), .inr (0, 4, .inl f1), .inr (0, 4, .inl f2), .inr (2, 2, .inr (fun j => 5 + j)), .inr (2, 2, .inr (fun j => 7 + j)), .inr (0, 4, .inl f3), .inr (0, 4, .inl f4), .inr (0, 4, .inl f5), .inr (0, 4, .inl f6), .inr (1, 2, .inl f7)]) (h3 : ¬ c < 0 → c < 4 → vp_in c 4) :
  m_c_dayNumber [rR 0, rI false c] [.inl (0, [rR 1, rR 2, rR 3, rR 4, rR 9, rI false a, rI false k]), .inr (0, 4, .inl f1), .inr (0, 4, .inl f2), .inr (2, 2, .inr (fun j => 5 + j)), .inr (2, 2, .inr (fun j => 7 + j)), .inr (0, 4, .inl f3), .inr (0, 4, .inl f4), .inr (0, 4, .inl f5), .inr (0, 4, .inl f6), .inr (1, 2, .inl f7)] Q := by
  apply And.intro
  · intro hc
    exact h0 (of_decide_eq_true hc)
  · intro hc
    apply And.intro
    · intro hd
      apply And.intro
      · exact h3 (of_decide_eq_false hc) (of_decide_eq_true hd)
      · exact h2 (h3 (of_decide_eq_false hc) (of_decide_eq_true hd))
    · intro hd
      exact h1 (Int32.not_lt.mp (of_decide_eq_false hd))
set_option maxRecDepth 10000 in
theorem ev_test4 (c : Int32) (f1 f2 f3 f4 f5 f6 f7 : Nat → Int32) (a k : Int32) (Q : RQ) (h0 : c < 0 → Q (.inr 0) [.inl (0, [rR 1, rR 2, rR 3, rR 4, rR 9, rI false a, rI false k]), .inr (0, 4, .inl f1), .inr (0, 4, .inl f2), .inr (2, 2, .inr (fun j => 5 + j)), .inr (2, 2, .inr (fun j => 7 + j)), .inr (0, 4, .inl f3), .inr (0, 4, .inl f4), .inr (0, 4, .inl f5), .inr (0, 4, .inl f6), .inr (1, 2, .inl f7)])
  (h1 : 4 ≤ c → Q (.inr 0) [.inl (0, [rR 1, rR 2, rR 3, rR 4, rR 9, rI false a, rI false k]), .inr (0, 4, .inl f1), .inr (0, 4, .inl f2), .inr (2, 2, .inr (fun j => 5 + j)), .inr (2, 2, .inr (fun j => 7 + j)), .inr (0, 4, .inl f3), .inr (0, 4, .inl f4), .inr (0, 4, .inl f5), .inr (0, 4, .inl f6), .inr (1, 2, .inl f7)])
  (h2 : vp_in c 4 → Q (.inl (some (rI false (f1 c.toNatClampNeg)))) [.inl (0, [rR 1, rR 2, rR 3, rR 4, rR 9, rI false a, rI false k]), .inr (0, 4, .inl f1), .inr (0, 4, .inl f2), .inr (2, 2, .inr (fun j => 5 + j)), .inr (2, 2, .inr (fun j => 7 + j)), .inr (0, 4, .inl f3), .inr (0, 4, .inl f4), .inr (0, 4, .inl f5), .inr (0, 4, .inl f6), .inr (1, 2, .inl f7)]) (h3 : ¬ c < 0 → c < 4 → vp_in c 4) :
  m_c_dayNumber [rR 0, rI false c] [.inl (0, [rR 1, rR 2, rR 3, rR 4, rR 9, rI false a, rI false k]), .inr (0, 4, .inl f1), .inr (0, 4, .inl f2), .inr (2, 2, .inr (fun j => 5 + j)), .inr (2, 2, .inr (fun j => 7 + j)), .inr (0, 4, .inl f3), .inr (0, 4, .inl f4), .inr (0, 4, .inl f5), .inr (0, 4, .inl f6), .inr (1, 2, .inl f7)] Q := by
  apply And.intro
  · intro hc
    exact h0 (of_decide_eq_true hc)
  · intro hc
    apply And.intro
    · intro hd
      apply And.intro
      · exact h3 (of_decide_eq_false hc) (of_decide_eq_true hd)
      · exact h2 (h3 (of_decide_eq_false hc) (of_decide_eq_true hd))
    · intro hd
      exact h1 (Int32.not_lt.mp (of_decide_eq_false hd))
set_option maxRecDepth 10000 in
theorem ev_test5 (c : Int32) (f1 f2 f3 f4 f5 f6 f7 : Nat → Int32) (a k : Int32) (Q : RQ) (h0 : c < 0 → Q (.inr 0) [.inl (0, [rR 1, rR 2, rR 3, rR 4, rR 9, rI false a, rI false k]), .inr (0, 4, .inl f1), .inr (0, 4, .inl f2), .inr (2, 2, .inr (fun j => 5 + j)), .inr (2, 2, .inr (fun j => 7 + j)), .inr (0, 4, .inl f3), .inr (0, 4, .inl f4), .inr (0, 4, .inl f5), .inr (0, 4, .inl f6), .inr (1, 2, .inl f7)])
  (h1 : 4 ≤ c → Q (.inr 0) [.inl (0, [rR 1, rR 2, rR 3, rR 4, rR 9, rI false a, rI false k]), .inr (0, 4, .inl f1), .inr (0, 4, .inl f2), .inr (2, 2, .inr (fun j => 5 + j)), .inr (2, 2, .inr (fun j => 7 + j)), .inr (0, 4, .inl f3), .inr (0, 4, .inl f4), .inr (0, 4, .inl f5), .inr (0, 4, .inl f6), .inr (1, 2, .inl f7)])
  (h2 : vp_in c 4 → Q (.inl (some (rI false (f1 c.toNatClampNeg)))) [.inl (0, [rR 1, rR 2, rR 3, rR 4, rR 9, rI false a, rI false k]), .inr (0, 4, .inl f1), .inr (0, 4, .inl f2), .inr (2, 2, .inr (fun j => 5 + j)), .inr (2, 2, .inr (fun j => 7 + j)), .inr (0, 4, .inl f3), .inr (0, 4, .inl f4), .inr (0, 4, .inl f5), .inr (0, 4, .inl f6), .inr (1, 2, .inl f7)]) (h3 : ¬ c < 0 → c < 4 → vp_in c 4) :
  m_c_dayNumber [rR 0, rI false c] [.inl (0, [rR 1, rR 2, rR 3, rR 4, rR 9, rI false a, rI false k]), .inr (0, 4, .inl f1), .inr (0, 4, .inl f2), .inr (2, 2, .inr (fun j => 5 + j)), .inr (2, 2, .inr (fun j => 7 + j)), .inr (0, 4, .inl f3), .inr (0, 4, .inl f4), .inr (0, 4, .inl f5), .inr (0, 4, .inl f6), .inr (1, 2, .inl f7)] Q := by
  apply And.intro
  · intro hc
    exact h0 (of_decide_eq_true hc)
  · intro hc
    apply And.intro
    · intro hd
      apply And.intro
      · exact h3 (of_decide_eq_false hc) (of_decide_eq_true hd)
      · exact h2 (h3 (of_decide_eq_false hc) (of_decide_eq_true hd))
    · intro hd
      exact h1 (Int32.not_lt.mp (of_decide_eq_false hd))
set_option maxRecDepth 10000 in
theorem ev_test6 (c : Int32) (f1 f2 f3 f4 f5 f6 f7 : Nat → Int32) (a k : Int32) (Q : RQ) (h0 : c < 0 → Q (.inr 0) [.inl (0, [rR 1, rR 2, rR 3, rR 4, rR 9, rI false a, rI false k]), .inr (0, 4, .inl f1), .inr (0, 4, .inl f2), .inr (2, 2, .inr (fun j => 5 + j)), .inr (2, 2, .inr (fun j => 7 + j)), .inr (0, 4, .inl f3), .inr (0, 4, .inl f4), .inr (0, 4, .inl f5), .inr (0, 4, .inl f6), .inr (1, 2, .inl f7)])
  (h1 : 4 ≤ c → Q (.inr 0) [.inl (0, [rR 1, rR 2, rR 3, rR 4, rR 9, rI false a, rI false k]), .inr (0, 4, .inl f1), .inr (0, 4, .inl f2), .inr (2, 2, .inr (fun j => 5 + j)), .inr (2, 2, .inr (fun j => 7 + j)), .inr (0, 4, .inl f3), .inr (0, 4, .inl f4), .inr (0, 4, .inl f5), .inr (0, 4, .inl f6), .inr (1, 2, .inl f7)])
  (h2 : vp_in c 4 → Q (.inl (some (rI false (f1 c.toNatClampNeg)))) [.inl (0, [rR 1, rR 2, rR 3, rR 4, rR 9, rI false a, rI false k]), .inr (0, 4, .inl f1), .inr (0, 4, .inl f2), .inr (2, 2, .inr (fun j => 5 + j)), .inr (2, 2, .inr (fun j => 7 + j)), .inr (0, 4, .inl f3), .inr (0, 4, .inl f4), .inr (0, 4, .inl f5), .inr (0, 4, .inl f6), .inr (1, 2, .inl f7)]) (h3 : ¬ c < 0 → c < 4 → vp_in c 4) :
  m_c_dayNumber [rR 0, rI false c] [.inl (0, [rR 1, rR 2, rR 3, rR 4, rR 9, rI false a, rI false k]), .inr (0, 4, .inl f1), .inr (0, 4, .inl f2), .inr (2, 2, .inr (fun j => 5 + j)), .inr (2, 2, .inr (fun j => 7 + j)), .inr (0, 4, .inl f3), .inr (0, 4, .inl f4), .inr (0, 4, .inl f5), .inr (0, 4, .inl f6), .inr (1, 2, .inl f7)] Q := by
  apply And.intro
  · intro hc
    exact h0 (of_decide_eq_true hc)
  · intro hc
    apply And.intro
    · intro hd
      apply And.intro
      · exact h3 (of_decide_eq_false hc) (of_decide_eq_true hd)
      · exact h2 (h3 (of_decide_eq_false hc) (of_decide_eq_true hd))
    · intro hd
      exact h1 (Int32.not_lt.mp (of_decide_eq_false hd))
set_option maxRecDepth 10000 in
theorem ev_test7 (c : Int32) (f1 f2 f3 f4 f5 f6 f7 : Nat → Int32) (a k : Int32) (Q : RQ) (h0 : c < 0 → Q (.inr 0) [.inl (0, [rR 1, rR 2, rR 3, rR 4, rR 9, rI false a, rI false k]), .inr (0, 4, .inl f1), .inr (0, 4, .inl f2), .inr (2, 2, .inr (fun j => 5 + j)), .inr (2, 2, .inr (fun j => 7 + j)), .inr (0, 4, .inl f3), .inr (0, 4, .inl f4), .inr (0, 4, .inl f5), .inr (0, 4, .inl f6), .inr (1, 2, .inl f7)])
  (h1 : 4 ≤ c → Q (.inr 0) [.inl (0, [rR 1, rR 2, rR 3, rR 4, rR 9, rI false a, rI false k]), .inr (0, 4, .inl f1), .inr (0, 4, .inl f2), .inr (2, 2, .inr (fun j => 5 + j)), .inr (2, 2, .inr (fun j => 7 + j)), .inr (0, 4, .inl f3), .inr (0, 4, .inl f4), .inr (0, 4, .inl f5), .inr (0, 4, .inl f6), .inr (1, 2, .inl f7)])
  (h2 : vp_in c 4 → Q (.inl (some (rI false (f1 c.toNatClampNeg)))) [.inl (0, [rR 1, rR 2, rR 3, rR 4, rR 9, rI false a, rI false k]), .inr (0, 4, .inl f1), .inr (0, 4, .inl f2), .inr (2, 2, .inr (fun j => 5 + j)), .inr (2, 2, .inr (fun j => 7 + j)), .inr (0, 4, .inl f3), .inr (0, 4, .inl f4), .inr (0, 4, .inl f5), .inr (0, 4, .inl f6), .inr (1, 2, .inl f7)]) (h3 : ¬ c < 0 → c < 4 → vp_in c 4) :
  m_c_dayNumber [rR 0, rI false c] [.inl (0, [rR 1, rR 2, rR 3, rR 4, rR 9, rI false a, rI false k]), .inr (0, 4, .inl f1), .inr (0, 4, .inl f2), .inr (2, 2, .inr (fun j => 5 + j)), .inr (2, 2, .inr (fun j => 7 + j)), .inr (0, 4, .inl f3), .inr (0, 4, .inl f4), .inr (0, 4, .inl f5), .inr (0, 4, .inl f6), .inr (1, 2, .inl f7)] Q := by
  apply And.intro
  · intro hc
    exact h0 (of_decide_eq_true hc)
  · intro hc
    apply And.intro
    · intro hd
      apply And.intro
      · exact h3 (of_decide_eq_false hc) (of_decide_eq_true hd)
      · exact h2 (h3 (of_decide_eq_false hc) (of_decide_eq_true hd))
    · intro hd
      exact h1 (Int32.not_lt.mp (of_decide_eq_false hd))
set_option maxRecDepth 10000 in
theorem ev_test8 (c : Int32) (f1 f2 f3 f4 f5 f6 f7 : Nat → Int32) (a k : Int32) (Q : RQ) (h0 : c < 0 → Q (.inr 0) [.inl (0, [rR 1, rR 2, rR 3, rR 4, rR 9, rI false a, rI false k]), .inr (0, 4, .inl f1), .inr (0, 4, .inl f2), .inr (2, 2, .inr (fun j => 5 + j)), .inr (2, 2, .inr (fun j => 7 + j)), .inr (0, 4, .inl f3), .inr (0, 4, .inl f4), .inr (0, 4, .inl f5), .inr (0, 4, .inl f6), .inr (1, 2, .inl f7)])
  (h1 : 4 ≤ c → Q (.inr 0) [.inl (0, [rR 1, rR 2, rR 3, rR 4, rR 9, rI false a, rI false k]), .inr (0, 4, .inl f1), .inr (0, 4, .inl f2), .inr (2, 2, .inr (fun j => 5 + j)), .inr (2, 2, .inr (fun j => 7 + j)), .inr (0, 4, .inl f3), .inr (0, 4, .inl f4), .inr (0, 4, .inl f5), .inr (0, 4, .inl f6), .inr (1, 2, .inl f7)])
  (h2 : vp_in c 4 → Q (.inl (some (rI false (f1 c.toNatClampNeg)))) [.inl (0, [rR 1, rR 2, rR 3, rR 4, rR 9, rI false a, rI false k]), .inr (0, 4, .inl f1), .inr (0, 4, .inl f2), .inr (2, 2, .inr (fun j => 5 + j)), .inr (2, 2, .inr (fun j => 7 + j)), .inr (0, 4, .inl f3), .inr (0, 4, .inl f4), .inr (0, 4, .inl f5), .inr (0, 4, .inl f6), .inr (1, 2, .inl f7)]) (h3 : ¬ c < 0 → c < 4 → vp_in c 4) :
  m_c_dayNumber [rR 0, rI false c] [.inl (0, [rR 1, rR 2, rR 3, rR 4, rR 9, rI false a, rI false k]), .inr (0, 4, .inl f1), .inr (0, 4, .inl f2), .inr (2, 2, .inr (fun j => 5 + j)), .inr (2, 2, .inr (fun j => 7 + j)), .inr (0, 4, .inl f3), .inr (0, 4, .inl f4), .inr (0, 4, .inl f5), .inr (0, 4, .inl f6), .inr (1, 2, .inl f7)] Q := by
  apply And.intro
  · intro hc
    exact h0 (of_decide_eq_true hc)
  · intro hc
    apply And.intro
    · intro hd
      apply And.intro
      · exact h3 (of_decide_eq_false hc) (of_decide_eq_true hd)
      · exact h2 (h3 (of_decide_eq_false hc) (of_decide_eq_true hd))
    · intro hd
      exact h1 (Int32.not_lt.mp (of_decide_eq_false hd))
set_option maxRecDepth 10000 in
theorem ev_test9 (c : Int32) (f1 f2 f3 f4 f5 f6 f7 : Nat → Int32) (a k : Int32) (Q : RQ) (h0 : c < 0 → Q (.inr 0) [.inl (0, [rR 1, rR 2, rR 3, rR 4, rR 9, rI false a, rI false k]), .inr (0, 4, .inl f1), .inr (0, 4, .inl f2), .inr (2, 2, .inr (fun j => 5 + j)), .inr (2, 2, .inr (fun j => 7 + j)), .inr (0, 4, .inl f3), .inr (0, 4, .inl f4), .inr (0, 4, .inl f5), .inr (0, 4, .inl f6), .inr (1, 2, .inl f7)])
  (h1 : 4 ≤ c → Q (.inr 0) [.inl (0, [rR 1, rR 2, rR 3, rR 4, rR 9, rI false a, rI false k]), .inr (0, 4, .inl f1), .inr (0, 4, .inl f2), .inr (2, 2, .inr (fun j => 5 + j)), .inr (2, 2, .inr (fun j => 7 + j)), .inr (0, 4, .inl f3), .inr (0, 4, .inl f4), .inr (0, 4, .inl f5), .inr (0, 4, .inl f6), .inr (1, 2, .inl f7)])
  (h2 : vp_in c 4 → Q (.inl (some (rI false (f1 c.toNatClampNeg)))) [.inl (0, [rR 1, rR 2, rR 3, rR 4, rR 9, rI false a, rI false k]), .inr (0, 4, .inl f1), .inr (0, 4, .inl f2), .inr (2, 2, .inr (fun j => 5 + j)), .inr (2, 2, .inr (fun j => 7 + j)), .inr (0, 4, .inl f3), .inr (0, 4, .inl f4), .inr (0, 4, .inl f5), .inr (0, 4, .inl f6), .inr (1, 2, .inl f7)]) (h3 : ¬ c < 0 → c < 4 → vp_in c 4) :
  m_c_dayNumber [rR 0, rI false c] [.inl (0, [rR 1, rR 2, rR 3, rR 4, rR 9, rI false a, rI false k]), .inr (0, 4, .inl f1), .inr (0, 4, .inl f2), .inr (2, 2, .inr (fun j => 5 + j)), .inr (2, 2, .inr (fun j => 7 + j)), .inr (0, 4, .inl f3), .inr (0, 4, .inl f4), .inr (0, 4, .inl f5), .inr (0, 4, .inl f6), .inr (1, 2, .inl f7)] Q := by
  apply And.intro
  · intro hc
    exact h0 (of_decide_eq_true hc)
  · intro hc
    apply And.intro
    · intro hd
      apply And.intro
      · exact h3 (of_decide_eq_false hc) (of_decide_eq_true hd)
      · exact h2 (h3 (of_decide_eq_false hc) (of_decide_eq_true hd))
    · intro hd
      exact h1 (Int32.not_lt.mp (of_decide_eq_false hd))
set_option maxRecDepth 10000 in
theorem ev_test10 (c : Int32) (f1 f2 f3 f4 f5 f6 f7 : Nat → Int32) (a k : Int32) (Q : RQ) (h0 : c < 0 → Q (.inr 0) [.inl (0, [rR 1, rR 2, rR 3, rR 4, rR 9, rI false a, rI false k]), .inr (0, 4, .inl f1), .inr (0, 4, .inl f2), .inr (2, 2, .inr (fun j => 5 + j)), .inr (2, 2, .inr (fun j => 7 + j)), .inr (0, 4, .inl f3), .inr (0, 4, .inl f4), .inr (0, 4, .inl f5), .inr (0, 4, .inl f6), .inr (1, 2, .inl f7)])
  (h1 : 4 ≤ c → Q (.inr 0) [.inl (0, [rR 1, rR 2, rR 3, rR 4, rR 9, rI false a, rI false k]), .inr (0, 4, .inl f1), .inr (0, 4, .inl f2), .inr (2, 2, .inr (fun j => 5 + j)), .inr (2, 2, .inr (fun j => 7 + j)), .inr (0, 4, .inl f3), .inr (0, 4, .inl f4), .inr (0, 4, .inl f5), .inr (0, 4, .inl f6), .inr (1, 2, .inl f7)])
  (h2 : vp_in c 4 → Q (.inl (some (rI false (f1 c.toNatClampNeg)))) [.inl (0, [rR 1, rR 2, rR 3, rR 4, rR 9, rI false a, rI false k]), .inr (0, 4, .inl f1), .inr (0, 4, .inl f2), .inr (2, 2, .inr (fun j => 5 + j)), .inr (2, 2, .inr (fun j => 7 + j)), .inr (0, 4, .inl f3), .inr (0, 4, .inl f4), .inr (0, 4, .inl f5), .inr (0, 4, .inl f6), .inr (1, 2, .inl f7)]) (h3 : ¬ c < 0 → c < 4 → vp_in c 4) :
  m_c_dayNumber [rR 0, rI false c] [.inl (0, [rR 1, rR 2, rR 3, rR 4, rR 9, rI false a, rI false k]), .inr (0, 4, .inl f1), .inr (0, 4, .inl f2), .inr (2, 2, .inr (fun j => 5 + j)), .inr (2, 2, .inr (fun j => 7 + j)), .inr (0, 4, .inl f3), .inr (0, 4, .inl f4), .inr (0, 4, .inl f5), .inr (0, 4, .inl f6), .inr (1, 2, .inl f7)] Q := by
  apply And.intro
  · intro hc
    exact h0 (of_decide_eq_true hc)
  · intro hc
    apply And.intro
    · intro hd
      apply And.intro
      · exact h3 (of_decide_eq_false hc) (of_decide_eq_true hd)
      · exact h2 (h3 (of_decide_eq_false hc) (of_decide_eq_true hd))
    · intro hd
      exact h1 (Int32.not_lt.mp (of_decide_eq_false hd))
set_option maxRecDepth 10000 in
theorem ev_test11 (c : Int32) (f1 f2 f3 f4 f5 f6 f7 : Nat → Int32) (a k : Int32) (Q : RQ) (h0 : c < 0 → Q (.inr 0) [.inl (0, [rR 1, rR 2, rR 3, rR 4, rR 9, rI false a, rI false k]), .inr (0, 4, .inl f1), .inr (0, 4, .inl f2), .inr (2, 2, .inr (fun j => 5 + j)), .inr (2, 2, .inr (fun j => 7 + j)), .inr (0, 4, .inl f3), .inr (0, 4, .inl f4), .inr (0, 4, .inl f5), .inr (0, 4, .inl f6), .inr (1, 2, .inl f7)])
  (h1 : 4 ≤ c → Q (.inr 0) [.inl (0, [rR 1, rR 2, rR 3, rR 4, rR 9, rI false a, rI false k]), .inr (0, 4, .inl f1), .inr (0, 4, .inl f2), .inr (2, 2, .inr (fun j => 5 + j)), .inr (2, 2, .inr (fun j => 7 + j)), .inr (0, 4, .inl f3), .inr (0, 4, .inl f4), .inr (0, 4, .inl f5), .inr (0, 4, .inl f6), .inr (1, 2, .inl f7)])
  (h2 : vp_in c 4 → Q (.inl (some (rI false (f1 c.toNatClampNeg)))) [.inl (0, [rR 1, rR 2, rR 3, rR 4, rR 9, rI false a, rI false k]), .inr (0, 4, .inl f1), .inr (0, 4, .inl f2), .inr (2, 2, .inr (fun j => 5 + j)), .inr (2, 2, .inr (fun j => 7 + j)), .inr (0, 4, .inl f3), .inr (0, 4, .inl f4), .inr (0, 4, .inl f5), .inr (0, 4, .inl f6), .inr (1, 2, .inl f7)]) (h3 : ¬ c < 0 → c < 4 → vp_in c 4) :
  m_c_dayNumber [rR 0, rI false c] [.inl (0, [rR 1, rR 2, rR 3, rR 4, rR 9, rI false a, rI false k]), .inr (0, 4, .inl f1), .inr (0, 4, .inl f2), .inr (2, 2, .inr (fun j => 5 + j)), .inr (2, 2, .inr (fun j => 7 + j)), .inr (0, 4, .inl f3), .inr (0, 4, .inl f4), .inr (0, 4, .inl f5), .inr (0, 4, .inl f6), .inr (1, 2, .inl f7)] Q := by
  apply And.intro
  · intro hc
    exact h0 (of_decide_eq_true hc)
  · intro hc
    apply And.intro
    · intro hd
      apply And.intro
      · exact h3 (of_decide_eq_false hc) (of_decide_eq_true hd)
      · exact h2 (h3 (of_decide_eq_false hc) (of_decide_eq_true hd))
    · intro hd
      exact h1 (Int32.not_lt.mp (of_decide_eq_false hd))
set_option maxRecDepth 10000 in
theorem ev_test12 (c : Int32) (f1 f2 f3 f4 f5 f6 f7 : Nat → Int32) (a k : Int32) (Q : RQ) (h0 : c < 0 → Q (.inr 0) [.inl (0, [rR 1, rR 2, rR 3, rR 4, rR 9, rI false a, rI false k]), .inr (0, 4, .inl f1), .inr (0, 4, .inl f2), .inr (2, 2, .inr (fun j => 5 + j)), .inr (2, 2, .inr (fun j => 7 + j)), .inr (0, 4, .inl f3), .inr (0, 4, .inl f4), .inr (0, 4, .inl f5), .inr (0, 4, .inl f6), .inr (1, 2, .inl f7)])
  (h1 : 4 ≤ c → Q (.inr 0) [.inl (0, [rR 1, rR 2, rR 3, rR 4, rR 9, rI false a, rI false k]), .inr (0, 4, .inl f1), .inr (0, 4, .inl f2), .inr (2, 2, .inr (fun j => 5 + j)), .inr (2, 2, .inr (fun j => 7 + j)), .inr (0, 4, .inl f3), .inr (0, 4, .inl f4), .inr (0, 4, .inl f5), .inr (0, 4, .inl f6), .inr (1, 2, .inl f7)])
  (h2 : vp_in c 4 → Q (.inl (some (rI false (f1 c.toNatClampNeg)))) [.inl (0, [rR 1, rR 2, rR 3, rR 4, rR 9, rI false a, rI false k]), .inr (0, 4, .inl f1), .inr (0, 4, .inl f2), .inr (2, 2, .inr (fun j => 5 + j)), .inr (2, 2, .inr (fun j => 7 + j)), .inr (0, 4, .inl f3), .inr (0, 4, .inl f4), .inr (0, 4, .inl f5), .inr (0, 4, .inl f6), .inr (1, 2, .inl f7)]) (h3 : ¬ c < 0 → c < 4 → vp_in c 4) :
  m_c_dayNumber [rR 0, rI false c] [.inl (0, [rR 1, rR 2, rR 3, rR 4, rR 9, rI false a, rI false k]), .inr (0, 4, .inl f1), .inr (0, 4, .inl f2), .inr (2, 2, .inr (fun j => 5 + j)), .inr (2, 2, .inr (fun j => 7 + j)), .inr (0, 4, .inl f3), .inr (0, 4, .inl f4), .inr (0, 4, .inl f5), .inr (0, 4, .inl f6), .inr (1, 2, .inl f7)] Q := by
  apply And.intro
  · intro hc
    exact h0 (of_decide_eq_true hc)
  · intro hc
    apply And.intro
    · intro hd
      apply And.intro
      · exact h3 (of_decide_eq_false hc) (of_decide_eq_true hd)
      · exact h2 (h3 (of_decide_eq_false hc) (of_decide_eq_true hd))
    · intro hd
      exact h1 (Int32.not_lt.mp (of_decide_eq_false hd))
set_option maxRecDepth 10000 in
theorem ev_test13 (c : Int32) (f1 f2 f3 f4 f5 f6 f7 : Nat → Int32) (a k : Int32) (Q : RQ) (h0 : c < 0 → Q (.inr 0) [.inl (0, [rR 1, rR 2, rR 3, rR 4, rR 9, rI false a, rI false k]), .inr (0, 4, .inl f1), .inr (0, 4, .inl f2), .inr (2, 2, .inr (fun j => 5 + j)), .inr (2, 2, .inr (fun j => 7 + j)), .inr (0, 4, .inl f3), .inr (0, 4, .inl f4), .inr (0, 4, .inl f5), .inr (0, 4, .inl f6), .inr (1, 2, .inl f7)])
  (h1 : 4 ≤ c → Q (.inr 0) [.inl (0, [rR 1, rR 2, rR 3, rR 4, rR 9, rI false a, rI false k]), .inr (0, 4, .inl f1), .inr (0, 4, .inl f2), .inr (2, 2, .inr (fun j => 5 + j)), .inr (2, 2, .inr (fun j => 7 + j)), .inr (0, 4, .inl f3), .inr (0, 4, .inl f4), .inr (0, 4, .inl f5), .inr (0, 4, .inl f6), .inr (1, 2, .inl f7)])
  (h2 : vp_in c 4 → Q (.inl (some (rI false (f1 c.toNatClampNeg)))) [.inl (0, [rR 1, rR 2, rR 3, rR 4, rR 9, rI false a, rI false k]), .inr (0, 4, .inl f1), .inr (0, 4, .inl f2), .inr (2, 2, .inr (fun j => 5 + j)), .inr (2, 2, .inr (fun j => 7 + j)), .inr (0, 4, .inl f3), .inr (0, 4, .inl f4), .inr (0, 4, .inl f5), .inr (0, 4, .inl f6), .inr (1, 2, .inl f7)]) (h3 : ¬ c < 0 → c < 4 → vp_in c 4) :
  m_c_dayNumber [rR 0, rI false c] [.inl (0, [rR 1, rR 2, rR 3, rR 4, rR 9, rI false a, rI false k]), .inr (0, 4, .inl f1), .inr (0, 4, .inl f2), .inr (2, 2, .inr (fun j => 5 + j)), .inr (2, 2, .inr (fun j => 7 + j)), .inr (0, 4, .inl f3), .inr (0, 4, .inl f4), .inr (0, 4, .inl f5), .inr (0, 4, .inl f6), .inr (1, 2, .inl f7)] Q := by
  apply And.intro
  · intro hc
    exact h0 (of_decide_eq_true hc)
  · intro hc
    apply And.intro
    · intro hd
      apply And.intro
      · exact h3 (of_decide_eq_false hc) (of_decide_eq_true hd)
      · exact h2 (h3 (of_decide_eq_false hc) (of_decide_eq_true hd))
    · intro hd
      exact h1 (Int32.not_lt.mp (of_decide_eq_false hd))
set_option maxRecDepth 10000 in
theorem ev_test14 (c : Int32) (f1 f2 f3 f4 f5 f6 f7 : Nat → Int32) (a k : Int32) (Q : RQ) (h0 : c < 0 → Q (.inr 0) [.inl (0, [rR 1, rR 2, rR 3, rR 4, rR 9, rI false a, rI false k]), .inr (0, 4, .inl f1), .inr (0, 4, .inl f2), .inr (2, 2, .inr (fun j => 5 + j)), .inr (2, 2, .inr (fun j => 7 + j)), .inr (0, 4, .inl f3), .inr (0, 4, .inl f4), .inr (0, 4, .inl f5), .inr (0, 4, .inl f6), .inr (1, 2, .inl f7)])
  (h1 : 4 ≤ c → Q (.inr 0) [.inl (0, [rR 1, rR 2, rR 3, rR 4, rR 9, rI false a, rI false k]), .inr (0, 4, .inl f1), .inr (0, 4, .inl f2), .inr (2, 2, .inr (fun j => 5 + j)), .inr (2, 2, .inr (fun j => 7 + j)), .inr (0, 4, .inl f3), .inr (0, 4, .inl f4), .inr (0, 4, .inl f5), .inr (0, 4, .inl f6), .inr (1, 2, .inl f7)])
  (h2 : vp_in c 4 → Q (.inl (some (rI false (f1 c.toNatClampNeg)))) [.inl (0, [rR 1, rR 2, rR 3, rR 4, rR 9, rI false a, rI false k]), .inr (0, 4, .inl f1), .inr (0, 4, .inl f2), .inr (2, 2, .inr (fun j => 5 + j)), .inr (2, 2, .inr (fun j => 7 + j)), .inr (0, 4, .inl f3), .inr (0, 4, .inl f4), .inr (0, 4, .inl f5), .inr (0, 4, .inl f6), .inr (1, 2, .inl f7)]) (h3 : ¬ c < 0 → c < 4 → vp_in c 4) :
  m_c_dayNumber [rR 0, rI false c] [.inl (0, [rR 1, rR 2, rR 3, rR 4, rR 9, rI false a, rI false k]), .inr (0, 4, .inl f1), .inr (0, 4, .inl f2), .inr (2, 2, .inr (fun j => 5 + j)), .inr (2, 2, .inr (fun j => 7 + j)), .inr (0, 4, .inl f3), .inr (0, 4, .inl f4), .inr (0, 4, .inl f5), .inr (0, 4, .inl f6), .inr (1, 2, .inl f7)] Q := by
  apply And.intro
  · intro hc
    exact h0 (of_decide_eq_true hc)
  · intro hc
    apply And.intro
    · intro hd
      apply And.intro
      · exact h3 (of_decide_eq_false hc) (of_decide_eq_true hd)
      · exact h2 (h3 (of_decide_eq_false hc) (of_decide_eq_true hd))
    · intro hd
      exact h1 (Int32.not_lt.mp (of_decide_eq_false hd))
set_option maxRecDepth 10000 in
theorem ev_test15 (c : Int32) (f1 f2 f3 f4 f5 f6 f7 : Nat → Int32) (a k : Int32) (Q : RQ) (h0 : c < 0 → Q (.inr 0) [.inl (0, [rR 1, rR 2, rR 3, rR 4, rR 9, rI false a, rI false k]), .inr (0, 4, .inl f1), .inr (0, 4, .inl f2), .inr (2, 2, .inr (fun j => 5 + j)), .inr (2, 2, .inr (fun j => 7 + j)), .inr (0, 4, .inl f3), .inr (0, 4, .inl f4), .inr (0, 4, .inl f5), .inr (0, 4, .inl f6), .inr (1, 2, .inl f7)])
  (h1 : 4 ≤ c → Q (.inr 0) [.inl (0, [rR 1, rR 2, rR 3, rR 4, rR 9, rI false a, rI false k]), .inr (0, 4, .inl f1), .inr (0, 4, .inl f2), .inr (2, 2, .inr (fun j => 5 + j)), .inr (2, 2, .inr (fun j => 7 + j)), .inr (0, 4, .inl f3), .inr (0, 4, .inl f4), .inr (0, 4, .inl f5), .inr (0, 4, .inl f6), .inr (1, 2, .inl f7)])
  (h2 : vp_in c 4 → Q (.inl (some (rI false (f1 c.toNatClampNeg)))) [.inl (0, [rR 1, rR 2, rR 3, rR 4, rR 9, rI false a, rI false k]), .inr (0, 4, .inl f1), .inr (0, 4, .inl f2), .inr (2, 2, .inr (fun j => 5 + j)), .inr (2, 2, .inr (fun j => 7 + j)), .inr (0, 4, .inl f3), .inr (0, 4, .inl f4), .inr (0, 4, .inl f5), .inr (0, 4, .inl f6), .inr (1, 2, .inl f7)]) (h3 : ¬ c < 0 → c < 4 → vp_in c 4) :
  m_c_dayNumber [rR 0, rI false c] [.inl (0, [rR 1, rR 2, rR 3, rR 4, rR 9, rI false a, rI false k]), .inr (0, 4, .inl f1), .inr (0, 4, .inl f2), .inr (2, 2, .inr (fun j => 5 + j)), .inr (2, 2, .inr (fun j => 7 + j)), .inr (0, 4, .inl f3), .inr (0, 4, .inl f4), .inr (0, 4, .inl f5), .inr (0, 4, .inl f6), .inr (1, 2, .inl f7)] Q := by
  apply And.intro
  · intro hc
    exact h0 (of_decide_eq_true hc)
  · intro hc
    apply And.intro
    · intro hd
      apply And.intro
      · exact h3 (of_decide_eq_false hc) (of_decide_eq_true hd)
      · exact h2 (h3 (of_decide_eq_false hc) (of_decide_eq_true hd))
    · intro hd
      exact h1 (Int32.not_lt.mp (of_decide_eq_false hd))
set_option maxRecDepth 10000 in
theorem ev_test16 (c : Int32) (f1 f2 f3 f4 f5 f6 f7 : Nat → Int32) (a k : Int32) (Q : RQ) (h0 : c < 0 → Q (.inr 0) [.inl (0, [rR 1, rR 2, rR 3, rR 4, rR 9, rI false a, rI false k]), .inr (0, 4, .inl f1), .inr (0, 4, .inl f2), .inr (2, 2, .inr (fun j => 5 + j)), .inr (2, 2, .inr (fun j => 7 + j)), .inr (0, 4, .inl f3), .inr (0, 4, .inl f4), .inr (0, 4, .inl f5), .inr (0, 4, .inl f6), .inr (1, 2, .inl f7)])
  (h1 : 4 ≤ c → Q (.inr 0) [.inl (0, [rR 1, rR 2, rR 3, rR 4, rR 9, rI false a, rI false k]), .inr (0, 4, .inl f1), .inr (0, 4, .inl f2), .inr (2, 2, .inr (fun j => 5 + j)), .inr (2, 2, .inr (fun j => 7 + j)), .inr (0, 4, .inl f3), .inr (0, 4, .inl f4), .inr (0, 4, .inl f5), .inr (0, 4, .inl f6), .inr (1, 2, .inl f7)])
  (h2 : vp_in c 4 → Q (.inl (some (rI false (f1 c.toNatClampNeg)))) [.inl (0, [rR 1, rR 2, rR 3, rR 4, rR 9, rI false a, rI false k]), .inr (0, 4, .inl f1), .inr (0, 4, .inl f2), .inr (2, 2, .inr (fun j => 5 + j)), .inr (2, 2, .inr (fun j => 7 + j)), .inr (0, 4, .inl f3), .inr (0, 4, .inl f4), .inr (0, 4, .inl f5), .inr (0, 4, .inl f6), .inr (1, 2, .inl f7)]) (h3 : ¬ c < 0 → c < 4 → vp_in c 4) :
  m_c_dayNumber [rR 0, rI false c] [.inl (0, [rR 1, rR 2, rR 3, rR 4, rR 9, rI false a, rI false k]), .inr (0, 4, .inl f1), .inr (0, 4, .inl f2), .inr (2, 2, .inr (fun j => 5 + j)), .inr (2, 2, .inr (fun j => 7 + j)), .inr (0, 4, .inl f3), .inr (0, 4, .inl f4), .inr (0, 4, .inl f5), .inr (0, 4, .inl f6), .inr (1, 2, .inl f7)] Q := by
  apply And.intro
  · intro hc
    exact h0 (of_decide_eq_true hc)
  · intro hc
    apply And.intro
    · intro hd
      apply And.intro
      · exact h3 (of_decide_eq_false hc) (of_decide_eq_true hd)
      · exact h2 (h3 (of_decide_eq_false hc) (of_decide_eq_true hd))
    · intro hd
      exact h1 (Int32.not_lt.mp (of_decide_eq_false hd))
set_option maxRecDepth 10000 in
theorem ev_test17 (c : Int32) (f1 f2 f3 f4 f5 f6 f7 : Nat → Int32) (a k : Int32) (Q : RQ) (h0 : c < 0 → Q (.inr 0) [.inl (0, [rR 1, rR 2, rR 3, rR 4, rR 9, rI false a, rI false k]), .inr (0, 4, .inl f1), .inr (0, 4, .inl f2), .inr (2, 2, .inr (fun j => 5 + j)), .inr (2, 2, .inr (fun j => 7 + j)), .inr (0, 4, .inl f3), .inr (0, 4, .inl f4), .inr (0, 4, .inl f5), .inr (0, 4, .inl f6), .inr (1, 2, .inl f7)])
  (h1 : 4 ≤ c → Q (.inr 0) [.inl (0, [rR 1, rR 2, rR 3, rR 4, rR 9, rI false a, rI false k]), .inr (0, 4, .inl f1), .inr (0, 4, .inl f2), .inr (2, 2, .inr (fun j => 5 + j)), .inr (2, 2, .inr (fun j => 7 + j)), .inr (0, 4, .inl f3), .inr (0, 4, .inl f4), .inr (0, 4, .inl f5), .inr (0, 4, .inl f6), .inr (1, 2, .inl f7)])
  (h2 : vp_in c 4 → Q (.inl (some (rI false (f1 c.toNatClampNeg)))) [.inl (0, [rR 1, rR 2, rR 3, rR 4, rR 9, rI false a, rI false k]), .inr (0, 4, .inl f1), .inr (0, 4, .inl f2), .inr (2, 2, .inr (fun j => 5 + j)), .inr (2, 2, .inr (fun j => 7 + j)), .inr (0, 4, .inl f3), .inr (0, 4, .inl f4), .inr (0, 4, .inl f5), .inr (0, 4, .inl f6), .inr (1, 2, .inl f7)]) (h3 : ¬ c < 0 → c < 4 → vp_in c 4) :
  m_c_dayNumber [rR 0, rI false c] [.inl (0, [rR 1, rR 2, rR 3, rR 4, rR 9, rI false a, rI false k]), .inr (0, 4, .inl f1), .inr (0, 4, .inl f2), .inr (2, 2, .inr (fun j => 5 + j)), .inr (2, 2, .inr (fun j => 7 + j)), .inr (0, 4, .inl f3), .inr (0, 4, .inl f4), .inr (0, 4, .inl f5), .inr (0, 4, .inl f6), .inr (1, 2, .inl f7)] Q := by
  apply And.intro
  · intro hc
    exact h0 (of_decide_eq_true hc)
  · intro hc
    apply And.intro
    · intro hd
      apply And.intro
      · exact h3 (of_decide_eq_false hc) (of_decide_eq_true hd)
      · exact h2 (h3 (of_decide_eq_false hc) (of_decide_eq_true hd))
    · intro hd
      exact h1 (Int32.not_lt.mp (of_decide_eq_false hd))
set_option maxRecDepth 10000 in
theorem ev_test18 (c : Int32) (f1 f2 f3 f4 f5 f6 f7 : Nat → Int32) (a k : Int32) (Q : RQ) (h0 : c < 0 → Q (.inr 0) [.inl (0, [rR 1, rR 2, rR 3, rR 4, rR 9, rI false a, rI false k]), .inr (0, 4, .inl f1), .inr (0, 4, .inl f2), .inr (2, 2, .inr (fun j => 5 + j)), .inr (2, 2, .inr (fun j => 7 + j)), .inr (0, 4, .inl f3), .inr (0, 4, .inl f4), .inr (0, 4, .inl f5), .inr (0, 4, .inl f6), .inr (1, 2, .inl f7)])
  (h1 : 4 ≤ c → Q (.inr 0) [.inl (0, [rR 1, rR 2, rR 3, rR 4, rR 9, rI false a, rI false k]), .inr (0, 4, .inl f1), .inr (0, 4, .inl f2), .inr (2, 2, .inr (fun j => 5 + j)), .inr (2, 2, .inr (fun j => 7 + j)), .inr (0, 4, .inl f3), .inr (0, 4, .inl f4), .inr (0, 4, .inl f5), .inr (0, 4, .inl f6), .inr (1, 2, .inl f7)])
  (h2 : vp_in c 4 → Q (.inl (some (rI false (f1 c.toNatClampNeg)))) [.inl (0, [rR 1, rR 2, rR 3, rR 4, rR 9, rI false a, rI false k]), .inr (0, 4, .inl f1), .inr (0, 4, .inl f2), .inr (2, 2, .inr (fun j => 5 + j)), .inr (2, 2, .inr (fun j => 7 + j)), .inr (0, 4, .inl f3), .inr (0, 4, .inl f4), .inr (0, 4, .inl f5), .inr (0, 4, .inl f6), .inr (1, 2, .inl f7)]) (h3 : ¬ c < 0 → c < 4 → vp_in c 4) :
  m_c_dayNumber [rR 0, rI false c] [.inl (0, [rR 1, rR 2, rR 3, rR 4, rR 9, rI false a, rI false k]), .inr (0, 4, .inl f1), .inr (0, 4, .inl f2), .inr (2, 2, .inr (fun j => 5 + j)), .inr (2, 2, .inr (fun j => 7 + j)), .inr (0, 4, .inl f3), .inr (0, 4, .inl f4), .inr (0, 4, .inl f5), .inr (0, 4, .inl f6), .inr (1, 2, .inl f7)] Q := by
  apply And.intro
  · intro hc
    exact h0 (of_decide_eq_true hc)
  · intro hc
    apply And.intro
    · intro hd
      apply And.intro
      · exact h3 (of_decide_eq_false hc) (of_decide_eq_true hd)
      · exact h2 (h3 (of_decide_eq_false hc) (of_decide_eq_true hd))
    · intro hd
      exact h1 (Int32.not_lt.mp (of_decide_eq_false hd))
set_option maxRecDepth 10000 in
theorem ev_test19 (c : Int32) (f1 f2 f3 f4 f5 f6 f7 : Nat → Int32) (a k : Int32) (Q : RQ) (h0 : c < 0 → Q (.inr 0) [.inl (0, [rR 1, rR 2, rR 3, rR 4, rR 9, rI false a, rI false k]), .inr (0, 4, .inl f1), .inr (0, 4, .inl f2), .inr (2, 2, .inr (fun j => 5 + j)), .inr (2, 2, .inr (fun j => 7 + j)), .inr (0, 4, .inl f3), .inr (0, 4, .inl f4), .inr (0, 4, .inl f5), .inr (0, 4, .inl f6), .inr (1, 2, .inl f7)])
  (h1 : 4 ≤ c → Q (.inr 0) [.inl (0, [rR 1, rR 2, rR 3, rR 4, rR 9, rI false a, rI false k]), .inr (0, 4, .inl f1), .inr (0, 4, .inl f2), .inr (2, 2, .inr (fun j => 5 + j)), .inr (2, 2, .inr (fun j => 7 + j)), .inr (0, 4, .inl f3), .inr (0, 4, .inl f4), .inr (0, 4, .inl f5), .inr (0, 4, .inl f6), .inr (1, 2, .inl f7)])
  (h2 : vp_in c 4 → Q (.inl (some (rI false (f1 c.toNatClampNeg)))) [.inl (0, [rR 1, rR 2, rR 3, rR 4, rR 9, rI false a, rI false k]), .inr (0, 4, .inl f1), .inr (0, 4, .inl f2), .inr (2, 2, .inr (fun j => 5 + j)), .inr (2, 2, .inr (fun j => 7 + j)), .inr (0, 4, .inl f3), .inr (0, 4, .inl f4), .inr (0, 4, .inl f5), .inr (0, 4, .inl f6), .inr (1, 2, .inl f7)]) (h3 : ¬ c < 0 → c < 4 → vp_in c 4) :
  m_c_dayNumber [rR 0, rI false c] [.inl (0, [rR 1, rR 2, rR 3, rR 4, rR 9, rI false a, rI false k]), .inr (0, 4, .inl f1), .inr (0, 4, .inl f2), .inr (2, 2, .inr (fun j => 5 + j)), .inr (2, 2, .inr (fun j => 7 + j)), .inr (0, 4, .inl f3), .inr (0, 4, .inl f4), .inr (0, 4, .inl f5), .inr (0, 4, .inl f6), .inr (1, 2, .inl f7)] Q := by
  apply And.intro
  · intro hc
    exact h0 (of_decide_eq_true hc)
  · intro hc
    apply And.intro
    · intro hd
      apply And.intro
      · exact h3 (of_decide_eq_false hc) (of_decide_eq_true hd)
      · exact h2 (h3 (of_decide_eq_false hc) (of_decide_eq_true hd))
    · intro hd
      exact h1 (Int32.not_lt.mp (of_decide_eq_false hd))
end
