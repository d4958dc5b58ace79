section RKM
theorem pls_c7 {g : Bool} {d : Int64} {n : Int32} {σ : List RC} (h : dD n = true) : pLS [rL g d, rR (99 + n.toNatClampNeg)] σ := ⟨g, d, _, rfl, (nm_day h).1, (nm_day h).2.1⟩
theorem pls_c12 {g : Bool} {d : Int64} {n : Int32} {σ : List RC} (h : dM n = true) : pLS [rL g d, rR (107 + n.toNatClampNeg)] σ := ⟨g, d, _, rfl, (nm_month h).1, (nm_month h).2.1⟩
theorem pls_d7 {g : Bool} {d : Int64} {n : Int32} {σ : List RC} (h : dD n = true) : pLS [rL g d, rR (126 + (n - 1).toNatClampNeg)] σ := ⟨g, d, _, rfl, (nd_day h).1, (nd_day h).2.1⟩
theorem pls_d12 {g : Bool} {d : Int64} {n : Int32} {σ : List RC} (h : dM n = true) : pLS [rL g d, rR (133 + (n - 1).toNatClampNeg)] σ := ⟨g, d, _, rfl, (nd_month h).1, (nd_month h).2.1⟩
theorem pli {g h : Bool} {d : Int64} {v : Int32} {σ : List RC} : pLI [rL g d, rI h v] σ := ⟨g, h, d, v, rfl⟩
theorem pli' {g : Bool} {d : Int64} {q : Bool × Int32} {σ : List RC} : pLI [rL g d, .inl q] σ := ⟨g, q.1, d, q.2, rfl⟩
theorem pll {g h : Bool} {d v : Int64} {σ : List RC} : pLL [rL g d, rL h v] σ := ⟨g, h, d, v, rfl⟩
theorem pldm {g h i : Bool} {d : Int64} {a b : Int32} {σ : List RC} (ha : dD a = true) (hb : dM b = true) : pLDM [rL g d, rI h a, rI i b] σ := ⟨g, h, i, d, a, b, rfl, ha, hb⟩
set_option maxHeartbeats 4000000 in
set_option maxRecDepth 20000 in
theorem okW_c_mixed : rMet y_c_mixed (Cond.code y_c_mixed prog_1_method_88_code 3 (some .long) :: rT) rm_c_mixed 0 (sAnyL pLI) := by
  refine any_L ok_c_mixed (fun as σ h => ?_)
  obtain ⟨g, h, d, v, rfl⟩ := h
  exact ⟨[rL false d, rI false v], fun _ => rfl, qL⟩
set_option maxHeartbeats 4000000 in
set_option maxRecDepth 20000 in
theorem okW_d_add : rMet y_d_add__JJ_J (Cond.code y_d_add__JJ_J prog_4_method_70_code 4 (some .long) :: rT) rm_d_add__JJ_J 0 (sAnyL pLL) := by
  refine any_L ok_d_add__JJ_J (fun as σ h => ?_)
  obtain ⟨g, h, d, v, rfl⟩ := h
  exact ⟨[rL false d, rL false v], fun _ => rfl, qL⟩
def ps_c_mixedName : List Nat := [0, 1, 2, 3, 5, 7, 8, 11, 14, 15, 16, 18, 21, 24, 25, 28, 31, 32]
def tb_c_mixedName : List RT := [tq_ll 0, tq_ls 6 3, tq_ic 0, tq_isf 6 5, tq_il 5, tq_al 2, tq_callH (rVK m_js_length) 1 0 0 [], tq_if2 (fun x y => decide (y ≤ x)) 16, tq_ll 3, tq_al 2, tq_il 5, tq_callH (rVK m_js_charAt) 2 0 0 [], tq_callH (sAnyL pLI) 2 0 0 [], tq_ls 6 3, tq_inc 6 5 1, tq_go 4, tq_ll 3, tq_lret 0]
def m_c_mixedName : RM := rMeth tb_c_mixedName 6000 6
abbrev rm_c_mixedName : Room := { frames := 4, cells := 0, slots := 0, locals := 85 }
set_option maxHeartbeats 4000000 in
set_option maxRecDepth 20000 in
theorem ok_c_mixedName : rMet y_c_mixedName (Cond.code y_c_mixedName prog_1_method_89_code 6 (some .long) :: rT) rm_c_mixedName 0 m_c_mixedName := by
  refine rMeth_ok (ps := ps_c_mixedName) (tab := tb_c_mixedName) (by decide +kernel) rfl rfl rfl rfl ?_
  refine rcons (ro_lload_n (k := 0) rfl (by decide +kernel) rfl) ?_
  refine rcons (ro_lstore_n (k := 3) rfl (by decide +kernel) rfl) ?_
  refine rcons (ro_iconst (n := 0) (by decide +kernel) rfl rfl) ?_
  refine rcons (ro_isf (by decide +kernel) rfl) ?_
  refine rcons (ro_iload (by decide +kernel) rfl) ?_
  refine rcons (ro_aload_n (k := 2) rfl (by decide +kernel) rfl) ?_
  refine rcons (ro_callK0 ok_js_length (by decide +kernel) (fun s args ht => cwV (C := rN4) 0 ht (rgoodV (C := rN4) (fun w h => List.mem_cons_of_mem _ h) q_533 q_232 q_233 q_25 q_234) rfl rfl rfl hv_js_length ⟨Nat.le_of_ble_eq_true rfl, Nat.le_of_ble_eq_true rfl⟩) rfl) ?_
  refine rcons (ro_icmp_ge (off := 20) (by decide +kernel) rfl rfl) ?_
  refine rcons (ro_lload_n (k := 3) rfl (by decide +kernel) rfl) ?_
  refine rcons (ro_aload_n (k := 2) rfl (by decide +kernel) rfl) ?_
  refine rcons (ro_iload (by decide +kernel) rfl) ?_
  refine rcons (ro_callK0 ok_js_charAt (by decide +kernel) (fun s args ht => cwV (C := rN4) 1 ht (rgoodV (C := rN4) (fun w h => List.mem_cons_of_mem _ h) q_534 q_535 q_536 q_25 q_537) rfl rfl rfl hv_js_charAt ⟨Nat.le_of_ble_eq_true rfl, Nat.le_of_ble_eq_true rfl⟩) rfl) ?_
  refine rcons (ro_callS0 okW_c_mixed (by decide +kernel) (fun s args ht => va_cwS 2 ht (rgoodS (fun w h => List.mem_cons_of_mem _ h) q_523 q_524 q_13 q_525) rfl rfl rfl hy_c_mixed ⟨Nat.le_of_ble_eq_true rfl, Nat.le_of_ble_eq_true rfl⟩) rfl) ?_
  refine rcons (ro_lstore_n (k := 3) rfl (by decide +kernel) rfl) ?_
  refine rcons (ro_iinc (by decide +kernel) rfl) ?_
  refine rcons (ro_goto (off := (-23)) (by decide +kernel) rfl) ?_
  refine rcons (ro_lload_n (k := 3) rfl (by decide +kernel) rfl) ?_
  refine rcons (ro_lret (by decide +kernel)) ?_
  exact rnil
set_option maxHeartbeats 4000000 in
set_option maxRecDepth 20000 in
theorem lp_c_mixedName {Q : RQ} {σ : List RC} {k : Nat} {d : Int64} (hk : 100 ≤ k ∧ k < 145) (hQ : ∀ w : Int64, Q (.inl (some (rL false w))) σ) : ∀ (j p : Nat) (x : Int32) (w : Int64) (n : Nat), x = nI p → p + j = rSl k → rSl k ≤ 100 → 40 * j + 60 ≤ n →
    rEv tb_c_mixedName Q n (rdrop 4 tb_c_mixedName) [(5, rI false x), (3, rL false w), (0, rL false d), (2, rR k)] [] σ 0
  | 0, p, x, w, n, hx, hp, hm, hn => by
    obtain ⟨n, rfl⟩ : ∃ z, n = z + 40 := ⟨n - 40, by omega⟩
    subst hx
    have hk2 : 200 ≤ k + 100 ∧ k + 100 < 245 := by omega
    have e : Int32.ofNat (rSLen.getD (k + 100 - 200) 0) >>> ((0 : Int32) &&& 31) = nI (rSl k) := by
      rw [sb_shr0, show k + 100 - 200 = k - 100 by omega]
      rfl
    refine And.intro hk (And.intro hk (And.intro hk2 (And.intro hk (And.intro hk (And.intro rfl ?_)))))
    apply And.intro
    · intro h
      exact hQ w
    · intro h
      have h2 : ¬ Int32.ofNat (rSLen.getD (k + 100 - 200) 0) >>> ((0 : Int32) &&& 31) ≤ nI p := of_decide_eq_false h
      rw [e] at h2
      exact absurd (nI_le (show rSl k ≤ p by omega) (by omega)) h2
  | j + 1, p, x, w, n, hx, hp, hm, hn => by
    obtain ⟨n, rfl⟩ : ∃ z, n = z + 40 := ⟨n - 40, by omega⟩
    subst hx
    have hk2 : 200 ≤ k + 100 ∧ k + 100 < 245 := by omega
    have e : Int32.ofNat (rSLen.getD (k + 100 - 200) 0) >>> ((0 : Int32) &&& 31) = nI (rSl k) := by
      rw [sb_shr0, show k + 100 - 200 = k - 100 by omega]
      rfl
    have e2 : Int32.ofNat (rSLen.getD (k + 100 - 200) 0) = nI (rSl k) := by
      rw [show k + 100 - 200 = k - 100 by omega]
      rfl
    have e3 : vp_in (nI p) (rSLen.getD (k + 100 - 200) 0) := by
      rw [show k + 100 - 200 = k - 100 by omega]
      exact vp_in_nI (n := p) (N := rSl k) (by omega) (by omega)
    refine And.intro hk (And.intro hk (And.intro hk2 (And.intro hk (And.intro hk (And.intro rfl ?_)))))
    apply And.intro
    · intro h
      have h2 : Int32.ofNat (rSLen.getD (k + 100 - 200) 0) >>> ((0 : Int32) &&& 31) ≤ nI p := of_decide_eq_true h
      rw [e] at h2
      exact absurd h2 (nI_ge (show p < rSl k by omega) (by omega))
    · intro h
      refine And.intro hk (And.intro hk (And.intro hk (And.intro rfl (And.intro hk (And.intro hk2 ?_)))))
      intro o
      apply And.intro
      · intro h1
        have h2 : nI p < 0 := of_decide_eq_true h1
        exact absurd h2 (nI_pos (by omega))
      · intro h1
        apply And.intro
        · intro h2
          refine And.intro hk2 (And.intro e3 (And.intro (pk_nc _) (And.intro (pk_nc _) ?_)))
          refine And.intro ⟨_, _, _, _, rfl⟩ ?_
          intro w'
          exact lp_c_mixedName hk hQ j (p + 1) (nI p + Int32.ofInt 1) w' (n + 28) (nI_1 p) (by omega) hm (by omega)
        · intro h2
          have h3 : ¬ nI p < Int32.ofNat (rSLen.getD (k + 100 - 200) 0) := of_decide_eq_false h2
          rw [e2] at h3
          exact absurd (nI_lt (show p < rSl k by omega) (by omega)) h3
set_option maxHeartbeats 4000000 in
set_option maxRecDepth 20000 in
theorem okW_c_mixedName : rMet y_c_mixedName (Cond.code y_c_mixedName prog_1_method_89_code 6 (some .long) :: rT) rm_c_mixedName 0 (sAnyL pLS) := by
  refine any_L ok_c_mixedName (fun as σ h => ?_)
  obtain ⟨g, d, k, rfl, hk⟩ := h
  refine ⟨[rL false d, rR k], fun _ => rfl, ?_⟩
  exact lp_c_mixedName (Q := QL σ) hk (fun w => qL) (rSl k) 0 0 d 5996 rfl (by omega) (sl_100 hk) (by have := sl_100 hk; omega)
def ps_d_add__JString__J : List Nat := [0, 1, 2, 3, 5, 7, 8, 11, 14, 15, 16, 18, 21, 22, 25, 26, 29, 32, 33]
def tb_d_add__JString__J : List RT := [tq_ll 0, tq_ls 6 3, tq_ic 0, tq_isf 6 5, tq_il 5, tq_al 2, tq_callH (rVK m_js_length) 1 0 0 [], tq_if2 (fun x y => decide (y ≤ x)) 17, tq_ll 3, tq_al 2, tq_il 5, tq_callH (rVK m_js_charAt) 2 0 0 [], tq_i2l, tq_callH (sAnyL pLL) 2 0 0 [], tq_ls 6 3, tq_inc 6 5 1, tq_go 4, tq_ll 3, tq_lret 0]
def m_d_add__JString__J : RM := rMeth tb_d_add__JString__J 6000 6
abbrev rm_d_add__JString__J : Room := { frames := 4, cells := 0, slots := 0, locals := 85 }
set_option maxHeartbeats 4000000 in
set_option maxRecDepth 20000 in
theorem ok_d_add__JString__J : rMet y_d_add__JString__J (Cond.code y_d_add__JString__J prog_4_method_71_code 6 (some .long) :: rT) rm_d_add__JString__J 0 m_d_add__JString__J := by
  refine rMeth_ok (ps := ps_d_add__JString__J) (tab := tb_d_add__JString__J) (by decide +kernel) rfl rfl rfl rfl ?_
  refine rcons (ro_lload_n (k := 0) rfl (by decide +kernel) rfl) ?_
  refine rcons (ro_lstore_n (k := 3) rfl (by decide +kernel) rfl) ?_
  refine rcons (ro_iconst (n := 0) (by decide +kernel) rfl rfl) ?_
  refine rcons (ro_isf (by decide +kernel) rfl) ?_
  refine rcons (ro_iload (by decide +kernel) rfl) ?_
  refine rcons (ro_aload_n (k := 2) rfl (by decide +kernel) rfl) ?_
  refine rcons (ro_callK0 ok_js_length (by decide +kernel) (fun s args ht => cwV (C := rN4) 0 ht (rgoodV (C := rN4) (fun w h => List.mem_cons_of_mem _ h) q_1289 q_232 q_233 q_25 q_234) rfl rfl rfl hv_js_length ⟨Nat.le_of_ble_eq_true rfl, Nat.le_of_ble_eq_true rfl⟩) rfl) ?_
  refine rcons (ro_icmp_ge (off := 21) (by decide +kernel) rfl rfl) ?_
  refine rcons (ro_lload_n (k := 3) rfl (by decide +kernel) rfl) ?_
  refine rcons (ro_aload_n (k := 2) rfl (by decide +kernel) rfl) ?_
  refine rcons (ro_iload (by decide +kernel) rfl) ?_
  refine rcons (ro_callK0 ok_js_charAt (by decide +kernel) (fun s args ht => cwV (C := rN4) 1 ht (rgoodV (C := rN4) (fun w h => List.mem_cons_of_mem _ h) q_1290 q_535 q_536 q_25 q_537) rfl rfl rfl hv_js_charAt ⟨Nat.le_of_ble_eq_true rfl, Nat.le_of_ble_eq_true rfl⟩) rfl) ?_
  refine rcons (ro_i2l (by decide +kernel) rfl) ?_
  refine rcons (ro_callS0 okW_d_add (by decide +kernel) (fun s args ht => va_cwS 2 ht (rgoodS (fun w h => List.mem_cons_of_mem _ h) q_1282 q_1283 q_14 q_1284) rfl rfl rfl hy_d_add__JJ_J ⟨Nat.le_of_ble_eq_true rfl, Nat.le_of_ble_eq_true rfl⟩) rfl) ?_
  refine rcons (ro_lstore_n (k := 3) rfl (by decide +kernel) rfl) ?_
  refine rcons (ro_iinc (by decide +kernel) rfl) ?_
  refine rcons (ro_goto (off := (-24)) (by decide +kernel) rfl) ?_
  refine rcons (ro_lload_n (k := 3) rfl (by decide +kernel) rfl) ?_
  refine rcons (ro_lret (by decide +kernel)) ?_
  exact rnil
set_option maxHeartbeats 4000000 in
set_option maxRecDepth 20000 in
theorem lp_d_addS {Q : RQ} {σ : List RC} {k : Nat} {d : Int64} (hk : 100 ≤ k ∧ k < 145) (hQ : ∀ w : Int64, Q (.inl (some (rL false w))) σ) : ∀ (j p : Nat) (x : Int32) (w : Int64) (n : Nat), x = nI p → p + j = rSl k → rSl k ≤ 100 → 40 * j + 60 ≤ n →
    rEv tb_d_add__JString__J Q n (rdrop 4 tb_d_add__JString__J) [(5, rI false x), (3, rL false w), (0, rL false d), (2, rR k)] [] σ 0
  | 0, p, x, w, n, hx, hp, hm, hn => by
    obtain ⟨n, rfl⟩ : ∃ z, n = z + 40 := ⟨n - 40, by omega⟩
    subst hx
    have hk2 : 200 ≤ k + 100 ∧ k + 100 < 245 := by omega
    have e : Int32.ofNat (rSLen.getD (k + 100 - 200) 0) >>> ((0 : Int32) &&& 31) = nI (rSl k) := by
      rw [sb_shr0, show k + 100 - 200 = k - 100 by omega]
      rfl
    refine And.intro hk (And.intro hk (And.intro hk2 (And.intro hk (And.intro hk (And.intro rfl ?_)))))
    apply And.intro
    · intro h
      exact hQ w
    · intro h
      have h2 : ¬ Int32.ofNat (rSLen.getD (k + 100 - 200) 0) >>> ((0 : Int32) &&& 31) ≤ nI p := of_decide_eq_false h
      rw [e] at h2
      exact absurd (nI_le (show rSl k ≤ p by omega) (by omega)) h2
  | j + 1, p, x, w, n, hx, hp, hm, hn => by
    obtain ⟨n, rfl⟩ : ∃ z, n = z + 40 := ⟨n - 40, by omega⟩
    subst hx
    have hk2 : 200 ≤ k + 100 ∧ k + 100 < 245 := by omega
    have e : Int32.ofNat (rSLen.getD (k + 100 - 200) 0) >>> ((0 : Int32) &&& 31) = nI (rSl k) := by
      rw [sb_shr0, show k + 100 - 200 = k - 100 by omega]
      rfl
    have e2 : Int32.ofNat (rSLen.getD (k + 100 - 200) 0) = nI (rSl k) := by
      rw [show k + 100 - 200 = k - 100 by omega]
      rfl
    have e3 : vp_in (nI p) (rSLen.getD (k + 100 - 200) 0) := by
      rw [show k + 100 - 200 = k - 100 by omega]
      exact vp_in_nI (n := p) (N := rSl k) (by omega) (by omega)
    refine And.intro hk (And.intro hk (And.intro hk2 (And.intro hk (And.intro hk (And.intro rfl ?_)))))
    apply And.intro
    · intro h
      have h2 : Int32.ofNat (rSLen.getD (k + 100 - 200) 0) >>> ((0 : Int32) &&& 31) ≤ nI p := of_decide_eq_true h
      rw [e] at h2
      exact absurd h2 (nI_ge (show p < rSl k by omega) (by omega))
    · intro h
      refine And.intro hk (And.intro hk (And.intro hk (And.intro rfl (And.intro hk (And.intro hk2 ?_)))))
      intro o
      apply And.intro
      · intro h1
        have h2 : nI p < 0 := of_decide_eq_true h1
        exact absurd h2 (nI_pos (by omega))
      · intro h1
        apply And.intro
        · intro h2
          refine And.intro hk2 (And.intro e3 (And.intro (pk_nc _) (And.intro (pk_nc _) ?_)))
          refine And.intro ⟨_, _, _, _, rfl⟩ ?_
          intro w'
          exact lp_d_addS hk hQ j (p + 1) (nI p + Int32.ofInt 1) w' (n + 27) (nI_1 p) (by omega) hm (by omega)
        · intro h2
          have h3 : ¬ nI p < Int32.ofNat (rSLen.getD (k + 100 - 200) 0) := of_decide_eq_false h2
          rw [e2] at h3
          exact absurd (nI_lt (show p < rSl k by omega) (by omega)) h3
set_option maxHeartbeats 4000000 in
set_option maxRecDepth 20000 in
theorem okW_d_addS : rMet y_d_add__JString__J (Cond.code y_d_add__JString__J prog_4_method_71_code 6 (some .long) :: rT) rm_d_add__JString__J 0 (sAnyL pLS) := by
  refine any_L ok_d_add__JString__J (fun as σ h => ?_)
  obtain ⟨g, d, k, rfl, hk⟩ := h
  refine ⟨[rL false d, rR k], fun _ => rfl, ?_⟩
  exact lp_d_addS (Q := QL σ) hk (fun w => qL) (rSl k) 0 0 d 5996 rfl (by omega) (sl_100 hk) (by have := sl_100 hk; omega)
def ps_c_mixedCell : List Nat := [0, 1, 2, 5, 7, 9, 10, 13, 15, 17, 18, 21, 24, 26, 28, 29, 32, 35, 37, 39, 40, 41, 44, 47, 49, 51, 52, 53, 56, 59, 61, 63, 64, 65, 68, 71, 73, 75, 76, 77, 80, 83, 85, 87, 88, 91, 94]
def tb_c_mixedCell : List RT := [tq_ll 0, tq_il 2, tq_call (sAnyL pLI) 2 0 0, tq_ls 6 4, tq_ll 4, tq_il 3, tq_call (sAnyL pLI) 2 0 0, tq_ls 6 4, tq_ll 4, tq_il 2, tq_call s_c_nameOfDay 1 0 0, tq_call (sAnyL pLS) 2 0 0, tq_ls 6 4, tq_ll 4, tq_il 3, tq_call s_c_nameOfMonth 1 0 0, tq_call (sAnyL pLS) 2 0 0, tq_ls 6 4, tq_ll 4, tq_il 3, tq_ic 0, tq_call s_c_lengthOf 2 0 0, tq_call (sAnyL pLI) 2 0 0, tq_ls 6 4, tq_ll 4, tq_il 3, tq_ic 1, tq_call s_c_lengthOf 2 0 0, tq_call (sAnyL pLI) 2 0 0, tq_ls 6 4, tq_ll 4, tq_il 3, tq_ic 0, tq_call s_c_firstOf 2 0 0, tq_call (sAnyL pLI) 2 0 0, tq_ls 6 4, tq_ll 4, tq_il 3, tq_ic 1, tq_call s_c_firstOf 2 0 0, tq_call (sAnyL pLI) 2 0 0, tq_ls 6 4, tq_ll 4, tq_il 3, tq_call m_c_quarterOf 1 0 0, tq_call (sAnyL pLI) 2 0 0, tq_lret 0]
def m_c_mixedCell : RM := rMeth tb_c_mixedCell 400 6
abbrev rm_c_mixedCell : Room := { frames := 5, cells := 0, slots := 0, locals := 110 }
set_option maxHeartbeats 4000000 in
set_option maxRecDepth 20000 in
theorem ok_c_mixedCell : rMet y_c_mixedCell (Cond.code y_c_mixedCell prog_1_method_90_code 6 (some .long) :: rT) rm_c_mixedCell 0 m_c_mixedCell := by
  refine rMeth_ok (ps := ps_c_mixedCell) (tab := tb_c_mixedCell) (by decide +kernel) rfl rfl rfl rfl ?_
  refine rcons (ro_lload_n (k := 0) rfl (by decide +kernel) rfl) ?_
  refine rcons (ro_iload_n (k := 2) rfl (by decide +kernel) rfl) ?_
  refine rcons (ro_callS okW_c_mixed (by decide +kernel) rfl (fun s args ht => va_cwS 2 ht (rgoodS (fun w h => List.mem_cons_of_mem _ h) q_523 q_524 q_13 q_525) rfl rfl rfl hy_c_mixed ⟨Nat.le_of_ble_eq_true rfl, Nat.le_of_ble_eq_true rfl⟩) rfl) ?_
  refine rcons (ro_lstore (by decide +kernel) rfl) ?_
  refine rcons (ro_lload (by decide +kernel) rfl) ?_
  refine rcons (ro_iload_n (k := 3) rfl (by decide +kernel) rfl) ?_
  refine rcons (ro_callS okW_c_mixed (by decide +kernel) rfl (fun s args ht => va_cwS 2 ht (rgoodS (fun w h => List.mem_cons_of_mem _ h) q_523 q_524 q_13 q_525) rfl rfl rfl hy_c_mixed ⟨Nat.le_of_ble_eq_true rfl, Nat.le_of_ble_eq_true rfl⟩) rfl) ?_
  refine rcons (ro_lstore (by decide +kernel) rfl) ?_
  refine rcons (ro_lload (by decide +kernel) rfl) ?_
  refine rcons (ro_iload_n (k := 2) rfl (by decide +kernel) rfl) ?_
  refine rcons (ro_callS okS_c_nameOfDay (by decide +kernel) rfl (fun s args ht => va_cwS 1 ht (rgoodS (fun w h => List.mem_cons_of_mem _ h) q_198 q_199 q_13 q_200) rfl rfl rfl hy_c_nameOfDay ⟨Nat.le_of_ble_eq_true rfl, Nat.le_of_ble_eq_true rfl⟩) rfl) ?_
  refine rcons (ro_callS okW_c_mixedName (by decide +kernel) rfl (fun s args ht => va_cwS 2 ht (rgoodS (fun w h => List.mem_cons_of_mem _ h) q_530 q_531 q_13 q_532) rfl rfl rfl hy_c_mixedName ⟨Nat.le_of_ble_eq_true rfl, Nat.le_of_ble_eq_true rfl⟩) rfl) ?_
  refine rcons (ro_lstore (by decide +kernel) rfl) ?_
  refine rcons (ro_lload (by decide +kernel) rfl) ?_
  refine rcons (ro_iload_n (k := 3) rfl (by decide +kernel) rfl) ?_
  refine rcons (ro_callS okS_c_nameOfMonth (by decide +kernel) rfl (fun s args ht => va_cwS 1 ht (rgoodS (fun w h => List.mem_cons_of_mem _ h) q_415 q_416 q_13 q_417) rfl rfl rfl hy_c_nameOfMonth ⟨Nat.le_of_ble_eq_true rfl, Nat.le_of_ble_eq_true rfl⟩) rfl) ?_
  refine rcons (ro_callS okW_c_mixedName (by decide +kernel) rfl (fun s args ht => va_cwS 2 ht (rgoodS (fun w h => List.mem_cons_of_mem _ h) q_530 q_531 q_13 q_532) rfl rfl rfl hy_c_mixedName ⟨Nat.le_of_ble_eq_true rfl, Nat.le_of_ble_eq_true rfl⟩) rfl) ?_
  refine rcons (ro_lstore (by decide +kernel) rfl) ?_
  refine rcons (ro_lload (by decide +kernel) rfl) ?_
  refine rcons (ro_iload_n (k := 3) rfl (by decide +kernel) rfl) ?_
  refine rcons (ro_iconst (n := 0) (by decide +kernel) rfl rfl) ?_
  refine rcons (ro_callS okS_c_lengthOf (by decide +kernel) rfl (fun s args ht => va_cwS 2 ht (rgoodS (fun w h => List.mem_cons_of_mem _ h) q_466 q_467 q_13 q_468) rfl rfl rfl hy_c_lengthOf ⟨Nat.le_of_ble_eq_true rfl, Nat.le_of_ble_eq_true rfl⟩) rfl) ?_
  refine rcons (ro_callS okW_c_mixed (by decide +kernel) rfl (fun s args ht => va_cwS 2 ht (rgoodS (fun w h => List.mem_cons_of_mem _ h) q_523 q_524 q_13 q_525) rfl rfl rfl hy_c_mixed ⟨Nat.le_of_ble_eq_true rfl, Nat.le_of_ble_eq_true rfl⟩) rfl) ?_
  refine rcons (ro_lstore (by decide +kernel) rfl) ?_
  refine rcons (ro_lload (by decide +kernel) rfl) ?_
  refine rcons (ro_iload_n (k := 3) rfl (by decide +kernel) rfl) ?_
  refine rcons (ro_iconst (n := 1) (by decide +kernel) rfl rfl) ?_
  refine rcons (ro_callS okS_c_lengthOf (by decide +kernel) rfl (fun s args ht => va_cwS 2 ht (rgoodS (fun w h => List.mem_cons_of_mem _ h) q_466 q_467 q_13 q_468) rfl rfl rfl hy_c_lengthOf ⟨Nat.le_of_ble_eq_true rfl, Nat.le_of_ble_eq_true rfl⟩) rfl) ?_
  refine rcons (ro_callS okW_c_mixed (by decide +kernel) rfl (fun s args ht => va_cwS 2 ht (rgoodS (fun w h => List.mem_cons_of_mem _ h) q_523 q_524 q_13 q_525) rfl rfl rfl hy_c_mixed ⟨Nat.le_of_ble_eq_true rfl, Nat.le_of_ble_eq_true rfl⟩) rfl) ?_
  refine rcons (ro_lstore (by decide +kernel) rfl) ?_
  refine rcons (ro_lload (by decide +kernel) rfl) ?_
  refine rcons (ro_iload_n (k := 3) rfl (by decide +kernel) rfl) ?_
  refine rcons (ro_iconst (n := 0) (by decide +kernel) rfl rfl) ?_
  refine rcons (ro_callS okS_c_firstOf (by decide +kernel) rfl (fun s args ht => va_cwS 2 ht (rgoodS (fun w h => List.mem_cons_of_mem _ h) q_480 q_481 q_13 q_482) rfl rfl rfl hy_c_firstOf ⟨Nat.le_of_ble_eq_true rfl, Nat.le_of_ble_eq_true rfl⟩) rfl) ?_
  refine rcons (ro_callS okW_c_mixed (by decide +kernel) rfl (fun s args ht => va_cwS 2 ht (rgoodS (fun w h => List.mem_cons_of_mem _ h) q_523 q_524 q_13 q_525) rfl rfl rfl hy_c_mixed ⟨Nat.le_of_ble_eq_true rfl, Nat.le_of_ble_eq_true rfl⟩) rfl) ?_
  refine rcons (ro_lstore (by decide +kernel) rfl) ?_
  refine rcons (ro_lload (by decide +kernel) rfl) ?_
  refine rcons (ro_iload_n (k := 3) rfl (by decide +kernel) rfl) ?_
  refine rcons (ro_iconst (n := 1) (by decide +kernel) rfl rfl) ?_
  refine rcons (ro_callS okS_c_firstOf (by decide +kernel) rfl (fun s args ht => va_cwS 2 ht (rgoodS (fun w h => List.mem_cons_of_mem _ h) q_480 q_481 q_13 q_482) rfl rfl rfl hy_c_firstOf ⟨Nat.le_of_ble_eq_true rfl, Nat.le_of_ble_eq_true rfl⟩) rfl) ?_
  refine rcons (ro_callS okW_c_mixed (by decide +kernel) rfl (fun s args ht => va_cwS 2 ht (rgoodS (fun w h => List.mem_cons_of_mem _ h) q_523 q_524 q_13 q_525) rfl rfl rfl hy_c_mixed ⟨Nat.le_of_ble_eq_true rfl, Nat.le_of_ble_eq_true rfl⟩) rfl) ?_
  refine rcons (ro_lstore (by decide +kernel) rfl) ?_
  refine rcons (ro_lload (by decide +kernel) rfl) ?_
  refine rcons (ro_iload_n (k := 3) rfl (by decide +kernel) rfl) ?_
  refine rcons (ro_callS ok_c_quarterOf (by decide +kernel) rfl (fun s args ht => va_cwS 1 ht (rgoodS (fun w h => List.mem_cons_of_mem _ h) q_486 q_487 q_13 q_488) rfl rfl rfl hy_c_quarterOf ⟨Nat.le_of_ble_eq_true rfl, Nat.le_of_ble_eq_true rfl⟩) rfl) ?_
  refine rcons (ro_callS okW_c_mixed (by decide +kernel) rfl (fun s args ht => va_cwS 2 ht (rgoodS (fun w h => List.mem_cons_of_mem _ h) q_523 q_524 q_13 q_525) rfl rfl rfl hy_c_mixed ⟨Nat.le_of_ble_eq_true rfl, Nat.le_of_ble_eq_true rfl⟩) rfl) ?_
  refine rcons (ro_lret (by decide +kernel)) ?_
  exact rnil
set_option maxHeartbeats 4000000 in
set_option maxRecDepth 20000 in
theorem okW_c_mixedCell : rMet y_c_mixedCell (Cond.code y_c_mixedCell prog_1_method_90_code 6 (some .long) :: rT) rm_c_mixedCell 0 (sAnyL pLDM) := by
  refine any_L ok_c_mixedCell (fun as σ h => ?_)
  obtain ⟨g, h, i, d, a, b, rfl, ha, hb⟩ := h
  refine ⟨[rL false d, rI false a, rI false b], fun _ => rfl, ?_⟩
  have hk0 : true = true := rfl
  have hk1 : true = true := rfl
  have psound : True := trivial
  repeat' (first | with_reducible (first | assumption | exact qL | exact qI | exact qB0 | exact qB1 | exact qBc | exact pli | exact pll | exact pli') | (refine rand_id ?_; first | with_reducible (first | refine rbr_no (by assumption) ?_ | refine rbr_yes (by assumption) ?_ | refine rbr_yes (s01 _) ?_ | refine rbr_yes hk0 ?_ | refine rbr_yes hk1 ?_) | with_reducible refine And.intro ?_ ?_) | exact ⟨_, rfl, _, _, rfl⟩ | exact ⟨_, rfl, _, _, rfl, Or.inl rfl⟩ | exact ⟨_, rfl, _, _, rfl, Or.inr rfl⟩ | exact ⟨_, rfl, _, _, rfl, b01 _⟩ | with_reducible exact pls_c7 (by with_reducible assumption) | with_reducible exact pls_c12 (by with_reducible assumption) | with_reducible exact pls_d7 (by with_reducible assumption) | with_reducible exact pls_d12 (by with_reducible assumption) | with_reducible exact pldm (by with_reducible assumption) (by with_reducible assumption) | exact pldm (by assumption) (by assumption) | with_reducible exact and_mk (by first | with_reducible assumption | with_reducible exact dM_O (by with_reducible assumption) | with_reducible exact dD_O (by with_reducible assumption) | with_reducible exact dM_D (by with_reducible assumption) | assumption | exact dM_O (by assumption) | exact dD_O (by assumption) | exact dM_D (by assumption) | rfl) (by first | with_reducible exact dR_7 | with_reducible exact dR_12 | with_reducible exact dB_0 | with_reducible exact dB_1 | exact dR_7 | exact dR_12 | exact dB_0 | exact dB_1 | rfl) | (with_reducible refine vp_D ?_; first | with_reducible assumption | with_reducible exact dM_O (by with_reducible assumption) | with_reducible exact dD_O (by with_reducible assumption) | with_reducible exact dM_D (by with_reducible assumption) | assumption | exact dM_O (by assumption) | exact dD_O (by assumption) | exact dM_D (by assumption) | rfl) | (with_reducible refine vp_M ?_; first | with_reducible assumption | with_reducible exact dM_O (by with_reducible assumption) | with_reducible exact dD_O (by with_reducible assumption) | with_reducible exact dM_D (by with_reducible assumption) | assumption | exact dM_O (by assumption) | exact dD_O (by assumption) | exact dM_D (by assumption) | rfl) | exact n70 | exact vp_D (by first | with_reducible assumption | with_reducible exact dM_O (by with_reducible assumption) | with_reducible exact dD_O (by with_reducible assumption) | with_reducible exact dM_D (by with_reducible assumption) | assumption | exact dM_O (by assumption) | exact dD_O (by assumption) | exact dM_D (by assumption) | rfl) | exact vp_M (by first | with_reducible assumption | with_reducible exact dM_O (by with_reducible assumption) | with_reducible exact dD_O (by with_reducible assumption) | with_reducible exact dM_D (by with_reducible assumption) | assumption | exact dM_O (by assumption) | exact dD_O (by assumption) | exact dM_D (by assumption) | rfl) | exact dR3_3 | exact dR3_7 | (intro h; first | with_reducible exact rno (s01 _) h | with_reducible exact rno hk0 h | with_reducible exact rno hk1 h | exact rno hk0 h | exact rno hk1 h | skip) | exact psound | exact pls_c7 (by assumption) | exact pls_c12 (by assumption) | exact pls_d7 (by assumption) | exact pls_d12 (by assumption) | exact and_mk (by first | with_reducible assumption | with_reducible exact dM_O (by with_reducible assumption) | with_reducible exact dD_O (by with_reducible assumption) | with_reducible exact dM_D (by with_reducible assumption) | assumption | exact dM_O (by assumption) | exact dD_O (by assumption) | exact dM_D (by assumption) | rfl) (by first | with_reducible exact dR_7 | with_reducible exact dR_12 | with_reducible exact dB_0 | with_reducible exact dB_1 | exact dR_7 | exact dR_12 | exact dB_0 | exact dB_1 | rfl) | exact vp_D (by assumption) | exact vp_M (by assumption) | assumption | exact qL | rfl)
end RKM
