section RKM
def ps_d_refuse : List Nat := [0, 1, 4, 5, 8, 11, 12, 13, 16, 17, 20, 23, 24, 27, 28]
def tb_d_refuse : List RT := [tq_il 1, tq_if1 (fun x => decide (x = 0)) 8, tq_al 0, tq_getf 1 0, tq_if1 (fun x => !decide (x = 0)) 8, tq_al 0, tq_il 2, tq_putf 1 0 0, tq_al 0, tq_getf 1 0, tq_s1 (fun x => decide (x ≤ 0)) 1 0 14, tq_ic 1, tq_go 14, tq_ic 0, tq_zret 0]
def m_d_refuse : RM := rMeth tb_d_refuse 400 3
abbrev rm_d_refuse : Room := { frames := 0, cells := 0, slots := 0, locals := 0 }
set_option maxHeartbeats 4000000 in
set_option maxRecDepth 20000 in
theorem ok_d_refuse : rMet y_d_refuse (Cond.code y_d_refuse prog_4_method_3_code 3 (some .boolean) :: rT) rm_d_refuse 0 m_d_refuse := by
  refine rMeth_ok (ps := ps_d_refuse) (tab := tb_d_refuse) (by decide +kernel) rfl rfl rfl rfl ?_
  refine rcons (ro_iload_n (k := 1) rfl (by decide +kernel) rfl) ?_
  refine rcons (ro_if_eq (off := 15) (by decide +kernel) rfl rfl) ?_
  refine rcons (ro_aload_n (k := 0) rfl (by decide +kernel) rfl) ?_
  refine rcons (ro_getf (C := rN1) (T := rF1) (N := 7) (k := 0) (by decide +kernel) rfl (rU1c _) (by decide) (List.mem_cons_of_mem _ q_984) rfl) ?_
  refine rcons (ro_if_ne (off := 8) (by decide +kernel) rfl rfl) ?_
  refine rcons (ro_aload_n (k := 0) rfl (by decide +kernel) rfl) ?_
  refine rcons (ro_iload_n (k := 2) rfl (by decide +kernel) rfl) ?_
  refine rcons (ro_putf (C := rN1) (T := rF1) (N := 7) (k := 0) (Y := rY1) (by decide +kernel) rfl (rU1c _) rY1_ok rD1 (by decide) (List.mem_cons_of_mem _ q_984) rfl (Or.inl ⟨rfl, rfl⟩) rfl) ?_
  refine rcons (ro_aload_n (k := 0) rfl (by decide +kernel) rfl) ?_
  refine rcons (ro_getf (C := rN1) (T := rF1) (N := 7) (k := 0) (by decide +kernel) rfl (rU1c _) (by decide) (List.mem_cons_of_mem _ q_984) rfl) ?_
  refine rcons (ro_s1_le (off := 7) (off2 := 4) (n1 := 1) (n2 := 0) (by decide +kernel) (by decide +kernel) rfl (by decide +kernel) (by decide +kernel) rfl rfl rfl rfl) ?_
  refine rcons (ro_iconst (n := 1) (by decide +kernel) rfl rfl) ?_
  refine rcons (ro_goto (off := 4) (by decide +kernel) rfl) ?_
  refine rcons (ro_iconst (n := 0) (by decide +kernel) rfl rfl) ?_
  refine rcons (ro_zret (by decide +kernel)) ?_
  exact rnil
def ps_d_start : List Nat := [0, 1, 2, 5, 6, 7, 8, 11]
def tb_d_start : List RT := [tq_al 0, tq_ic 0, tq_putf 1 0 0, tq_al 0, tq_il 1, tq_il 2, tq_call (rV 1 m_d_refuse) 3 0 0, tq_zret 0]
def m_d_start : RM := rMeth tb_d_start 400 3
abbrev rm_d_start : Room := { frames := 1, cells := 0, slots := 0, locals := 22 }
set_option maxHeartbeats 4000000 in
set_option maxRecDepth 20000 in
theorem ok_d_start : rMet y_d_start (Cond.code y_d_start prog_4_method_4_code 3 (some .boolean) :: rT) rm_d_start 0 m_d_start := by
  refine rMeth_ok (ps := ps_d_start) (tab := tb_d_start) (by decide +kernel) rfl rfl rfl rfl ?_
  refine rcons (ro_aload_n (k := 0) rfl (by decide +kernel) rfl) ?_
  refine rcons (ro_iconst (n := 0) (by decide +kernel) rfl rfl) ?_
  refine rcons (ro_putf (C := rN1) (T := rF1) (N := 7) (k := 0) (Y := rY1) (by decide +kernel) rfl (rU1c _) rY1_ok rD1 (by decide) (List.mem_cons_of_mem _ q_984) rfl (Or.inl ⟨rfl, rfl⟩) rfl) ?_
  refine rcons (ro_aload_n (k := 0) rfl (by decide +kernel) rfl) ?_
  refine rcons (ro_iload_n (k := 1) rfl (by decide +kernel) rfl) ?_
  refine rcons (ro_iload_n (k := 2) rfl (by decide +kernel) rfl) ?_
  refine rcons (ro_callV (C := rN1) (T := rF1) (N := 7) rfl ok_d_refuse (by decide +kernel) rfl (fun s args ht => cwV (C := rN1) 2 ht (rgoodV (C := rN1) (fun w h => List.mem_cons_of_mem _ h) q_1017 q_1019 q_9 q_14 q_1020) rfl rfl rfl hv_d_refuse ⟨Nat.le_of_ble_eq_true rfl, Nat.le_of_ble_eq_true rfl⟩) rfl) ?_
  refine rcons (ro_zret (by decide +kernel)) ?_
  exact rnil
def ps_d_isNoCell : List Nat := [0, 1, 4, 5, 6, 9, 10, 13, 14]
def tb_d_isNoCell : List RT := [tq_il 0, tq_if1 (fun x => decide (x < 0)) 5, tq_il 0, tq_ic 3, tq_s2 (fun x y => decide (x ≤ y)) 1 0 8, tq_ic 1, tq_go 8, tq_ic 0, tq_zret 0]
def m_d_isNoCell : RM := rMeth tb_d_isNoCell 400 1
abbrev rm_d_isNoCell : Room := { frames := 0, cells := 0, slots := 0, locals := 0 }
set_option maxHeartbeats 4000000 in
set_option maxRecDepth 20000 in
theorem ok_d_isNoCell : rMet y_d_isNoCell (Cond.code y_d_isNoCell prog_4_method_5_code 1 (some .boolean) :: rT) rm_d_isNoCell 0 m_d_isNoCell := by
  refine rMeth_ok (ps := ps_d_isNoCell) (tab := tb_d_isNoCell) (by decide +kernel) rfl rfl rfl rfl ?_
  refine rcons (ro_iload_n (k := 0) rfl (by decide +kernel) rfl) ?_
  refine rcons (ro_if_lt (off := 8) (by decide +kernel) rfl rfl) ?_
  refine rcons (ro_iload_n (k := 0) rfl (by decide +kernel) rfl) ?_
  refine rcons (ro_iconst (n := 3) (by decide +kernel) rfl rfl) ?_
  refine rcons (ro_s2_le (off := 7) (off2 := 4) (n1 := 1) (n2 := 0) (by decide +kernel) (by decide +kernel) rfl (by decide +kernel) (by decide +kernel) rfl rfl rfl rfl) ?_
  refine rcons (ro_iconst (n := 1) (by decide +kernel) rfl rfl) ?_
  refine rcons (ro_goto (off := 4) (by decide +kernel) rfl) ?_
  refine rcons (ro_iconst (n := 0) (by decide +kernel) rfl rfl) ?_
  refine rcons (ro_zret (by decide +kernel)) ?_
  exact rnil
def noC (x : Int32) : Bool := decide (x < 0) || !decide (x ≤ 3)
theorem noC_f {x : Int32} (h : noC x = false) : decide (x < 0) = false ∧ decide (x ≤ 3) = true := by
  unfold noC at h
  cases h1 : decide (x < 0) <;> cases h2 : decide (x ≤ 3) <;> simp [h1, h2] at h ⊢
theorem noC_t {x : Int32} (h : noC x = true) (h1 : decide (x < 0) = false) : decide (x ≤ 3) = false := by
  unfold noC at h
  cases h2 : decide (x ≤ 3) <;> simp [h1, h2] at h ⊢
theorem noC_01 (c : Bool) : (decide ((bif c then (0 : Int32) else 1) = 0) || decide ((bif c then (0 : Int32) else 1) = 1)) = true := by cases c <;> rfl
theorem noC_no {b : Bool} {T : Prop} (h1 : b = true) (h2 : b = false) : T := Bool.noConfusion (h1.symm.trans h2)
theorem noC_b0 {c : Bool} (h : c = true) : (bif c then (0 : Int32) else 1) = 0 := by rw [h]; rfl
theorem noC_b1 {c : Bool} (h : c = false) : (bif c then (0 : Int32) else 1) = 1 := by rw [h]; rfl
def s_d_isNoCell : RM := fun as σ Q => match as with
  | [.inl x] => rbr x.1 (noC x.2) (Q (.inl (some (rI true 1))) σ) (Q (.inl (some (rI true 0))) σ)
  | _ => False
set_option maxHeartbeats 4000000 in
set_option maxRecDepth 20000 in
theorem okS_d_isNoCell : rMet y_d_isNoCell (Cond.code y_d_isNoCell prog_4_method_5_code 1 (some .boolean) :: rT) rm_d_isNoCell 0 s_d_isNoCell := by
  refine rMet_int ok_d_isNoCell (fun as σ Q h => ?_)
  unfold s_d_isNoCell at h
  split at h
  · next x =>
    cases hc : noC x.2
    · have hq := rbr_f h hc
      obtain ⟨c1, c2⟩ := noC_f hc
      refine ⟨[rI false x.2], 0, true, fun _ => rfl, ?_, hq⟩
      apply And.intro
      · intro h1
        exact noC_no h1 c1
      · intro h1
        apply And.intro
        · intro h2
          exact And.intro ⟨false, congrArg (fun z => Sum.inl (some (rI false z))) (noC_b0 c2)⟩ rfl
        · intro h2
          exact noC_no (noC_01 _) h2
    · have hq := rbr_t h hc
      refine ⟨[rI false x.2], 1, true, fun _ => rfl, ?_, hq⟩
      apply And.intro
      · intro h1
        exact And.intro ⟨true, rfl⟩ rfl
      · intro h1
        have c2 := noC_t hc h1
        apply And.intro
        · intro h2
          exact And.intro ⟨false, congrArg (fun z => Sum.inl (some (rI false z))) (noC_b1 c2)⟩ rfl
        · intro h2
          exact noC_no (noC_01 _) h2
  · exact h.elim
def ps_d_order : List Nat := [0, 1, 2, 5, 6, 9, 10, 11, 14, 15, 18, 19]
def tb_d_order : List RT := [tq_il 0, tq_il 1, tq_if2 (fun x y => decide (y ≤ x)) 5, tq_ic (-1), tq_go 11, tq_il 0, tq_il 1, tq_s2 (fun x y => decide (x ≤ y)) 1 0 11, tq_ic 1, tq_go 11, tq_ic 0, tq_iret 0]
def m_d_order : RM := rMeth tb_d_order 400 2
abbrev rm_d_order : Room := { frames := 0, cells := 0, slots := 0, locals := 0 }
set_option maxHeartbeats 4000000 in
set_option maxRecDepth 20000 in
theorem ok_d_order : rMet y_d_order (Cond.code y_d_order prog_4_method_6_code 2 (some .int) :: rT) rm_d_order 0 m_d_order := by
  refine rMeth_ok (ps := ps_d_order) (tab := tb_d_order) (by decide +kernel) rfl rfl rfl rfl ?_
  refine rcons (ro_iload_n (k := 0) rfl (by decide +kernel) rfl) ?_
  refine rcons (ro_iload_n (k := 1) rfl (by decide +kernel) rfl) ?_
  refine rcons (ro_icmp_ge (off := 7) (by decide +kernel) rfl rfl) ?_
  refine rcons (ro_iconst (n := (-1)) (by decide +kernel) rfl rfl) ?_
  refine rcons (ro_goto (off := 13) (by decide +kernel) rfl) ?_
  refine rcons (ro_iload_n (k := 0) rfl (by decide +kernel) rfl) ?_
  refine rcons (ro_iload_n (k := 1) rfl (by decide +kernel) rfl) ?_
  refine rcons (ro_s2_le (off := 7) (off2 := 4) (n1 := 1) (n2 := 0) (by decide +kernel) (by decide +kernel) rfl (by decide +kernel) (by decide +kernel) rfl rfl rfl rfl) ?_
  refine rcons (ro_iconst (n := 1) (by decide +kernel) rfl rfl) ?_
  refine rcons (ro_goto (off := 4) (by decide +kernel) rfl) ?_
  refine rcons (ro_iconst (n := 0) (by decide +kernel) rfl rfl) ?_
  refine rcons (ro_iret (by decide +kernel)) ?_
  exact rnil
def s_d_order : RM := fun as σ Q => match as with
  | [.inl a, .inl b] => Q (.inl (some (rI false (ordF a.2 b.2)))) σ
  | _ => False
set_option maxHeartbeats 4000000 in
set_option maxRecDepth 20000 in
theorem okS_d_order : rMet y_d_order (Cond.code y_d_order prog_4_method_6_code 2 (some .int) :: rT) rm_d_order 0 s_d_order := by
  refine rMet_int ok_d_order (fun as σ Q h => ?_)
  unfold s_d_order at h
  split at h
  · next a b =>
    refine ⟨[rI false a.2, rI false b.2], ordF a.2 b.2, false, fun _ => rfl, ?_, h⟩
    apply And.intro
    · intro h1
      have h1 := of_decide_eq_true h1
      have h1' : decide (a.2 < b.2) = false := decide_eq_false (Int32.not_lt.mpr h1)
      exact And.intro ⟨false, congrArg (fun z => Sum.inl (some (rI false z))) (ord_2 h1')⟩ rfl
    · intro h1
      have h1' : decide (a.2 < b.2) = true := decide_eq_true (Int32.not_le.mp (of_decide_eq_false h1))
      exact And.intro ⟨true, (by rw [ordF, h1']; rfl)⟩ rfl
  · exact h.elim
def ps_d_on : List Nat := [0, 1, 3, 4, 5, 6, 7, 9, 11, 12, 13, 16, 18, 19, 22, 23, 26, 28, 29, 30, 32, 34, 35, 36, 38, 41, 42, 43, 44, 45, 47, 49, 50, 51, 54, 56, 57, 60, 61, 64, 66, 67, 68, 70, 72, 73, 74, 76, 79, 81]
def tb_d_on : List RT := [tq_il 0, tq_is 7 4, tq_ll 2, tq_il 1, tq_i2l, tq_lrem, tq_ls 7 5, tq_ll 5, tq_lc 0, tq_lcmp, tq_if1 (fun x => decide (x ≤ 0)) 25, tq_il 4, tq_il 1, tq_if2 (fun x y => !decide (x = y)) 16, tq_ic 1, tq_go 19, tq_il 4, tq_ic 1, tq_i2 (fun x y => x + y), tq_isf 7 4, tq_ll 5, tq_lc 1, tq_l2 (fun x y => x - y), tq_ls 7 5, tq_go 7, tq_ll 2, tq_il 1, tq_i2l, tq_lrem, tq_ls 7 5, tq_ll 5, tq_lc 0, tq_lcmp, tq_if1 (fun x => decide (0 ≤ x)) 48, tq_il 4, tq_ic 1, tq_if2 (fun x y => !decide (x = y)) 39, tq_il 1, tq_go 42, tq_il 4, tq_ic 1, tq_i2 (fun x y => x - y), tq_isf 7 4, tq_ll 5, tq_lc 1, tq_l2 (fun x y => x + y), tq_ls 7 5, tq_go 30, tq_il 4, tq_iret 0]
def m_d_on : RM := rMeth tb_d_on 400 7
abbrev rm_d_on : Room := { frames := 0, cells := 0, slots := 0, locals := 0 }
set_option maxHeartbeats 4000000 in
set_option maxRecDepth 20000 in
theorem ok_d_on : rMet y_d_on (Cond.code y_d_on prog_4_method_7_code 7 (some .int) :: rT) rm_d_on 0 m_d_on := by
  refine rMeth_ok (ps := ps_d_on) (tab := tb_d_on) (by decide +kernel) rfl rfl rfl rfl ?_
  refine rcons (ro_iload_n (k := 0) rfl (by decide +kernel) rfl) ?_
  refine rcons (ro_istore (by decide +kernel) rfl) ?_
  refine rcons (ro_lload_n (k := 2) rfl (by decide +kernel) rfl) ?_
  refine rcons (ro_iload_n (k := 1) rfl (by decide +kernel) rfl) ?_
  refine rcons (ro_i2l (by decide +kernel) rfl) ?_
  refine rcons (ro_lrem (by decide +kernel) rfl) ?_
  refine rcons (ro_lstore (by decide +kernel) rfl) ?_
  refine rcons (ro_lload (by decide +kernel) rfl) ?_
  refine rcons (ro_lconst (n := 0) (by decide +kernel) rfl rfl) ?_
  refine rcons (ro_lcmp (by decide +kernel) rfl) ?_
  refine rcons (ro_if_le (off := 28) (by decide +kernel) rfl rfl) ?_
  refine rcons (ro_iload (by decide +kernel) rfl) ?_
  refine rcons (ro_iload_n (k := 1) rfl (by decide +kernel) rfl) ?_
  refine rcons (ro_icmp_ne (off := 7) (by decide +kernel) rfl rfl) ?_
  refine rcons (ro_iconst (n := 1) (by decide +kernel) rfl rfl) ?_
  refine rcons (ro_goto (off := 7) (by decide +kernel) rfl) ?_
  refine rcons (ro_iload (by decide +kernel) rfl) ?_
  refine rcons (ro_iconst (n := 1) (by decide +kernel) rfl rfl) ?_
  refine rcons (ro_iadd (by decide +kernel) rfl) ?_
  refine rcons (ro_isf (by decide +kernel) rfl) ?_
  refine rcons (ro_lload (by decide +kernel) rfl) ?_
  refine rcons (ro_lconst (n := 1) (by decide +kernel) rfl rfl) ?_
  refine rcons (ro_lsub (by decide +kernel) rfl) ?_
  refine rcons (ro_lstore (by decide +kernel) rfl) ?_
  refine rcons (ro_goto (off := (-29)) (by decide +kernel) rfl) ?_
  refine rcons (ro_lload_n (k := 2) rfl (by decide +kernel) rfl) ?_
  refine rcons (ro_iload_n (k := 1) rfl (by decide +kernel) rfl) ?_
  refine rcons (ro_i2l (by decide +kernel) rfl) ?_
  refine rcons (ro_lrem (by decide +kernel) rfl) ?_
  refine rcons (ro_lstore (by decide +kernel) rfl) ?_
  refine rcons (ro_lload (by decide +kernel) rfl) ?_
  refine rcons (ro_lconst (n := 0) (by decide +kernel) rfl rfl) ?_
  refine rcons (ro_lcmp (by decide +kernel) rfl) ?_
  refine rcons (ro_if_ge (off := 28) (by decide +kernel) rfl rfl) ?_
  refine rcons (ro_iload (by decide +kernel) rfl) ?_
  refine rcons (ro_iconst (n := 1) (by decide +kernel) rfl rfl) ?_
  refine rcons (ro_icmp_ne (off := 7) (by decide +kernel) rfl rfl) ?_
  refine rcons (ro_iload_n (k := 1) rfl (by decide +kernel) rfl) ?_
  refine rcons (ro_goto (off := 7) (by decide +kernel) rfl) ?_
  refine rcons (ro_iload (by decide +kernel) rfl) ?_
  refine rcons (ro_iconst (n := 1) (by decide +kernel) rfl rfl) ?_
  refine rcons (ro_isub (by decide +kernel) rfl) ?_
  refine rcons (ro_isf (by decide +kernel) rfl) ?_
  refine rcons (ro_lload (by decide +kernel) rfl) ?_
  refine rcons (ro_lconst (n := 1) (by decide +kernel) rfl rfl) ?_
  refine rcons (ro_ladd (by decide +kernel) rfl) ?_
  refine rcons (ro_lstore (by decide +kernel) rfl) ?_
  refine rcons (ro_goto (off := (-29)) (by decide +kernel) rfl) ?_
  refine rcons (ro_iload (by decide +kernel) rfl) ?_
  refine rcons (ro_iret (by decide +kernel)) ?_
  exact rnil
theorem lp_on_1 {Q : RQ} {σ : List RC} {a : Int64} {r x0 : Int32} (hr : dR r = true) : ∀ (j : Nat) (m : Int32) (k : Int64) (n : Nat), dO m r = true → k.toInt = (j : Int) → j ≤ 12 → 20 * j + 90 ≤ n + 0 →
    (∀ (n : Nat) (k' : Int64), 80 ≤ n → rEv tb_d_on Q n (rdrop 25 tb_d_on) [(5, rL false k'), (4, rI false (opZ m ((j : Int)) r)), (0, rI false x0), (1, rI false r), (2, rL false a)] [] σ 0) →
    rEv tb_d_on Q n (rdrop 7 tb_d_on) [(5, rL false k), (4, rI false m), (0, rI false x0), (1, rI false r), (2, rL false a)] [] σ 0 := by
  intro j
  induction j with
  | zero =>
    intro m k n hm hk hj hn hc
    obtain ⟨n, rfl⟩ : ∃ z, n = z + 10 := ⟨n - 10, by omega⟩
    have hz : opZ m (((0 : Nat) : Int)) r = m := opZ_0 hr hm
    rw [hz] at hc
    apply And.intro
    · intro h1
      exact hc (n + 6) k (by omega)
    · intro h1
      have h2 : (0 : Int64).toInt < k.toInt := lg_nle h1
      have e0 : (0 : Int64).toInt = 0 := rfl
      omega
  | succ j ih =>
    intro m k n hm hk hj hn hc
    obtain ⟨n, rfl⟩ : ∃ z, n = z + 20 := ⟨n - 20, by omega⟩
    apply And.intro
    · intro h1
      have h2 : k.toInt ≤ (0 : Int64).toInt := lg_le h1
      have e0 : (0 : Int64).toInt = 0 := rfl
      omega
    · intro h1
      have hk2 : (k - 1).toInt = (j : Int) := by
        have e1 : (1 : Int64).toInt = 1 := rfl
        rw [Int64.toInt_sub, e1, Int.bmod_eq_of_le_mul_two (by show -(18446744073709551616 : Int) ≤ _ * 2; omega) (by show _ * 2 < (18446744073709551616 : Int); omega)]
        omega
      apply And.intro
      · intro h3
        have h4 : ¬ m = r := of_decide_eq_false (by simpa using h3)
        obtain ⟨g1, g2⟩ := opZ_next_ne j hr hm h4
        exact ih (m + 1) (k - 1) (n + 4) g1 hk2 (by omega) (by omega) (fun n k' hn' => by rw [g2]; exact hc n k' hn')
      · intro h3
        have h4 : m = r := of_decide_eq_true (by simpa using h3)
        obtain ⟨g1, g2⟩ := opZ_next_eq j hr hm h4
        exact ih (1) (k - 1) (n + 5) g1 hk2 (by omega) (by omega) (fun n k' hn' => by rw [g2]; exact hc n k' hn')
theorem lp_on_2 {Q : RQ} {σ : List RC} {a : Int64} {r x0 : Int32} (hr : dR r = true) : ∀ (j : Nat) (m : Int32) (k : Int64) (n : Nat), dO m r = true → k.toInt = -(j : Int) → j ≤ 12 → 20 * j + 90 ≤ n + 60 →
    (∀ (n : Nat) (k' : Int64), 20 ≤ n → rEv tb_d_on Q n (rdrop 48 tb_d_on) [(5, rL false k'), (4, rI false (opZ m (-(j : Int)) r)), (0, rI false x0), (1, rI false r), (2, rL false a)] [] σ 0) →
    rEv tb_d_on Q n (rdrop 30 tb_d_on) [(5, rL false k), (4, rI false m), (0, rI false x0), (1, rI false r), (2, rL false a)] [] σ 0 := by
  intro j
  induction j with
  | zero =>
    intro m k n hm hk hj hn hc
    obtain ⟨n, rfl⟩ : ∃ z, n = z + 10 := ⟨n - 10, by omega⟩
    have hz : opZ m (-((0 : Nat) : Int)) r = m := opZ_0 hr hm
    rw [hz] at hc
    apply And.intro
    · intro h1
      exact hc (n + 6) k (by omega)
    · intro h1
      have h2 : k.toInt < (0 : Int64).toInt := lg_nge h1
      have e0 : (0 : Int64).toInt = 0 := rfl
      omega
  | succ j ih =>
    intro m k n hm hk hj hn hc
    obtain ⟨n, rfl⟩ : ∃ z, n = z + 20 := ⟨n - 20, by omega⟩
    apply And.intro
    · intro h1
      have h2 : (0 : Int64).toInt ≤ k.toInt := lg_ge h1
      have e0 : (0 : Int64).toInt = 0 := rfl
      omega
    · intro h1
      have hk2 : (k + 1).toInt = -(j : Int) := by
        have e1 : (1 : Int64).toInt = 1 := rfl
        rw [Int64.toInt_add, e1, Int.bmod_eq_of_le_mul_two (by show -(18446744073709551616 : Int) ≤ _ * 2; omega) (by show _ * 2 < (18446744073709551616 : Int); omega)]
        omega
      apply And.intro
      · intro h3
        have h4 : ¬ m = 1 := of_decide_eq_false (by simpa using h3)
        obtain ⟨g1, g2⟩ := opZ_prev_ne j hr hm h4
        exact ih (m - 1) (k + 1) (n + 4) g1 hk2 (by omega) (by omega) (fun n k' hn' => by rw [g2]; exact hc n k' hn')
      · intro h3
        have h4 : m = 1 := of_decide_eq_true (by simpa using h3)
        obtain ⟨g1, g2⟩ := opZ_prev_eq j hr hm h4
        exact ih (r) (k + 1) (n + 5) g1 hk2 (by omega) (by omega) (fun n k' hn' => by rw [g2]; exact hc n k' hn')
def s_d_on : RM := fun as σ Q => match as with
  | [.inl n, .inl y, .inr (.inl x)] => dO n.2 y.2 = true ∧ Q (.inl (some (rI false (opF n.2 x.2 y.2)))) σ
  | _ => False
set_option maxHeartbeats 4000000 in
set_option maxRecDepth 20000 in
theorem okS_d_on : rMet y_d_on (Cond.code y_d_on prog_4_method_7_code 7 (some .int) :: rT) rm_d_on 0 s_d_on := by
  refine rMet_val ok_d_on (fun as σ Q h => ?_)
  unfold s_d_on at h
  split at h
  · next n y x =>
    obtain ⟨hd, h⟩ := h
    have hr := dO_R hd
    have hri := dR_int hr
    refine ⟨[rI false n.2, rI false y.2, rL false x.2], some (rI false (opF n.2 x.2 y.2)), some (rI false (opF n.2 x.2 y.2)), fun _ => rfl, ?_, fun _ => rfl, h⟩
    have hne : ¬ y.2.toInt64 = 0 := rest_ne (dR3_of hr)
    have hk := Jvm.Kit.i64_rem x.2 y.2.toInt64
    rw [i2l_toInt] at hk
    have ht := tmod_cases x.2.toInt y.2.toInt (by omega)
    refine And.intro hne ?_
    by_cases hx : 0 ≤ x.2.toInt.tmod y.2.toInt
    · refine lp_on_1 (Q := fun z σ' => z = .inl (some (rI false (opF n.2 x.2 y.2))) ∧ σ' = σ) (σ := σ) (a := x.2) (x0 := n.2) hr (x.2.toInt.tmod y.2.toInt).toNat n.2 _ 393 hd (hk.trans (by omega)) (by omega) (by omega) ?_
      intro n' k' hn'
      obtain ⟨n', rfl⟩ : ∃ z, n' = z + 20 := ⟨n' - 20, by omega⟩
      refine And.intro hne ?_
      apply And.intro
      · intro h1
        exact And.intro (rvI (opZ_end hr (by omega))) rfl
      · intro h1
        have h2 := lg_nge h1
        have e0 : (0 : Int64).toInt = 0 := rfl
        have h3 : (x.2 - x.2 / y.2.toInt64 * y.2.toInt64).toInt < (0 : Int64).toInt := h2
        omega
    · apply And.intro
      · intro h1
        refine And.intro hne ?_
        refine lp_on_2 (Q := fun z σ' => z = .inl (some (rI false (opF n.2 x.2 y.2))) ∧ σ' = σ) (σ := σ) (a := x.2) (x0 := n.2) hr (-(x.2.toInt.tmod y.2.toInt)).toNat n.2 _ 384 hd (hk.trans (by omega)) (by omega) (by omega) ?_
        intro n' k' hn'
        obtain ⟨n', rfl⟩ : ∃ z, n' = z + 20 := ⟨n' - 20, by omega⟩
        exact And.intro (rvI (opZ_end hr (by omega))) rfl
      · intro h1
        have h2 : (0 : Int64).toInt < (x.2 - x.2 / y.2.toInt64 * y.2.toInt64).toInt := lg_nle h1
        have e0 : (0 : Int64).toInt = 0 := rfl
        omega
  · exact h.elim
def ps_d_ahead : List Nat := [0, 1, 3, 4, 5, 6, 7, 9, 11, 12, 13, 16, 18, 19, 22, 23, 26, 28, 29, 30, 32, 34, 35, 36, 38, 41, 42, 43, 44, 45, 47, 49, 50, 51, 54, 56, 57, 60, 61, 64, 66, 67, 68, 70, 72, 73, 74, 76, 79, 81]
def tb_d_ahead : List RT := [tq_il 0, tq_is 7 4, tq_ll 2, tq_il 1, tq_i2l, tq_lrem, tq_ls 7 5, tq_ll 5, tq_lc 0, tq_lcmp, tq_if1 (fun x => decide (x ≤ 0)) 25, tq_il 4, tq_ic 1, tq_if2 (fun x y => !decide (x = y)) 16, tq_il 1, tq_go 19, tq_il 4, tq_ic 1, tq_i2 (fun x y => x - y), tq_isf 7 4, tq_ll 5, tq_lc 1, tq_l2 (fun x y => x - y), tq_ls 7 5, tq_go 7, tq_ll 2, tq_il 1, tq_i2l, tq_lrem, tq_ls 7 5, tq_ll 5, tq_lc 0, tq_lcmp, tq_if1 (fun x => decide (0 ≤ x)) 48, tq_il 4, tq_il 1, tq_if2 (fun x y => !decide (x = y)) 39, tq_ic 1, tq_go 42, tq_il 4, tq_ic 1, tq_i2 (fun x y => x + y), tq_isf 7 4, tq_ll 5, tq_lc 1, tq_l2 (fun x y => x + y), tq_ls 7 5, tq_go 30, tq_il 4, tq_iret 0]
def m_d_ahead : RM := rMeth tb_d_ahead 400 7
abbrev rm_d_ahead : Room := { frames := 0, cells := 0, slots := 0, locals := 0 }
set_option maxHeartbeats 4000000 in
set_option maxRecDepth 20000 in
theorem ok_d_ahead : rMet y_d_ahead (Cond.code y_d_ahead prog_4_method_8_code 7 (some .int) :: rT) rm_d_ahead 0 m_d_ahead := by
  refine rMeth_ok (ps := ps_d_ahead) (tab := tb_d_ahead) (by decide +kernel) rfl rfl rfl rfl ?_
  refine rcons (ro_iload_n (k := 0) rfl (by decide +kernel) rfl) ?_
  refine rcons (ro_istore (by decide +kernel) rfl) ?_
  refine rcons (ro_lload_n (k := 2) rfl (by decide +kernel) rfl) ?_
  refine rcons (ro_iload_n (k := 1) rfl (by decide +kernel) rfl) ?_
  refine rcons (ro_i2l (by decide +kernel) rfl) ?_
  refine rcons (ro_lrem (by decide +kernel) rfl) ?_
  refine rcons (ro_lstore (by decide +kernel) rfl) ?_
  refine rcons (ro_lload (by decide +kernel) rfl) ?_
  refine rcons (ro_lconst (n := 0) (by decide +kernel) rfl rfl) ?_
  refine rcons (ro_lcmp (by decide +kernel) rfl) ?_
  refine rcons (ro_if_le (off := 28) (by decide +kernel) rfl rfl) ?_
  refine rcons (ro_iload (by decide +kernel) rfl) ?_
  refine rcons (ro_iconst (n := 1) (by decide +kernel) rfl rfl) ?_
  refine rcons (ro_icmp_ne (off := 7) (by decide +kernel) rfl rfl) ?_
  refine rcons (ro_iload_n (k := 1) rfl (by decide +kernel) rfl) ?_
  refine rcons (ro_goto (off := 7) (by decide +kernel) rfl) ?_
  refine rcons (ro_iload (by decide +kernel) rfl) ?_
  refine rcons (ro_iconst (n := 1) (by decide +kernel) rfl rfl) ?_
  refine rcons (ro_isub (by decide +kernel) rfl) ?_
  refine rcons (ro_isf (by decide +kernel) rfl) ?_
  refine rcons (ro_lload (by decide +kernel) rfl) ?_
  refine rcons (ro_lconst (n := 1) (by decide +kernel) rfl rfl) ?_
  refine rcons (ro_lsub (by decide +kernel) rfl) ?_
  refine rcons (ro_lstore (by decide +kernel) rfl) ?_
  refine rcons (ro_goto (off := (-29)) (by decide +kernel) rfl) ?_
  refine rcons (ro_lload_n (k := 2) rfl (by decide +kernel) rfl) ?_
  refine rcons (ro_iload_n (k := 1) rfl (by decide +kernel) rfl) ?_
  refine rcons (ro_i2l (by decide +kernel) rfl) ?_
  refine rcons (ro_lrem (by decide +kernel) rfl) ?_
  refine rcons (ro_lstore (by decide +kernel) rfl) ?_
  refine rcons (ro_lload (by decide +kernel) rfl) ?_
  refine rcons (ro_lconst (n := 0) (by decide +kernel) rfl rfl) ?_
  refine rcons (ro_lcmp (by decide +kernel) rfl) ?_
  refine rcons (ro_if_ge (off := 28) (by decide +kernel) rfl rfl) ?_
  refine rcons (ro_iload (by decide +kernel) rfl) ?_
  refine rcons (ro_iload_n (k := 1) rfl (by decide +kernel) rfl) ?_
  refine rcons (ro_icmp_ne (off := 7) (by decide +kernel) rfl rfl) ?_
  refine rcons (ro_iconst (n := 1) (by decide +kernel) rfl rfl) ?_
  refine rcons (ro_goto (off := 7) (by decide +kernel) rfl) ?_
  refine rcons (ro_iload (by decide +kernel) rfl) ?_
  refine rcons (ro_iconst (n := 1) (by decide +kernel) rfl rfl) ?_
  refine rcons (ro_iadd (by decide +kernel) rfl) ?_
  refine rcons (ro_isf (by decide +kernel) rfl) ?_
  refine rcons (ro_lload (by decide +kernel) rfl) ?_
  refine rcons (ro_lconst (n := 1) (by decide +kernel) rfl rfl) ?_
  refine rcons (ro_ladd (by decide +kernel) rfl) ?_
  refine rcons (ro_lstore (by decide +kernel) rfl) ?_
  refine rcons (ro_goto (off := (-29)) (by decide +kernel) rfl) ?_
  refine rcons (ro_iload (by decide +kernel) rfl) ?_
  refine rcons (ro_iret (by decide +kernel)) ?_
  exact rnil
theorem lp_ahead_1 {Q : RQ} {σ : List RC} {a : Int64} {r x0 : Int32} (hr : dR r = true) : ∀ (j : Nat) (m : Int32) (k : Int64) (n : Nat), dO m r = true → k.toInt = (j : Int) → j ≤ 12 → 20 * j + 90 ≤ n + 0 →
    (∀ (n : Nat) (k' : Int64), 80 ≤ n → rEv tb_d_ahead Q n (rdrop 25 tb_d_ahead) [(5, rL false k'), (4, rI false (opZ m (-(j : Int)) r)), (0, rI false x0), (1, rI false r), (2, rL false a)] [] σ 0) →
    rEv tb_d_ahead Q n (rdrop 7 tb_d_ahead) [(5, rL false k), (4, rI false m), (0, rI false x0), (1, rI false r), (2, rL false a)] [] σ 0 := by
  intro j
  induction j with
  | zero =>
    intro m k n hm hk hj hn hc
    obtain ⟨n, rfl⟩ : ∃ z, n = z + 10 := ⟨n - 10, by omega⟩
    have hz : opZ m (-((0 : Nat) : Int)) r = m := opZ_0 hr hm
    rw [hz] at hc
    apply And.intro
    · intro h1
      exact hc (n + 6) k (by omega)
    · intro h1
      have h2 : (0 : Int64).toInt < k.toInt := lg_nle h1
      have e0 : (0 : Int64).toInt = 0 := rfl
      omega
  | succ j ih =>
    intro m k n hm hk hj hn hc
    obtain ⟨n, rfl⟩ : ∃ z, n = z + 20 := ⟨n - 20, by omega⟩
    apply And.intro
    · intro h1
      have h2 : k.toInt ≤ (0 : Int64).toInt := lg_le h1
      have e0 : (0 : Int64).toInt = 0 := rfl
      omega
    · intro h1
      have hk2 : (k - 1).toInt = (j : Int) := by
        have e1 : (1 : Int64).toInt = 1 := rfl
        rw [Int64.toInt_sub, e1, Int.bmod_eq_of_le_mul_two (by show -(18446744073709551616 : Int) ≤ _ * 2; omega) (by show _ * 2 < (18446744073709551616 : Int); omega)]
        omega
      apply And.intro
      · intro h3
        have h4 : ¬ m = 1 := of_decide_eq_false (by simpa using h3)
        obtain ⟨g1, g2⟩ := opZ_prev_ne j hr hm h4
        exact ih (m - 1) (k - 1) (n + 4) g1 hk2 (by omega) (by omega) (fun n k' hn' => by rw [g2]; exact hc n k' hn')
      · intro h3
        have h4 : m = 1 := of_decide_eq_true (by simpa using h3)
        obtain ⟨g1, g2⟩ := opZ_prev_eq j hr hm h4
        exact ih (r) (k - 1) (n + 5) g1 hk2 (by omega) (by omega) (fun n k' hn' => by rw [g2]; exact hc n k' hn')
theorem lp_ahead_2 {Q : RQ} {σ : List RC} {a : Int64} {r x0 : Int32} (hr : dR r = true) : ∀ (j : Nat) (m : Int32) (k : Int64) (n : Nat), dO m r = true → k.toInt = -(j : Int) → j ≤ 12 → 20 * j + 90 ≤ n + 60 →
    (∀ (n : Nat) (k' : Int64), 20 ≤ n → rEv tb_d_ahead Q n (rdrop 48 tb_d_ahead) [(5, rL false k'), (4, rI false (opZ m ((j : Int)) r)), (0, rI false x0), (1, rI false r), (2, rL false a)] [] σ 0) →
    rEv tb_d_ahead Q n (rdrop 30 tb_d_ahead) [(5, rL false k), (4, rI false m), (0, rI false x0), (1, rI false r), (2, rL false a)] [] σ 0 := by
  intro j
  induction j with
  | zero =>
    intro m k n hm hk hj hn hc
    obtain ⟨n, rfl⟩ : ∃ z, n = z + 10 := ⟨n - 10, by omega⟩
    have hz : opZ m (((0 : Nat) : Int)) r = m := opZ_0 hr hm
    rw [hz] at hc
    apply And.intro
    · intro h1
      exact hc (n + 6) k (by omega)
    · intro h1
      have h2 : k.toInt < (0 : Int64).toInt := lg_nge h1
      have e0 : (0 : Int64).toInt = 0 := rfl
      omega
  | succ j ih =>
    intro m k n hm hk hj hn hc
    obtain ⟨n, rfl⟩ : ∃ z, n = z + 20 := ⟨n - 20, by omega⟩
    apply And.intro
    · intro h1
      have h2 : (0 : Int64).toInt ≤ k.toInt := lg_ge h1
      have e0 : (0 : Int64).toInt = 0 := rfl
      omega
    · intro h1
      have hk2 : (k + 1).toInt = -(j : Int) := by
        have e1 : (1 : Int64).toInt = 1 := rfl
        rw [Int64.toInt_add, e1, Int.bmod_eq_of_le_mul_two (by show -(18446744073709551616 : Int) ≤ _ * 2; omega) (by show _ * 2 < (18446744073709551616 : Int); omega)]
        omega
      apply And.intro
      · intro h3
        have h4 : ¬ m = r := of_decide_eq_false (by simpa using h3)
        obtain ⟨g1, g2⟩ := opZ_next_ne j hr hm h4
        exact ih (m + 1) (k + 1) (n + 4) g1 hk2 (by omega) (by omega) (fun n k' hn' => by rw [g2]; exact hc n k' hn')
      · intro h3
        have h4 : m = r := of_decide_eq_true (by simpa using h3)
        obtain ⟨g1, g2⟩ := opZ_next_eq j hr hm h4
        exact ih (1) (k + 1) (n + 5) g1 hk2 (by omega) (by omega) (fun n k' hn' => by rw [g2]; exact hc n k' hn')
def s_d_ahead : RM := fun as σ Q => match as with
  | [.inl n, .inl y, .inr (.inl x)] => dO n.2 y.2 = true ∧ Q (.inl (some (rI false (opB n.2 x.2 y.2)))) σ
  | _ => False
set_option maxHeartbeats 4000000 in
set_option maxRecDepth 20000 in
theorem okS_d_ahead : rMet y_d_ahead (Cond.code y_d_ahead prog_4_method_8_code 7 (some .int) :: rT) rm_d_ahead 0 s_d_ahead := by
  refine rMet_val ok_d_ahead (fun as σ Q h => ?_)
  unfold s_d_ahead at h
  split at h
  · next n y x =>
    obtain ⟨hd, h⟩ := h
    have hr := dO_R hd
    have hri := dR_int hr
    refine ⟨[rI false n.2, rI false y.2, rL false x.2], some (rI false (opB n.2 x.2 y.2)), some (rI false (opB n.2 x.2 y.2)), fun _ => rfl, ?_, fun _ => rfl, h⟩
    have hne : ¬ y.2.toInt64 = 0 := rest_ne (dR3_of hr)
    have hk := Jvm.Kit.i64_rem x.2 y.2.toInt64
    rw [i2l_toInt] at hk
    have ht := tmod_cases x.2.toInt y.2.toInt (by omega)
    refine And.intro hne ?_
    by_cases hx : 0 ≤ x.2.toInt.tmod y.2.toInt
    · refine lp_ahead_1 (Q := fun z σ' => z = .inl (some (rI false (opB n.2 x.2 y.2))) ∧ σ' = σ) (σ := σ) (a := x.2) (x0 := n.2) hr (x.2.toInt.tmod y.2.toInt).toNat n.2 _ 393 hd (hk.trans (by omega)) (by omega) (by omega) ?_
      intro n' k' hn'
      obtain ⟨n', rfl⟩ : ∃ z, n' = z + 20 := ⟨n' - 20, by omega⟩
      refine And.intro hne ?_
      apply And.intro
      · intro h1
        exact And.intro (rvI (opZ_endB hr (by omega))) rfl
      · intro h1
        have h2 := lg_nge h1
        have e0 : (0 : Int64).toInt = 0 := rfl
        have h3 : (x.2 - x.2 / y.2.toInt64 * y.2.toInt64).toInt < (0 : Int64).toInt := h2
        omega
    · apply And.intro
      · intro h1
        refine And.intro hne ?_
        refine lp_ahead_2 (Q := fun z σ' => z = .inl (some (rI false (opB n.2 x.2 y.2))) ∧ σ' = σ) (σ := σ) (a := x.2) (x0 := n.2) hr (-(x.2.toInt.tmod y.2.toInt)).toNat n.2 _ 384 hd (hk.trans (by omega)) (by omega) (by omega) ?_
        intro n' k' hn'
        obtain ⟨n', rfl⟩ : ∃ z, n' = z + 20 := ⟨n' - 20, by omega⟩
        exact And.intro (rvI (opZ_endB hr (by omega))) rfl
      · intro h1
        have h2 : (0 : Int64).toInt < (x.2 - x.2 / y.2.toInt64 * y.2.toInt64).toInt := lg_nle h1
        have e0 : (0 : Int64).toInt = 0 := rfl
        omega
  · exact h.elim
def ps_d_amount : List Nat := [0, 1, 2, 5, 6, 7, 10, 11, 12, 15, 16, 19, 20, 21, 22]
def tb_d_amount : List RT := [tq_il 0, tq_i2l, tq_lc 4294967296, tq_l2 (fun x y => x * y), tq_il 1, tq_if1 (fun x => decide (0 ≤ x)) 11, tq_il 1, tq_i2l, tq_lc 4294967296, tq_l2 (fun x y => x + y), tq_go 13, tq_il 1, tq_i2l, tq_l2 (fun x y => x + y), tq_lret 0]
def m_d_amount : RM := rMeth tb_d_amount 400 2
abbrev rm_d_amount : Room := { frames := 0, cells := 0, slots := 0, locals := 0 }
set_option maxHeartbeats 4000000 in
set_option maxRecDepth 20000 in
theorem ok_d_amount : rMet y_d_amount (Cond.code y_d_amount prog_4_method_9_code 2 (some .long) :: rT) rm_d_amount 0 m_d_amount := by
  refine rMeth_ok (ps := ps_d_amount) (tab := tb_d_amount) (by decide +kernel) rfl rfl rfl rfl ?_
  refine rcons (ro_iload_n (k := 0) rfl (by decide +kernel) rfl) ?_
  refine rcons (ro_i2l (by decide +kernel) rfl) ?_
  refine rcons (ro_ldc2 (by decide +kernel) (List.mem_cons_of_mem _ q_1061) rfl) ?_
  refine rcons (ro_lmul (by decide +kernel) rfl) ?_
  refine rcons (ro_iload_n (k := 1) rfl (by decide +kernel) rfl) ?_
  refine rcons (ro_if_ge (off := 12) (by decide +kernel) rfl rfl) ?_
  refine rcons (ro_iload_n (k := 1) rfl (by decide +kernel) rfl) ?_
  refine rcons (ro_i2l (by decide +kernel) rfl) ?_
  refine rcons (ro_ldc2 (by decide +kernel) (List.mem_cons_of_mem _ q_1061) rfl) ?_
  refine rcons (ro_ladd (by decide +kernel) rfl) ?_
  refine rcons (ro_goto (off := 5) (by decide +kernel) rfl) ?_
  refine rcons (ro_iload_n (k := 1) rfl (by decide +kernel) rfl) ?_
  refine rcons (ro_i2l (by decide +kernel) rfl) ?_
  refine rcons (ro_ladd (by decide +kernel) rfl) ?_
  refine rcons (ro_lret (by decide +kernel)) ?_
  exact rnil
def s_d_amount : RM := fun as σ Q => match as with
  | [.inl h, .inl l] => Q (.inl (some (rL false (h.2.toInt64 <<< ((32 : Int32).toInt64 &&& 63) ||| (l.2.toInt64 &&& 4294967295))))) σ
  | _ => False
set_option maxHeartbeats 4000000 in
set_option maxRecDepth 20000 in
theorem okS_d_amount : rMet y_d_amount (Cond.code y_d_amount prog_4_method_9_code 2 (some .long) :: rT) rm_d_amount 0 s_d_amount := by
  refine rMet_val ok_d_amount (fun as σ Q h => ?_)
  unfold s_d_amount at h
  split at h
  · next x y =>
    refine ⟨[rI false x.2, rI false y.2], some (rL false (x.2.toInt64 <<< ((32 : Int32).toInt64 &&& 63) ||| (y.2.toInt64 &&& 4294967295))), some (rL false (x.2.toInt64 <<< ((32 : Int32).toInt64 &&& 63) ||| (y.2.toInt64 &&& 4294967295))), fun _ => rfl, ?_, fun _ => rfl, h⟩
    apply And.intro
    · intro h1
      exact And.intro (rvL (am_1 (of_decide_eq_true h1))) rfl
    · intro h1
      exact And.intro (rvL (am_2 (of_decide_eq_false h1))) rfl
  · exact h.elim
def ps_d_lengthOf : List Nat := [0, 3, 4, 5, 6, 7, 8, 11, 12, 13, 16, 17, 20, 21, 22]
def tb_d_lengthOf : List RT := [tq_rc 52, tq_il 0, tq_ic 1, tq_i2 (fun x y => x - y), tq_ialdS 52 12 rLen, tq_il 1, tq_if1 (fun x => decide (x = 0)) 12, tq_il 0, tq_ic 2, tq_s2 (fun x y => !decide (x = y)) 1 0 13, tq_ic 1, tq_go 13, tq_ic 0, tq_i2 (fun x y => x + y), tq_iret 0]
def m_d_lengthOf : RM := rMeth tb_d_lengthOf 400 2
abbrev rm_d_lengthOf : Room := { frames := 0, cells := 0, slots := 0, locals := 0 }
set_option maxHeartbeats 4000000 in
set_option maxRecDepth 20000 in
theorem ok_d_lengthOf : rMet y_d_lengthOf (Cond.code y_d_lengthOf prog_4_method_10_code 2 (some .int) :: rT) rm_d_lengthOf 0 m_d_lengthOf := by
  refine rMeth_ok (ps := ps_d_lengthOf) (tab := tb_d_lengthOf) (by decide +kernel) rfl rfl rfl rfl ?_
  refine rcons (ro_gets (C := "RingdaysModel") (n := "LENGTHS") (d := "[I") rh7 (List.mem_cons_of_mem _ q_1186) (by decide +kernel) rfl) ?_
  refine rcons (ro_iload_n (k := 0) rfl (by decide +kernel) rfl) ?_
  refine rcons (ro_iconst (n := 1) (by decide +kernel) rfl rfl) ?_
  refine rcons (ro_isub (by decide +kernel) rfl) ?_
  refine rcons (ro_ialdS rh8 (by decide +kernel) rfl) ?_
  refine rcons (ro_iload_n (k := 1) rfl (by decide +kernel) rfl) ?_
  refine rcons (ro_if_eq (off := 12) (by decide +kernel) rfl rfl) ?_
  refine rcons (ro_iload_n (k := 0) rfl (by decide +kernel) rfl) ?_
  refine rcons (ro_iconst (n := 2) (by decide +kernel) rfl rfl) ?_
  refine rcons (ro_s2_ne (off := 7) (off2 := 4) (n1 := 1) (n2 := 0) (by decide +kernel) (by decide +kernel) rfl (by decide +kernel) (by decide +kernel) rfl rfl rfl rfl) ?_
  refine rcons (ro_iconst (n := 1) (by decide +kernel) rfl rfl) ?_
  refine rcons (ro_goto (off := 4) (by decide +kernel) rfl) ?_
  refine rcons (ro_iconst (n := 0) (by decide +kernel) rfl rfl) ?_
  refine rcons (ro_iadd (by decide +kernel) rfl) ?_
  refine rcons (ro_iret (by decide +kernel)) ?_
  exact rnil
def s_d_lengthOf : RM := fun as σ Q => match as with
  | [.inl n, .inl b] => rd (n.1 && b.1) (dM n.2 && dB b.2) (Q (.inl (some (rI (n.1 && b.1) (lenF n.2 b.2)))) σ)
  | _ => False
set_option maxHeartbeats 4000000 in
set_option maxRecDepth 20000 in
theorem okS_d_lengthOf : rMet y_d_lengthOf (Cond.code y_d_lengthOf prog_4_method_10_code 2 (some .int) :: rT) rm_d_lengthOf 0 s_d_lengthOf := by
  refine rMet_val ok_d_lengthOf (fun as σ Q h => ?_)
  unfold s_d_lengthOf at h
  split at h
  · next n b =>
    obtain ⟨hd, h⟩ := rd_use h
    rw [Bool.and_eq_true] at hd
    obtain ⟨k, k1, k2, hk⟩ := dM_nat hd.1
    refine ⟨[rI true (nI k), rI true b.2], some (rI true (lenF (nI k) b.2)), some (rI (n.1 && b.1) (lenF n.2 b.2)), fun _ => by rw [← hk]; rfl, ?_, fun _ => by rw [← hk]; rfl, h⟩
    rcases dB_or hd.2 with hb | hb <;> rw [hb] <;> rcases k12 k1 k2 with rfl | rfl | rfl | rfl | rfl | rfl | rfl | rfl | rfl | rfl | rfl | rfl <;> exact And.intro rfl rfl
  · exact h.elim
def ps_d_firstOf : List Nat := [0, 1, 2, 3, 4, 5, 6, 9, 10, 11, 12, 15, 16, 17, 20, 23, 24]
def tb_d_firstOf : List RT := [tq_ic 1, tq_is 4 2, tq_ic 1, tq_is 4 3, tq_il 3, tq_il 0, tq_if2 (fun x y => decide (y ≤ x)) 15, tq_il 2, tq_il 3, tq_il 1, tq_call s_d_lengthOf 2 0 0, tq_i2 (fun x y => x + y), tq_is 4 2, tq_inc 4 3 1, tq_go 4, tq_il 2, tq_iret 0]
def m_d_firstOf : RM := rMeth tb_d_firstOf 400 4
abbrev rm_d_firstOf : Room := { frames := 1, cells := 0, slots := 0, locals := 21 }
set_option maxHeartbeats 4000000 in
set_option maxRecDepth 20000 in
theorem ok_d_firstOf : rMet y_d_firstOf (Cond.code y_d_firstOf prog_4_method_11_code 4 (some .int) :: rT) rm_d_firstOf 0 m_d_firstOf := by
  refine rMeth_ok (ps := ps_d_firstOf) (tab := tb_d_firstOf) (by decide +kernel) rfl rfl rfl rfl ?_
  refine rcons (ro_iconst (n := 1) (by decide +kernel) rfl rfl) ?_
  refine rcons (ro_istore_n (k := 2) rfl (by decide +kernel) rfl) ?_
  refine rcons (ro_iconst (n := 1) (by decide +kernel) rfl rfl) ?_
  refine rcons (ro_istore_n (k := 3) rfl (by decide +kernel) rfl) ?_
  refine rcons (ro_iload_n (k := 3) rfl (by decide +kernel) rfl) ?_
  refine rcons (ro_iload_n (k := 0) rfl (by decide +kernel) rfl) ?_
  refine rcons (ro_icmp_ge (off := 17) (by decide +kernel) rfl rfl) ?_
  refine rcons (ro_iload_n (k := 2) rfl (by decide +kernel) rfl) ?_
  refine rcons (ro_iload_n (k := 3) rfl (by decide +kernel) rfl) ?_
  refine rcons (ro_iload_n (k := 1) rfl (by decide +kernel) rfl) ?_
  refine rcons (ro_callS okS_d_lengthOf (by decide +kernel) rfl (fun s args ht => va_cwS 2 ht (rgoodS (fun w h => List.mem_cons_of_mem _ h) q_1183 q_1184 q_14 q_1185) rfl rfl rfl hy_d_lengthOf ⟨Nat.le_of_ble_eq_true rfl, Nat.le_of_ble_eq_true rfl⟩) rfl) ?_
  refine rcons (ro_iadd (by decide +kernel) rfl) ?_
  refine rcons (ro_istore_n (k := 2) rfl (by decide +kernel) rfl) ?_
  refine rcons (ro_iinc (by decide +kernel) rfl) ?_
  refine rcons (ro_goto (off := (-16)) (by decide +kernel) rfl) ?_
  refine rcons (ro_iload_n (k := 2) rfl (by decide +kernel) rfl) ?_
  refine rcons (ro_iret (by decide +kernel)) ?_
  exact rnil
def s_d_firstOf : RM := fun as σ Q => match as with
  | [.inl n, .inl b] => rd (n.1 && b.1) (dM n.2 && dB b.2) (Q (.inl (some (rI (n.1 && b.1) (firstF n.2 b.2)))) σ)
  | _ => False
set_option maxHeartbeats 4000000 in
set_option maxRecDepth 20000 in
theorem okS_d_firstOf : rMet y_d_firstOf (Cond.code y_d_firstOf prog_4_method_11_code 4 (some .int) :: rT) rm_d_firstOf 0 s_d_firstOf := by
  refine rMet_val ok_d_firstOf (fun as σ Q h => ?_)
  unfold s_d_firstOf at h
  split at h
  · next n b =>
    obtain ⟨hd, h⟩ := rd_use h
    rw [Bool.and_eq_true] at hd
    obtain ⟨k, k1, k2, hk⟩ := dM_nat hd.1
    refine ⟨[rI true (nI k), rI true b.2], some (rI true (firstF (nI k) b.2)), some (rI (n.1 && b.1) (firstF n.2 b.2)), fun _ => by rw [← hk]; rfl, ?_, fun _ => by rw [← hk]; rfl, h⟩
    rcases dB_or hd.2 with hb | hb <;> rw [hb] <;> rcases k12 k1 k2 with rfl | rfl | rfl | rfl | rfl | rfl | rfl | rfl | rfl | rfl | rfl | rfl <;> exact And.intro rfl rfl
  · exact h.elim
def ps_d_quarterOf : List Nat := [0, 1, 2, 5, 6, 9, 10, 12, 15, 16, 19, 20, 22, 25, 27, 30, 32]
def tb_d_quarterOf : List RT := [tq_il 0, tq_ic 4, tq_if2 (fun x y => decide (y ≤ x)) 5, tq_ic 1, tq_go 16, tq_il 0, tq_ic 7, tq_if2 (fun x y => decide (y ≤ x)) 10, tq_ic 4, tq_go 16, tq_il 0, tq_ic 10, tq_if2 (fun x y => decide (y ≤ x)) 15, tq_ic 7, tq_go 16, tq_ic 10, tq_iret 0]
def m_d_quarterOf : RM := rMeth tb_d_quarterOf 400 1
abbrev rm_d_quarterOf : Room := { frames := 0, cells := 0, slots := 0, locals := 0 }
set_option maxHeartbeats 4000000 in
set_option maxRecDepth 20000 in
theorem ok_d_quarterOf : rMet y_d_quarterOf (Cond.code y_d_quarterOf prog_4_method_12_code 1 (some .int) :: rT) rm_d_quarterOf 0 m_d_quarterOf := by
  refine rMeth_ok (ps := ps_d_quarterOf) (tab := tb_d_quarterOf) (by decide +kernel) rfl rfl rfl rfl ?_
  refine rcons (ro_iload_n (k := 0) rfl (by decide +kernel) rfl) ?_
  refine rcons (ro_iconst (n := 4) (by decide +kernel) rfl rfl) ?_
  refine rcons (ro_icmp_ge (off := 7) (by decide +kernel) rfl rfl) ?_
  refine rcons (ro_iconst (n := 1) (by decide +kernel) rfl rfl) ?_
  refine rcons (ro_goto (off := 26) (by decide +kernel) rfl) ?_
  refine rcons (ro_iload_n (k := 0) rfl (by decide +kernel) rfl) ?_
  refine rcons (ro_bipush (n := 7) (by decide +kernel) rfl rfl) ?_
  refine rcons (ro_icmp_ge (off := 7) (by decide +kernel) rfl rfl) ?_
  refine rcons (ro_iconst (n := 4) (by decide +kernel) rfl rfl) ?_
  refine rcons (ro_goto (off := 16) (by decide +kernel) rfl) ?_
  refine rcons (ro_iload_n (k := 0) rfl (by decide +kernel) rfl) ?_
  refine rcons (ro_bipush (n := 10) (by decide +kernel) rfl rfl) ?_
  refine rcons (ro_icmp_ge (off := 8) (by decide +kernel) rfl rfl) ?_
  refine rcons (ro_bipush (n := 7) (by decide +kernel) rfl rfl) ?_
  refine rcons (ro_goto (off := 5) (by decide +kernel) rfl) ?_
  refine rcons (ro_bipush (n := 10) (by decide +kernel) rfl rfl) ?_
  refine rcons (ro_iret (by decide +kernel)) ?_
  exact rnil
def s_d_quarterOf : RM := fun as σ Q => match as with
  | [.inl n] => rd n.1 (dM n.2) (Q (.inl (some (rI n.1 (n.2 - restF (n.2 - 1).toInt64 3)))) σ)
  | _ => False
set_option maxHeartbeats 4000000 in
set_option maxRecDepth 20000 in
theorem okS_d_quarterOf : rMet y_d_quarterOf (Cond.code y_d_quarterOf prog_4_method_12_code 1 (some .int) :: rT) rm_d_quarterOf 0 s_d_quarterOf := by
  refine rMet_val ok_d_quarterOf (fun as σ Q h => ?_)
  unfold s_d_quarterOf at h
  split at h
  · next n =>
    obtain ⟨hd, h⟩ := rd_use h
    obtain ⟨k, k1, k2, hk⟩ := dM_nat hd
    refine ⟨[rI true (nI k)], some (rI true (nI k - restF (nI k - 1).toInt64 3)), some (rI n.1 (n.2 - restF (n.2 - 1).toInt64 3)), fun _ => by rw [← hk]; rfl, ?_, fun _ => by rw [← hk]; rfl, h⟩
    rcases k12 k1 k2 with rfl | rfl | rfl | rfl | rfl | rfl | rfl | rfl | rfl | rfl | rfl | rfl <;> exact And.intro rfl rfl
  · exact h.elim
def ps_d_day : List Nat := [0, 1, 2, 5, 6, 9, 12, 13, 14, 15, 18, 19, 21, 24, 25, 28, 29, 30, 33, 36, 37, 38, 39, 42, 43, 44, 45, 46, 49, 50, 51, 52, 53, 54, 57, 58, 59, 62, 63]
def tb_d_day : List RT := [tq_al 0, tq_il 1, tq_call s_d_isNoCell 1 0 0, tq_ic 1, tq_call (rV 1 m_d_start) 3 0 0, tq_if1 (fun x => !decide (x = 0)) 19, tq_al 0, tq_il 2, tq_ic 1, tq_if2 (fun x y => decide (x < y)) 13, tq_il 2, tq_ic 7, tq_s2 (fun x y => decide (x ≤ y)) 1 0 16, tq_ic 1, tq_go 16, tq_ic 0, tq_ic 2, tq_call (rV 1 m_d_refuse) 3 0 0, tq_if1 (fun x => decide (x = 0)) 21, tq_ic 0, tq_iret 0, tq_al 0, tq_getf 1 1, tq_il 1, tq_iald 0, tq_is 4 3, tq_al 0, tq_getf 1 1, tq_il 1, tq_il 2, tq_iast 0, tq_al 0, tq_dup, tq_getf 1 5, tq_ic 1, tq_i2 (fun x y => x + y), tq_putf 1 5 0, tq_il 3, tq_iret 0]
def m_d_day : RM := rMeth tb_d_day 400 4
abbrev rm_d_day : Room := { frames := 2, cells := 0, slots := 0, locals := 44 }
set_option maxHeartbeats 4000000 in
set_option maxRecDepth 20000 in
theorem ok_d_day : rMet y_d_day (Cond.code y_d_day prog_4_method_13_code 4 (some .int) :: rT) rm_d_day 0 m_d_day := by
  refine rMeth_ok (ps := ps_d_day) (tab := tb_d_day) (by decide +kernel) rfl rfl rfl rfl ?_
  refine rcons (ro_aload_n (k := 0) rfl (by decide +kernel) rfl) ?_
  refine rcons (ro_iload_n (k := 1) rfl (by decide +kernel) rfl) ?_
  refine rcons (ro_callS okS_d_isNoCell (by decide +kernel) rfl (fun s args ht => va_cwS 1 ht (rgoodS (fun w h => List.mem_cons_of_mem _ h) q_1010 q_1011 q_14 q_1012) rfl rfl rfl hy_d_isNoCell ⟨Nat.le_of_ble_eq_true rfl, Nat.le_of_ble_eq_true rfl⟩) rfl) ?_
  refine rcons (ro_iconst (n := 1) (by decide +kernel) rfl rfl) ?_
  refine rcons (ro_callV (C := rN1) (T := rF1) (N := 7) rfl ok_d_start (by decide +kernel) rfl (fun s args ht => cwV (C := rN1) 2 ht (rgoodV (C := rN1) (fun w h => List.mem_cons_of_mem _ h) q_1013 q_1015 q_8 q_14 q_1016) rfl rfl rfl hv_d_start ⟨Nat.le_of_ble_eq_true rfl, Nat.le_of_ble_eq_true rfl⟩) rfl) ?_
  refine rcons (ro_if_ne (off := 27) (by decide +kernel) rfl rfl) ?_
  refine rcons (ro_aload_n (k := 0) rfl (by decide +kernel) rfl) ?_
  refine rcons (ro_iload_n (k := 2) rfl (by decide +kernel) rfl) ?_
  refine rcons (ro_iconst (n := 1) (by decide +kernel) rfl rfl) ?_
  refine rcons (ro_icmp_lt (off := 9) (by decide +kernel) rfl rfl) ?_
  refine rcons (ro_iload_n (k := 2) rfl (by decide +kernel) rfl) ?_
  refine rcons (ro_bipush (n := 7) (by decide +kernel) rfl rfl) ?_
  refine rcons (ro_s2_le (off := 7) (off2 := 4) (n1 := 1) (n2 := 0) (by decide +kernel) (by decide +kernel) rfl (by decide +kernel) (by decide +kernel) rfl rfl rfl rfl) ?_
  refine rcons (ro_iconst (n := 1) (by decide +kernel) rfl rfl) ?_
  refine rcons (ro_goto (off := 4) (by decide +kernel) rfl) ?_
  refine rcons (ro_iconst (n := 0) (by decide +kernel) rfl rfl) ?_
  refine rcons (ro_iconst (n := 2) (by decide +kernel) rfl rfl) ?_
  refine rcons (ro_callV (C := rN1) (T := rF1) (N := 7) rfl ok_d_refuse (by decide +kernel) rfl (fun s args ht => cwV (C := rN1) 2 ht (rgoodV (C := rN1) (fun w h => List.mem_cons_of_mem _ h) q_1017 q_1019 q_9 q_14 q_1020) rfl rfl rfl hv_d_refuse ⟨Nat.le_of_ble_eq_true rfl, Nat.le_of_ble_eq_true rfl⟩) rfl) ?_
  refine rcons (ro_if_eq (off := 5) (by decide +kernel) rfl rfl) ?_
  refine rcons (ro_iconst (n := 0) (by decide +kernel) rfl rfl) ?_
  refine rcons (ro_iret (by decide +kernel)) ?_
  refine rcons (ro_aload_n (k := 0) rfl (by decide +kernel) rfl) ?_
  refine rcons (ro_getf (C := rN1) (T := rF1) (N := 7) (k := 1) (by decide +kernel) rfl (rU1c _) (by decide) (List.mem_cons_of_mem _ q_985) rfl) ?_
  refine rcons (ro_iload_n (k := 1) rfl (by decide +kernel) rfl) ?_
  refine rcons (ro_iald (by decide +kernel) rfl) ?_
  refine rcons (ro_istore_n (k := 3) rfl (by decide +kernel) rfl) ?_
  refine rcons (ro_aload_n (k := 0) rfl (by decide +kernel) rfl) ?_
  refine rcons (ro_getf (C := rN1) (T := rF1) (N := 7) (k := 1) (by decide +kernel) rfl (rU1c _) (by decide) (List.mem_cons_of_mem _ q_985) rfl) ?_
  refine rcons (ro_iload_n (k := 1) rfl (by decide +kernel) rfl) ?_
  refine rcons (ro_iload_n (k := 2) rfl (by decide +kernel) rfl) ?_
  refine rcons (ro_iast (by decide +kernel) rfl) ?_
  refine rcons (ro_aload_n (k := 0) rfl (by decide +kernel) rfl) ?_
  refine rcons (ro_dup (by decide +kernel) rfl) ?_
  refine rcons (ro_getf (C := rN1) (T := rF1) (N := 7) (k := 5) (by decide +kernel) rfl (rU1c _) (by decide) (List.mem_cons_of_mem _ q_989) rfl) ?_
  refine rcons (ro_iconst (n := 1) (by decide +kernel) rfl rfl) ?_
  refine rcons (ro_iadd (by decide +kernel) rfl) ?_
  refine rcons (ro_putf (C := rN1) (T := rF1) (N := 7) (k := 5) (Y := rY1) (by decide +kernel) rfl (rU1c _) rY1_ok rD1 (by decide) (List.mem_cons_of_mem _ q_989) rfl (Or.inl ⟨rfl, rfl⟩) rfl) ?_
  refine rcons (ro_iload_n (k := 3) rfl (by decide +kernel) rfl) ?_
  refine rcons (ro_iret (by decide +kernel)) ?_
  exact rnil
def ps_d_dayNumber : List Nat := [0, 1, 2, 5, 6, 9, 12, 13, 16, 17, 20, 21, 22]
def tb_d_dayNumber : List RT := [tq_al 0, tq_il 1, tq_call s_d_isNoCell 1 0 0, tq_ic 1, tq_call (rV 1 m_d_start) 3 0 0, tq_if1 (fun x => decide (x = 0)) 8, tq_ic 0, tq_go 12, tq_al 0, tq_getf 1 1, tq_il 1, tq_iald 0, tq_iret 0]
def m_d_dayNumber : RM := rMeth tb_d_dayNumber 400 2
abbrev rm_d_dayNumber : Room := { frames := 2, cells := 0, slots := 0, locals := 44 }
set_option maxHeartbeats 4000000 in
set_option maxRecDepth 20000 in
theorem ok_d_dayNumber : rMet y_d_dayNumber (Cond.code y_d_dayNumber prog_4_method_14_code 2 (some .int) :: rT) rm_d_dayNumber 0 m_d_dayNumber := by
  refine rMeth_ok (ps := ps_d_dayNumber) (tab := tb_d_dayNumber) (by decide +kernel) rfl rfl rfl rfl ?_
  refine rcons (ro_aload_n (k := 0) rfl (by decide +kernel) rfl) ?_
  refine rcons (ro_iload_n (k := 1) rfl (by decide +kernel) rfl) ?_
  refine rcons (ro_callS okS_d_isNoCell (by decide +kernel) rfl (fun s args ht => va_cwS 1 ht (rgoodS (fun w h => List.mem_cons_of_mem _ h) q_1010 q_1011 q_14 q_1012) rfl rfl rfl hy_d_isNoCell ⟨Nat.le_of_ble_eq_true rfl, Nat.le_of_ble_eq_true rfl⟩) rfl) ?_
  refine rcons (ro_iconst (n := 1) (by decide +kernel) rfl rfl) ?_
  refine rcons (ro_callV (C := rN1) (T := rF1) (N := 7) rfl ok_d_start (by decide +kernel) rfl (fun s args ht => cwV (C := rN1) 2 ht (rgoodV (C := rN1) (fun w h => List.mem_cons_of_mem _ h) q_1013 q_1015 q_8 q_14 q_1016) rfl rfl rfl hv_d_start ⟨Nat.le_of_ble_eq_true rfl, Nat.le_of_ble_eq_true rfl⟩) rfl) ?_
  refine rcons (ro_if_eq (off := 7) (by decide +kernel) rfl rfl) ?_
  refine rcons (ro_iconst (n := 0) (by decide +kernel) rfl rfl) ?_
  refine rcons (ro_goto (off := 9) (by decide +kernel) rfl) ?_
  refine rcons (ro_aload_n (k := 0) rfl (by decide +kernel) rfl) ?_
  refine rcons (ro_getf (C := rN1) (T := rF1) (N := 7) (k := 1) (by decide +kernel) rfl (rU1c _) (by decide) (List.mem_cons_of_mem _ q_985) rfl) ?_
  refine rcons (ro_iload_n (k := 1) rfl (by decide +kernel) rfl) ?_
  refine rcons (ro_iald (by decide +kernel) rfl) ?_
  refine rcons (ro_iret (by decide +kernel)) ?_
  exact rnil
def ps_d_dayPlace : List Nat := [0, 1, 2, 5, 6, 9, 12, 13, 16, 17, 20, 21, 22, 23, 24]
def tb_d_dayPlace : List RT := [tq_al 0, tq_il 1, tq_call s_d_isNoCell 1 0 0, tq_ic 1, tq_call (rV 1 m_d_start) 3 0 0, tq_if1 (fun x => decide (x = 0)) 8, tq_ic 0, tq_go 14, tq_al 0, tq_getf 1 1, tq_il 1, tq_iald 0, tq_ic 1, tq_i2 (fun x y => x - y), tq_iret 0]
def m_d_dayPlace : RM := rMeth tb_d_dayPlace 400 2
abbrev rm_d_dayPlace : Room := { frames := 2, cells := 0, slots := 0, locals := 44 }
set_option maxHeartbeats 4000000 in
set_option maxRecDepth 20000 in
theorem ok_d_dayPlace : rMet y_d_dayPlace (Cond.code y_d_dayPlace prog_4_method_15_code 2 (some .int) :: rT) rm_d_dayPlace 0 m_d_dayPlace := by
  refine rMeth_ok (ps := ps_d_dayPlace) (tab := tb_d_dayPlace) (by decide +kernel) rfl rfl rfl rfl ?_
  refine rcons (ro_aload_n (k := 0) rfl (by decide +kernel) rfl) ?_
  refine rcons (ro_iload_n (k := 1) rfl (by decide +kernel) rfl) ?_
  refine rcons (ro_callS okS_d_isNoCell (by decide +kernel) rfl (fun s args ht => va_cwS 1 ht (rgoodS (fun w h => List.mem_cons_of_mem _ h) q_1010 q_1011 q_14 q_1012) rfl rfl rfl hy_d_isNoCell ⟨Nat.le_of_ble_eq_true rfl, Nat.le_of_ble_eq_true rfl⟩) rfl) ?_
  refine rcons (ro_iconst (n := 1) (by decide +kernel) rfl rfl) ?_
  refine rcons (ro_callV (C := rN1) (T := rF1) (N := 7) rfl ok_d_start (by decide +kernel) rfl (fun s args ht => cwV (C := rN1) 2 ht (rgoodV (C := rN1) (fun w h => List.mem_cons_of_mem _ h) q_1013 q_1015 q_8 q_14 q_1016) rfl rfl rfl hv_d_start ⟨Nat.le_of_ble_eq_true rfl, Nat.le_of_ble_eq_true rfl⟩) rfl) ?_
  refine rcons (ro_if_eq (off := 7) (by decide +kernel) rfl rfl) ?_
  refine rcons (ro_iconst (n := 0) (by decide +kernel) rfl rfl) ?_
  refine rcons (ro_goto (off := 11) (by decide +kernel) rfl) ?_
  refine rcons (ro_aload_n (k := 0) rfl (by decide +kernel) rfl) ?_
  refine rcons (ro_getf (C := rN1) (T := rF1) (N := 7) (k := 1) (by decide +kernel) rfl (rU1c _) (by decide) (List.mem_cons_of_mem _ q_985) rfl) ?_
  refine rcons (ro_iload_n (k := 1) rfl (by decide +kernel) rfl) ?_
  refine rcons (ro_iald (by decide +kernel) rfl) ?_
  refine rcons (ro_iconst (n := 1) (by decide +kernel) rfl rfl) ?_
  refine rcons (ro_isub (by decide +kernel) rfl) ?_
  refine rcons (ro_iret (by decide +kernel)) ?_
  exact rnil
def ps_d_dayName : List Nat := [0, 1, 2, 5, 6, 9, 12, 14, 17, 20, 21, 24, 25, 26, 27, 28, 29]
def tb_d_dayName : List RT := [tq_al 0, tq_il 1, tq_call s_d_isNoCell 1 0 0, tq_ic 1, tq_call (rV 1 m_d_start) 3 0 0, tq_if1 (fun x => decide (x = 0)) 8, tq_rc 124, tq_go 16, tq_rc 50, tq_al 0, tq_getf 1 1, tq_il 1, tq_iald 0, tq_ic 1, tq_i2 (fun x y => x - y), tq_aldS 50 7 126, tq_aret 0]
def m_d_dayName : RM := rMeth tb_d_dayName 400 2
abbrev rm_d_dayName : Room := { frames := 2, cells := 0, slots := 0, locals := 44 }
set_option maxHeartbeats 4000000 in
set_option maxRecDepth 20000 in
theorem ok_d_dayName : rMet y_d_dayName (Cond.code y_d_dayName prog_4_method_16_code 2 (some (.object "java/lang/String")) :: rT) rm_d_dayName 0 m_d_dayName := by
  refine rMeth_ok (ps := ps_d_dayName) (tab := tb_d_dayName) (by decide +kernel) rfl rfl rfl rfl ?_
  refine rcons (ro_aload_n (k := 0) rfl (by decide +kernel) rfl) ?_
  refine rcons (ro_iload_n (k := 1) rfl (by decide +kernel) rfl) ?_
  refine rcons (ro_callS okS_d_isNoCell (by decide +kernel) rfl (fun s args ht => va_cwS 1 ht (rgoodS (fun w h => List.mem_cons_of_mem _ h) q_1010 q_1011 q_14 q_1012) rfl rfl rfl hy_d_isNoCell ⟨Nat.le_of_ble_eq_true rfl, Nat.le_of_ble_eq_true rfl⟩) rfl) ?_
  refine rcons (ro_iconst (n := 1) (by decide +kernel) rfl rfl) ?_
  refine rcons (ro_callV (C := rN1) (T := rF1) (N := 7) rfl ok_d_start (by decide +kernel) rfl (fun s args ht => cwV (C := rN1) 2 ht (rgoodV (C := rN1) (fun w h => List.mem_cons_of_mem _ h) q_1013 q_1015 q_8 q_14 q_1016) rfl rfl rfl hv_d_start ⟨Nat.le_of_ble_eq_true rfl, Nat.le_of_ble_eq_true rfl⟩) rfl) ?_
  refine rcons (ro_if_eq (off := 8) (by decide +kernel) rfl rfl) ?_
  refine rcons (ro_ldcS (k := 24) (by decide) rfl (by decide +kernel) rfl) ?_
  refine rcons (ro_goto (off := 15) (by decide +kernel) rfl) ?_
  refine rcons (ro_gets (C := "RingdaysModel") (n := "DAYS") (d := "[Ljava/lang/String;") rh3 (List.mem_cons_of_mem _ q_1034) (by decide +kernel) rfl) ?_
  refine rcons (ro_aload_n (k := 0) rfl (by decide +kernel) rfl) ?_
  refine rcons (ro_getf (C := rN1) (T := rF1) (N := 7) (k := 1) (by decide +kernel) rfl (rU1c _) (by decide) (List.mem_cons_of_mem _ q_985) rfl) ?_
  refine rcons (ro_iload_n (k := 1) rfl (by decide +kernel) rfl) ?_
  refine rcons (ro_iald (by decide +kernel) rfl) ?_
  refine rcons (ro_iconst (n := 1) (by decide +kernel) rfl rfl) ?_
  refine rcons (ro_isub (by decide +kernel) rfl) ?_
  refine rcons (ro_aldS rh4 (by decide +kernel) rfl) ?_
  refine rcons (ro_aret (by decide +kernel)) ?_
  exact rnil
def ps_d_dayBecomes : List Nat := [0, 1, 4, 5, 6, 7, 8, 9, 12, 13, 14, 17, 18]
def tb_d_dayBecomes : List RT := [tq_al 0, tq_getf 1 1, tq_il 1, tq_il 2, tq_iast 0, tq_al 0, tq_dup, tq_getf 1 5, tq_ic 1, tq_i2 (fun x y => x + y), tq_putf 1 5 0, tq_il 2, tq_iret 0]
def m_d_dayBecomes : RM := rMeth tb_d_dayBecomes 400 3
abbrev rm_d_dayBecomes : Room := { frames := 0, cells := 0, slots := 0, locals := 0 }
set_option maxHeartbeats 4000000 in
set_option maxRecDepth 20000 in
theorem ok_d_dayBecomes : rMet y_d_dayBecomes (Cond.code y_d_dayBecomes prog_4_method_17_code 3 (some .int) :: rT) rm_d_dayBecomes 0 m_d_dayBecomes := by
  refine rMeth_ok (ps := ps_d_dayBecomes) (tab := tb_d_dayBecomes) (by decide +kernel) rfl rfl rfl rfl ?_
  refine rcons (ro_aload_n (k := 0) rfl (by decide +kernel) rfl) ?_
  refine rcons (ro_getf (C := rN1) (T := rF1) (N := 7) (k := 1) (by decide +kernel) rfl (rU1c _) (by decide) (List.mem_cons_of_mem _ q_985) rfl) ?_
  refine rcons (ro_iload_n (k := 1) rfl (by decide +kernel) rfl) ?_
  refine rcons (ro_iload_n (k := 2) rfl (by decide +kernel) rfl) ?_
  refine rcons (ro_iast (by decide +kernel) rfl) ?_
  refine rcons (ro_aload_n (k := 0) rfl (by decide +kernel) rfl) ?_
  refine rcons (ro_dup (by decide +kernel) rfl) ?_
  refine rcons (ro_getf (C := rN1) (T := rF1) (N := 7) (k := 5) (by decide +kernel) rfl (rU1c _) (by decide) (List.mem_cons_of_mem _ q_989) rfl) ?_
  refine rcons (ro_iconst (n := 1) (by decide +kernel) rfl rfl) ?_
  refine rcons (ro_iadd (by decide +kernel) rfl) ?_
  refine rcons (ro_putf (C := rN1) (T := rF1) (N := 7) (k := 5) (Y := rY1) (by decide +kernel) rfl (rU1c _) rY1_ok rD1 (by decide) (List.mem_cons_of_mem _ q_989) rfl (Or.inl ⟨rfl, rfl⟩) rfl) ?_
  refine rcons (ro_iload_n (k := 2) rfl (by decide +kernel) rfl) ?_
  refine rcons (ro_iret (by decide +kernel)) ?_
  exact rnil
def ps_d_dayOn : List Nat := [0, 1, 2, 5, 6, 9, 12, 13, 16, 17, 18, 19, 22, 23, 24, 26, 27, 28, 31, 34]
def tb_d_dayOn : List RT := [tq_al 0, tq_il 1, tq_call s_d_isNoCell 1 0 0, tq_ic 1, tq_call (rV 1 m_d_start) 3 0 0, tq_if1 (fun x => decide (x = 0)) 8, tq_ic 0, tq_go 19, tq_al 0, tq_il 1, tq_al 0, tq_getf 1 1, tq_il 1, tq_iald 0, tq_ic 7, tq_il 2, tq_i2l, tq_call s_d_on 3 0 0, tq_call (rV 1 m_d_dayBecomes) 3 0 0, tq_iret 0]
def m_d_dayOn : RM := rMeth tb_d_dayOn 400 3
abbrev rm_d_dayOn : Room := { frames := 2, cells := 0, slots := 0, locals := 44 }
set_option maxHeartbeats 4000000 in
set_option maxRecDepth 20000 in
theorem ok_d_dayOn : rMet y_d_dayOn (Cond.code y_d_dayOn prog_4_method_18_code 3 (some .int) :: rT) rm_d_dayOn 0 m_d_dayOn := by
  refine rMeth_ok (ps := ps_d_dayOn) (tab := tb_d_dayOn) (by decide +kernel) rfl rfl rfl rfl ?_
  refine rcons (ro_aload_n (k := 0) rfl (by decide +kernel) rfl) ?_
  refine rcons (ro_iload_n (k := 1) rfl (by decide +kernel) rfl) ?_
  refine rcons (ro_callS okS_d_isNoCell (by decide +kernel) rfl (fun s args ht => va_cwS 1 ht (rgoodS (fun w h => List.mem_cons_of_mem _ h) q_1010 q_1011 q_14 q_1012) rfl rfl rfl hy_d_isNoCell ⟨Nat.le_of_ble_eq_true rfl, Nat.le_of_ble_eq_true rfl⟩) rfl) ?_
  refine rcons (ro_iconst (n := 1) (by decide +kernel) rfl rfl) ?_
  refine rcons (ro_callV (C := rN1) (T := rF1) (N := 7) rfl ok_d_start (by decide +kernel) rfl (fun s args ht => cwV (C := rN1) 2 ht (rgoodV (C := rN1) (fun w h => List.mem_cons_of_mem _ h) q_1013 q_1015 q_8 q_14 q_1016) rfl rfl rfl hv_d_start ⟨Nat.le_of_ble_eq_true rfl, Nat.le_of_ble_eq_true rfl⟩) rfl) ?_
  refine rcons (ro_if_eq (off := 7) (by decide +kernel) rfl rfl) ?_
  refine rcons (ro_iconst (n := 0) (by decide +kernel) rfl rfl) ?_
  refine rcons (ro_goto (off := 21) (by decide +kernel) rfl) ?_
  refine rcons (ro_aload_n (k := 0) rfl (by decide +kernel) rfl) ?_
  refine rcons (ro_iload_n (k := 1) rfl (by decide +kernel) rfl) ?_
  refine rcons (ro_aload_n (k := 0) rfl (by decide +kernel) rfl) ?_
  refine rcons (ro_getf (C := rN1) (T := rF1) (N := 7) (k := 1) (by decide +kernel) rfl (rU1c _) (by decide) (List.mem_cons_of_mem _ q_985) rfl) ?_
  refine rcons (ro_iload_n (k := 1) rfl (by decide +kernel) rfl) ?_
  refine rcons (ro_iald (by decide +kernel) rfl) ?_
  refine rcons (ro_bipush (n := 7) (by decide +kernel) rfl rfl) ?_
  refine rcons (ro_iload_n (k := 2) rfl (by decide +kernel) rfl) ?_
  refine rcons (ro_i2l (by decide +kernel) rfl) ?_
  refine rcons (ro_callS okS_d_on (by decide +kernel) rfl (fun s args ht => va_cwS 3 ht (rgoodS (fun w h => List.mem_cons_of_mem _ h) q_1040 q_1041 q_14 q_1042) rfl rfl rfl hy_d_on ⟨Nat.le_of_ble_eq_true rfl, Nat.le_of_ble_eq_true rfl⟩) rfl) ?_
  refine rcons (ro_callV (C := rN1) (T := rF1) (N := 7) rfl ok_d_dayBecomes (by decide +kernel) rfl (fun s args ht => cwV (C := rN1) 2 ht (rgoodV (C := rN1) (fun w h => List.mem_cons_of_mem _ h) q_1043 q_1045 q_10 q_14 q_1046) rfl rfl rfl hv_d_dayBecomes ⟨Nat.le_of_ble_eq_true rfl, Nat.le_of_ble_eq_true rfl⟩) rfl) ?_
  refine rcons (ro_iret (by decide +kernel)) ?_
  exact rnil
def ps_d_dayBack : List Nat := [0, 1, 2, 5, 6, 9, 12, 13, 16, 17, 18, 19, 22, 23, 24, 26, 27, 28, 31, 34]
def tb_d_dayBack : List RT := [tq_al 0, tq_il 1, tq_call s_d_isNoCell 1 0 0, tq_ic 1, tq_call (rV 1 m_d_start) 3 0 0, tq_if1 (fun x => decide (x = 0)) 8, tq_ic 0, tq_go 19, tq_al 0, tq_il 1, tq_al 0, tq_getf 1 1, tq_il 1, tq_iald 0, tq_ic 7, tq_il 2, tq_i2l, tq_call s_d_ahead 3 0 0, tq_call (rV 1 m_d_dayBecomes) 3 0 0, tq_iret 0]
def m_d_dayBack : RM := rMeth tb_d_dayBack 400 3
abbrev rm_d_dayBack : Room := { frames := 2, cells := 0, slots := 0, locals := 44 }
set_option maxHeartbeats 4000000 in
set_option maxRecDepth 20000 in
theorem ok_d_dayBack : rMet y_d_dayBack (Cond.code y_d_dayBack prog_4_method_19_code 3 (some .int) :: rT) rm_d_dayBack 0 m_d_dayBack := by
  refine rMeth_ok (ps := ps_d_dayBack) (tab := tb_d_dayBack) (by decide +kernel) rfl rfl rfl rfl ?_
  refine rcons (ro_aload_n (k := 0) rfl (by decide +kernel) rfl) ?_
  refine rcons (ro_iload_n (k := 1) rfl (by decide +kernel) rfl) ?_
  refine rcons (ro_callS okS_d_isNoCell (by decide +kernel) rfl (fun s args ht => va_cwS 1 ht (rgoodS (fun w h => List.mem_cons_of_mem _ h) q_1010 q_1011 q_14 q_1012) rfl rfl rfl hy_d_isNoCell ⟨Nat.le_of_ble_eq_true rfl, Nat.le_of_ble_eq_true rfl⟩) rfl) ?_
  refine rcons (ro_iconst (n := 1) (by decide +kernel) rfl rfl) ?_
  refine rcons (ro_callV (C := rN1) (T := rF1) (N := 7) rfl ok_d_start (by decide +kernel) rfl (fun s args ht => cwV (C := rN1) 2 ht (rgoodV (C := rN1) (fun w h => List.mem_cons_of_mem _ h) q_1013 q_1015 q_8 q_14 q_1016) rfl rfl rfl hv_d_start ⟨Nat.le_of_ble_eq_true rfl, Nat.le_of_ble_eq_true rfl⟩) rfl) ?_
  refine rcons (ro_if_eq (off := 7) (by decide +kernel) rfl rfl) ?_
  refine rcons (ro_iconst (n := 0) (by decide +kernel) rfl rfl) ?_
  refine rcons (ro_goto (off := 21) (by decide +kernel) rfl) ?_
  refine rcons (ro_aload_n (k := 0) rfl (by decide +kernel) rfl) ?_
  refine rcons (ro_iload_n (k := 1) rfl (by decide +kernel) rfl) ?_
  refine rcons (ro_aload_n (k := 0) rfl (by decide +kernel) rfl) ?_
  refine rcons (ro_getf (C := rN1) (T := rF1) (N := 7) (k := 1) (by decide +kernel) rfl (rU1c _) (by decide) (List.mem_cons_of_mem _ q_985) rfl) ?_
  refine rcons (ro_iload_n (k := 1) rfl (by decide +kernel) rfl) ?_
  refine rcons (ro_iald (by decide +kernel) rfl) ?_
  refine rcons (ro_bipush (n := 7) (by decide +kernel) rfl rfl) ?_
  refine rcons (ro_iload_n (k := 2) rfl (by decide +kernel) rfl) ?_
  refine rcons (ro_i2l (by decide +kernel) rfl) ?_
  refine rcons (ro_callS okS_d_ahead (by decide +kernel) rfl (fun s args ht => va_cwS 3 ht (rgoodS (fun w h => List.mem_cons_of_mem _ h) q_1051 q_1052 q_14 q_1053) rfl rfl rfl hy_d_ahead ⟨Nat.le_of_ble_eq_true rfl, Nat.le_of_ble_eq_true rfl⟩) rfl) ?_
  refine rcons (ro_callV (C := rN1) (T := rF1) (N := 7) rfl ok_d_dayBecomes (by decide +kernel) rfl (fun s args ht => cwV (C := rN1) 2 ht (rgoodV (C := rN1) (fun w h => List.mem_cons_of_mem _ h) q_1043 q_1045 q_10 q_14 q_1046) rfl rfl rfl hv_d_dayBecomes ⟨Nat.le_of_ble_eq_true rfl, Nat.le_of_ble_eq_true rfl⟩) rfl) ?_
  refine rcons (ro_iret (by decide +kernel)) ?_
  exact rnil
def ps_d_dayOnFar : List Nat := [0, 1, 2, 5, 6, 9, 12, 13, 16, 17, 18, 19, 22, 23, 24, 26, 27, 28, 31, 34, 37]
def tb_d_dayOnFar : List RT := [tq_al 0, tq_il 1, tq_call s_d_isNoCell 1 0 0, tq_ic 1, tq_call (rV 1 m_d_start) 3 0 0, tq_if1 (fun x => decide (x = 0)) 8, tq_ic 0, tq_go 20, tq_al 0, tq_il 1, tq_al 0, tq_getf 1 1, tq_il 1, tq_iald 0, tq_ic 7, tq_il 2, tq_il 3, tq_call s_d_amount 2 0 0, tq_call s_d_on 3 0 0, tq_call (rV 1 m_d_dayBecomes) 3 0 0, tq_iret 0]
def m_d_dayOnFar : RM := rMeth tb_d_dayOnFar 400 4
abbrev rm_d_dayOnFar : Room := { frames := 2, cells := 0, slots := 0, locals := 44 }
set_option maxHeartbeats 4000000 in
set_option maxRecDepth 20000 in
theorem ok_d_dayOnFar : rMet y_d_dayOnFar (Cond.code y_d_dayOnFar prog_4_method_20_code 4 (some .int) :: rT) rm_d_dayOnFar 0 m_d_dayOnFar := by
  refine rMeth_ok (ps := ps_d_dayOnFar) (tab := tb_d_dayOnFar) (by decide +kernel) rfl rfl rfl rfl ?_
  refine rcons (ro_aload_n (k := 0) rfl (by decide +kernel) rfl) ?_
  refine rcons (ro_iload_n (k := 1) rfl (by decide +kernel) rfl) ?_
  refine rcons (ro_callS okS_d_isNoCell (by decide +kernel) rfl (fun s args ht => va_cwS 1 ht (rgoodS (fun w h => List.mem_cons_of_mem _ h) q_1010 q_1011 q_14 q_1012) rfl rfl rfl hy_d_isNoCell ⟨Nat.le_of_ble_eq_true rfl, Nat.le_of_ble_eq_true rfl⟩) rfl) ?_
  refine rcons (ro_iconst (n := 1) (by decide +kernel) rfl rfl) ?_
  refine rcons (ro_callV (C := rN1) (T := rF1) (N := 7) rfl ok_d_start (by decide +kernel) rfl (fun s args ht => cwV (C := rN1) 2 ht (rgoodV (C := rN1) (fun w h => List.mem_cons_of_mem _ h) q_1013 q_1015 q_8 q_14 q_1016) rfl rfl rfl hv_d_start ⟨Nat.le_of_ble_eq_true rfl, Nat.le_of_ble_eq_true rfl⟩) rfl) ?_
  refine rcons (ro_if_eq (off := 7) (by decide +kernel) rfl rfl) ?_
  refine rcons (ro_iconst (n := 0) (by decide +kernel) rfl rfl) ?_
  refine rcons (ro_goto (off := 24) (by decide +kernel) rfl) ?_
  refine rcons (ro_aload_n (k := 0) rfl (by decide +kernel) rfl) ?_
  refine rcons (ro_iload_n (k := 1) rfl (by decide +kernel) rfl) ?_
  refine rcons (ro_aload_n (k := 0) rfl (by decide +kernel) rfl) ?_
  refine rcons (ro_getf (C := rN1) (T := rF1) (N := 7) (k := 1) (by decide +kernel) rfl (rU1c _) (by decide) (List.mem_cons_of_mem _ q_985) rfl) ?_
  refine rcons (ro_iload_n (k := 1) rfl (by decide +kernel) rfl) ?_
  refine rcons (ro_iald (by decide +kernel) rfl) ?_
  refine rcons (ro_bipush (n := 7) (by decide +kernel) rfl rfl) ?_
  refine rcons (ro_iload_n (k := 2) rfl (by decide +kernel) rfl) ?_
  refine rcons (ro_iload_n (k := 3) rfl (by decide +kernel) rfl) ?_
  refine rcons (ro_callS okS_d_amount (by decide +kernel) rfl (fun s args ht => va_cwS 2 ht (rgoodS (fun w h => List.mem_cons_of_mem _ h) q_1058 q_1059 q_14 q_1060) rfl rfl rfl hy_d_amount ⟨Nat.le_of_ble_eq_true rfl, Nat.le_of_ble_eq_true rfl⟩) rfl) ?_
  refine rcons (ro_callS okS_d_on (by decide +kernel) rfl (fun s args ht => va_cwS 3 ht (rgoodS (fun w h => List.mem_cons_of_mem _ h) q_1040 q_1041 q_14 q_1042) rfl rfl rfl hy_d_on ⟨Nat.le_of_ble_eq_true rfl, Nat.le_of_ble_eq_true rfl⟩) rfl) ?_
  refine rcons (ro_callV (C := rN1) (T := rF1) (N := 7) rfl ok_d_dayBecomes (by decide +kernel) rfl (fun s args ht => cwV (C := rN1) 2 ht (rgoodV (C := rN1) (fun w h => List.mem_cons_of_mem _ h) q_1043 q_1045 q_10 q_14 q_1046) rfl rfl rfl hv_d_dayBecomes ⟨Nat.le_of_ble_eq_true rfl, Nat.le_of_ble_eq_true rfl⟩) rfl) ?_
  refine rcons (ro_iret (by decide +kernel)) ?_
  exact rnil
def ps_d_dayBackFar : List Nat := [0, 1, 2, 5, 6, 9, 12, 13, 16, 17, 18, 19, 22, 23, 24, 26, 27, 28, 31, 34, 37]
def tb_d_dayBackFar : List RT := [tq_al 0, tq_il 1, tq_call s_d_isNoCell 1 0 0, tq_ic 1, tq_call (rV 1 m_d_start) 3 0 0, tq_if1 (fun x => decide (x = 0)) 8, tq_ic 0, tq_go 20, tq_al 0, tq_il 1, tq_al 0, tq_getf 1 1, tq_il 1, tq_iald 0, tq_ic 7, tq_il 2, tq_il 3, tq_call s_d_amount 2 0 0, tq_call s_d_ahead 3 0 0, tq_call (rV 1 m_d_dayBecomes) 3 0 0, tq_iret 0]
def m_d_dayBackFar : RM := rMeth tb_d_dayBackFar 400 4
abbrev rm_d_dayBackFar : Room := { frames := 2, cells := 0, slots := 0, locals := 44 }
set_option maxHeartbeats 4000000 in
set_option maxRecDepth 20000 in
theorem ok_d_dayBackFar : rMet y_d_dayBackFar (Cond.code y_d_dayBackFar prog_4_method_21_code 4 (some .int) :: rT) rm_d_dayBackFar 0 m_d_dayBackFar := by
  refine rMeth_ok (ps := ps_d_dayBackFar) (tab := tb_d_dayBackFar) (by decide +kernel) rfl rfl rfl rfl ?_
  refine rcons (ro_aload_n (k := 0) rfl (by decide +kernel) rfl) ?_
  refine rcons (ro_iload_n (k := 1) rfl (by decide +kernel) rfl) ?_
  refine rcons (ro_callS okS_d_isNoCell (by decide +kernel) rfl (fun s args ht => va_cwS 1 ht (rgoodS (fun w h => List.mem_cons_of_mem _ h) q_1010 q_1011 q_14 q_1012) rfl rfl rfl hy_d_isNoCell ⟨Nat.le_of_ble_eq_true rfl, Nat.le_of_ble_eq_true rfl⟩) rfl) ?_
  refine rcons (ro_iconst (n := 1) (by decide +kernel) rfl rfl) ?_
  refine rcons (ro_callV (C := rN1) (T := rF1) (N := 7) rfl ok_d_start (by decide +kernel) rfl (fun s args ht => cwV (C := rN1) 2 ht (rgoodV (C := rN1) (fun w h => List.mem_cons_of_mem _ h) q_1013 q_1015 q_8 q_14 q_1016) rfl rfl rfl hv_d_start ⟨Nat.le_of_ble_eq_true rfl, Nat.le_of_ble_eq_true rfl⟩) rfl) ?_
  refine rcons (ro_if_eq (off := 7) (by decide +kernel) rfl rfl) ?_
  refine rcons (ro_iconst (n := 0) (by decide +kernel) rfl rfl) ?_
  refine rcons (ro_goto (off := 24) (by decide +kernel) rfl) ?_
  refine rcons (ro_aload_n (k := 0) rfl (by decide +kernel) rfl) ?_
  refine rcons (ro_iload_n (k := 1) rfl (by decide +kernel) rfl) ?_
  refine rcons (ro_aload_n (k := 0) rfl (by decide +kernel) rfl) ?_
  refine rcons (ro_getf (C := rN1) (T := rF1) (N := 7) (k := 1) (by decide +kernel) rfl (rU1c _) (by decide) (List.mem_cons_of_mem _ q_985) rfl) ?_
  refine rcons (ro_iload_n (k := 1) rfl (by decide +kernel) rfl) ?_
  refine rcons (ro_iald (by decide +kernel) rfl) ?_
  refine rcons (ro_bipush (n := 7) (by decide +kernel) rfl rfl) ?_
  refine rcons (ro_iload_n (k := 2) rfl (by decide +kernel) rfl) ?_
  refine rcons (ro_iload_n (k := 3) rfl (by decide +kernel) rfl) ?_
  refine rcons (ro_callS okS_d_amount (by decide +kernel) rfl (fun s args ht => va_cwS 2 ht (rgoodS (fun w h => List.mem_cons_of_mem _ h) q_1058 q_1059 q_14 q_1060) rfl rfl rfl hy_d_amount ⟨Nat.le_of_ble_eq_true rfl, Nat.le_of_ble_eq_true rfl⟩) rfl) ?_
  refine rcons (ro_callS okS_d_ahead (by decide +kernel) rfl (fun s args ht => va_cwS 3 ht (rgoodS (fun w h => List.mem_cons_of_mem _ h) q_1051 q_1052 q_14 q_1053) rfl rfl rfl hy_d_ahead ⟨Nat.le_of_ble_eq_true rfl, Nat.le_of_ble_eq_true rfl⟩) rfl) ?_
  refine rcons (ro_callV (C := rN1) (T := rF1) (N := 7) rfl ok_d_dayBecomes (by decide +kernel) rfl (fun s args ht => cwV (C := rN1) 2 ht (rgoodV (C := rN1) (fun w h => List.mem_cons_of_mem _ h) q_1043 q_1045 q_10 q_14 q_1046) rfl rfl rfl hv_d_dayBecomes ⟨Nat.le_of_ble_eq_true rfl, Nat.le_of_ble_eq_true rfl⟩) rfl) ?_
  refine rcons (ro_iret (by decide +kernel)) ?_
  exact rnil
def ps_d_dayAt : List Nat := [0, 1, 2, 5, 6, 9, 12, 13, 16, 17, 20, 21, 22, 24, 25, 26, 29]
def tb_d_dayAt : List RT := [tq_al 0, tq_il 1, tq_call s_d_isNoCell 1 0 0, tq_ic 1, tq_call (rV 1 m_d_start) 3 0 0, tq_if1 (fun x => decide (x = 0)) 8, tq_ic 0, tq_go 16, tq_al 0, tq_getf 1 1, tq_il 1, tq_iald 0, tq_ic 7, tq_il 2, tq_i2l, tq_call s_d_on 3 0 0, tq_iret 0]
def m_d_dayAt : RM := rMeth tb_d_dayAt 400 3
abbrev rm_d_dayAt : Room := { frames := 2, cells := 0, slots := 0, locals := 44 }
set_option maxHeartbeats 4000000 in
set_option maxRecDepth 20000 in
theorem ok_d_dayAt : rMet y_d_dayAt (Cond.code y_d_dayAt prog_4_method_22_code 3 (some .int) :: rT) rm_d_dayAt 0 m_d_dayAt := by
  refine rMeth_ok (ps := ps_d_dayAt) (tab := tb_d_dayAt) (by decide +kernel) rfl rfl rfl rfl ?_
  refine rcons (ro_aload_n (k := 0) rfl (by decide +kernel) rfl) ?_
  refine rcons (ro_iload_n (k := 1) rfl (by decide +kernel) rfl) ?_
  refine rcons (ro_callS okS_d_isNoCell (by decide +kernel) rfl (fun s args ht => va_cwS 1 ht (rgoodS (fun w h => List.mem_cons_of_mem _ h) q_1010 q_1011 q_14 q_1012) rfl rfl rfl hy_d_isNoCell ⟨Nat.le_of_ble_eq_true rfl, Nat.le_of_ble_eq_true rfl⟩) rfl) ?_
  refine rcons (ro_iconst (n := 1) (by decide +kernel) rfl rfl) ?_
  refine rcons (ro_callV (C := rN1) (T := rF1) (N := 7) rfl ok_d_start (by decide +kernel) rfl (fun s args ht => cwV (C := rN1) 2 ht (rgoodV (C := rN1) (fun w h => List.mem_cons_of_mem _ h) q_1013 q_1015 q_8 q_14 q_1016) rfl rfl rfl hv_d_start ⟨Nat.le_of_ble_eq_true rfl, Nat.le_of_ble_eq_true rfl⟩) rfl) ?_
  refine rcons (ro_if_eq (off := 7) (by decide +kernel) rfl rfl) ?_
  refine rcons (ro_iconst (n := 0) (by decide +kernel) rfl rfl) ?_
  refine rcons (ro_goto (off := 16) (by decide +kernel) rfl) ?_
  refine rcons (ro_aload_n (k := 0) rfl (by decide +kernel) rfl) ?_
  refine rcons (ro_getf (C := rN1) (T := rF1) (N := 7) (k := 1) (by decide +kernel) rfl (rU1c _) (by decide) (List.mem_cons_of_mem _ q_985) rfl) ?_
  refine rcons (ro_iload_n (k := 1) rfl (by decide +kernel) rfl) ?_
  refine rcons (ro_iald (by decide +kernel) rfl) ?_
  refine rcons (ro_bipush (n := 7) (by decide +kernel) rfl rfl) ?_
  refine rcons (ro_iload_n (k := 2) rfl (by decide +kernel) rfl) ?_
  refine rcons (ro_i2l (by decide +kernel) rfl) ?_
  refine rcons (ro_callS okS_d_on (by decide +kernel) rfl (fun s args ht => va_cwS 3 ht (rgoodS (fun w h => List.mem_cons_of_mem _ h) q_1040 q_1041 q_14 q_1042) rfl rfl rfl hy_d_on ⟨Nat.le_of_ble_eq_true rfl, Nat.le_of_ble_eq_true rfl⟩) rfl) ?_
  refine rcons (ro_iret (by decide +kernel)) ?_
  exact rnil
def ps_d_dayAhead : List Nat := [0, 1, 2, 5, 6, 9, 12, 13, 16, 17, 20, 21, 22, 24, 25, 26, 29]
def tb_d_dayAhead : List RT := [tq_al 0, tq_il 1, tq_call s_d_isNoCell 1 0 0, tq_ic 1, tq_call (rV 1 m_d_start) 3 0 0, tq_if1 (fun x => decide (x = 0)) 8, tq_ic 0, tq_go 16, tq_al 0, tq_getf 1 1, tq_il 1, tq_iald 0, tq_ic 7, tq_il 2, tq_i2l, tq_call s_d_ahead 3 0 0, tq_iret 0]
def m_d_dayAhead : RM := rMeth tb_d_dayAhead 400 3
abbrev rm_d_dayAhead : Room := { frames := 2, cells := 0, slots := 0, locals := 44 }
set_option maxHeartbeats 4000000 in
set_option maxRecDepth 20000 in
theorem ok_d_dayAhead : rMet y_d_dayAhead (Cond.code y_d_dayAhead prog_4_method_23_code 3 (some .int) :: rT) rm_d_dayAhead 0 m_d_dayAhead := by
  refine rMeth_ok (ps := ps_d_dayAhead) (tab := tb_d_dayAhead) (by decide +kernel) rfl rfl rfl rfl ?_
  refine rcons (ro_aload_n (k := 0) rfl (by decide +kernel) rfl) ?_
  refine rcons (ro_iload_n (k := 1) rfl (by decide +kernel) rfl) ?_
  refine rcons (ro_callS okS_d_isNoCell (by decide +kernel) rfl (fun s args ht => va_cwS 1 ht (rgoodS (fun w h => List.mem_cons_of_mem _ h) q_1010 q_1011 q_14 q_1012) rfl rfl rfl hy_d_isNoCell ⟨Nat.le_of_ble_eq_true rfl, Nat.le_of_ble_eq_true rfl⟩) rfl) ?_
  refine rcons (ro_iconst (n := 1) (by decide +kernel) rfl rfl) ?_
  refine rcons (ro_callV (C := rN1) (T := rF1) (N := 7) rfl ok_d_start (by decide +kernel) rfl (fun s args ht => cwV (C := rN1) 2 ht (rgoodV (C := rN1) (fun w h => List.mem_cons_of_mem _ h) q_1013 q_1015 q_8 q_14 q_1016) rfl rfl rfl hv_d_start ⟨Nat.le_of_ble_eq_true rfl, Nat.le_of_ble_eq_true rfl⟩) rfl) ?_
  refine rcons (ro_if_eq (off := 7) (by decide +kernel) rfl rfl) ?_
  refine rcons (ro_iconst (n := 0) (by decide +kernel) rfl rfl) ?_
  refine rcons (ro_goto (off := 16) (by decide +kernel) rfl) ?_
  refine rcons (ro_aload_n (k := 0) rfl (by decide +kernel) rfl) ?_
  refine rcons (ro_getf (C := rN1) (T := rF1) (N := 7) (k := 1) (by decide +kernel) rfl (rU1c _) (by decide) (List.mem_cons_of_mem _ q_985) rfl) ?_
  refine rcons (ro_iload_n (k := 1) rfl (by decide +kernel) rfl) ?_
  refine rcons (ro_iald (by decide +kernel) rfl) ?_
  refine rcons (ro_bipush (n := 7) (by decide +kernel) rfl rfl) ?_
  refine rcons (ro_iload_n (k := 2) rfl (by decide +kernel) rfl) ?_
  refine rcons (ro_i2l (by decide +kernel) rfl) ?_
  refine rcons (ro_callS okS_d_ahead (by decide +kernel) rfl (fun s args ht => va_cwS 3 ht (rgoodS (fun w h => List.mem_cons_of_mem _ h) q_1051 q_1052 q_14 q_1053) rfl rfl rfl hy_d_ahead ⟨Nat.le_of_ble_eq_true rfl, Nat.le_of_ble_eq_true rfl⟩) rfl) ?_
  refine rcons (ro_iret (by decide +kernel)) ?_
  exact rnil
def ps_d_dayAtFar : List Nat := [0, 1, 2, 5, 6, 9, 12, 13, 14, 16, 19, 20, 23, 24, 25, 27, 28, 29, 32, 35, 38, 39, 42, 43, 44, 46, 47, 48, 51, 54]
def tb_d_dayAtFar : List RT := [tq_al 0, tq_il 1, tq_call s_d_isNoCell 1 0 0, tq_ic 1, tq_call (rV 1 m_d_start) 3 0 0, tq_if1 (fun x => decide (x = 0)) 8, tq_ic 0, tq_iret 0, tq_il 4, tq_if1 (fun x => decide (x = 0)) 20, tq_al 0, tq_getf 1 1, tq_il 1, tq_iald 0, tq_ic 7, tq_il 2, tq_il 3, tq_call s_d_amount 2 0 0, tq_call s_d_ahead 3 0 0, tq_go 29, tq_al 0, tq_getf 1 1, tq_il 1, tq_iald 0, tq_ic 7, tq_il 2, tq_il 3, tq_call s_d_amount 2 0 0, tq_call s_d_on 3 0 0, tq_iret 0]
def m_d_dayAtFar : RM := rMeth tb_d_dayAtFar 400 5
abbrev rm_d_dayAtFar : Room := { frames := 2, cells := 0, slots := 0, locals := 44 }
set_option maxHeartbeats 4000000 in
set_option maxRecDepth 20000 in
theorem ok_d_dayAtFar : rMet y_d_dayAtFar (Cond.code y_d_dayAtFar prog_4_method_24_code 5 (some .int) :: rT) rm_d_dayAtFar 0 m_d_dayAtFar := by
  refine rMeth_ok (ps := ps_d_dayAtFar) (tab := tb_d_dayAtFar) (by decide +kernel) rfl rfl rfl rfl ?_
  refine rcons (ro_aload_n (k := 0) rfl (by decide +kernel) rfl) ?_
  refine rcons (ro_iload_n (k := 1) rfl (by decide +kernel) rfl) ?_
  refine rcons (ro_callS okS_d_isNoCell (by decide +kernel) rfl (fun s args ht => va_cwS 1 ht (rgoodS (fun w h => List.mem_cons_of_mem _ h) q_1010 q_1011 q_14 q_1012) rfl rfl rfl hy_d_isNoCell ⟨Nat.le_of_ble_eq_true rfl, Nat.le_of_ble_eq_true rfl⟩) rfl) ?_
  refine rcons (ro_iconst (n := 1) (by decide +kernel) rfl rfl) ?_
  refine rcons (ro_callV (C := rN1) (T := rF1) (N := 7) rfl ok_d_start (by decide +kernel) rfl (fun s args ht => cwV (C := rN1) 2 ht (rgoodV (C := rN1) (fun w h => List.mem_cons_of_mem _ h) q_1013 q_1015 q_8 q_14 q_1016) rfl rfl rfl hv_d_start ⟨Nat.le_of_ble_eq_true rfl, Nat.le_of_ble_eq_true rfl⟩) rfl) ?_
  refine rcons (ro_if_eq (off := 5) (by decide +kernel) rfl rfl) ?_
  refine rcons (ro_iconst (n := 0) (by decide +kernel) rfl rfl) ?_
  refine rcons (ro_iret (by decide +kernel)) ?_
  refine rcons (ro_iload (by decide +kernel) rfl) ?_
  refine rcons (ro_if_eq (off := 22) (by decide +kernel) rfl rfl) ?_
  refine rcons (ro_aload_n (k := 0) rfl (by decide +kernel) rfl) ?_
  refine rcons (ro_getf (C := rN1) (T := rF1) (N := 7) (k := 1) (by decide +kernel) rfl (rU1c _) (by decide) (List.mem_cons_of_mem _ q_985) rfl) ?_
  refine rcons (ro_iload_n (k := 1) rfl (by decide +kernel) rfl) ?_
  refine rcons (ro_iald (by decide +kernel) rfl) ?_
  refine rcons (ro_bipush (n := 7) (by decide +kernel) rfl rfl) ?_
  refine rcons (ro_iload_n (k := 2) rfl (by decide +kernel) rfl) ?_
  refine rcons (ro_iload_n (k := 3) rfl (by decide +kernel) rfl) ?_
  refine rcons (ro_callS okS_d_amount (by decide +kernel) rfl (fun s args ht => va_cwS 2 ht (rgoodS (fun w h => List.mem_cons_of_mem _ h) q_1058 q_1059 q_14 q_1060) rfl rfl rfl hy_d_amount ⟨Nat.le_of_ble_eq_true rfl, Nat.le_of_ble_eq_true rfl⟩) rfl) ?_
  refine rcons (ro_callS okS_d_ahead (by decide +kernel) rfl (fun s args ht => va_cwS 3 ht (rgoodS (fun w h => List.mem_cons_of_mem _ h) q_1051 q_1052 q_14 q_1053) rfl rfl rfl hy_d_ahead ⟨Nat.le_of_ble_eq_true rfl, Nat.le_of_ble_eq_true rfl⟩) rfl) ?_
  refine rcons (ro_goto (off := 19) (by decide +kernel) rfl) ?_
  refine rcons (ro_aload_n (k := 0) rfl (by decide +kernel) rfl) ?_
  refine rcons (ro_getf (C := rN1) (T := rF1) (N := 7) (k := 1) (by decide +kernel) rfl (rU1c _) (by decide) (List.mem_cons_of_mem _ q_985) rfl) ?_
  refine rcons (ro_iload_n (k := 1) rfl (by decide +kernel) rfl) ?_
  refine rcons (ro_iald (by decide +kernel) rfl) ?_
  refine rcons (ro_bipush (n := 7) (by decide +kernel) rfl rfl) ?_
  refine rcons (ro_iload_n (k := 2) rfl (by decide +kernel) rfl) ?_
  refine rcons (ro_iload_n (k := 3) rfl (by decide +kernel) rfl) ?_
  refine rcons (ro_callS okS_d_amount (by decide +kernel) rfl (fun s args ht => va_cwS 2 ht (rgoodS (fun w h => List.mem_cons_of_mem _ h) q_1058 q_1059 q_14 q_1060) rfl rfl rfl hy_d_amount ⟨Nat.le_of_ble_eq_true rfl, Nat.le_of_ble_eq_true rfl⟩) rfl) ?_
  refine rcons (ro_callS okS_d_on (by decide +kernel) rfl (fun s args ht => va_cwS 3 ht (rgoodS (fun w h => List.mem_cons_of_mem _ h) q_1040 q_1041 q_14 q_1042) rfl rfl rfl hy_d_on ⟨Nat.le_of_ble_eq_true rfl, Nat.le_of_ble_eq_true rfl⟩) rfl) ?_
  refine rcons (ro_iret (by decide +kernel)) ?_
  exact rnil
def ps_d_dayTwice : List Nat := [0, 1, 2, 5, 6, 9, 12, 13, 16, 17, 20, 21, 22, 24, 25, 26, 29, 31, 32, 33, 36]
def tb_d_dayTwice : List RT := [tq_al 0, tq_il 1, tq_call s_d_isNoCell 1 0 0, tq_ic 1, tq_call (rV 1 m_d_start) 3 0 0, tq_if1 (fun x => decide (x = 0)) 8, tq_ic 0, tq_go 20, tq_al 0, tq_getf 1 1, tq_il 1, tq_iald 0, tq_ic 7, tq_il 2, tq_i2l, tq_call s_d_on 3 0 0, tq_ic 7, tq_il 3, tq_i2l, tq_call s_d_on 3 0 0, tq_iret 0]
def m_d_dayTwice : RM := rMeth tb_d_dayTwice 400 4
abbrev rm_d_dayTwice : Room := { frames := 2, cells := 0, slots := 0, locals := 44 }
set_option maxHeartbeats 4000000 in
set_option maxRecDepth 20000 in
theorem ok_d_dayTwice : rMet y_d_dayTwice (Cond.code y_d_dayTwice prog_4_method_25_code 4 (some .int) :: rT) rm_d_dayTwice 0 m_d_dayTwice := by
  refine rMeth_ok (ps := ps_d_dayTwice) (tab := tb_d_dayTwice) (by decide +kernel) rfl rfl rfl rfl ?_
  refine rcons (ro_aload_n (k := 0) rfl (by decide +kernel) rfl) ?_
  refine rcons (ro_iload_n (k := 1) rfl (by decide +kernel) rfl) ?_
  refine rcons (ro_callS okS_d_isNoCell (by decide +kernel) rfl (fun s args ht => va_cwS 1 ht (rgoodS (fun w h => List.mem_cons_of_mem _ h) q_1010 q_1011 q_14 q_1012) rfl rfl rfl hy_d_isNoCell ⟨Nat.le_of_ble_eq_true rfl, Nat.le_of_ble_eq_true rfl⟩) rfl) ?_
  refine rcons (ro_iconst (n := 1) (by decide +kernel) rfl rfl) ?_
  refine rcons (ro_callV (C := rN1) (T := rF1) (N := 7) rfl ok_d_start (by decide +kernel) rfl (fun s args ht => cwV (C := rN1) 2 ht (rgoodV (C := rN1) (fun w h => List.mem_cons_of_mem _ h) q_1013 q_1015 q_8 q_14 q_1016) rfl rfl rfl hv_d_start ⟨Nat.le_of_ble_eq_true rfl, Nat.le_of_ble_eq_true rfl⟩) rfl) ?_
  refine rcons (ro_if_eq (off := 7) (by decide +kernel) rfl rfl) ?_
  refine rcons (ro_iconst (n := 0) (by decide +kernel) rfl rfl) ?_
  refine rcons (ro_goto (off := 23) (by decide +kernel) rfl) ?_
  refine rcons (ro_aload_n (k := 0) rfl (by decide +kernel) rfl) ?_
  refine rcons (ro_getf (C := rN1) (T := rF1) (N := 7) (k := 1) (by decide +kernel) rfl (rU1c _) (by decide) (List.mem_cons_of_mem _ q_985) rfl) ?_
  refine rcons (ro_iload_n (k := 1) rfl (by decide +kernel) rfl) ?_
  refine rcons (ro_iald (by decide +kernel) rfl) ?_
  refine rcons (ro_bipush (n := 7) (by decide +kernel) rfl rfl) ?_
  refine rcons (ro_iload_n (k := 2) rfl (by decide +kernel) rfl) ?_
  refine rcons (ro_i2l (by decide +kernel) rfl) ?_
  refine rcons (ro_callS okS_d_on (by decide +kernel) rfl (fun s args ht => va_cwS 3 ht (rgoodS (fun w h => List.mem_cons_of_mem _ h) q_1040 q_1041 q_14 q_1042) rfl rfl rfl hy_d_on ⟨Nat.le_of_ble_eq_true rfl, Nat.le_of_ble_eq_true rfl⟩) rfl) ?_
  refine rcons (ro_bipush (n := 7) (by decide +kernel) rfl rfl) ?_
  refine rcons (ro_iload_n (k := 3) rfl (by decide +kernel) rfl) ?_
  refine rcons (ro_i2l (by decide +kernel) rfl) ?_
  refine rcons (ro_callS okS_d_on (by decide +kernel) rfl (fun s args ht => va_cwS 3 ht (rgoodS (fun w h => List.mem_cons_of_mem _ h) q_1040 q_1041 q_14 q_1042) rfl rfl rfl hy_d_on ⟨Nat.le_of_ble_eq_true rfl, Nat.le_of_ble_eq_true rfl⟩) rfl) ?_
  refine rcons (ro_iret (by decide +kernel)) ?_
  exact rnil
def ps_d_dayCopy : List Nat := [0, 1, 2, 5, 8, 9, 12, 15, 16, 19, 20, 21, 24, 27, 28, 31, 32, 33, 34, 37, 38, 39, 42]
def tb_d_dayCopy : List RT := [tq_al 0, tq_il 1, tq_call s_d_isNoCell 1 0 0, tq_if1 (fun x => !decide (x = 0)) 7, tq_il 2, tq_call s_d_isNoCell 1 0 0, tq_s1 (fun x => decide (x = 0)) 1 0 10, tq_ic 1, tq_go 10, tq_ic 0, tq_ic 1, tq_call (rV 1 m_d_start) 3 0 0, tq_if1 (fun x => decide (x = 0)) 15, tq_ic 0, tq_go 22, tq_al 0, tq_il 1, tq_al 0, tq_getf 1 1, tq_il 2, tq_iald 0, tq_call (rV 1 m_d_dayBecomes) 3 0 0, tq_iret 0]
def m_d_dayCopy : RM := rMeth tb_d_dayCopy 400 3
abbrev rm_d_dayCopy : Room := { frames := 2, cells := 0, slots := 0, locals := 44 }
set_option maxHeartbeats 4000000 in
set_option maxRecDepth 20000 in
theorem ok_d_dayCopy : rMet y_d_dayCopy (Cond.code y_d_dayCopy prog_4_method_26_code 3 (some .int) :: rT) rm_d_dayCopy 0 m_d_dayCopy := by
  refine rMeth_ok (ps := ps_d_dayCopy) (tab := tb_d_dayCopy) (by decide +kernel) rfl rfl rfl rfl ?_
  refine rcons (ro_aload_n (k := 0) rfl (by decide +kernel) rfl) ?_
  refine rcons (ro_iload_n (k := 1) rfl (by decide +kernel) rfl) ?_
  refine rcons (ro_callS okS_d_isNoCell (by decide +kernel) rfl (fun s args ht => va_cwS 1 ht (rgoodS (fun w h => List.mem_cons_of_mem _ h) q_1010 q_1011 q_14 q_1012) rfl rfl rfl hy_d_isNoCell ⟨Nat.le_of_ble_eq_true rfl, Nat.le_of_ble_eq_true rfl⟩) rfl) ?_
  refine rcons (ro_if_ne (off := 10) (by decide +kernel) rfl rfl) ?_
  refine rcons (ro_iload_n (k := 2) rfl (by decide +kernel) rfl) ?_
  refine rcons (ro_callS okS_d_isNoCell (by decide +kernel) rfl (fun s args ht => va_cwS 1 ht (rgoodS (fun w h => List.mem_cons_of_mem _ h) q_1010 q_1011 q_14 q_1012) rfl rfl rfl hy_d_isNoCell ⟨Nat.le_of_ble_eq_true rfl, Nat.le_of_ble_eq_true rfl⟩) rfl) ?_
  refine rcons (ro_s1_eq (off := 7) (off2 := 4) (n1 := 1) (n2 := 0) (by decide +kernel) (by decide +kernel) rfl (by decide +kernel) (by decide +kernel) rfl rfl rfl rfl) ?_
  refine rcons (ro_iconst (n := 1) (by decide +kernel) rfl rfl) ?_
  refine rcons (ro_goto (off := 4) (by decide +kernel) rfl) ?_
  refine rcons (ro_iconst (n := 0) (by decide +kernel) rfl rfl) ?_
  refine rcons (ro_iconst (n := 1) (by decide +kernel) rfl rfl) ?_
  refine rcons (ro_callV (C := rN1) (T := rF1) (N := 7) rfl ok_d_start (by decide +kernel) rfl (fun s args ht => cwV (C := rN1) 2 ht (rgoodV (C := rN1) (fun w h => List.mem_cons_of_mem _ h) q_1013 q_1015 q_8 q_14 q_1016) rfl rfl rfl hv_d_start ⟨Nat.le_of_ble_eq_true rfl, Nat.le_of_ble_eq_true rfl⟩) rfl) ?_
  refine rcons (ro_if_eq (off := 7) (by decide +kernel) rfl rfl) ?_
  refine rcons (ro_iconst (n := 0) (by decide +kernel) rfl rfl) ?_
  refine rcons (ro_goto (off := 14) (by decide +kernel) rfl) ?_
  refine rcons (ro_aload_n (k := 0) rfl (by decide +kernel) rfl) ?_
  refine rcons (ro_iload_n (k := 1) rfl (by decide +kernel) rfl) ?_
  refine rcons (ro_aload_n (k := 0) rfl (by decide +kernel) rfl) ?_
  refine rcons (ro_getf (C := rN1) (T := rF1) (N := 7) (k := 1) (by decide +kernel) rfl (rU1c _) (by decide) (List.mem_cons_of_mem _ q_985) rfl) ?_
  refine rcons (ro_iload_n (k := 2) rfl (by decide +kernel) rfl) ?_
  refine rcons (ro_iald (by decide +kernel) rfl) ?_
  refine rcons (ro_callV (C := rN1) (T := rF1) (N := 7) rfl ok_d_dayBecomes (by decide +kernel) rfl (fun s args ht => cwV (C := rN1) 2 ht (rgoodV (C := rN1) (fun w h => List.mem_cons_of_mem _ h) q_1043 q_1045 q_10 q_14 q_1046) rfl rfl rfl hv_d_dayBecomes ⟨Nat.le_of_ble_eq_true rfl, Nat.le_of_ble_eq_true rfl⟩) rfl) ?_
  refine rcons (ro_iret (by decide +kernel)) ?_
  exact rnil
def ps_d_daySwap : List Nat := [0, 1, 2, 5, 8, 9, 12, 15, 16, 19, 20, 21, 24, 27, 28, 29, 30, 33, 34, 35, 36, 37, 40, 41, 42, 45, 46, 47, 48, 49, 52, 53, 54, 55, 56, 57, 60, 61, 62, 65, 66, 69, 70, 71]
def tb_d_daySwap : List RT := [tq_al 0, tq_il 1, tq_call s_d_isNoCell 1 0 0, tq_if1 (fun x => !decide (x = 0)) 7, tq_il 2, tq_call s_d_isNoCell 1 0 0, tq_s1 (fun x => decide (x = 0)) 1 0 10, tq_ic 1, tq_go 10, tq_ic 0, tq_ic 1, tq_call (rV 1 m_d_start) 3 0 0, tq_if1 (fun x => decide (x = 0)) 15, tq_ic 0, tq_iret 0, tq_al 0, tq_getf 1 1, tq_il 1, tq_iald 0, tq_is 4 3, tq_al 0, tq_getf 1 1, tq_il 1, tq_al 0, tq_getf 1 1, tq_il 2, tq_iald 0, tq_iast 0, tq_al 0, tq_getf 1 1, tq_il 2, tq_il 3, tq_iast 0, tq_al 0, tq_dup, tq_getf 1 5, tq_ic 1, tq_i2 (fun x y => x + y), tq_putf 1 5 0, tq_al 0, tq_getf 1 1, tq_il 1, tq_iald 0, tq_iret 0]
def m_d_daySwap : RM := rMeth tb_d_daySwap 400 4
abbrev rm_d_daySwap : Room := { frames := 2, cells := 0, slots := 0, locals := 44 }
set_option maxHeartbeats 4000000 in
set_option maxRecDepth 20000 in
theorem ok_d_daySwap : rMet y_d_daySwap (Cond.code y_d_daySwap prog_4_method_27_code 4 (some .int) :: rT) rm_d_daySwap 0 m_d_daySwap := by
  refine rMeth_ok (ps := ps_d_daySwap) (tab := tb_d_daySwap) (by decide +kernel) rfl rfl rfl rfl ?_
  refine rcons (ro_aload_n (k := 0) rfl (by decide +kernel) rfl) ?_
  refine rcons (ro_iload_n (k := 1) rfl (by decide +kernel) rfl) ?_
  refine rcons (ro_callS okS_d_isNoCell (by decide +kernel) rfl (fun s args ht => va_cwS 1 ht (rgoodS (fun w h => List.mem_cons_of_mem _ h) q_1010 q_1011 q_14 q_1012) rfl rfl rfl hy_d_isNoCell ⟨Nat.le_of_ble_eq_true rfl, Nat.le_of_ble_eq_true rfl⟩) rfl) ?_
  refine rcons (ro_if_ne (off := 10) (by decide +kernel) rfl rfl) ?_
  refine rcons (ro_iload_n (k := 2) rfl (by decide +kernel) rfl) ?_
  refine rcons (ro_callS okS_d_isNoCell (by decide +kernel) rfl (fun s args ht => va_cwS 1 ht (rgoodS (fun w h => List.mem_cons_of_mem _ h) q_1010 q_1011 q_14 q_1012) rfl rfl rfl hy_d_isNoCell ⟨Nat.le_of_ble_eq_true rfl, Nat.le_of_ble_eq_true rfl⟩) rfl) ?_
  refine rcons (ro_s1_eq (off := 7) (off2 := 4) (n1 := 1) (n2 := 0) (by decide +kernel) (by decide +kernel) rfl (by decide +kernel) (by decide +kernel) rfl rfl rfl rfl) ?_
  refine rcons (ro_iconst (n := 1) (by decide +kernel) rfl rfl) ?_
  refine rcons (ro_goto (off := 4) (by decide +kernel) rfl) ?_
  refine rcons (ro_iconst (n := 0) (by decide +kernel) rfl rfl) ?_
  refine rcons (ro_iconst (n := 1) (by decide +kernel) rfl rfl) ?_
  refine rcons (ro_callV (C := rN1) (T := rF1) (N := 7) rfl ok_d_start (by decide +kernel) rfl (fun s args ht => cwV (C := rN1) 2 ht (rgoodV (C := rN1) (fun w h => List.mem_cons_of_mem _ h) q_1013 q_1015 q_8 q_14 q_1016) rfl rfl rfl hv_d_start ⟨Nat.le_of_ble_eq_true rfl, Nat.le_of_ble_eq_true rfl⟩) rfl) ?_
  refine rcons (ro_if_eq (off := 5) (by decide +kernel) rfl rfl) ?_
  refine rcons (ro_iconst (n := 0) (by decide +kernel) rfl rfl) ?_
  refine rcons (ro_iret (by decide +kernel)) ?_
  refine rcons (ro_aload_n (k := 0) rfl (by decide +kernel) rfl) ?_
  refine rcons (ro_getf (C := rN1) (T := rF1) (N := 7) (k := 1) (by decide +kernel) rfl (rU1c _) (by decide) (List.mem_cons_of_mem _ q_985) rfl) ?_
  refine rcons (ro_iload_n (k := 1) rfl (by decide +kernel) rfl) ?_
  refine rcons (ro_iald (by decide +kernel) rfl) ?_
  refine rcons (ro_istore_n (k := 3) rfl (by decide +kernel) rfl) ?_
  refine rcons (ro_aload_n (k := 0) rfl (by decide +kernel) rfl) ?_
  refine rcons (ro_getf (C := rN1) (T := rF1) (N := 7) (k := 1) (by decide +kernel) rfl (rU1c _) (by decide) (List.mem_cons_of_mem _ q_985) rfl) ?_
  refine rcons (ro_iload_n (k := 1) rfl (by decide +kernel) rfl) ?_
  refine rcons (ro_aload_n (k := 0) rfl (by decide +kernel) rfl) ?_
  refine rcons (ro_getf (C := rN1) (T := rF1) (N := 7) (k := 1) (by decide +kernel) rfl (rU1c _) (by decide) (List.mem_cons_of_mem _ q_985) rfl) ?_
  refine rcons (ro_iload_n (k := 2) rfl (by decide +kernel) rfl) ?_
  refine rcons (ro_iald (by decide +kernel) rfl) ?_
  refine rcons (ro_iast (by decide +kernel) rfl) ?_
  refine rcons (ro_aload_n (k := 0) rfl (by decide +kernel) rfl) ?_
  refine rcons (ro_getf (C := rN1) (T := rF1) (N := 7) (k := 1) (by decide +kernel) rfl (rU1c _) (by decide) (List.mem_cons_of_mem _ q_985) rfl) ?_
  refine rcons (ro_iload_n (k := 2) rfl (by decide +kernel) rfl) ?_
  refine rcons (ro_iload_n (k := 3) rfl (by decide +kernel) rfl) ?_
  refine rcons (ro_iast (by decide +kernel) rfl) ?_
  refine rcons (ro_aload_n (k := 0) rfl (by decide +kernel) rfl) ?_
  refine rcons (ro_dup (by decide +kernel) rfl) ?_
  refine rcons (ro_getf (C := rN1) (T := rF1) (N := 7) (k := 5) (by decide +kernel) rfl (rU1c _) (by decide) (List.mem_cons_of_mem _ q_989) rfl) ?_
  refine rcons (ro_iconst (n := 1) (by decide +kernel) rfl rfl) ?_
  refine rcons (ro_iadd (by decide +kernel) rfl) ?_
  refine rcons (ro_putf (C := rN1) (T := rF1) (N := 7) (k := 5) (Y := rY1) (by decide +kernel) rfl (rU1c _) rY1_ok rD1 (by decide) (List.mem_cons_of_mem _ q_989) rfl (Or.inl ⟨rfl, rfl⟩) rfl) ?_
  refine rcons (ro_aload_n (k := 0) rfl (by decide +kernel) rfl) ?_
  refine rcons (ro_getf (C := rN1) (T := rF1) (N := 7) (k := 1) (by decide +kernel) rfl (rU1c _) (by decide) (List.mem_cons_of_mem _ q_985) rfl) ?_
  refine rcons (ro_iload_n (k := 1) rfl (by decide +kernel) rfl) ?_
  refine rcons (ro_iald (by decide +kernel) rfl) ?_
  refine rcons (ro_iret (by decide +kernel)) ?_
  exact rnil
def ps_d_dayOrder : List Nat := [0, 1, 2, 5, 8, 9, 12, 15, 16, 19, 20, 21, 24, 27, 28, 31, 32, 35, 36, 37, 38, 41, 42, 43, 46]
def tb_d_dayOrder : List RT := [tq_al 0, tq_il 1, tq_call s_d_isNoCell 1 0 0, tq_if1 (fun x => !decide (x = 0)) 7, tq_il 2, tq_call s_d_isNoCell 1 0 0, tq_s1 (fun x => decide (x = 0)) 1 0 10, tq_ic 1, tq_go 10, tq_ic 0, tq_ic 1, tq_call (rV 1 m_d_start) 3 0 0, tq_if1 (fun x => decide (x = 0)) 15, tq_ic 0, tq_go 24, tq_al 0, tq_getf 1 1, tq_il 1, tq_iald 0, tq_al 0, tq_getf 1 1, tq_il 2, tq_iald 0, tq_call s_d_order 2 0 0, tq_iret 0]
def m_d_dayOrder : RM := rMeth tb_d_dayOrder 400 3
abbrev rm_d_dayOrder : Room := { frames := 2, cells := 0, slots := 0, locals := 44 }
set_option maxHeartbeats 4000000 in
set_option maxRecDepth 20000 in
theorem ok_d_dayOrder : rMet y_d_dayOrder (Cond.code y_d_dayOrder prog_4_method_28_code 3 (some .int) :: rT) rm_d_dayOrder 0 m_d_dayOrder := by
  refine rMeth_ok (ps := ps_d_dayOrder) (tab := tb_d_dayOrder) (by decide +kernel) rfl rfl rfl rfl ?_
  refine rcons (ro_aload_n (k := 0) rfl (by decide +kernel) rfl) ?_
  refine rcons (ro_iload_n (k := 1) rfl (by decide +kernel) rfl) ?_
  refine rcons (ro_callS okS_d_isNoCell (by decide +kernel) rfl (fun s args ht => va_cwS 1 ht (rgoodS (fun w h => List.mem_cons_of_mem _ h) q_1010 q_1011 q_14 q_1012) rfl rfl rfl hy_d_isNoCell ⟨Nat.le_of_ble_eq_true rfl, Nat.le_of_ble_eq_true rfl⟩) rfl) ?_
  refine rcons (ro_if_ne (off := 10) (by decide +kernel) rfl rfl) ?_
  refine rcons (ro_iload_n (k := 2) rfl (by decide +kernel) rfl) ?_
  refine rcons (ro_callS okS_d_isNoCell (by decide +kernel) rfl (fun s args ht => va_cwS 1 ht (rgoodS (fun w h => List.mem_cons_of_mem _ h) q_1010 q_1011 q_14 q_1012) rfl rfl rfl hy_d_isNoCell ⟨Nat.le_of_ble_eq_true rfl, Nat.le_of_ble_eq_true rfl⟩) rfl) ?_
  refine rcons (ro_s1_eq (off := 7) (off2 := 4) (n1 := 1) (n2 := 0) (by decide +kernel) (by decide +kernel) rfl (by decide +kernel) (by decide +kernel) rfl rfl rfl rfl) ?_
  refine rcons (ro_iconst (n := 1) (by decide +kernel) rfl rfl) ?_
  refine rcons (ro_goto (off := 4) (by decide +kernel) rfl) ?_
  refine rcons (ro_iconst (n := 0) (by decide +kernel) rfl rfl) ?_
  refine rcons (ro_iconst (n := 1) (by decide +kernel) rfl rfl) ?_
  refine rcons (ro_callV (C := rN1) (T := rF1) (N := 7) rfl ok_d_start (by decide +kernel) rfl (fun s args ht => cwV (C := rN1) 2 ht (rgoodV (C := rN1) (fun w h => List.mem_cons_of_mem _ h) q_1013 q_1015 q_8 q_14 q_1016) rfl rfl rfl hv_d_start ⟨Nat.le_of_ble_eq_true rfl, Nat.le_of_ble_eq_true rfl⟩) rfl) ?_
  refine rcons (ro_if_eq (off := 7) (by decide +kernel) rfl rfl) ?_
  refine rcons (ro_iconst (n := 0) (by decide +kernel) rfl rfl) ?_
  refine rcons (ro_goto (off := 18) (by decide +kernel) rfl) ?_
  refine rcons (ro_aload_n (k := 0) rfl (by decide +kernel) rfl) ?_
  refine rcons (ro_getf (C := rN1) (T := rF1) (N := 7) (k := 1) (by decide +kernel) rfl (rU1c _) (by decide) (List.mem_cons_of_mem _ q_985) rfl) ?_
  refine rcons (ro_iload_n (k := 1) rfl (by decide +kernel) rfl) ?_
  refine rcons (ro_iald (by decide +kernel) rfl) ?_
  refine rcons (ro_aload_n (k := 0) rfl (by decide +kernel) rfl) ?_
  refine rcons (ro_getf (C := rN1) (T := rF1) (N := 7) (k := 1) (by decide +kernel) rfl (rU1c _) (by decide) (List.mem_cons_of_mem _ q_985) rfl) ?_
  refine rcons (ro_iload_n (k := 2) rfl (by decide +kernel) rfl) ?_
  refine rcons (ro_iald (by decide +kernel) rfl) ?_
  refine rcons (ro_callS okS_d_order (by decide +kernel) rfl (fun s args ht => va_cwS 2 ht (rgoodS (fun w h => List.mem_cons_of_mem _ h) q_1094 q_1095 q_14 q_1096) rfl rfl rfl hy_d_order ⟨Nat.le_of_ble_eq_true rfl, Nat.le_of_ble_eq_true rfl⟩) rfl) ?_
  refine rcons (ro_iret (by decide +kernel)) ?_
  exact rnil
def ps_d_isSameDay : List Nat := [0, 1, 2, 5, 8, 9, 12, 15, 16, 19, 20, 21, 24, 27, 28, 31, 32, 33, 34, 37, 38, 39, 42, 43, 46, 47]
def tb_d_isSameDay : List RT := [tq_al 0, tq_il 1, tq_call s_d_isNoCell 1 0 0, tq_if1 (fun x => !decide (x = 0)) 7, tq_il 2, tq_call s_d_isNoCell 1 0 0, tq_s1 (fun x => decide (x = 0)) 1 0 10, tq_ic 1, tq_go 10, tq_ic 0, tq_ic 1, tq_call (rV 1 m_d_start) 3 0 0, tq_if1 (fun x => !decide (x = 0)) 24, tq_al 0, tq_getf 1 1, tq_il 1, tq_iald 0, tq_al 0, tq_getf 1 1, tq_il 2, tq_iald 0, tq_s2 (fun x y => !decide (x = y)) 1 0 25, tq_ic 1, tq_go 25, tq_ic 0, tq_zret 0]
def m_d_isSameDay : RM := rMeth tb_d_isSameDay 400 3
abbrev rm_d_isSameDay : Room := { frames := 2, cells := 0, slots := 0, locals := 44 }
set_option maxHeartbeats 4000000 in
set_option maxRecDepth 20000 in
theorem ok_d_isSameDay : rMet y_d_isSameDay (Cond.code y_d_isSameDay prog_4_method_29_code 3 (some .boolean) :: rT) rm_d_isSameDay 0 m_d_isSameDay := by
  refine rMeth_ok (ps := ps_d_isSameDay) (tab := tb_d_isSameDay) (by decide +kernel) rfl rfl rfl rfl ?_
  refine rcons (ro_aload_n (k := 0) rfl (by decide +kernel) rfl) ?_
  refine rcons (ro_iload_n (k := 1) rfl (by decide +kernel) rfl) ?_
  refine rcons (ro_callS okS_d_isNoCell (by decide +kernel) rfl (fun s args ht => va_cwS 1 ht (rgoodS (fun w h => List.mem_cons_of_mem _ h) q_1010 q_1011 q_14 q_1012) rfl rfl rfl hy_d_isNoCell ⟨Nat.le_of_ble_eq_true rfl, Nat.le_of_ble_eq_true rfl⟩) rfl) ?_
  refine rcons (ro_if_ne (off := 10) (by decide +kernel) rfl rfl) ?_
  refine rcons (ro_iload_n (k := 2) rfl (by decide +kernel) rfl) ?_
  refine rcons (ro_callS okS_d_isNoCell (by decide +kernel) rfl (fun s args ht => va_cwS 1 ht (rgoodS (fun w h => List.mem_cons_of_mem _ h) q_1010 q_1011 q_14 q_1012) rfl rfl rfl hy_d_isNoCell ⟨Nat.le_of_ble_eq_true rfl, Nat.le_of_ble_eq_true rfl⟩) rfl) ?_
  refine rcons (ro_s1_eq (off := 7) (off2 := 4) (n1 := 1) (n2 := 0) (by decide +kernel) (by decide +kernel) rfl (by decide +kernel) (by decide +kernel) rfl rfl rfl rfl) ?_
  refine rcons (ro_iconst (n := 1) (by decide +kernel) rfl rfl) ?_
  refine rcons (ro_goto (off := 4) (by decide +kernel) rfl) ?_
  refine rcons (ro_iconst (n := 0) (by decide +kernel) rfl rfl) ?_
  refine rcons (ro_iconst (n := 1) (by decide +kernel) rfl rfl) ?_
  refine rcons (ro_callV (C := rN1) (T := rF1) (N := 7) rfl ok_d_start (by decide +kernel) rfl (fun s args ht => cwV (C := rN1) 2 ht (rgoodV (C := rN1) (fun w h => List.mem_cons_of_mem _ h) q_1013 q_1015 q_8 q_14 q_1016) rfl rfl rfl hv_d_start ⟨Nat.le_of_ble_eq_true rfl, Nat.le_of_ble_eq_true rfl⟩) rfl) ?_
  refine rcons (ro_if_ne (off := 22) (by decide +kernel) rfl rfl) ?_
  refine rcons (ro_aload_n (k := 0) rfl (by decide +kernel) rfl) ?_
  refine rcons (ro_getf (C := rN1) (T := rF1) (N := 7) (k := 1) (by decide +kernel) rfl (rU1c _) (by decide) (List.mem_cons_of_mem _ q_985) rfl) ?_
  refine rcons (ro_iload_n (k := 1) rfl (by decide +kernel) rfl) ?_
  refine rcons (ro_iald (by decide +kernel) rfl) ?_
  refine rcons (ro_aload_n (k := 0) rfl (by decide +kernel) rfl) ?_
  refine rcons (ro_getf (C := rN1) (T := rF1) (N := 7) (k := 1) (by decide +kernel) rfl (rU1c _) (by decide) (List.mem_cons_of_mem _ q_985) rfl) ?_
  refine rcons (ro_iload_n (k := 2) rfl (by decide +kernel) rfl) ?_
  refine rcons (ro_iald (by decide +kernel) rfl) ?_
  refine rcons (ro_s2_ne (off := 7) (off2 := 4) (n1 := 1) (n2 := 0) (by decide +kernel) (by decide +kernel) rfl (by decide +kernel) (by decide +kernel) rfl rfl rfl rfl) ?_
  refine rcons (ro_iconst (n := 1) (by decide +kernel) rfl rfl) ?_
  refine rcons (ro_goto (off := 4) (by decide +kernel) rfl) ?_
  refine rcons (ro_iconst (n := 0) (by decide +kernel) rfl rfl) ?_
  refine rcons (ro_zret (by decide +kernel)) ?_
  exact rnil
def ps_d_isDay : List Nat := [0, 1, 2, 5, 6, 9, 12, 13, 14, 15, 18, 19, 21, 24, 25, 28, 29, 30, 33, 36, 37, 40, 41, 42, 43, 46, 47, 50, 51]
def tb_d_isDay : List RT := [tq_al 0, tq_il 1, tq_call s_d_isNoCell 1 0 0, tq_ic 1, tq_call (rV 1 m_d_start) 3 0 0, tq_if1 (fun x => !decide (x = 0)) 27, tq_al 0, tq_il 2, tq_ic 1, tq_if2 (fun x y => decide (x < y)) 13, tq_il 2, tq_ic 7, tq_s2 (fun x y => decide (x ≤ y)) 1 0 16, tq_ic 1, tq_go 16, tq_ic 0, tq_ic 2, tq_call (rV 1 m_d_refuse) 3 0 0, tq_if1 (fun x => !decide (x = 0)) 27, tq_al 0, tq_getf 1 1, tq_il 1, tq_iald 0, tq_il 2, tq_s2 (fun x y => !decide (x = y)) 1 0 28, tq_ic 1, tq_go 28, tq_ic 0, tq_zret 0]
def m_d_isDay : RM := rMeth tb_d_isDay 400 3
abbrev rm_d_isDay : Room := { frames := 2, cells := 0, slots := 0, locals := 44 }
set_option maxHeartbeats 4000000 in
set_option maxRecDepth 20000 in
theorem ok_d_isDay : rMet y_d_isDay (Cond.code y_d_isDay prog_4_method_30_code 3 (some .boolean) :: rT) rm_d_isDay 0 m_d_isDay := by
  refine rMeth_ok (ps := ps_d_isDay) (tab := tb_d_isDay) (by decide +kernel) rfl rfl rfl rfl ?_
  refine rcons (ro_aload_n (k := 0) rfl (by decide +kernel) rfl) ?_
  refine rcons (ro_iload_n (k := 1) rfl (by decide +kernel) rfl) ?_
  refine rcons (ro_callS okS_d_isNoCell (by decide +kernel) rfl (fun s args ht => va_cwS 1 ht (rgoodS (fun w h => List.mem_cons_of_mem _ h) q_1010 q_1011 q_14 q_1012) rfl rfl rfl hy_d_isNoCell ⟨Nat.le_of_ble_eq_true rfl, Nat.le_of_ble_eq_true rfl⟩) rfl) ?_
  refine rcons (ro_iconst (n := 1) (by decide +kernel) rfl rfl) ?_
  refine rcons (ro_callV (C := rN1) (T := rF1) (N := 7) rfl ok_d_start (by decide +kernel) rfl (fun s args ht => cwV (C := rN1) 2 ht (rgoodV (C := rN1) (fun w h => List.mem_cons_of_mem _ h) q_1013 q_1015 q_8 q_14 q_1016) rfl rfl rfl hv_d_start ⟨Nat.le_of_ble_eq_true rfl, Nat.le_of_ble_eq_true rfl⟩) rfl) ?_
  refine rcons (ro_if_ne (off := 41) (by decide +kernel) rfl rfl) ?_
  refine rcons (ro_aload_n (k := 0) rfl (by decide +kernel) rfl) ?_
  refine rcons (ro_iload_n (k := 2) rfl (by decide +kernel) rfl) ?_
  refine rcons (ro_iconst (n := 1) (by decide +kernel) rfl rfl) ?_
  refine rcons (ro_icmp_lt (off := 9) (by decide +kernel) rfl rfl) ?_
  refine rcons (ro_iload_n (k := 2) rfl (by decide +kernel) rfl) ?_
  refine rcons (ro_bipush (n := 7) (by decide +kernel) rfl rfl) ?_
  refine rcons (ro_s2_le (off := 7) (off2 := 4) (n1 := 1) (n2 := 0) (by decide +kernel) (by decide +kernel) rfl (by decide +kernel) (by decide +kernel) rfl rfl rfl rfl) ?_
  refine rcons (ro_iconst (n := 1) (by decide +kernel) rfl rfl) ?_
  refine rcons (ro_goto (off := 4) (by decide +kernel) rfl) ?_
  refine rcons (ro_iconst (n := 0) (by decide +kernel) rfl rfl) ?_
  refine rcons (ro_iconst (n := 2) (by decide +kernel) rfl rfl) ?_
  refine rcons (ro_callV (C := rN1) (T := rF1) (N := 7) rfl ok_d_refuse (by decide +kernel) rfl (fun s args ht => cwV (C := rN1) 2 ht (rgoodV (C := rN1) (fun w h => List.mem_cons_of_mem _ h) q_1017 q_1019 q_9 q_14 q_1020) rfl rfl rfl hv_d_refuse ⟨Nat.le_of_ble_eq_true rfl, Nat.le_of_ble_eq_true rfl⟩) rfl) ?_
  refine rcons (ro_if_ne (off := 17) (by decide +kernel) rfl rfl) ?_
  refine rcons (ro_aload_n (k := 0) rfl (by decide +kernel) rfl) ?_
  refine rcons (ro_getf (C := rN1) (T := rF1) (N := 7) (k := 1) (by decide +kernel) rfl (rU1c _) (by decide) (List.mem_cons_of_mem _ q_985) rfl) ?_
  refine rcons (ro_iload_n (k := 1) rfl (by decide +kernel) rfl) ?_
  refine rcons (ro_iald (by decide +kernel) rfl) ?_
  refine rcons (ro_iload_n (k := 2) rfl (by decide +kernel) rfl) ?_
  refine rcons (ro_s2_ne (off := 7) (off2 := 4) (n1 := 1) (n2 := 0) (by decide +kernel) (by decide +kernel) rfl (by decide +kernel) (by decide +kernel) rfl rfl rfl rfl) ?_
  refine rcons (ro_iconst (n := 1) (by decide +kernel) rfl rfl) ?_
  refine rcons (ro_goto (off := 4) (by decide +kernel) rfl) ?_
  refine rcons (ro_iconst (n := 0) (by decide +kernel) rfl rfl) ?_
  refine rcons (ro_zret (by decide +kernel)) ?_
  exact rnil
def ps_d_month : List Nat := [0, 1, 2, 5, 6, 9, 12, 13, 14, 15, 18, 19, 21, 24, 25, 28, 29, 30, 33, 36, 37, 38, 39, 42, 43, 44, 45, 46, 49, 50, 51, 52, 53, 54, 57, 58, 59, 62, 63]
def tb_d_month : List RT := [tq_al 0, tq_il 1, tq_call s_d_isNoCell 1 0 0, tq_ic 1, tq_call (rV 1 m_d_start) 3 0 0, tq_if1 (fun x => !decide (x = 0)) 19, tq_al 0, tq_il 2, tq_ic 1, tq_if2 (fun x y => decide (x < y)) 13, tq_il 2, tq_ic 12, tq_s2 (fun x y => decide (x ≤ y)) 1 0 16, tq_ic 1, tq_go 16, tq_ic 0, tq_ic 2, tq_call (rV 1 m_d_refuse) 3 0 0, tq_if1 (fun x => decide (x = 0)) 21, tq_ic 0, tq_iret 0, tq_al 0, tq_getf 1 2, tq_il 1, tq_iald 0, tq_is 4 3, tq_al 0, tq_getf 1 2, tq_il 1, tq_il 2, tq_iast 0, tq_al 0, tq_dup, tq_getf 1 5, tq_ic 1, tq_i2 (fun x y => x + y), tq_putf 1 5 0, tq_il 3, tq_iret 0]
def m_d_month : RM := rMeth tb_d_month 400 4
abbrev rm_d_month : Room := { frames := 2, cells := 0, slots := 0, locals := 44 }
set_option maxHeartbeats 4000000 in
set_option maxRecDepth 20000 in
theorem ok_d_month : rMet y_d_month (Cond.code y_d_month prog_4_method_31_code 4 (some .int) :: rT) rm_d_month 0 m_d_month := by
  refine rMeth_ok (ps := ps_d_month) (tab := tb_d_month) (by decide +kernel) rfl rfl rfl rfl ?_
  refine rcons (ro_aload_n (k := 0) rfl (by decide +kernel) rfl) ?_
  refine rcons (ro_iload_n (k := 1) rfl (by decide +kernel) rfl) ?_
  refine rcons (ro_callS okS_d_isNoCell (by decide +kernel) rfl (fun s args ht => va_cwS 1 ht (rgoodS (fun w h => List.mem_cons_of_mem _ h) q_1010 q_1011 q_14 q_1012) rfl rfl rfl hy_d_isNoCell ⟨Nat.le_of_ble_eq_true rfl, Nat.le_of_ble_eq_true rfl⟩) rfl) ?_
  refine rcons (ro_iconst (n := 1) (by decide +kernel) rfl rfl) ?_
  refine rcons (ro_callV (C := rN1) (T := rF1) (N := 7) rfl ok_d_start (by decide +kernel) rfl (fun s args ht => cwV (C := rN1) 2 ht (rgoodV (C := rN1) (fun w h => List.mem_cons_of_mem _ h) q_1013 q_1015 q_8 q_14 q_1016) rfl rfl rfl hv_d_start ⟨Nat.le_of_ble_eq_true rfl, Nat.le_of_ble_eq_true rfl⟩) rfl) ?_
  refine rcons (ro_if_ne (off := 27) (by decide +kernel) rfl rfl) ?_
  refine rcons (ro_aload_n (k := 0) rfl (by decide +kernel) rfl) ?_
  refine rcons (ro_iload_n (k := 2) rfl (by decide +kernel) rfl) ?_
  refine rcons (ro_iconst (n := 1) (by decide +kernel) rfl rfl) ?_
  refine rcons (ro_icmp_lt (off := 9) (by decide +kernel) rfl rfl) ?_
  refine rcons (ro_iload_n (k := 2) rfl (by decide +kernel) rfl) ?_
  refine rcons (ro_bipush (n := 12) (by decide +kernel) rfl rfl) ?_
  refine rcons (ro_s2_le (off := 7) (off2 := 4) (n1 := 1) (n2 := 0) (by decide +kernel) (by decide +kernel) rfl (by decide +kernel) (by decide +kernel) rfl rfl rfl rfl) ?_
  refine rcons (ro_iconst (n := 1) (by decide +kernel) rfl rfl) ?_
  refine rcons (ro_goto (off := 4) (by decide +kernel) rfl) ?_
  refine rcons (ro_iconst (n := 0) (by decide +kernel) rfl rfl) ?_
  refine rcons (ro_iconst (n := 2) (by decide +kernel) rfl rfl) ?_
  refine rcons (ro_callV (C := rN1) (T := rF1) (N := 7) rfl ok_d_refuse (by decide +kernel) rfl (fun s args ht => cwV (C := rN1) 2 ht (rgoodV (C := rN1) (fun w h => List.mem_cons_of_mem _ h) q_1017 q_1019 q_9 q_14 q_1020) rfl rfl rfl hv_d_refuse ⟨Nat.le_of_ble_eq_true rfl, Nat.le_of_ble_eq_true rfl⟩) rfl) ?_
  refine rcons (ro_if_eq (off := 5) (by decide +kernel) rfl rfl) ?_
  refine rcons (ro_iconst (n := 0) (by decide +kernel) rfl rfl) ?_
  refine rcons (ro_iret (by decide +kernel)) ?_
  refine rcons (ro_aload_n (k := 0) rfl (by decide +kernel) rfl) ?_
  refine rcons (ro_getf (C := rN1) (T := rF1) (N := 7) (k := 2) (by decide +kernel) rfl (rU1c _) (by decide) (List.mem_cons_of_mem _ q_986) rfl) ?_
  refine rcons (ro_iload_n (k := 1) rfl (by decide +kernel) rfl) ?_
  refine rcons (ro_iald (by decide +kernel) rfl) ?_
  refine rcons (ro_istore_n (k := 3) rfl (by decide +kernel) rfl) ?_
  refine rcons (ro_aload_n (k := 0) rfl (by decide +kernel) rfl) ?_
  refine rcons (ro_getf (C := rN1) (T := rF1) (N := 7) (k := 2) (by decide +kernel) rfl (rU1c _) (by decide) (List.mem_cons_of_mem _ q_986) rfl) ?_
  refine rcons (ro_iload_n (k := 1) rfl (by decide +kernel) rfl) ?_
  refine rcons (ro_iload_n (k := 2) rfl (by decide +kernel) rfl) ?_
  refine rcons (ro_iast (by decide +kernel) rfl) ?_
  refine rcons (ro_aload_n (k := 0) rfl (by decide +kernel) rfl) ?_
  refine rcons (ro_dup (by decide +kernel) rfl) ?_
  refine rcons (ro_getf (C := rN1) (T := rF1) (N := 7) (k := 5) (by decide +kernel) rfl (rU1c _) (by decide) (List.mem_cons_of_mem _ q_989) rfl) ?_
  refine rcons (ro_iconst (n := 1) (by decide +kernel) rfl rfl) ?_
  refine rcons (ro_iadd (by decide +kernel) rfl) ?_
  refine rcons (ro_putf (C := rN1) (T := rF1) (N := 7) (k := 5) (Y := rY1) (by decide +kernel) rfl (rU1c _) rY1_ok rD1 (by decide) (List.mem_cons_of_mem _ q_989) rfl (Or.inl ⟨rfl, rfl⟩) rfl) ?_
  refine rcons (ro_iload_n (k := 3) rfl (by decide +kernel) rfl) ?_
  refine rcons (ro_iret (by decide +kernel)) ?_
  exact rnil
def ps_d_monthNumber : List Nat := [0, 1, 2, 5, 6, 9, 12, 13, 16, 17, 20, 21, 22]
def tb_d_monthNumber : List RT := [tq_al 0, tq_il 1, tq_call s_d_isNoCell 1 0 0, tq_ic 1, tq_call (rV 1 m_d_start) 3 0 0, tq_if1 (fun x => decide (x = 0)) 8, tq_ic 0, tq_go 12, tq_al 0, tq_getf 1 2, tq_il 1, tq_iald 0, tq_iret 0]
def m_d_monthNumber : RM := rMeth tb_d_monthNumber 400 2
abbrev rm_d_monthNumber : Room := { frames := 2, cells := 0, slots := 0, locals := 44 }
set_option maxHeartbeats 4000000 in
set_option maxRecDepth 20000 in
theorem ok_d_monthNumber : rMet y_d_monthNumber (Cond.code y_d_monthNumber prog_4_method_32_code 2 (some .int) :: rT) rm_d_monthNumber 0 m_d_monthNumber := by
  refine rMeth_ok (ps := ps_d_monthNumber) (tab := tb_d_monthNumber) (by decide +kernel) rfl rfl rfl rfl ?_
  refine rcons (ro_aload_n (k := 0) rfl (by decide +kernel) rfl) ?_
  refine rcons (ro_iload_n (k := 1) rfl (by decide +kernel) rfl) ?_
  refine rcons (ro_callS okS_d_isNoCell (by decide +kernel) rfl (fun s args ht => va_cwS 1 ht (rgoodS (fun w h => List.mem_cons_of_mem _ h) q_1010 q_1011 q_14 q_1012) rfl rfl rfl hy_d_isNoCell ⟨Nat.le_of_ble_eq_true rfl, Nat.le_of_ble_eq_true rfl⟩) rfl) ?_
  refine rcons (ro_iconst (n := 1) (by decide +kernel) rfl rfl) ?_
  refine rcons (ro_callV (C := rN1) (T := rF1) (N := 7) rfl ok_d_start (by decide +kernel) rfl (fun s args ht => cwV (C := rN1) 2 ht (rgoodV (C := rN1) (fun w h => List.mem_cons_of_mem _ h) q_1013 q_1015 q_8 q_14 q_1016) rfl rfl rfl hv_d_start ⟨Nat.le_of_ble_eq_true rfl, Nat.le_of_ble_eq_true rfl⟩) rfl) ?_
  refine rcons (ro_if_eq (off := 7) (by decide +kernel) rfl rfl) ?_
  refine rcons (ro_iconst (n := 0) (by decide +kernel) rfl rfl) ?_
  refine rcons (ro_goto (off := 9) (by decide +kernel) rfl) ?_
  refine rcons (ro_aload_n (k := 0) rfl (by decide +kernel) rfl) ?_
  refine rcons (ro_getf (C := rN1) (T := rF1) (N := 7) (k := 2) (by decide +kernel) rfl (rU1c _) (by decide) (List.mem_cons_of_mem _ q_986) rfl) ?_
  refine rcons (ro_iload_n (k := 1) rfl (by decide +kernel) rfl) ?_
  refine rcons (ro_iald (by decide +kernel) rfl) ?_
  refine rcons (ro_iret (by decide +kernel)) ?_
  exact rnil
end RKM
