section RKM
def s_c_comesT : RM := fun as σ Q => match as with
  | [.inl s, .inl y] => rd (s.1 && y.1) (dO s.2 y.2) (Q (.inl (some (rI true 1))) σ)
  | _ => False
set_option maxHeartbeats 40000000 in
set_option maxRecDepth 20000 in
theorem okT_c_comes : rMet y_c_comesToEachOnce (Cond.code y_c_comesToEachOnce prog_1_method_82_code 6 (some .boolean) :: rT) rm_c_comesToEachOnce 0 s_c_comesT := by
  refine rMet_val ok_c_comesToEachOnce (fun as σ Q h => ?_)
  unfold s_c_comesT at h
  split at h
  · next s y =>
    obtain ⟨hd, h⟩ := rd_use h
    obtain ⟨h1 | h1, h2, h3⟩ := dO_int hd
    · have hy : y.2 = 7 := Int32.toInt_inj.mp (h1.trans rfl)
      obtain ⟨k, k1, k2, hk⟩ := dD_nat (dD_of (n := s.2) h2 (by omega))
      refine ⟨[rI true (nI k), rI true 7], some (rI true 1), some (rI true 1), fun _ => by rw [← hk, ← hy]; rfl, ?_, fun _ => rfl, h⟩
      rcases k7 k1 k2 with rfl | rfl | rfl | rfl | rfl | rfl | rfl <;> exact And.intro rfl rfl
    · have hy : y.2 = 12 := Int32.toInt_inj.mp (h1.trans rfl)
      obtain ⟨k, k1, k2, hk⟩ := dM_nat (dM_of (n := s.2) h2 (by omega))
      refine ⟨[rI true (nI k), rI true 12], some (rI true 1), some (rI true 1), fun _ => by rw [← hk, ← hy]; rfl, ?_, fun _ => rfl, h⟩
      rcases k12 k1 k2 with rfl | rfl | rfl | rfl | rfl | rfl | rfl | rfl | rfl | rfl | rfl | rfl <;> exact And.intro rfl rfl
  · exact h.elim
def ps_c_isRingSoundT : List Nat := [0, 1, 2, 3, 4, 7, 8, 9, 10, 11, 12, 13, 16, 17, 20, 21, 24, 25, 26, 27, 30, 31, 34, 35, 36, 37, 38, 39, 40, 43, 44, 47, 48, 49, 50, 51, 54, 55, 58, 59, 62, 63, 64, 65, 68, 69, 72, 73, 74, 77, 80, 81, 82, 85, 88, 89]
def tb_c_isRingSoundT : List RT := [tq_ic 1, tq_is 4 1, tq_il 1, tq_il 0, tq_if2 (fun x y => decide (y < x)) 54, tq_ic 1, tq_il 1, tq_ic 1, tq_i2 (fun x y => x - y), tq_i2l, tq_il 0, tq_call s_c_numberOn 3 0 0, tq_il 1, tq_if2 (fun x y => !decide (x = y)) 22, tq_il 1, tq_call m_c_placeOf 1 0 0, tq_il 1, tq_ic 1, tq_i2 (fun x y => x - y), tq_s2 (fun x y => !decide (x = y)) 1 0 23, tq_ic 1, tq_go 23, tq_ic 0, tq_is 4 2, tq_il 1, tq_il 0, tq_i2l, tq_il 0, tq_call s_c_numberOn 3 0 0, tq_il 1, tq_if2 (fun x y => !decide (x = y)) 40, tq_il 1, tq_il 0, tq_i2l, tq_il 0, tq_call s_c_numberBack 3 0 0, tq_il 1, tq_s2 (fun x y => !decide (x = y)) 1 0 41, tq_ic 1, tq_go 41, tq_ic 0, tq_is 4 3, tq_il 2, tq_if1 (fun x => decide (x = 0)) 50, tq_il 3, tq_if1 (fun x => decide (x = 0)) 50, tq_il 1, tq_il 0, tq_call s_c_comesT 2 0 0, tq_if1 (fun x => !decide (x = 0)) 52, tq_ic 0, tq_zret 0, tq_inc 4 1 1, tq_go 2, tq_ic 1, tq_zret 0]
def m_c_isRingSoundT : RM := rMeth tb_c_isRingSoundT 1200 4
abbrev rm_c_isRingSoundT : Room := { frames := 4, cells := 0, slots := 0, locals := 95 }
set_option maxHeartbeats 4000000 in
set_option maxRecDepth 20000 in
theorem ok_c_isRingSoundT : rMet y_c_isRingSound (Cond.code y_c_isRingSound prog_1_method_81_code 4 (some .boolean) :: rT) rm_c_isRingSoundT 0 m_c_isRingSoundT := by
  refine rMeth_ok (ps := ps_c_isRingSoundT) (tab := tb_c_isRingSoundT) (by decide +kernel) rfl rfl rfl rfl ?_
  refine rcons (ro_iconst (n := 1) (by decide +kernel) rfl rfl) ?_
  refine rcons (ro_istore_n (k := 1) rfl (by decide +kernel) rfl) ?_
  refine rcons (ro_iload_n (k := 1) rfl (by decide +kernel) rfl) ?_
  refine rcons (ro_iload_n (k := 0) rfl (by decide +kernel) rfl) ?_
  refine rcons (ro_icmp_gt (off := 84) (by decide +kernel) rfl rfl) ?_
  refine rcons (ro_iconst (n := 1) (by decide +kernel) rfl rfl) ?_
  refine rcons (ro_iload_n (k := 1) rfl (by decide +kernel) rfl) ?_
  refine rcons (ro_iconst (n := 1) (by decide +kernel) rfl rfl) ?_
  refine rcons (ro_isub (by decide +kernel) rfl) ?_
  refine rcons (ro_i2l (by decide +kernel) rfl) ?_
  refine rcons (ro_iload_n (k := 0) rfl (by decide +kernel) rfl) ?_
  refine rcons (ro_callS okS_c_numberOn (by decide +kernel) rfl (fun s args ht => va_cwS 3 ht (rgoodS (fun w h => List.mem_cons_of_mem _ h) q_445 q_446 q_13 q_447) rfl rfl rfl hy_c_numberOn ⟨Nat.le_of_ble_eq_true rfl, Nat.le_of_ble_eq_true rfl⟩) rfl) ?_
  refine rcons (ro_iload_n (k := 1) rfl (by decide +kernel) rfl) ?_
  refine rcons (ro_icmp_ne (off := 17) (by decide +kernel) rfl rfl) ?_
  refine rcons (ro_iload_n (k := 1) rfl (by decide +kernel) rfl) ?_
  refine rcons (ro_callS ok_c_placeOf (by decide +kernel) rfl (fun s args ht => va_cwS 1 ht (rgoodS (fun w h => List.mem_cons_of_mem _ h) q_448 q_449 q_13 q_450) rfl rfl rfl hy_c_placeOf ⟨Nat.le_of_ble_eq_true rfl, Nat.le_of_ble_eq_true rfl⟩) rfl) ?_
  refine rcons (ro_iload_n (k := 1) rfl (by decide +kernel) rfl) ?_
  refine rcons (ro_iconst (n := 1) (by decide +kernel) rfl rfl) ?_
  refine rcons (ro_isub (by decide +kernel) rfl) ?_
  refine rcons (ro_s2_ne (off := 7) (off2 := 4) (n1 := 1) (n2 := 0) (by decide +kernel) (by decide +kernel) rfl (by decide +kernel) (by decide +kernel) rfl rfl rfl rfl) ?_
  refine rcons (ro_iconst (n := 1) (by decide +kernel) rfl rfl) ?_
  refine rcons (ro_goto (off := 4) (by decide +kernel) rfl) ?_
  refine rcons (ro_iconst (n := 0) (by decide +kernel) rfl rfl) ?_
  refine rcons (ro_istore_n (k := 2) rfl (by decide +kernel) rfl) ?_
  refine rcons (ro_iload_n (k := 1) rfl (by decide +kernel) rfl) ?_
  refine rcons (ro_iload_n (k := 0) rfl (by decide +kernel) rfl) ?_
  refine rcons (ro_i2l (by decide +kernel) rfl) ?_
  refine rcons (ro_iload_n (k := 0) rfl (by decide +kernel) rfl) ?_
  refine rcons (ro_callS okS_c_numberOn (by decide +kernel) rfl (fun s args ht => va_cwS 3 ht (rgoodS (fun w h => List.mem_cons_of_mem _ h) q_445 q_446 q_13 q_447) rfl rfl rfl hy_c_numberOn ⟨Nat.le_of_ble_eq_true rfl, Nat.le_of_ble_eq_true rfl⟩) rfl) ?_
  refine rcons (ro_iload_n (k := 1) rfl (by decide +kernel) rfl) ?_
  refine rcons (ro_icmp_ne (off := 18) (by decide +kernel) rfl rfl) ?_
  refine rcons (ro_iload_n (k := 1) rfl (by decide +kernel) rfl) ?_
  refine rcons (ro_iload_n (k := 0) rfl (by decide +kernel) rfl) ?_
  refine rcons (ro_i2l (by decide +kernel) rfl) ?_
  refine rcons (ro_iload_n (k := 0) rfl (by decide +kernel) rfl) ?_
  refine rcons (ro_callS okS_c_numberBack (by decide +kernel) rfl (fun s args ht => va_cwS 3 ht (rgoodS (fun w h => List.mem_cons_of_mem _ h) q_457 q_458 q_13 q_459) rfl rfl rfl hy_c_numberBack ⟨Nat.le_of_ble_eq_true rfl, Nat.le_of_ble_eq_true rfl⟩) rfl) ?_
  refine rcons (ro_iload_n (k := 1) rfl (by decide +kernel) rfl) ?_
  refine rcons (ro_s2_ne (off := 7) (off2 := 4) (n1 := 1) (n2 := 0) (by decide +kernel) (by decide +kernel) rfl (by decide +kernel) (by decide +kernel) rfl rfl rfl rfl) ?_
  refine rcons (ro_iconst (n := 1) (by decide +kernel) rfl rfl) ?_
  refine rcons (ro_goto (off := 4) (by decide +kernel) rfl) ?_
  refine rcons (ro_iconst (n := 0) (by decide +kernel) rfl rfl) ?_
  refine rcons (ro_istore_n (k := 3) rfl (by decide +kernel) rfl) ?_
  refine rcons (ro_iload_n (k := 2) rfl (by decide +kernel) rfl) ?_
  refine rcons (ro_if_eq (off := 15) (by decide +kernel) rfl rfl) ?_
  refine rcons (ro_iload_n (k := 3) rfl (by decide +kernel) rfl) ?_
  refine rcons (ro_if_eq (off := 11) (by decide +kernel) rfl rfl) ?_
  refine rcons (ro_iload_n (k := 1) rfl (by decide +kernel) rfl) ?_
  refine rcons (ro_iload_n (k := 0) rfl (by decide +kernel) rfl) ?_
  refine rcons (ro_callS okT_c_comes (by decide +kernel) rfl (fun s args ht => va_cwS 2 ht (rgoodS (fun w h => List.mem_cons_of_mem _ h) q_460 q_461 q_13 q_462) rfl rfl rfl hy_c_comesToEachOnce ⟨Nat.le_of_ble_eq_true rfl, Nat.le_of_ble_eq_true rfl⟩) rfl) ?_
  refine rcons (ro_if_ne (off := 5) (by decide +kernel) rfl rfl) ?_
  refine rcons (ro_iconst (n := 0) (by decide +kernel) rfl rfl) ?_
  refine rcons (ro_zret (by decide +kernel)) ?_
  refine rcons (ro_iinc (by decide +kernel) rfl) ?_
  refine rcons (ro_goto (off := (-83)) (by decide +kernel) rfl) ?_
  refine rcons (ro_iconst (n := 1) (by decide +kernel) rfl rfl) ?_
  refine rcons (ro_zret (by decide +kernel)) ?_
  exact rnil
theorem rdqn {x : Int32} : (!decide (x = x)) = false := by simp
theorem s2n {x : Int32} : (!decide ((bif !decide (x = x) then (0 : Int32) else 1) = 0)) = true := by simp
theorem s2e {x : Int32} : decide ((bif !decide (x = x) then (0 : Int32) else 1) = 0) = false := by simp
theorem pY_id {as : List AV} {σ : List RC} (h : pYear as σ) : pYear as σ := h
set_option maxHeartbeats 40000000 in
set_option maxRecDepth 20000 in
theorem ringT_7 {σ : List RC} : m_c_isRingSoundT [rI true 7] σ (fun z σ' => z = .inl (some (rI true 1)) ∧ σ' = σ) := And.intro rfl rfl
set_option maxHeartbeats 40000000 in
set_option maxRecDepth 20000 in
theorem ringT_12 {σ : List RC} : m_c_isRingSoundT [rI true 12] σ (fun z σ' => z = .inl (some (rI true 1)) ∧ σ' = σ) := And.intro rfl rfl
def s_c_ringT : RM := fun as σ Q => (as = [rI true 7] ∨ as = [rI true 12]) ∧ Q (.inl (some (rI true 1))) σ
set_option maxHeartbeats 40000000 in
set_option maxRecDepth 20000 in
theorem okT_c_ring : rMet y_c_isRingSound (Cond.code y_c_isRingSound prog_1_method_81_code 4 (some .boolean) :: rT) rm_c_isRingSoundT 0 s_c_ringT := by
  refine rMet_val ok_c_isRingSoundT (fun as σ Q h => ?_)
  obtain ⟨h1 | h1, h⟩ := h
  · subst h1
    exact ⟨[rI true 7], some (rI true 1), some (rI true 1), fun _ => rfl, ringT_7, fun _ => rfl, h⟩
  · subst h1
    exact ⟨[rI true 12], some (rI true 1), some (rI true 1), fun _ => rfl, ringT_12, fun _ => rfl, h⟩
def ps_c_areMonthsSoundT : List Nat := [0, 1, 2, 3, 5, 8, 9, 10, 13, 14, 17, 20, 21, 22, 25, 26, 29, 32, 33, 36, 37, 38, 39, 40, 43, 46, 47, 48, 51, 54, 55, 58, 59, 60, 61, 64, 65, 68, 69, 72, 75, 76, 77, 80, 83, 84]
def tb_c_areMonthsSoundT : List RT := [tq_ic 1, tq_is 3 0, tq_il 0, tq_ic 12, tq_if2 (fun x y => decide (y < x)) 44, tq_il 0, tq_ic 0, tq_call s_c_lengthOf 2 0 0, tq_il 0, tq_call m_c_leastOf 1 0 0, tq_if2 (fun x y => !decide (x = y)) 19, tq_il 0, tq_ic 1, tq_call s_c_lengthOf 2 0 0, tq_il 0, tq_call m_c_greatestOf 1 0 0, tq_s2 (fun x y => !decide (x = y)) 1 0 20, tq_ic 1, tq_go 20, tq_ic 0, tq_is 3 1, tq_il 0, tq_ic 0, tq_call m_c_isFirstSound 2 0 0, tq_if1 (fun x => decide (x = 0)) 31, tq_il 0, tq_ic 1, tq_call m_c_isFirstSound 2 0 0, tq_s1 (fun x => decide (x = 0)) 1 0 32, tq_ic 1, tq_go 32, tq_ic 0, tq_is 3 2, tq_il 1, tq_if1 (fun x => decide (x = 0)) 40, tq_il 2, tq_if1 (fun x => decide (x = 0)) 40, tq_il 0, tq_call m_c_isQuarterSound 1 0 0, tq_if1 (fun x => !decide (x = 0)) 42, tq_ic 0, tq_zret 0, tq_inc 3 0 1, tq_go 2, tq_ic 1, tq_zret 0]
def m_c_areMonthsSoundT : RM := rMeth tb_c_areMonthsSoundT 1200 3
abbrev rm_c_areMonthsSoundT : Room := { frames := 4, cells := 0, slots := 0, locals := 92 }
set_option maxHeartbeats 4000000 in
set_option maxRecDepth 20000 in
theorem ok_c_areMonthsSoundT : rMet y_c_areMonthsSound (Cond.code y_c_areMonthsSound prog_1_method_83_code 3 (some .boolean) :: rT) rm_c_areMonthsSoundT 0 m_c_areMonthsSoundT := by
  refine rMeth_ok (ps := ps_c_areMonthsSoundT) (tab := tb_c_areMonthsSoundT) (by decide +kernel) rfl rfl rfl rfl ?_
  refine rcons (ro_iconst (n := 1) (by decide +kernel) rfl rfl) ?_
  refine rcons (ro_istore_n (k := 0) rfl (by decide +kernel) rfl) ?_
  refine rcons (ro_iload_n (k := 0) rfl (by decide +kernel) rfl) ?_
  refine rcons (ro_bipush (n := 12) (by decide +kernel) rfl rfl) ?_
  refine rcons (ro_icmp_gt (off := 78) (by decide +kernel) rfl rfl) ?_
  refine rcons (ro_iload_n (k := 0) rfl (by decide +kernel) rfl) ?_
  refine rcons (ro_iconst (n := 0) (by decide +kernel) rfl rfl) ?_
  refine rcons (ro_callS okS_c_lengthOf (by decide +kernel) rfl (fun s args ht => va_cwS 2 ht (rgoodS (fun w h => List.mem_cons_of_mem _ h) q_466 q_467 q_13 q_468) rfl rfl rfl hy_c_lengthOf ⟨Nat.le_of_ble_eq_true rfl, Nat.le_of_ble_eq_true rfl⟩) rfl) ?_
  refine rcons (ro_iload_n (k := 0) rfl (by decide +kernel) rfl) ?_
  refine rcons (ro_callS ok_c_leastOf (by decide +kernel) rfl (fun s args ht => va_cwS 1 ht (rgoodS (fun w h => List.mem_cons_of_mem _ h) q_469 q_470 q_13 q_471) rfl rfl rfl hy_c_leastOf ⟨Nat.le_of_ble_eq_true rfl, Nat.le_of_ble_eq_true rfl⟩) rfl) ?_
  refine rcons (ro_icmp_ne (off := 19) (by decide +kernel) rfl rfl) ?_
  refine rcons (ro_iload_n (k := 0) rfl (by decide +kernel) rfl) ?_
  refine rcons (ro_iconst (n := 1) (by decide +kernel) rfl rfl) ?_
  refine rcons (ro_callS okS_c_lengthOf (by decide +kernel) rfl (fun s args ht => va_cwS 2 ht (rgoodS (fun w h => List.mem_cons_of_mem _ h) q_466 q_467 q_13 q_468) rfl rfl rfl hy_c_lengthOf ⟨Nat.le_of_ble_eq_true rfl, Nat.le_of_ble_eq_true rfl⟩) rfl) ?_
  refine rcons (ro_iload_n (k := 0) rfl (by decide +kernel) rfl) ?_
  refine rcons (ro_callS ok_c_greatestOf (by decide +kernel) rfl (fun s args ht => va_cwS 1 ht (rgoodS (fun w h => List.mem_cons_of_mem _ h) q_473 q_474 q_13 q_475) rfl rfl rfl hy_c_greatestOf ⟨Nat.le_of_ble_eq_true rfl, Nat.le_of_ble_eq_true rfl⟩) rfl) ?_
  refine rcons (ro_s2_ne (off := 7) (off2 := 4) (n1 := 1) (n2 := 0) (by decide +kernel) (by decide +kernel) rfl (by decide +kernel) (by decide +kernel) rfl rfl rfl rfl) ?_
  refine rcons (ro_iconst (n := 1) (by decide +kernel) rfl rfl) ?_
  refine rcons (ro_goto (off := 4) (by decide +kernel) rfl) ?_
  refine rcons (ro_iconst (n := 0) (by decide +kernel) rfl rfl) ?_
  refine rcons (ro_istore_n (k := 1) rfl (by decide +kernel) rfl) ?_
  refine rcons (ro_iload_n (k := 0) rfl (by decide +kernel) rfl) ?_
  refine rcons (ro_iconst (n := 0) (by decide +kernel) rfl rfl) ?_
  refine rcons (ro_callS ok_c_isFirstSound (by decide +kernel) rfl (fun s args ht => va_cwS 2 ht (rgoodS (fun w h => List.mem_cons_of_mem _ h) q_477 q_478 q_13 q_479) rfl rfl rfl hy_c_isFirstSound ⟨Nat.le_of_ble_eq_true rfl, Nat.le_of_ble_eq_true rfl⟩) rfl) ?_
  refine rcons (ro_if_eq (off := 15) (by decide +kernel) rfl rfl) ?_
  refine rcons (ro_iload_n (k := 0) rfl (by decide +kernel) rfl) ?_
  refine rcons (ro_iconst (n := 1) (by decide +kernel) rfl rfl) ?_
  refine rcons (ro_callS ok_c_isFirstSound (by decide +kernel) rfl (fun s args ht => va_cwS 2 ht (rgoodS (fun w h => List.mem_cons_of_mem _ h) q_477 q_478 q_13 q_479) rfl rfl rfl hy_c_isFirstSound ⟨Nat.le_of_ble_eq_true rfl, Nat.le_of_ble_eq_true rfl⟩) rfl) ?_
  refine rcons (ro_s1_eq (off := 7) (off2 := 4) (n1 := 1) (n2 := 0) (by decide +kernel) (by decide +kernel) rfl (by decide +kernel) (by decide +kernel) rfl rfl rfl rfl) ?_
  refine rcons (ro_iconst (n := 1) (by decide +kernel) rfl rfl) ?_
  refine rcons (ro_goto (off := 4) (by decide +kernel) rfl) ?_
  refine rcons (ro_iconst (n := 0) (by decide +kernel) rfl rfl) ?_
  refine rcons (ro_istore_n (k := 2) rfl (by decide +kernel) rfl) ?_
  refine rcons (ro_iload_n (k := 1) rfl (by decide +kernel) rfl) ?_
  refine rcons (ro_if_eq (off := 14) (by decide +kernel) rfl rfl) ?_
  refine rcons (ro_iload_n (k := 2) rfl (by decide +kernel) rfl) ?_
  refine rcons (ro_if_eq (off := 10) (by decide +kernel) rfl rfl) ?_
  refine rcons (ro_iload_n (k := 0) rfl (by decide +kernel) rfl) ?_
  refine rcons (ro_callS ok_c_isQuarterSound (by decide +kernel) rfl (fun s args ht => va_cwS 1 ht (rgoodS (fun w h => List.mem_cons_of_mem _ h) q_483 q_484 q_13 q_485) rfl rfl rfl hy_c_isQuarterSound ⟨Nat.le_of_ble_eq_true rfl, Nat.le_of_ble_eq_true rfl⟩) rfl) ?_
  refine rcons (ro_if_ne (off := 5) (by decide +kernel) rfl rfl) ?_
  refine rcons (ro_iconst (n := 0) (by decide +kernel) rfl rfl) ?_
  refine rcons (ro_zret (by decide +kernel)) ?_
  refine rcons (ro_iinc (by decide +kernel) rfl) ?_
  refine rcons (ro_goto (off := (-78)) (by decide +kernel) rfl) ?_
  refine rcons (ro_iconst (n := 1) (by decide +kernel) rfl rfl) ?_
  refine rcons (ro_zret (by decide +kernel)) ?_
  exact rnil
set_option maxHeartbeats 40000000 in
set_option maxRecDepth 20000 in
theorem monthsT {σ : List RC} : m_c_areMonthsSoundT [] σ (fun z σ' => z = .inl (some (rI true 1)) ∧ σ' = σ) := And.intro rfl rfl
def s_c_monthsT : RM := fun as σ Q => as = [] ∧ Q (.inl (some (rI true 1))) σ
set_option maxHeartbeats 40000000 in
set_option maxRecDepth 20000 in
theorem okT_c_months : rMet y_c_areMonthsSound (Cond.code y_c_areMonthsSound prog_1_method_83_code 3 (some .boolean) :: rT) rm_c_areMonthsSoundT 0 s_c_monthsT := by
  refine rMet_val ok_c_areMonthsSoundT (fun as σ Q h => ?_)
  obtain ⟨rfl, h⟩ := h
  exact ⟨[], some (rI true 1), some (rI true 1), fun _ => rfl, monthsT, fun _ => rfl, h⟩
end RKM
