section RKM
def ps_c_dayAfterYearW : List Nat := [0, 1, 4, 5, 8, 9, 10, 13, 14, 17, 19, 20, 22, 24, 26, 29, 30, 32, 33, 36, 37, 39, 42, 43, 45, 46, 48, 51, 53, 56, 59, 60]
def tb_c_dayAfterYearW : List RT := [tq_al 0, tq_getf 0 0, tq_il 1, tq_call m_c_numberIn 2 1 2, tq_is 6 3, tq_al 0, tq_getf 0 1, tq_il 1, tq_call m_c_numberIn 2 1 2, tq_is 6 4, tq_ic 0, tq_is 6 5, tq_il 5, tq_ic 12, tq_if2 (fun x y => decide (y ≤ x)) 30, tq_il 3, tq_il 4, tq_il 2, tq_call s_c_lengthOf 2 0 2, tq_i2l, tq_ic 7, tq_call s_c_numberOnW 3 0 2, tq_is 6 3, tq_il 4, tq_lc 1, tq_ic 12, tq_call s_c_numberOnW 3 0 2, tq_is 6 4, tq_inc 6 5 1, tq_go 12, tq_il 3, tq_iret 2]
def m_c_dayAfterYearW : RM := rMeth tb_c_dayAfterYearW 400 6
abbrev rm_c_dayAfterYearW : Room := { frames := 7, cells := 2, slots := 24, locals := 111 }
set_option maxHeartbeats 4000000 in
set_option maxRecDepth 20000 in
theorem ok_c_dayAfterYearW : rMet y_c_dayAfterYear (Cond.code y_c_dayAfterYear prog_1_method_87_code 6 (some .int) :: rT) rm_c_dayAfterYearW 2 m_c_dayAfterYearW := by
  refine rMeth_ok (ps := ps_c_dayAfterYearW) (tab := tb_c_dayAfterYearW) (by decide +kernel) rfl rfl rfl rfl ?_
  refine rcons (ro_aload_n (k := 0) rfl (by decide +kernel) rfl) ?_
  refine rcons (ro_getf (C := rN0) (T := rF0) (N := 7) (k := 0) (by decide +kernel) rfl (rU0c _) (by decide) (List.mem_cons_of_mem _ q_43) rfl) ?_
  refine rcons (ro_iload_n (k := 1) rfl (by decide +kernel) rfl) ?_
  refine rcons (ro_callS ok_c_numberIn (by decide +kernel) rfl (fun s args ht => va_cwS 2 ht (rgoodS (fun w h => List.mem_cons_of_mem _ h) q_498 q_499 q_13 q_500) rfl rfl rfl hy_c_numberIn ⟨Nat.le_of_ble_eq_true rfl, Nat.le_of_ble_eq_true rfl⟩) rfl) ?_
  refine rcons (ro_istore_n (k := 3) rfl (by decide +kernel) rfl) ?_
  refine rcons (ro_aload_n (k := 0) rfl (by decide +kernel) rfl) ?_
  refine rcons (ro_getf (C := rN0) (T := rF0) (N := 7) (k := 1) (by decide +kernel) rfl (rU0c _) (by decide) (List.mem_cons_of_mem _ q_44) rfl) ?_
  refine rcons (ro_iload_n (k := 1) rfl (by decide +kernel) rfl) ?_
  refine rcons (ro_callS ok_c_numberIn (by decide +kernel) rfl (fun s args ht => va_cwS 2 ht (rgoodS (fun w h => List.mem_cons_of_mem _ h) q_498 q_499 q_13 q_500) rfl rfl rfl hy_c_numberIn ⟨Nat.le_of_ble_eq_true rfl, Nat.le_of_ble_eq_true rfl⟩) rfl) ?_
  refine rcons (ro_istore (by decide +kernel) rfl) ?_
  refine rcons (ro_iconst (n := 0) (by decide +kernel) rfl rfl) ?_
  refine rcons (ro_istore (by decide +kernel) rfl) ?_
  refine rcons (ro_iload (by decide +kernel) rfl) ?_
  refine rcons (ro_bipush (n := 12) (by decide +kernel) rfl rfl) ?_
  refine rcons (ro_icmp_ge (off := 33) (by decide +kernel) rfl rfl) ?_
  refine rcons (ro_iload_n (k := 3) rfl (by decide +kernel) rfl) ?_
  refine rcons (ro_iload (by decide +kernel) rfl) ?_
  refine rcons (ro_iload_n (k := 2) rfl (by decide +kernel) rfl) ?_
  refine rcons (ro_callS okS_c_lengthOf (by decide +kernel) rfl (fun s args ht => va_cwS 2 ht (rgoodS (fun w h => List.mem_cons_of_mem _ h) q_466 q_467 q_13 q_468) rfl rfl rfl hy_c_lengthOf ⟨Nat.le_of_ble_eq_true rfl, Nat.le_of_ble_eq_true rfl⟩) rfl) ?_
  refine rcons (ro_i2l (by decide +kernel) rfl) ?_
  refine rcons (ro_bipush (n := 7) (by decide +kernel) rfl rfl) ?_
  refine rcons (ro_callS okW_c_numberOn (by decide +kernel) rfl (fun s args ht => va_cwS 3 ht (rgoodS (fun w h => List.mem_cons_of_mem _ h) q_445 q_446 q_13 q_447) rfl rfl rfl hy_c_numberOn ⟨Nat.le_of_ble_eq_true rfl, Nat.le_of_ble_eq_true rfl⟩) rfl) ?_
  refine rcons (ro_istore_n (k := 3) rfl (by decide +kernel) rfl) ?_
  refine rcons (ro_iload (by decide +kernel) rfl) ?_
  refine rcons (ro_lconst (n := 1) (by decide +kernel) rfl rfl) ?_
  refine rcons (ro_bipush (n := 12) (by decide +kernel) rfl rfl) ?_
  refine rcons (ro_callS okW_c_numberOn (by decide +kernel) rfl (fun s args ht => va_cwS 3 ht (rgoodS (fun w h => List.mem_cons_of_mem _ h) q_445 q_446 q_13 q_447) rfl rfl rfl hy_c_numberOn ⟨Nat.le_of_ble_eq_true rfl, Nat.le_of_ble_eq_true rfl⟩) rfl) ?_
  refine rcons (ro_istore (by decide +kernel) rfl) ?_
  refine rcons (ro_iinc (by decide +kernel) rfl) ?_
  refine rcons (ro_goto (off := (-34)) (by decide +kernel) rfl) ?_
  refine rcons (ro_iload_n (k := 3) rfl (by decide +kernel) rfl) ?_
  refine rcons (ro_iret (by decide +kernel)) ?_
  exact rnil
set_option maxHeartbeats 4000000 in
set_option maxRecDepth 20000 in
theorem okW_c_dayAfterYear : rMet y_c_dayAfterYear (Cond.code y_c_dayAfterYear prog_1_method_87_code 6 (some .int) :: rT) rm_c_dayAfterYearW 2 (sAnyI pYear) := by
  refine any_I ok_c_dayAfterYearW (fun as σ h => ?_)
  have pyear : True := trivial
  obtain ⟨⟨c, b, rfl, hc, hb⟩, P, rfl, ⟨⟨d0, d1, d2, d3⟩, m0, m1, m2, m3⟩⟩ := h
  rcases hc with rfl | rfl | rfl | rfl <;> rcases hb with rfl | rfl
  · refine ⟨[rR 0, rI true 0, rI true 0], fun _ => rfl, ?_⟩
    repeat' (first | with_reducible exact qL | with_reducible exact qI | with_reducible exact qB0 | with_reducible exact qB1 | with_reducible exact qBc | with_reducible exact pli | with_reducible exact pll | with_reducible exact pli' | with_reducible assumption | refine And.intro ?_ ?_ | exact ⟨_, rfl, _, _, rfl⟩ | exact ⟨_, rfl, _, _, rfl, Or.inl rfl⟩ | exact ⟨_, rfl, _, _, rfl, Or.inr rfl⟩ | exact ⟨_, rfl, _, _, rfl, b01 _⟩ | with_reducible exact and_mk (by first | with_reducible assumption | with_reducible exact dM_O (by with_reducible assumption) | with_reducible exact dD_O (by with_reducible assumption) | with_reducible exact dM_D (by with_reducible assumption) | assumption | exact dM_O (by assumption) | exact dD_O (by assumption) | exact dM_D (by assumption) | rfl) rfl | (intro h; first | with_reducible exact rno (s01 _) h | exact absurd h (by decide) | skip) | exact pst7 rfl | exact pst12 rfl | exact pyear | exact and_mk (by first | with_reducible assumption | with_reducible exact dM_O (by with_reducible assumption) | with_reducible exact dD_O (by with_reducible assumption) | with_reducible exact dM_D (by with_reducible assumption) | assumption | exact dM_O (by assumption) | exact dD_O (by assumption) | exact dM_D (by assumption) | rfl) rfl | assumption | exact qI | exact qB0 | exact qB1 | exact qBc | rfl)
  · refine ⟨[rR 0, rI true 0, rI true 1], fun _ => rfl, ?_⟩
    repeat' (first | with_reducible exact qL | with_reducible exact qI | with_reducible exact qB0 | with_reducible exact qB1 | with_reducible exact qBc | with_reducible exact pli | with_reducible exact pll | with_reducible exact pli' | with_reducible assumption | refine And.intro ?_ ?_ | exact ⟨_, rfl, _, _, rfl⟩ | exact ⟨_, rfl, _, _, rfl, Or.inl rfl⟩ | exact ⟨_, rfl, _, _, rfl, Or.inr rfl⟩ | exact ⟨_, rfl, _, _, rfl, b01 _⟩ | with_reducible exact and_mk (by first | with_reducible assumption | with_reducible exact dM_O (by with_reducible assumption) | with_reducible exact dD_O (by with_reducible assumption) | with_reducible exact dM_D (by with_reducible assumption) | assumption | exact dM_O (by assumption) | exact dD_O (by assumption) | exact dM_D (by assumption) | rfl) rfl | (intro h; first | with_reducible exact rno (s01 _) h | exact absurd h (by decide) | skip) | exact pst7 rfl | exact pst12 rfl | exact pyear | exact and_mk (by first | with_reducible assumption | with_reducible exact dM_O (by with_reducible assumption) | with_reducible exact dD_O (by with_reducible assumption) | with_reducible exact dM_D (by with_reducible assumption) | assumption | exact dM_O (by assumption) | exact dD_O (by assumption) | exact dM_D (by assumption) | rfl) rfl | assumption | exact qI | exact qB0 | exact qB1 | exact qBc | rfl)
  · refine ⟨[rR 0, rI true 1, rI true 0], fun _ => rfl, ?_⟩
    repeat' (first | with_reducible exact qL | with_reducible exact qI | with_reducible exact qB0 | with_reducible exact qB1 | with_reducible exact qBc | with_reducible exact pli | with_reducible exact pll | with_reducible exact pli' | with_reducible assumption | refine And.intro ?_ ?_ | exact ⟨_, rfl, _, _, rfl⟩ | exact ⟨_, rfl, _, _, rfl, Or.inl rfl⟩ | exact ⟨_, rfl, _, _, rfl, Or.inr rfl⟩ | exact ⟨_, rfl, _, _, rfl, b01 _⟩ | with_reducible exact and_mk (by first | with_reducible assumption | with_reducible exact dM_O (by with_reducible assumption) | with_reducible exact dD_O (by with_reducible assumption) | with_reducible exact dM_D (by with_reducible assumption) | assumption | exact dM_O (by assumption) | exact dD_O (by assumption) | exact dM_D (by assumption) | rfl) rfl | (intro h; first | with_reducible exact rno (s01 _) h | exact absurd h (by decide) | skip) | exact pst7 rfl | exact pst12 rfl | exact pyear | exact and_mk (by first | with_reducible assumption | with_reducible exact dM_O (by with_reducible assumption) | with_reducible exact dD_O (by with_reducible assumption) | with_reducible exact dM_D (by with_reducible assumption) | assumption | exact dM_O (by assumption) | exact dD_O (by assumption) | exact dM_D (by assumption) | rfl) rfl | assumption | exact qI | exact qB0 | exact qB1 | exact qBc | rfl)
  · refine ⟨[rR 0, rI true 1, rI true 1], fun _ => rfl, ?_⟩
    repeat' (first | with_reducible exact qL | with_reducible exact qI | with_reducible exact qB0 | with_reducible exact qB1 | with_reducible exact qBc | with_reducible exact pli | with_reducible exact pll | with_reducible exact pli' | with_reducible assumption | refine And.intro ?_ ?_ | exact ⟨_, rfl, _, _, rfl⟩ | exact ⟨_, rfl, _, _, rfl, Or.inl rfl⟩ | exact ⟨_, rfl, _, _, rfl, Or.inr rfl⟩ | exact ⟨_, rfl, _, _, rfl, b01 _⟩ | with_reducible exact and_mk (by first | with_reducible assumption | with_reducible exact dM_O (by with_reducible assumption) | with_reducible exact dD_O (by with_reducible assumption) | with_reducible exact dM_D (by with_reducible assumption) | assumption | exact dM_O (by assumption) | exact dD_O (by assumption) | exact dM_D (by assumption) | rfl) rfl | (intro h; first | with_reducible exact rno (s01 _) h | exact absurd h (by decide) | skip) | exact pst7 rfl | exact pst12 rfl | exact pyear | exact and_mk (by first | with_reducible assumption | with_reducible exact dM_O (by with_reducible assumption) | with_reducible exact dD_O (by with_reducible assumption) | with_reducible exact dM_D (by with_reducible assumption) | assumption | exact dM_O (by assumption) | exact dD_O (by assumption) | exact dM_D (by assumption) | rfl) rfl | assumption | exact qI | exact qB0 | exact qB1 | exact qBc | rfl)
  · refine ⟨[rR 0, rI true 2, rI true 0], fun _ => rfl, ?_⟩
    repeat' (first | with_reducible exact qL | with_reducible exact qI | with_reducible exact qB0 | with_reducible exact qB1 | with_reducible exact qBc | with_reducible exact pli | with_reducible exact pll | with_reducible exact pli' | with_reducible assumption | refine And.intro ?_ ?_ | exact ⟨_, rfl, _, _, rfl⟩ | exact ⟨_, rfl, _, _, rfl, Or.inl rfl⟩ | exact ⟨_, rfl, _, _, rfl, Or.inr rfl⟩ | exact ⟨_, rfl, _, _, rfl, b01 _⟩ | with_reducible exact and_mk (by first | with_reducible assumption | with_reducible exact dM_O (by with_reducible assumption) | with_reducible exact dD_O (by with_reducible assumption) | with_reducible exact dM_D (by with_reducible assumption) | assumption | exact dM_O (by assumption) | exact dD_O (by assumption) | exact dM_D (by assumption) | rfl) rfl | (intro h; first | with_reducible exact rno (s01 _) h | exact absurd h (by decide) | skip) | exact pst7 rfl | exact pst12 rfl | exact pyear | exact and_mk (by first | with_reducible assumption | with_reducible exact dM_O (by with_reducible assumption) | with_reducible exact dD_O (by with_reducible assumption) | with_reducible exact dM_D (by with_reducible assumption) | assumption | exact dM_O (by assumption) | exact dD_O (by assumption) | exact dM_D (by assumption) | rfl) rfl | assumption | exact qI | exact qB0 | exact qB1 | exact qBc | rfl)
  · refine ⟨[rR 0, rI true 2, rI true 1], fun _ => rfl, ?_⟩
    repeat' (first | with_reducible exact qL | with_reducible exact qI | with_reducible exact qB0 | with_reducible exact qB1 | with_reducible exact qBc | with_reducible exact pli | with_reducible exact pll | with_reducible exact pli' | with_reducible assumption | refine And.intro ?_ ?_ | exact ⟨_, rfl, _, _, rfl⟩ | exact ⟨_, rfl, _, _, rfl, Or.inl rfl⟩ | exact ⟨_, rfl, _, _, rfl, Or.inr rfl⟩ | exact ⟨_, rfl, _, _, rfl, b01 _⟩ | with_reducible exact and_mk (by first | with_reducible assumption | with_reducible exact dM_O (by with_reducible assumption) | with_reducible exact dD_O (by with_reducible assumption) | with_reducible exact dM_D (by with_reducible assumption) | assumption | exact dM_O (by assumption) | exact dD_O (by assumption) | exact dM_D (by assumption) | rfl) rfl | (intro h; first | with_reducible exact rno (s01 _) h | exact absurd h (by decide) | skip) | exact pst7 rfl | exact pst12 rfl | exact pyear | exact and_mk (by first | with_reducible assumption | with_reducible exact dM_O (by with_reducible assumption) | with_reducible exact dD_O (by with_reducible assumption) | with_reducible exact dM_D (by with_reducible assumption) | assumption | exact dM_O (by assumption) | exact dD_O (by assumption) | exact dM_D (by assumption) | rfl) rfl | assumption | exact qI | exact qB0 | exact qB1 | exact qBc | rfl)
  · refine ⟨[rR 0, rI true 3, rI true 0], fun _ => rfl, ?_⟩
    repeat' (first | with_reducible exact qL | with_reducible exact qI | with_reducible exact qB0 | with_reducible exact qB1 | with_reducible exact qBc | with_reducible exact pli | with_reducible exact pll | with_reducible exact pli' | with_reducible assumption | refine And.intro ?_ ?_ | exact ⟨_, rfl, _, _, rfl⟩ | exact ⟨_, rfl, _, _, rfl, Or.inl rfl⟩ | exact ⟨_, rfl, _, _, rfl, Or.inr rfl⟩ | exact ⟨_, rfl, _, _, rfl, b01 _⟩ | with_reducible exact and_mk (by first | with_reducible assumption | with_reducible exact dM_O (by with_reducible assumption) | with_reducible exact dD_O (by with_reducible assumption) | with_reducible exact dM_D (by with_reducible assumption) | assumption | exact dM_O (by assumption) | exact dD_O (by assumption) | exact dM_D (by assumption) | rfl) rfl | (intro h; first | with_reducible exact rno (s01 _) h | exact absurd h (by decide) | skip) | exact pst7 rfl | exact pst12 rfl | exact pyear | exact and_mk (by first | with_reducible assumption | with_reducible exact dM_O (by with_reducible assumption) | with_reducible exact dD_O (by with_reducible assumption) | with_reducible exact dM_D (by with_reducible assumption) | assumption | exact dM_O (by assumption) | exact dD_O (by assumption) | exact dM_D (by assumption) | rfl) rfl | assumption | exact qI | exact qB0 | exact qB1 | exact qBc | rfl)
  · refine ⟨[rR 0, rI true 3, rI true 1], fun _ => rfl, ?_⟩
    repeat' (first | with_reducible exact qL | with_reducible exact qI | with_reducible exact qB0 | with_reducible exact qB1 | with_reducible exact qBc | with_reducible exact pli | with_reducible exact pll | with_reducible exact pli' | with_reducible assumption | refine And.intro ?_ ?_ | exact ⟨_, rfl, _, _, rfl⟩ | exact ⟨_, rfl, _, _, rfl, Or.inl rfl⟩ | exact ⟨_, rfl, _, _, rfl, Or.inr rfl⟩ | exact ⟨_, rfl, _, _, rfl, b01 _⟩ | with_reducible exact and_mk (by first | with_reducible assumption | with_reducible exact dM_O (by with_reducible assumption) | with_reducible exact dD_O (by with_reducible assumption) | with_reducible exact dM_D (by with_reducible assumption) | assumption | exact dM_O (by assumption) | exact dD_O (by assumption) | exact dM_D (by assumption) | rfl) rfl | (intro h; first | with_reducible exact rno (s01 _) h | exact absurd h (by decide) | skip) | exact pst7 rfl | exact pst12 rfl | exact pyear | exact and_mk (by first | with_reducible assumption | with_reducible exact dM_O (by with_reducible assumption) | with_reducible exact dD_O (by with_reducible assumption) | with_reducible exact dM_D (by with_reducible assumption) | assumption | exact dM_O (by assumption) | exact dD_O (by assumption) | exact dM_D (by assumption) | rfl) rfl | assumption | exact qI | exact qB0 | exact qB1 | exact qBc | rfl)
def ps_c_areCellsSoundW : List Nat := [0, 1, 2, 3, 4, 7, 8, 9, 10, 13, 14, 17, 18, 19, 20, 22, 25, 28, 29, 30, 31, 34, 35, 38, 39, 40, 43, 45, 48, 51, 52, 55, 56, 57, 58, 61, 62, 63, 66, 69, 70]
def tb_c_areCellsSoundW : List RT := [tq_ic 0, tq_is 3 1, tq_il 1, tq_ic 4, tq_if2 (fun x y => decide (y ≤ x)) 39, tq_al 0, tq_il 1, tq_ic 0, tq_call (rV 0 (sAnyI pYear)) 3 2 16, tq_al 0, tq_getf 0 0, tq_il 1, tq_iald 0, tq_lc 1, tq_ic 7, tq_call s_c_numberOnW 3 0 16, tq_if2 (fun x y => !decide (x = y)) 31, tq_al 0, tq_il 1, tq_ic 1, tq_call (rV 0 (sAnyI pYear)) 3 2 16, tq_al 0, tq_getf 0 0, tq_il 1, tq_iald 0, tq_lc 2, tq_ic 7, tq_call s_c_numberOnW 3 0 16, tq_s2 (fun x y => !decide (x = y)) 1 0 32, tq_ic 1, tq_go 32, tq_ic 0, tq_is 3 2, tq_il 2, tq_if1 (fun x => !decide (x = 0)) 37, tq_ic 0, tq_zret 16, tq_inc 3 1 1, tq_go 2, tq_ic 1, tq_zret 16]
def m_c_areCellsSoundW : RM := rMeth tb_c_areCellsSoundW 400 3
abbrev rm_c_areCellsSoundW : Room := { frames := 8, cells := 16, slots := 192, locals := 136 }
set_option maxHeartbeats 4000000 in
set_option maxRecDepth 20000 in
theorem ok_c_areCellsSoundW : rMet y_c_areCellsSound (Cond.code y_c_areCellsSound prog_1_method_86_code 3 (some .boolean) :: rT) rm_c_areCellsSoundW 16 m_c_areCellsSoundW := by
  refine rMeth_ok (ps := ps_c_areCellsSoundW) (tab := tb_c_areCellsSoundW) (by decide +kernel) rfl rfl rfl rfl ?_
  refine rcons (ro_iconst (n := 0) (by decide +kernel) rfl rfl) ?_
  refine rcons (ro_istore_n (k := 1) rfl (by decide +kernel) rfl) ?_
  refine rcons (ro_iload_n (k := 1) rfl (by decide +kernel) rfl) ?_
  refine rcons (ro_iconst (n := 4) (by decide +kernel) rfl rfl) ?_
  refine rcons (ro_icmp_ge (off := 65) (by decide +kernel) rfl rfl) ?_
  refine rcons (ro_aload_n (k := 0) rfl (by decide +kernel) rfl) ?_
  refine rcons (ro_iload_n (k := 1) rfl (by decide +kernel) rfl) ?_
  refine rcons (ro_iconst (n := 0) (by decide +kernel) rfl rfl) ?_
  refine rcons (ro_callV (C := rN0) (T := rF0) (N := 7) rfl okW_c_dayAfterYear (by decide +kernel) rfl (fun s args ht => cwV (C := rN0) 2 ht (rgoodV (C := rN0) (fun w h => List.mem_cons_of_mem _ h) q_494 q_496 q_2 q_13 q_497) rfl rfl rfl hv_c_dayAfterYear ⟨Nat.le_of_ble_eq_true rfl, Nat.le_of_ble_eq_true rfl⟩) rfl) ?_
  refine rcons (ro_aload_n (k := 0) rfl (by decide +kernel) rfl) ?_
  refine rcons (ro_getf (C := rN0) (T := rF0) (N := 7) (k := 0) (by decide +kernel) rfl (rU0c _) (by decide) (List.mem_cons_of_mem _ q_43) rfl) ?_
  refine rcons (ro_iload_n (k := 1) rfl (by decide +kernel) rfl) ?_
  refine rcons (ro_iald (by decide +kernel) rfl) ?_
  refine rcons (ro_lconst (n := 1) (by decide +kernel) rfl rfl) ?_
  refine rcons (ro_bipush (n := 7) (by decide +kernel) rfl rfl) ?_
  refine rcons (ro_callS okW_c_numberOn (by decide +kernel) rfl (fun s args ht => va_cwS 3 ht (rgoodS (fun w h => List.mem_cons_of_mem _ h) q_445 q_446 q_13 q_447) rfl rfl rfl hy_c_numberOn ⟨Nat.le_of_ble_eq_true rfl, Nat.le_of_ble_eq_true rfl⟩) rfl) ?_
  refine rcons (ro_icmp_ne (off := 30) (by decide +kernel) rfl rfl) ?_
  refine rcons (ro_aload_n (k := 0) rfl (by decide +kernel) rfl) ?_
  refine rcons (ro_iload_n (k := 1) rfl (by decide +kernel) rfl) ?_
  refine rcons (ro_iconst (n := 1) (by decide +kernel) rfl rfl) ?_
  refine rcons (ro_callV (C := rN0) (T := rF0) (N := 7) rfl okW_c_dayAfterYear (by decide +kernel) rfl (fun s args ht => cwV (C := rN0) 2 ht (rgoodV (C := rN0) (fun w h => List.mem_cons_of_mem _ h) q_494 q_496 q_2 q_13 q_497) rfl rfl rfl hv_c_dayAfterYear ⟨Nat.le_of_ble_eq_true rfl, Nat.le_of_ble_eq_true rfl⟩) rfl) ?_
  refine rcons (ro_aload_n (k := 0) rfl (by decide +kernel) rfl) ?_
  refine rcons (ro_getf (C := rN0) (T := rF0) (N := 7) (k := 0) (by decide +kernel) rfl (rU0c _) (by decide) (List.mem_cons_of_mem _ q_43) rfl) ?_
  refine rcons (ro_iload_n (k := 1) rfl (by decide +kernel) rfl) ?_
  refine rcons (ro_iald (by decide +kernel) rfl) ?_
  refine rcons (ro_ldc2 (by decide +kernel) (List.mem_cons_of_mem _ q_517) rfl) ?_
  refine rcons (ro_bipush (n := 7) (by decide +kernel) rfl rfl) ?_
  refine rcons (ro_callS okW_c_numberOn (by decide +kernel) rfl (fun s args ht => va_cwS 3 ht (rgoodS (fun w h => List.mem_cons_of_mem _ h) q_445 q_446 q_13 q_447) rfl rfl rfl hy_c_numberOn ⟨Nat.le_of_ble_eq_true rfl, Nat.le_of_ble_eq_true rfl⟩) rfl) ?_
  refine rcons (ro_s2_ne (off := 7) (off2 := 4) (n1 := 1) (n2 := 0) (by decide +kernel) (by decide +kernel) rfl (by decide +kernel) (by decide +kernel) rfl rfl rfl rfl) ?_
  refine rcons (ro_iconst (n := 1) (by decide +kernel) rfl rfl) ?_
  refine rcons (ro_goto (off := 4) (by decide +kernel) rfl) ?_
  refine rcons (ro_iconst (n := 0) (by decide +kernel) rfl rfl) ?_
  refine rcons (ro_istore_n (k := 2) rfl (by decide +kernel) rfl) ?_
  refine rcons (ro_iload_n (k := 2) rfl (by decide +kernel) rfl) ?_
  refine rcons (ro_if_ne (off := 5) (by decide +kernel) rfl rfl) ?_
  refine rcons (ro_iconst (n := 0) (by decide +kernel) rfl rfl) ?_
  refine rcons (ro_zret (by decide +kernel)) ?_
  refine rcons (ro_iinc (by decide +kernel) rfl) ?_
  refine rcons (ro_goto (off := (-64)) (by decide +kernel) rfl) ?_
  refine rcons (ro_iconst (n := 1) (by decide +kernel) rfl rfl) ?_
  refine rcons (ro_zret (by decide +kernel)) ?_
  exact rnil
theorem pyear' {P : PW} {c b : Int32} (hp : dom4 P 0 1) (hc : c = 0 ∨ c = 1 ∨ c = 2 ∨ c = 3) (hb : b = 0 ∨ b = 1) : pYear [rR 0, rI true c, rI true b] (CWP P) := ⟨⟨c, b, rfl, hc, hb⟩, P, rfl, hp⟩
set_option maxHeartbeats 4000000 in
set_option maxRecDepth 20000 in
theorem okW_c_areCellsSound : rMet y_c_areCellsSound (Cond.code y_c_areCellsSound prog_1_method_86_code 3 (some .boolean) :: rT) rm_c_areCellsSoundW 16 (sAnyB pThis) := by
  refine any_B ok_c_areCellsSoundW (fun as σ h => ?_)
  obtain ⟨rfl, P, rfl, hp⟩ := h
  obtain ⟨⟨d0, d1, d2, d3⟩, m0, m1, m2, m3⟩ := id hp
  refine ⟨[rR 0], fun _ => rfl, ?_⟩
  repeat' (first | with_reducible exact qL | with_reducible exact qI | with_reducible exact qB0 | with_reducible exact qB1 | with_reducible exact qBc | with_reducible exact pli | with_reducible exact pll | with_reducible exact pli' | with_reducible assumption | refine And.intro ?_ ?_ | exact ⟨P, rfl, hp⟩ | exact ⟨_, _, rfl, by decide, by decide⟩ | exact ⟨_, rfl, _, _, rfl⟩ | exact ⟨_, rfl, _, _, rfl, Or.inl rfl⟩ | exact ⟨_, rfl, _, _, rfl, Or.inr rfl⟩ | exact ⟨_, rfl, _, _, rfl, b01 _⟩ | with_reducible exact and_mk (by first | with_reducible assumption | with_reducible exact dM_O (by with_reducible assumption) | with_reducible exact dD_O (by with_reducible assumption) | with_reducible exact dM_D (by with_reducible assumption) | assumption | exact dM_O (by assumption) | exact dD_O (by assumption) | exact dM_D (by assumption) | rfl) rfl | (intro h; first | with_reducible exact rno (s01 _) h | exact absurd h (by decide) | skip) | exact pst7 rfl | exact pst12 rfl | exact and_mk (by first | with_reducible assumption | with_reducible exact dM_O (by with_reducible assumption) | with_reducible exact dD_O (by with_reducible assumption) | with_reducible exact dM_D (by with_reducible assumption) | assumption | exact dM_O (by assumption) | exact dD_O (by assumption) | exact dM_D (by assumption) | rfl) rfl | assumption | exact qI | exact qB0 | exact qB1 | exact qBc | rfl)
def ps_c_isSoundW : List Nat := [0, 2, 5, 8, 10, 13, 16, 19, 22, 23, 26, 29, 30, 33, 34]
def tb_c_isSoundW : List RT := [tq_ic 7, tq_call (sAnyB pSz) 1 0 16, tq_if1 (fun x => decide (x = 0)) 13, tq_ic 12, tq_call (sAnyB pSz) 1 0 16, tq_if1 (fun x => decide (x = 0)) 13, tq_call (sAnyB pNil) 0 0 16, tq_if1 (fun x => decide (x = 0)) 13, tq_al 0, tq_call (rV 0 (sAnyB pThis)) 1 16 16, tq_s1 (fun x => decide (x = 0)) 1 0 14, tq_ic 1, tq_go 14, tq_ic 0, tq_zret 16]
def m_c_isSoundW : RM := rMeth tb_c_isSoundW 400 1
abbrev rm_c_isSoundW : Room := { frames := 9, cells := 16, slots := 192, locals := 158 }
set_option maxHeartbeats 4000000 in
set_option maxRecDepth 20000 in
theorem ok_c_isSoundW : rMet y_c_isSound (Cond.code y_c_isSound prog_1_method_54_code 1 (some .boolean) :: rT) rm_c_isSoundW 16 m_c_isSoundW := by
  refine rMeth_ok (ps := ps_c_isSoundW) (tab := tb_c_isSoundW) (by decide +kernel) rfl rfl rfl rfl ?_
  refine rcons (ro_bipush (n := 7) (by decide +kernel) rfl rfl) ?_
  refine rcons (ro_callS okW_c_isRingSound (by decide +kernel) rfl (fun s args ht => va_cwS 1 ht (rgoodS (fun w h => List.mem_cons_of_mem _ h) q_442 q_443 q_13 q_444) rfl rfl rfl hy_c_isRingSound ⟨Nat.le_of_ble_eq_true rfl, Nat.le_of_ble_eq_true rfl⟩) rfl) ?_
  refine rcons (ro_if_eq (off := 28) (by decide +kernel) rfl rfl) ?_
  refine rcons (ro_bipush (n := 12) (by decide +kernel) rfl rfl) ?_
  refine rcons (ro_callS okW_c_isRingSound (by decide +kernel) rfl (fun s args ht => va_cwS 1 ht (rgoodS (fun w h => List.mem_cons_of_mem _ h) q_442 q_443 q_13 q_444) rfl rfl rfl hy_c_isRingSound ⟨Nat.le_of_ble_eq_true rfl, Nat.le_of_ble_eq_true rfl⟩) rfl) ?_
  refine rcons (ro_if_eq (off := 20) (by decide +kernel) rfl rfl) ?_
  refine rcons (ro_callS okW_c_areMonthsSound (by decide +kernel) rfl (fun s args ht => va_cwS 0 ht (rgoodS (fun w h => List.mem_cons_of_mem _ h) q_463 q_464 q_13 q_465) rfl rfl rfl hy_c_areMonthsSound ⟨Nat.le_of_ble_eq_true rfl, Nat.le_of_ble_eq_true rfl⟩) rfl) ?_
  refine rcons (ro_if_eq (off := 14) (by decide +kernel) rfl rfl) ?_
  refine rcons (ro_aload_n (k := 0) rfl (by decide +kernel) rfl) ?_
  refine rcons (ro_callV (C := rN0) (T := rF0) (N := 7) rfl okW_c_areCellsSound (by decide +kernel) rfl (fun s args ht => cwV (C := rN0) 0 ht (rgoodV (C := rN0) (fun w h => List.mem_cons_of_mem _ h) q_490 q_492 q_1 q_13 q_493) rfl rfl rfl hv_c_areCellsSound ⟨Nat.le_of_ble_eq_true rfl, Nat.le_of_ble_eq_true rfl⟩) rfl) ?_
  refine rcons (ro_s1_eq (off := 7) (off2 := 4) (n1 := 1) (n2 := 0) (by decide +kernel) (by decide +kernel) rfl (by decide +kernel) (by decide +kernel) rfl rfl rfl rfl) ?_
  refine rcons (ro_iconst (n := 1) (by decide +kernel) rfl rfl) ?_
  refine rcons (ro_goto (off := 4) (by decide +kernel) rfl) ?_
  refine rcons (ro_iconst (n := 0) (by decide +kernel) rfl rfl) ?_
  refine rcons (ro_zret (by decide +kernel)) ?_
  exact rnil
set_option maxHeartbeats 4000000 in
set_option maxRecDepth 20000 in
theorem okW_c_isSound : rMet y_c_isSound (Cond.code y_c_isSound prog_1_method_54_code 1 (some .boolean) :: rT) rm_c_isSoundW 16 (sAnyB pThis) := by
  refine any_B ok_c_isSoundW (fun as σ h => ?_)
  obtain ⟨rfl, P, rfl, hp⟩ := h
  refine ⟨[rR 0], fun _ => rfl, ?_⟩
  have hp2 : pThis [rR 0] (CWP P) := ⟨rfl, P, rfl, hp⟩
  have hr7 : pSz [rI true 7] (CWP P) := Or.inl rfl
  have hr12 : pSz [rI true 12] (CWP P) := Or.inr rfl
  have hnil : pNil [] (CWP P) := rfl
  repeat' (first | exact hp2 | exact hr7 | exact hr12 | exact hnil | exact qB0 | exact qB1 | refine And.intro ?_ ?_ | exact ⟨_, rfl, _, _, rfl, Or.inl rfl⟩ | exact ⟨_, rfl, _, _, rfl, Or.inr rfl⟩ | exact ⟨_, rfl, _, _, rfl, b01 _⟩ | (intro h; first | with_reducible exact rno (s01 _) h | skip) | rfl)
end RKM
