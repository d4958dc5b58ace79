section RKM
def ps_c_numberIn : List Nat := [0, 1, 4, 5, 6, 9, 12, 13, 15, 18, 19, 20, 21, 22]
def tb_c_numberIn : List RT := [tq_il 1, tq_if1 (fun x => decide (x < 0)) 5, tq_il 1, tq_ic 4, tq_if2 (fun x y => decide (x < y)) 10, tq_thr 0 1, tq_bad, tq_bad, tq_bad, tq_bad, tq_al 0, tq_il 1, tq_iald 0, tq_iret 1]
def m_c_numberIn : RM := rMeth tb_c_numberIn 400 2
abbrev rm_c_numberIn : Room := { frames := 6, cells := 1, slots := 12, locals := 90 }
set_option maxHeartbeats 4000000 in
set_option maxRecDepth 20000 in
theorem ok_c_numberIn : rMet y_c_numberIn (Cond.code y_c_numberIn prog_1_method_56_code 2 (some .int) :: rT) rm_c_numberIn 1 m_c_numberIn := by
  refine rMeth_ok (ps := ps_c_numberIn) (tab := tb_c_numberIn) (by decide +kernel) rfl rfl rfl rfl ?_
  refine rcons (ro_iload_n (k := 1) rfl (by decide +kernel) rfl) ?_
  refine rcons (ro_if_lt (off := 8) (by decide +kernel) rfl rfl) ?_
  refine rcons (ro_iload_n (k := 1) rfl (by decide +kernel) rfl) ?_
  refine rcons (ro_iconst (n := 4) (by decide +kernel) rfl rfl) ?_
  refine rcons (ro_icmp_lt (off := 13) (by decide +kernel) rfl rfl) ?_
  refine rcons (ro_thr (k := 20) (by decide +kernel) (by decide +kernel) (by decide +kernel) (by decide +kernel) (by decide +kernel) rfl (List.mem_cons_of_mem _ q_501) (List.mem_cons_of_mem _ q_19) (by decide +kernel) (rcm rtg_c154_0) rtb_c154_0 rto_150_c154_0 (by decide) rfl (by decide) (by decide)) ?_
  refine rcons (ro_bad) ?_
  refine rcons (ro_bad) ?_
  refine rcons (ro_bad) ?_
  refine rcons (ro_bad) ?_
  refine rcons (ro_aload_n (k := 0) rfl (by decide +kernel) rfl) ?_
  refine rcons (ro_iload_n (k := 1) rfl (by decide +kernel) rfl) ?_
  refine rcons (ro_iald (by decide +kernel) rfl) ?_
  refine rcons (ro_iret (by decide +kernel)) ?_
  exact rnil
def ps_c_refuseOutside : List Nat := [0, 1, 2, 5, 6, 7, 10, 13, 14, 16, 19, 20]
def tb_c_refuseOutside : List RT := [tq_il 0, tq_ic 1, tq_if2 (fun x y => decide (x < y)) 6, tq_il 0, tq_il 1, tq_if2 (fun x y => decide (x ≤ y)) 11, tq_thr 1 1, tq_bad, tq_bad, tq_bad, tq_bad, tq_vret 1]
def m_c_refuseOutside : RM := rMeth tb_c_refuseOutside 400 2
abbrev rm_c_refuseOutside : Room := { frames := 6, cells := 1, slots := 12, locals := 90 }
set_option maxHeartbeats 4000000 in
set_option maxRecDepth 20000 in
theorem ok_c_refuseOutside : rMet y_c_refuseOutside (Cond.code y_c_refuseOutside prog_1_method_64_code 2 none :: rT) rm_c_refuseOutside 1 m_c_refuseOutside := by
  refine rMeth_ok (ps := ps_c_refuseOutside) (tab := tb_c_refuseOutside) (by decide +kernel) rfl rfl rfl rfl ?_
  refine rcons (ro_iload_n (k := 0) rfl (by decide +kernel) rfl) ?_
  refine rcons (ro_iconst (n := 1) (by decide +kernel) rfl rfl) ?_
  refine rcons (ro_icmp_lt (off := 8) (by decide +kernel) rfl rfl) ?_
  refine rcons (ro_iload_n (k := 0) rfl (by decide +kernel) rfl) ?_
  refine rcons (ro_iload_n (k := 1) rfl (by decide +kernel) rfl) ?_
  refine rcons (ro_icmp_le (off := 13) (by decide +kernel) rfl rfl) ?_
  refine rcons (ro_thr (k := 22) (by decide +kernel) (by decide +kernel) (by decide +kernel) (by decide +kernel) (by decide +kernel) rfl (List.mem_cons_of_mem _ q_599) (List.mem_cons_of_mem _ q_20) (by decide +kernel) (rcm rtg_c215_1) rtb_c215_1 rto_211_c215_1 (by decide) rfl (by decide) (by decide)) ?_
  refine rcons (ro_bad) ?_
  refine rcons (ro_bad) ?_
  refine rcons (ro_bad) ?_
  refine rcons (ro_bad) ?_
  refine rcons (ro_vret (by decide +kernel)) ?_
  exact rnil
def ps_c_write : List Nat := [0, 1, 4, 5, 6, 9, 12, 13, 15, 18, 19, 20, 21, 22, 23]
def tb_c_write : List RT := [tq_il 1, tq_if1 (fun x => decide (x < 0)) 5, tq_il 1, tq_ic 4, tq_if2 (fun x y => decide (x < y)) 10, tq_thr 0 1, tq_bad, tq_bad, tq_bad, tq_bad, tq_al 0, tq_il 1, tq_il 2, tq_iast 0, tq_vret 1]
def m_c_write : RM := rMeth tb_c_write 400 3
abbrev rm_c_write : Room := { frames := 6, cells := 1, slots := 12, locals := 90 }
set_option maxHeartbeats 4000000 in
set_option maxRecDepth 20000 in
theorem ok_c_write : rMet y_c_write (Cond.code y_c_write prog_1_method_57_code 3 none :: rT) rm_c_write 1 m_c_write := by
  refine rMeth_ok (ps := ps_c_write) (tab := tb_c_write) (by decide +kernel) rfl rfl rfl rfl ?_
  refine rcons (ro_iload_n (k := 1) rfl (by decide +kernel) rfl) ?_
  refine rcons (ro_if_lt (off := 8) (by decide +kernel) rfl rfl) ?_
  refine rcons (ro_iload_n (k := 1) rfl (by decide +kernel) rfl) ?_
  refine rcons (ro_iconst (n := 4) (by decide +kernel) rfl rfl) ?_
  refine rcons (ro_icmp_lt (off := 13) (by decide +kernel) rfl rfl) ?_
  refine rcons (ro_thr (k := 20) (by decide +kernel) (by decide +kernel) (by decide +kernel) (by decide +kernel) (by decide +kernel) rfl (List.mem_cons_of_mem _ q_501) (List.mem_cons_of_mem _ q_19) (by decide +kernel) (rcm rtg_c154_0) rtb_c154_0 rto_150_c154_0 (by decide) rfl (by decide) (by decide)) ?_
  refine rcons (ro_bad) ?_
  refine rcons (ro_bad) ?_
  refine rcons (ro_bad) ?_
  refine rcons (ro_bad) ?_
  refine rcons (ro_aload_n (k := 0) rfl (by decide +kernel) rfl) ?_
  refine rcons (ro_iload_n (k := 1) rfl (by decide +kernel) rfl) ?_
  refine rcons (ro_iload_n (k := 2) rfl (by decide +kernel) rfl) ?_
  refine rcons (ro_iast (by decide +kernel) rfl) ?_
  refine rcons (ro_vret (by decide +kernel)) ?_
  exact rnil
def ps_c_become : List Nat := [0, 1, 2, 3, 6, 7, 8, 11, 12, 13, 16, 17]
def tb_c_become : List RT := [tq_al 1, tq_il 2, tq_il 3, tq_call m_c_write 3 1 1, tq_al 0, tq_dup, tq_getf 0 5, tq_ic 1, tq_i2 (fun x y => x + y), tq_putf 0 5 0, tq_il 3, tq_iret 1]
def m_c_become : RM := rMeth tb_c_become 400 4
abbrev rm_c_become : Room := { frames := 7, cells := 1, slots := 12, locals := 112 }
set_option maxHeartbeats 4000000 in
set_option maxRecDepth 20000 in
theorem ok_c_become : rMet y_c_become (Cond.code y_c_become prog_1_method_58_code 4 (some .int) :: rT) rm_c_become 1 m_c_become := by
  refine rMeth_ok (ps := ps_c_become) (tab := tb_c_become) (by decide +kernel) rfl rfl rfl rfl ?_
  refine rcons (ro_aload_n (k := 1) rfl (by decide +kernel) rfl) ?_
  refine rcons (ro_iload_n (k := 2) rfl (by decide +kernel) rfl) ?_
  refine rcons (ro_iload_n (k := 3) rfl (by decide +kernel) rfl) ?_
  refine rcons (ro_callS ok_c_write (by decide +kernel) rfl (fun s args ht => va_cwS 3 ht (rgoodS (fun w h => List.mem_cons_of_mem _ h) q_606 q_607 q_13 q_608) rfl rfl rfl hy_c_write ⟨Nat.le_of_ble_eq_true rfl, Nat.le_of_ble_eq_true rfl⟩) rfl) ?_
  refine rcons (ro_aload_n (k := 0) rfl (by decide +kernel) rfl) ?_
  refine rcons (ro_dup (by decide +kernel) rfl) ?_
  refine rcons (ro_getf (C := rN0) (T := rF0) (N := 7) (k := 5) (by decide +kernel) rfl (rU0c _) (by decide) (List.mem_cons_of_mem _ q_48) rfl) ?_
  refine rcons (ro_iconst (n := 1) (by decide +kernel) rfl rfl) ?_
  refine rcons (ro_iadd (by decide +kernel) rfl) ?_
  refine rcons (ro_putf (C := rN0) (T := rF0) (N := 7) (k := 5) (Y := rY0) (by decide +kernel) rfl (rU0c _) rY0_ok rD0 (by decide) (List.mem_cons_of_mem _ q_48) rfl (Or.inl ⟨rfl, rfl⟩) rfl) ?_
  refine rcons (ro_iload_n (k := 3) rfl (by decide +kernel) rfl) ?_
  refine rcons (ro_iret (by decide +kernel)) ?_
  exact rnil
def ps_c_exchange : List Nat := [0, 1, 2, 5, 7, 8, 10, 13, 14, 15, 16, 17, 20, 21, 23]
def tb_c_exchange : List RT := [tq_al 1, tq_il 2, tq_call m_c_numberIn 2 1 3, tq_is 6 5, tq_il 3, tq_il 4, tq_call m_c_refuseOutside 2 1 3, tq_al 0, tq_al 1, tq_il 2, tq_il 3, tq_call (rV 0 m_c_become) 4 1 3, tq_pop, tq_il 5, tq_iret 3]
def m_c_exchange : RM := rMeth tb_c_exchange 400 6
abbrev rm_c_exchange : Room := { frames := 8, cells := 3, slots := 36, locals := 135 }
set_option maxHeartbeats 4000000 in
set_option maxRecDepth 20000 in
theorem ok_c_exchange : rMet y_c_exchange (Cond.code y_c_exchange prog_1_method_60_code 6 (some .int) :: rT) rm_c_exchange 3 m_c_exchange := by
  refine rMeth_ok (ps := ps_c_exchange) (tab := tb_c_exchange) (by decide +kernel) rfl rfl rfl rfl ?_
  refine rcons (ro_aload_n (k := 1) rfl (by decide +kernel) rfl) ?_
  refine rcons (ro_iload_n (k := 2) rfl (by decide +kernel) rfl) ?_
  refine rcons (ro_callS ok_c_numberIn (by decide +kernel) rfl (fun s args ht => va_cwS 2 ht (rgoodS (fun w h => List.mem_cons_of_mem _ h) q_498 q_499 q_13 q_500) rfl rfl rfl hy_c_numberIn ⟨Nat.le_of_ble_eq_true rfl, Nat.le_of_ble_eq_true rfl⟩) rfl) ?_
  refine rcons (ro_istore (by decide +kernel) rfl) ?_
  refine rcons (ro_iload_n (k := 3) rfl (by decide +kernel) rfl) ?_
  refine rcons (ro_iload (by decide +kernel) rfl) ?_
  refine rcons (ro_callS ok_c_refuseOutside (by decide +kernel) rfl (fun s args ht => va_cwS 2 ht (rgoodS (fun w h => List.mem_cons_of_mem _ h) q_596 q_597 q_13 q_598) rfl rfl rfl hy_c_refuseOutside ⟨Nat.le_of_ble_eq_true rfl, Nat.le_of_ble_eq_true rfl⟩) rfl) ?_
  refine rcons (ro_aload_n (k := 0) rfl (by decide +kernel) rfl) ?_
  refine rcons (ro_aload_n (k := 1) rfl (by decide +kernel) rfl) ?_
  refine rcons (ro_iload_n (k := 2) rfl (by decide +kernel) rfl) ?_
  refine rcons (ro_iload_n (k := 3) rfl (by decide +kernel) rfl) ?_
  refine rcons (ro_callV (C := rN0) (T := rF0) (N := 7) rfl ok_c_become (by decide +kernel) rfl (fun s args ht => cwV (C := rN0) 3 ht (rgoodV (C := rN0) (fun w h => List.mem_cons_of_mem _ h) q_602 q_604 q_4 q_13 q_605) rfl rfl rfl hv_c_become ⟨Nat.le_of_ble_eq_true rfl, Nat.le_of_ble_eq_true rfl⟩) rfl) ?_
  refine rcons (ro_pop (by decide +kernel) rfl) ?_
  refine rcons (ro_iload (by decide +kernel) rfl) ?_
  refine rcons (ro_iret (by decide +kernel)) ?_
  exact rnil
def ps_c_day : List Nat := [0, 1, 2, 5, 6, 7, 9, 12]
def tb_c_day : List RT := [tq_al 0, tq_al 0, tq_getf 0 0, tq_il 1, tq_il 2, tq_ic 7, tq_call (rV 0 m_c_exchange) 5 3 3, tq_iret 3]
def m_c_day : RM := rMeth tb_c_day 400 3
abbrev rm_c_day : Room := { frames := 9, cells := 3, slots := 36, locals := 160 }
set_option maxHeartbeats 4000000 in
set_option maxRecDepth 20000 in
theorem ok_c_day : rMet y_c_day (Cond.code y_c_day prog_1_method_2_code 3 (some .int) :: rT) rm_c_day 3 m_c_day := by
  refine rMeth_ok (ps := ps_c_day) (tab := tb_c_day) (by decide +kernel) rfl rfl rfl rfl ?_
  refine rcons (ro_aload_n (k := 0) rfl (by decide +kernel) rfl) ?_
  refine rcons (ro_aload_n (k := 0) rfl (by decide +kernel) rfl) ?_
  refine rcons (ro_getf (C := rN0) (T := rF0) (N := 7) (k := 0) (by decide +kernel) rfl (rU0c _) (by decide) (List.mem_cons_of_mem _ q_43) rfl) ?_
  refine rcons (ro_iload_n (k := 1) rfl (by decide +kernel) rfl) ?_
  refine rcons (ro_iload_n (k := 2) rfl (by decide +kernel) rfl) ?_
  refine rcons (ro_bipush (n := 7) (by decide +kernel) rfl rfl) ?_
  refine rcons (ro_callV (C := rN0) (T := rF0) (N := 7) rfl ok_c_exchange (by decide +kernel) rfl (fun s args ht => cwV (C := rN0) 4 ht (rgoodV (C := rN0) (fun w h => List.mem_cons_of_mem _ h) q_592 q_594 q_3 q_13 q_595) rfl rfl rfl hv_c_exchange ⟨Nat.le_of_ble_eq_true rfl, Nat.le_of_ble_eq_true rfl⟩) rfl) ?_
  refine rcons (ro_iret (by decide +kernel)) ?_
  exact rnil
def ps_c_dayNumber : List Nat := [0, 1, 4, 5, 8]
def tb_c_dayNumber : List RT := [tq_al 0, tq_getf 0 0, tq_il 1, tq_call m_c_numberIn 2 1 1, tq_iret 1]
def m_c_dayNumber : RM := rMeth tb_c_dayNumber 400 2
abbrev rm_c_dayNumber : Room := { frames := 7, cells := 1, slots := 12, locals := 111 }
set_option maxHeartbeats 4000000 in
set_option maxRecDepth 20000 in
theorem ok_c_dayNumber : rMet y_c_dayNumber (Cond.code y_c_dayNumber prog_1_method_3_code 2 (some .int) :: rT) rm_c_dayNumber 1 m_c_dayNumber := by
  refine rMeth_ok (ps := ps_c_dayNumber) (tab := tb_c_dayNumber) (by decide +kernel) rfl rfl rfl rfl ?_
  refine rcons (ro_aload_n (k := 0) rfl (by decide +kernel) rfl) ?_
  refine rcons (ro_getf (C := rN0) (T := rF0) (N := 7) (k := 0) (by decide +kernel) rfl (rU0c _) (by decide) (List.mem_cons_of_mem _ q_43) rfl) ?_
  refine rcons (ro_iload_n (k := 1) rfl (by decide +kernel) rfl) ?_
  refine rcons (ro_callS ok_c_numberIn (by decide +kernel) rfl (fun s args ht => va_cwS 2 ht (rgoodS (fun w h => List.mem_cons_of_mem _ h) q_498 q_499 q_13 q_500) rfl rfl rfl hy_c_numberIn ⟨Nat.le_of_ble_eq_true rfl, Nat.le_of_ble_eq_true rfl⟩) rfl) ?_
  refine rcons (ro_iret (by decide +kernel)) ?_
  exact rnil
def ps_c_placeOf : List Nat := [0, 1, 2, 3]
def tb_c_placeOf : List RT := [tq_il 0, tq_ic 1, tq_i2 (fun x y => x - y), tq_iret 0]
def m_c_placeOf : RM := rMeth tb_c_placeOf 400 1
abbrev rm_c_placeOf : Room := { frames := 0, cells := 0, slots := 0, locals := 0 }
set_option maxHeartbeats 4000000 in
set_option maxRecDepth 20000 in
theorem ok_c_placeOf : rMet y_c_placeOf (Cond.code y_c_placeOf prog_1_method_68_code 1 (some .int) :: rT) rm_c_placeOf 0 m_c_placeOf := by
  refine rMeth_ok (ps := ps_c_placeOf) (tab := tb_c_placeOf) (by decide +kernel) rfl rfl rfl rfl ?_
  refine rcons (ro_iload_n (k := 0) rfl (by decide +kernel) rfl) ?_
  refine rcons (ro_iconst (n := 1) (by decide +kernel) rfl rfl) ?_
  refine rcons (ro_isub (by decide +kernel) rfl) ?_
  refine rcons (ro_iret (by decide +kernel)) ?_
  exact rnil
def ps_c_dayPlace : List Nat := [0, 1, 4, 5, 8, 11]
def tb_c_dayPlace : List RT := [tq_al 0, tq_getf 0 0, tq_il 1, tq_call m_c_numberIn 2 1 1, tq_call m_c_placeOf 1 0 1, tq_iret 1]
def m_c_dayPlace : RM := rMeth tb_c_dayPlace 400 2
abbrev rm_c_dayPlace : Room := { frames := 7, cells := 1, slots := 12, locals := 111 }
set_option maxHeartbeats 4000000 in
set_option maxRecDepth 20000 in
theorem ok_c_dayPlace : rMet y_c_dayPlace (Cond.code y_c_dayPlace prog_1_method_4_code 2 (some .int) :: rT) rm_c_dayPlace 1 m_c_dayPlace := by
  refine rMeth_ok (ps := ps_c_dayPlace) (tab := tb_c_dayPlace) (by decide +kernel) rfl rfl rfl rfl ?_
  refine rcons (ro_aload_n (k := 0) rfl (by decide +kernel) rfl) ?_
  refine rcons (ro_getf (C := rN0) (T := rF0) (N := 7) (k := 0) (by decide +kernel) rfl (rU0c _) (by decide) (List.mem_cons_of_mem _ q_43) rfl) ?_
  refine rcons (ro_iload_n (k := 1) rfl (by decide +kernel) rfl) ?_
  refine rcons (ro_callS ok_c_numberIn (by decide +kernel) rfl (fun s args ht => va_cwS 2 ht (rgoodS (fun w h => List.mem_cons_of_mem _ h) q_498 q_499 q_13 q_500) rfl rfl rfl hy_c_numberIn ⟨Nat.le_of_ble_eq_true rfl, Nat.le_of_ble_eq_true rfl⟩) rfl) ?_
  refine rcons (ro_callS ok_c_placeOf (by decide +kernel) rfl (fun s args ht => va_cwS 1 ht (rgoodS (fun w h => List.mem_cons_of_mem _ h) q_448 q_449 q_13 q_450) rfl rfl rfl hy_c_placeOf ⟨Nat.le_of_ble_eq_true rfl, Nat.le_of_ble_eq_true rfl⟩) rfl) ?_
  refine rcons (ro_iret (by decide +kernel)) ?_
  exact rnil
def ps_c_nameOfDay : List Nat := [0, 1, 40, 42, 43, 45, 46, 48, 49, 51, 52, 54, 55, 57, 58, 60]
def tb_c_nameOfDay : List RT := [tq_il 0, tq_sw 1 [2, 4, 6, 8, 10, 12] 14, tq_rc 100, tq_aret 0, tq_rc 101, tq_aret 0, tq_rc 102, tq_aret 0, tq_rc 103, tq_aret 0, tq_rc 104, tq_aret 0, tq_rc 105, tq_aret 0, tq_rc 106, tq_aret 0]
def m_c_nameOfDay : RM := rMeth tb_c_nameOfDay 400 1
abbrev rm_c_nameOfDay : Room := { frames := 0, cells := 0, slots := 0, locals := 0 }
set_option maxHeartbeats 4000000 in
set_option maxRecDepth 20000 in
theorem ok_c_nameOfDay : rMet y_c_nameOfDay (Cond.code y_c_nameOfDay prog_1_method_73_code 1 (some (.object "java/lang/String")) :: rT) rm_c_nameOfDay 0 m_c_nameOfDay := by
  refine rMeth_ok (ps := ps_c_nameOfDay) (tab := tb_c_nameOfDay) (by decide +kernel) rfl rfl rfl rfl ?_
  refine rcons (ro_iload_n (k := 0) rfl (by decide +kernel) rfl) ?_
  refine rcons (ro_sw (dflt := 57) (lo := 1) (hi := 6) (offs := #[39, 42, 45, 48, 51, 54]) (len := 39) (by decide +kernel) rfl rfl (rsw_ok (pc := 1) (d := 14) (offs := #[39, 42, 45, 48, 51, 54]) (os := [2, 4, 6, 8, 10, 12]) (J := fun o => ps_c_nameOfDay.getD o 0) (by decide +kernel))) ?_
  refine rcons (ro_ldcS (k := 0) (by decide) rfl (by decide +kernel) rfl) ?_
  refine rcons (ro_aret (by decide +kernel)) ?_
  refine rcons (ro_ldcS (k := 1) (by decide) rfl (by decide +kernel) rfl) ?_
  refine rcons (ro_aret (by decide +kernel)) ?_
  refine rcons (ro_ldcS (k := 2) (by decide) rfl (by decide +kernel) rfl) ?_
  refine rcons (ro_aret (by decide +kernel)) ?_
  refine rcons (ro_ldcS (k := 3) (by decide) rfl (by decide +kernel) rfl) ?_
  refine rcons (ro_aret (by decide +kernel)) ?_
  refine rcons (ro_ldcS (k := 4) (by decide) rfl (by decide +kernel) rfl) ?_
  refine rcons (ro_aret (by decide +kernel)) ?_
  refine rcons (ro_ldcS (k := 5) (by decide) rfl (by decide +kernel) rfl) ?_
  refine rcons (ro_aret (by decide +kernel)) ?_
  refine rcons (ro_ldcS (k := 6) (by decide) rfl (by decide +kernel) rfl) ?_
  refine rcons (ro_aret (by decide +kernel)) ?_
  exact rnil
def ps_c_dayName : List Nat := [0, 1, 4, 5, 8, 11]
def tb_c_dayName : List RT := [tq_al 0, tq_getf 0 0, tq_il 1, tq_call m_c_numberIn 2 1 1, tq_call m_c_nameOfDay 1 0 1, tq_aret 1]
def m_c_dayName : RM := rMeth tb_c_dayName 400 2
abbrev rm_c_dayName : Room := { frames := 7, cells := 1, slots := 12, locals := 111 }
set_option maxHeartbeats 4000000 in
set_option maxRecDepth 20000 in
theorem ok_c_dayName : rMet y_c_dayName (Cond.code y_c_dayName prog_1_method_5_code 2 (some (.object "java/lang/String")) :: rT) rm_c_dayName 1 m_c_dayName := by
  refine rMeth_ok (ps := ps_c_dayName) (tab := tb_c_dayName) (by decide +kernel) rfl rfl rfl rfl ?_
  refine rcons (ro_aload_n (k := 0) rfl (by decide +kernel) rfl) ?_
  refine rcons (ro_getf (C := rN0) (T := rF0) (N := 7) (k := 0) (by decide +kernel) rfl (rU0c _) (by decide) (List.mem_cons_of_mem _ q_43) rfl) ?_
  refine rcons (ro_iload_n (k := 1) rfl (by decide +kernel) rfl) ?_
  refine rcons (ro_callS ok_c_numberIn (by decide +kernel) rfl (fun s args ht => va_cwS 2 ht (rgoodS (fun w h => List.mem_cons_of_mem _ h) q_498 q_499 q_13 q_500) rfl rfl rfl hy_c_numberIn ⟨Nat.le_of_ble_eq_true rfl, Nat.le_of_ble_eq_true rfl⟩) rfl) ?_
  refine rcons (ro_callS ok_c_nameOfDay (by decide +kernel) rfl (fun s args ht => va_cwS 1 ht (rgoodS (fun w h => List.mem_cons_of_mem _ h) q_198 q_199 q_13 q_200) rfl rfl rfl hy_c_nameOfDay ⟨Nat.le_of_ble_eq_true rfl, Nat.le_of_ble_eq_true rfl⟩) rfl) ?_
  refine rcons (ro_aret (by decide +kernel)) ?_
  exact rnil
def ps_c_rest : List Nat := [0, 1, 2, 5, 6, 9, 10, 11, 12, 15, 16]
def tb_c_rest : List RT := [tq_il 2, tq_ic 1, tq_if2 (fun x y => decide (y ≤ x)) 5, tq_ic 0, tq_go 10, tq_ll 0, tq_il 2, tq_i2l, tq_call m_jm_floorMod 2 0 0, tq_l2i, tq_iret 0]
def m_c_rest : RM := rMeth tb_c_rest 400 3
abbrev rm_c_rest : Room := { frames := 1, cells := 0, slots := 0, locals := 25 }
set_option maxHeartbeats 4000000 in
set_option maxRecDepth 20000 in
theorem ok_c_rest : rMet y_c_rest (Cond.code y_c_rest prog_1_method_70_code 3 (some .int) :: rT) rm_c_rest 0 m_c_rest := by
  refine rMeth_ok (ps := ps_c_rest) (tab := tb_c_rest) (by decide +kernel) rfl rfl rfl rfl ?_
  refine rcons (ro_iload_n (k := 2) rfl (by decide +kernel) rfl) ?_
  refine rcons (ro_iconst (n := 1) (by decide +kernel) rfl rfl) ?_
  refine rcons (ro_icmp_ge (off := 7) (by decide +kernel) rfl rfl) ?_
  refine rcons (ro_iconst (n := 0) (by decide +kernel) rfl rfl) ?_
  refine rcons (ro_goto (off := 10) (by decide +kernel) rfl) ?_
  refine rcons (ro_lload_n (k := 0) rfl (by decide +kernel) rfl) ?_
  refine rcons (ro_iload_n (k := 2) rfl (by decide +kernel) rfl) ?_
  refine rcons (ro_i2l (by decide +kernel) rfl) ?_
  refine rcons (ro_callS ok_jm_floorMod (by decide +kernel) rfl (fun s args ht => va_cwS 2 ht (rgoodS (fun w h => List.mem_cons_of_mem _ h) q_454 q_455 q_21 q_456) rfl rfl rfl hy_jm_floorMod ⟨Nat.le_of_ble_eq_true rfl, Nat.le_of_ble_eq_true rfl⟩) rfl) ?_
  refine rcons (ro_l2i (by decide +kernel) rfl) ?_
  refine rcons (ro_iret (by decide +kernel)) ?_
  exact rnil
def ps_c_numberOn : List Nat := [0, 1, 4, 5, 6, 9, 10, 11, 12, 15, 16, 17]
def tb_c_numberOn : List RT := [tq_il 0, tq_call m_c_placeOf 1 0 0, tq_ll 1, tq_il 3, tq_call m_c_rest 2 0 0, tq_i2 (fun x y => x + y), tq_i2l, tq_il 3, tq_call m_c_rest 2 0 0, tq_ic 1, tq_i2 (fun x y => x + y), tq_iret 0]
def m_c_numberOn : RM := rMeth tb_c_numberOn 400 4
abbrev rm_c_numberOn : Room := { frames := 2, cells := 0, slots := 0, locals := 47 }
set_option maxHeartbeats 4000000 in
set_option maxRecDepth 20000 in
theorem ok_c_numberOn : rMet y_c_numberOn (Cond.code y_c_numberOn prog_1_method_71_code 4 (some .int) :: rT) rm_c_numberOn 0 m_c_numberOn := by
  refine rMeth_ok (ps := ps_c_numberOn) (tab := tb_c_numberOn) (by decide +kernel) rfl rfl rfl rfl ?_
  refine rcons (ro_iload_n (k := 0) rfl (by decide +kernel) rfl) ?_
  refine rcons (ro_callS ok_c_placeOf (by decide +kernel) rfl (fun s args ht => va_cwS 1 ht (rgoodS (fun w h => List.mem_cons_of_mem _ h) q_448 q_449 q_13 q_450) rfl rfl rfl hy_c_placeOf ⟨Nat.le_of_ble_eq_true rfl, Nat.le_of_ble_eq_true rfl⟩) rfl) ?_
  refine rcons (ro_lload_n (k := 1) rfl (by decide +kernel) rfl) ?_
  refine rcons (ro_iload_n (k := 3) rfl (by decide +kernel) rfl) ?_
  refine rcons (ro_callS ok_c_rest (by decide +kernel) rfl (fun s args ht => va_cwS 2 ht (rgoodS (fun w h => List.mem_cons_of_mem _ h) q_451 q_452 q_13 q_453) rfl rfl rfl hy_c_rest ⟨Nat.le_of_ble_eq_true rfl, Nat.le_of_ble_eq_true rfl⟩) rfl) ?_
  refine rcons (ro_iadd (by decide +kernel) rfl) ?_
  refine rcons (ro_i2l (by decide +kernel) rfl) ?_
  refine rcons (ro_iload_n (k := 3) rfl (by decide +kernel) rfl) ?_
  refine rcons (ro_callS ok_c_rest (by decide +kernel) rfl (fun s args ht => va_cwS 2 ht (rgoodS (fun w h => List.mem_cons_of_mem _ h) q_451 q_452 q_13 q_453) rfl rfl rfl hy_c_rest ⟨Nat.le_of_ble_eq_true rfl, Nat.le_of_ble_eq_true rfl⟩) rfl) ?_
  refine rcons (ro_iconst (n := 1) (by decide +kernel) rfl rfl) ?_
  refine rcons (ro_iadd (by decide +kernel) rfl) ?_
  refine rcons (ro_iret (by decide +kernel)) ?_
  exact rnil
def ps_c_dayAt : List Nat := [0, 1, 4, 5, 8, 9, 10, 12, 15]
def tb_c_dayAt : List RT := [tq_al 0, tq_getf 0 0, tq_il 1, tq_call m_c_numberIn 2 1 1, tq_il 2, tq_i2l, tq_ic 7, tq_call m_c_numberOn 3 0 1, tq_iret 1]
def m_c_dayAt : RM := rMeth tb_c_dayAt 400 3
abbrev rm_c_dayAt : Room := { frames := 7, cells := 1, slots := 12, locals := 111 }
set_option maxHeartbeats 4000000 in
set_option maxRecDepth 20000 in
theorem ok_c_dayAt : rMet y_c_dayAt (Cond.code y_c_dayAt prog_1_method_10_code 3 (some .int) :: rT) rm_c_dayAt 1 m_c_dayAt := by
  refine rMeth_ok (ps := ps_c_dayAt) (tab := tb_c_dayAt) (by decide +kernel) rfl rfl rfl rfl ?_
  refine rcons (ro_aload_n (k := 0) rfl (by decide +kernel) rfl) ?_
  refine rcons (ro_getf (C := rN0) (T := rF0) (N := 7) (k := 0) (by decide +kernel) rfl (rU0c _) (by decide) (List.mem_cons_of_mem _ q_43) rfl) ?_
  refine rcons (ro_iload_n (k := 1) rfl (by decide +kernel) rfl) ?_
  refine rcons (ro_callS ok_c_numberIn (by decide +kernel) rfl (fun s args ht => va_cwS 2 ht (rgoodS (fun w h => List.mem_cons_of_mem _ h) q_498 q_499 q_13 q_500) rfl rfl rfl hy_c_numberIn ⟨Nat.le_of_ble_eq_true rfl, Nat.le_of_ble_eq_true rfl⟩) rfl) ?_
  refine rcons (ro_iload_n (k := 2) rfl (by decide +kernel) rfl) ?_
  refine rcons (ro_i2l (by decide +kernel) rfl) ?_
  refine rcons (ro_bipush (n := 7) (by decide +kernel) rfl rfl) ?_
  refine rcons (ro_callS ok_c_numberOn (by decide +kernel) rfl (fun s args ht => va_cwS 3 ht (rgoodS (fun w h => List.mem_cons_of_mem _ h) q_445 q_446 q_13 q_447) rfl rfl rfl hy_c_numberOn ⟨Nat.le_of_ble_eq_true rfl, Nat.le_of_ble_eq_true rfl⟩) rfl) ?_
  refine rcons (ro_iret (by decide +kernel)) ?_
  exact rnil
def ps_c_dayOn : List Nat := [0, 1, 2, 5, 6, 7, 8, 9, 12, 15]
def tb_c_dayOn : List RT := [tq_al 0, tq_al 0, tq_getf 0 0, tq_il 1, tq_al 0, tq_il 1, tq_il 2, tq_call (rV 0 m_c_dayAt) 3 1 2, tq_call (rV 0 m_c_become) 4 1 2, tq_iret 2]
def m_c_dayOn : RM := rMeth tb_c_dayOn 400 3
abbrev rm_c_dayOn : Room := { frames := 8, cells := 2, slots := 24, locals := 135 }
set_option maxHeartbeats 4000000 in
set_option maxRecDepth 20000 in
theorem ok_c_dayOn : rMet y_c_dayOn (Cond.code y_c_dayOn prog_1_method_6_code 3 (some .int) :: rT) rm_c_dayOn 2 m_c_dayOn := by
  refine rMeth_ok (ps := ps_c_dayOn) (tab := tb_c_dayOn) (by decide +kernel) rfl rfl rfl rfl ?_
  refine rcons (ro_aload_n (k := 0) rfl (by decide +kernel) rfl) ?_
  refine rcons (ro_aload_n (k := 0) rfl (by decide +kernel) rfl) ?_
  refine rcons (ro_getf (C := rN0) (T := rF0) (N := 7) (k := 0) (by decide +kernel) rfl (rU0c _) (by decide) (List.mem_cons_of_mem _ q_43) rfl) ?_
  refine rcons (ro_iload_n (k := 1) rfl (by decide +kernel) rfl) ?_
  refine rcons (ro_aload_n (k := 0) rfl (by decide +kernel) rfl) ?_
  refine rcons (ro_iload_n (k := 1) rfl (by decide +kernel) rfl) ?_
  refine rcons (ro_iload_n (k := 2) rfl (by decide +kernel) rfl) ?_
  refine rcons (ro_callV (C := rN0) (T := rF0) (N := 7) rfl ok_c_dayAt (by decide +kernel) rfl (fun s args ht => cwV (C := rN0) 2 ht (rgoodV (C := rN0) (fun w h => List.mem_cons_of_mem _ h) q_637 q_638 q_639 q_13 q_640) rfl rfl rfl hv_c_dayAt ⟨Nat.le_of_ble_eq_true rfl, Nat.le_of_ble_eq_true rfl⟩) rfl) ?_
  refine rcons (ro_callV (C := rN0) (T := rF0) (N := 7) rfl ok_c_become (by decide +kernel) rfl (fun s args ht => cwV (C := rN0) 3 ht (rgoodV (C := rN0) (fun w h => List.mem_cons_of_mem _ h) q_602 q_604 q_4 q_13 q_605) rfl rfl rfl hv_c_become ⟨Nat.le_of_ble_eq_true rfl, Nat.le_of_ble_eq_true rfl⟩) rfl) ?_
  refine rcons (ro_iret (by decide +kernel)) ?_
  exact rnil
def ps_c_numberBack : List Nat := [0, 1, 2, 3, 6, 7, 8, 9, 12]
def tb_c_numberBack : List RT := [tq_il 0, tq_ll 1, tq_il 3, tq_call m_c_rest 2 0 0, tq_i1 (fun x => -x), tq_i2l, tq_il 3, tq_call m_c_numberOn 3 0 0, tq_iret 0]
def m_c_numberBack : RM := rMeth tb_c_numberBack 400 4
abbrev rm_c_numberBack : Room := { frames := 3, cells := 0, slots := 0, locals := 70 }
set_option maxHeartbeats 4000000 in
set_option maxRecDepth 20000 in
theorem ok_c_numberBack : rMet y_c_numberBack (Cond.code y_c_numberBack prog_1_method_72_code 4 (some .int) :: rT) rm_c_numberBack 0 m_c_numberBack := by
  refine rMeth_ok (ps := ps_c_numberBack) (tab := tb_c_numberBack) (by decide +kernel) rfl rfl rfl rfl ?_
  refine rcons (ro_iload_n (k := 0) rfl (by decide +kernel) rfl) ?_
  refine rcons (ro_lload_n (k := 1) rfl (by decide +kernel) rfl) ?_
  refine rcons (ro_iload_n (k := 3) rfl (by decide +kernel) rfl) ?_
  refine rcons (ro_callS ok_c_rest (by decide +kernel) rfl (fun s args ht => va_cwS 2 ht (rgoodS (fun w h => List.mem_cons_of_mem _ h) q_451 q_452 q_13 q_453) rfl rfl rfl hy_c_rest ⟨Nat.le_of_ble_eq_true rfl, Nat.le_of_ble_eq_true rfl⟩) rfl) ?_
  refine rcons (ro_ineg (by decide +kernel) rfl) ?_
  refine rcons (ro_i2l (by decide +kernel) rfl) ?_
  refine rcons (ro_iload_n (k := 3) rfl (by decide +kernel) rfl) ?_
  refine rcons (ro_callS ok_c_numberOn (by decide +kernel) rfl (fun s args ht => va_cwS 3 ht (rgoodS (fun w h => List.mem_cons_of_mem _ h) q_445 q_446 q_13 q_447) rfl rfl rfl hy_c_numberOn ⟨Nat.le_of_ble_eq_true rfl, Nat.le_of_ble_eq_true rfl⟩) rfl) ?_
  refine rcons (ro_iret (by decide +kernel)) ?_
  exact rnil
def ps_c_dayAhead : List Nat := [0, 1, 4, 5, 8, 9, 10, 12, 15]
def tb_c_dayAhead : List RT := [tq_al 0, tq_getf 0 0, tq_il 1, tq_call m_c_numberIn 2 1 1, tq_il 2, tq_i2l, tq_ic 7, tq_call m_c_numberBack 3 0 1, tq_iret 1]
def m_c_dayAhead : RM := rMeth tb_c_dayAhead 400 3
abbrev rm_c_dayAhead : Room := { frames := 7, cells := 1, slots := 12, locals := 111 }
set_option maxHeartbeats 4000000 in
set_option maxRecDepth 20000 in
theorem ok_c_dayAhead : rMet y_c_dayAhead (Cond.code y_c_dayAhead prog_1_method_11_code 3 (some .int) :: rT) rm_c_dayAhead 1 m_c_dayAhead := by
  refine rMeth_ok (ps := ps_c_dayAhead) (tab := tb_c_dayAhead) (by decide +kernel) rfl rfl rfl rfl ?_
  refine rcons (ro_aload_n (k := 0) rfl (by decide +kernel) rfl) ?_
  refine rcons (ro_getf (C := rN0) (T := rF0) (N := 7) (k := 0) (by decide +kernel) rfl (rU0c _) (by decide) (List.mem_cons_of_mem _ q_43) rfl) ?_
  refine rcons (ro_iload_n (k := 1) rfl (by decide +kernel) rfl) ?_
  refine rcons (ro_callS ok_c_numberIn (by decide +kernel) rfl (fun s args ht => va_cwS 2 ht (rgoodS (fun w h => List.mem_cons_of_mem _ h) q_498 q_499 q_13 q_500) rfl rfl rfl hy_c_numberIn ⟨Nat.le_of_ble_eq_true rfl, Nat.le_of_ble_eq_true rfl⟩) rfl) ?_
  refine rcons (ro_iload_n (k := 2) rfl (by decide +kernel) rfl) ?_
  refine rcons (ro_i2l (by decide +kernel) rfl) ?_
  refine rcons (ro_bipush (n := 7) (by decide +kernel) rfl rfl) ?_
  refine rcons (ro_callS ok_c_numberBack (by decide +kernel) rfl (fun s args ht => va_cwS 3 ht (rgoodS (fun w h => List.mem_cons_of_mem _ h) q_457 q_458 q_13 q_459) rfl rfl rfl hy_c_numberBack ⟨Nat.le_of_ble_eq_true rfl, Nat.le_of_ble_eq_true rfl⟩) rfl) ?_
  refine rcons (ro_iret (by decide +kernel)) ?_
  exact rnil
def ps_c_dayBack : List Nat := [0, 1, 2, 5, 6, 7, 8, 9, 12, 15]
def tb_c_dayBack : List RT := [tq_al 0, tq_al 0, tq_getf 0 0, tq_il 1, tq_al 0, tq_il 1, tq_il 2, tq_call (rV 0 m_c_dayAhead) 3 1 2, tq_call (rV 0 m_c_become) 4 1 2, tq_iret 2]
def m_c_dayBack : RM := rMeth tb_c_dayBack 400 3
abbrev rm_c_dayBack : Room := { frames := 8, cells := 2, slots := 24, locals := 135 }
set_option maxHeartbeats 4000000 in
set_option maxRecDepth 20000 in
theorem ok_c_dayBack : rMet y_c_dayBack (Cond.code y_c_dayBack prog_1_method_7_code 3 (some .int) :: rT) rm_c_dayBack 2 m_c_dayBack := by
  refine rMeth_ok (ps := ps_c_dayBack) (tab := tb_c_dayBack) (by decide +kernel) rfl rfl rfl rfl ?_
  refine rcons (ro_aload_n (k := 0) rfl (by decide +kernel) rfl) ?_
  refine rcons (ro_aload_n (k := 0) rfl (by decide +kernel) rfl) ?_
  refine rcons (ro_getf (C := rN0) (T := rF0) (N := 7) (k := 0) (by decide +kernel) rfl (rU0c _) (by decide) (List.mem_cons_of_mem _ q_43) rfl) ?_
  refine rcons (ro_iload_n (k := 1) rfl (by decide +kernel) rfl) ?_
  refine rcons (ro_aload_n (k := 0) rfl (by decide +kernel) rfl) ?_
  refine rcons (ro_iload_n (k := 1) rfl (by decide +kernel) rfl) ?_
  refine rcons (ro_iload_n (k := 2) rfl (by decide +kernel) rfl) ?_
  refine rcons (ro_callV (C := rN0) (T := rF0) (N := 7) rfl ok_c_dayAhead (by decide +kernel) rfl (fun s args ht => cwV (C := rN0) 2 ht (rgoodV (C := rN0) (fun w h => List.mem_cons_of_mem _ h) q_648 q_649 q_650 q_13 q_651) rfl rfl rfl hv_c_dayAhead ⟨Nat.le_of_ble_eq_true rfl, Nat.le_of_ble_eq_true rfl⟩) rfl) ?_
  refine rcons (ro_callV (C := rN0) (T := rF0) (N := 7) rfl ok_c_become (by decide +kernel) rfl (fun s args ht => cwV (C := rN0) 3 ht (rgoodV (C := rN0) (fun w h => List.mem_cons_of_mem _ h) q_602 q_604 q_4 q_13 q_605) rfl rfl rfl hv_c_become ⟨Nat.le_of_ble_eq_true rfl, Nat.le_of_ble_eq_true rfl⟩) rfl) ?_
  refine rcons (ro_iret (by decide +kernel)) ?_
  exact rnil
def ps_c_amount : List Nat := [0, 1, 2, 4, 5, 6, 7, 10, 11, 12]
def tb_c_amount : List RT := [tq_il 0, tq_i2l, tq_ic 32, tq_lshl, tq_il 1, tq_i2l, tq_lc 4294967295, tq_l2 (fun x y => x &&& y), tq_l2 (fun x y => x ||| y), tq_lret 0]
def m_c_amount : RM := rMeth tb_c_amount 400 2
abbrev rm_c_amount : Room := { frames := 0, cells := 0, slots := 0, locals := 0 }
set_option maxHeartbeats 4000000 in
set_option maxRecDepth 20000 in
theorem ok_c_amount : rMet y_c_amount (Cond.code y_c_amount prog_1_method_69_code 2 (some .long) :: rT) rm_c_amount 0 m_c_amount := by
  refine rMeth_ok (ps := ps_c_amount) (tab := tb_c_amount) (by decide +kernel) rfl rfl rfl rfl ?_
  refine rcons (ro_iload_n (k := 0) rfl (by decide +kernel) rfl) ?_
  refine rcons (ro_i2l (by decide +kernel) rfl) ?_
  refine rcons (ro_bipush (n := 32) (by decide +kernel) rfl rfl) ?_
  refine rcons (ro_lshl (by decide +kernel) rfl) ?_
  refine rcons (ro_iload_n (k := 1) rfl (by decide +kernel) rfl) ?_
  refine rcons (ro_i2l (by decide +kernel) rfl) ?_
  refine rcons (ro_ldc2 (by decide +kernel) (List.mem_cons_of_mem _ q_666) rfl) ?_
  refine rcons (ro_land (by decide +kernel) rfl) ?_
  refine rcons (ro_lor (by decide +kernel) rfl) ?_
  refine rcons (ro_lret (by decide +kernel)) ?_
  exact rnil
def ps_c_dayAtFar : List Nat := [0, 1, 4, 5, 8, 10, 11, 12, 15, 17, 19, 22, 24, 26, 28, 31, 34, 36, 38, 40, 43]
def tb_c_dayAtFar : List RT := [tq_al 0, tq_getf 0 0, tq_il 1, tq_call m_c_numberIn 2 1 1, tq_is 8 5, tq_il 2, tq_il 3, tq_call m_c_amount 2 0 1, tq_ls 8 6, tq_il 4, tq_if1 (fun x => decide (x = 0)) 16, tq_il 5, tq_ll 6, tq_ic 7, tq_call m_c_numberBack 3 0 1, tq_go 20, tq_il 5, tq_ll 6, tq_ic 7, tq_call m_c_numberOn 3 0 1, tq_iret 1]
def m_c_dayAtFar : RM := rMeth tb_c_dayAtFar 400 8
abbrev rm_c_dayAtFar : Room := { frames := 7, cells := 1, slots := 12, locals := 111 }
set_option maxHeartbeats 4000000 in
set_option maxRecDepth 20000 in
theorem ok_c_dayAtFar : rMet y_c_dayAtFar (Cond.code y_c_dayAtFar prog_1_method_12_code 8 (some .int) :: rT) rm_c_dayAtFar 1 m_c_dayAtFar := by
  refine rMeth_ok (ps := ps_c_dayAtFar) (tab := tb_c_dayAtFar) (by decide +kernel) rfl rfl rfl rfl ?_
  refine rcons (ro_aload_n (k := 0) rfl (by decide +kernel) rfl) ?_
  refine rcons (ro_getf (C := rN0) (T := rF0) (N := 7) (k := 0) (by decide +kernel) rfl (rU0c _) (by decide) (List.mem_cons_of_mem _ q_43) rfl) ?_
  refine rcons (ro_iload_n (k := 1) rfl (by decide +kernel) rfl) ?_
  refine rcons (ro_callS ok_c_numberIn (by decide +kernel) rfl (fun s args ht => va_cwS 2 ht (rgoodS (fun w h => List.mem_cons_of_mem _ h) q_498 q_499 q_13 q_500) rfl rfl rfl hy_c_numberIn ⟨Nat.le_of_ble_eq_true rfl, Nat.le_of_ble_eq_true rfl⟩) rfl) ?_
  refine rcons (ro_istore (by decide +kernel) rfl) ?_
  refine rcons (ro_iload_n (k := 2) rfl (by decide +kernel) rfl) ?_
  refine rcons (ro_iload_n (k := 3) rfl (by decide +kernel) rfl) ?_
  refine rcons (ro_callS ok_c_amount (by decide +kernel) rfl (fun s args ht => va_cwS 2 ht (rgoodS (fun w h => List.mem_cons_of_mem _ h) q_663 q_664 q_13 q_665) rfl rfl rfl hy_c_amount ⟨Nat.le_of_ble_eq_true rfl, Nat.le_of_ble_eq_true rfl⟩) rfl) ?_
  refine rcons (ro_lstore (by decide +kernel) rfl) ?_
  refine rcons (ro_iload (by decide +kernel) rfl) ?_
  refine rcons (ro_if_eq (off := 15) (by decide +kernel) rfl rfl) ?_
  refine rcons (ro_iload (by decide +kernel) rfl) ?_
  refine rcons (ro_lload (by decide +kernel) rfl) ?_
  refine rcons (ro_bipush (n := 7) (by decide +kernel) rfl rfl) ?_
  refine rcons (ro_callS ok_c_numberBack (by decide +kernel) rfl (fun s args ht => va_cwS 3 ht (rgoodS (fun w h => List.mem_cons_of_mem _ h) q_457 q_458 q_13 q_459) rfl rfl rfl hy_c_numberBack ⟨Nat.le_of_ble_eq_true rfl, Nat.le_of_ble_eq_true rfl⟩) rfl) ?_
  refine rcons (ro_goto (off := 12) (by decide +kernel) rfl) ?_
  refine rcons (ro_iload (by decide +kernel) rfl) ?_
  refine rcons (ro_lload (by decide +kernel) rfl) ?_
  refine rcons (ro_bipush (n := 7) (by decide +kernel) rfl rfl) ?_
  refine rcons (ro_callS ok_c_numberOn (by decide +kernel) rfl (fun s args ht => va_cwS 3 ht (rgoodS (fun w h => List.mem_cons_of_mem _ h) q_445 q_446 q_13 q_447) rfl rfl rfl hy_c_numberOn ⟨Nat.le_of_ble_eq_true rfl, Nat.le_of_ble_eq_true rfl⟩) rfl) ?_
  refine rcons (ro_iret (by decide +kernel)) ?_
  exact rnil
def ps_c_dayOnFar : List Nat := [0, 1, 2, 5, 6, 7, 8, 9, 10, 11, 14, 17]
def tb_c_dayOnFar : List RT := [tq_al 0, tq_al 0, tq_getf 0 0, tq_il 1, tq_al 0, tq_il 1, tq_il 2, tq_il 3, tq_ic 0, tq_call (rV 0 m_c_dayAtFar) 5 1 2, tq_call (rV 0 m_c_become) 4 1 2, tq_iret 2]
def m_c_dayOnFar : RM := rMeth tb_c_dayOnFar 400 4
abbrev rm_c_dayOnFar : Room := { frames := 8, cells := 2, slots := 24, locals := 138 }
set_option maxHeartbeats 4000000 in
set_option maxRecDepth 20000 in
theorem ok_c_dayOnFar : rMet y_c_dayOnFar (Cond.code y_c_dayOnFar prog_1_method_8_code 4 (some .int) :: rT) rm_c_dayOnFar 2 m_c_dayOnFar := by
  refine rMeth_ok (ps := ps_c_dayOnFar) (tab := tb_c_dayOnFar) (by decide +kernel) rfl rfl rfl rfl ?_
  refine rcons (ro_aload_n (k := 0) rfl (by decide +kernel) rfl) ?_
  refine rcons (ro_aload_n (k := 0) rfl (by decide +kernel) rfl) ?_
  refine rcons (ro_getf (C := rN0) (T := rF0) (N := 7) (k := 0) (by decide +kernel) rfl (rU0c _) (by decide) (List.mem_cons_of_mem _ q_43) rfl) ?_
  refine rcons (ro_iload_n (k := 1) rfl (by decide +kernel) rfl) ?_
  refine rcons (ro_aload_n (k := 0) rfl (by decide +kernel) rfl) ?_
  refine rcons (ro_iload_n (k := 1) rfl (by decide +kernel) rfl) ?_
  refine rcons (ro_iload_n (k := 2) rfl (by decide +kernel) rfl) ?_
  refine rcons (ro_iload_n (k := 3) rfl (by decide +kernel) rfl) ?_
  refine rcons (ro_iconst (n := 0) (by decide +kernel) rfl rfl) ?_
  refine rcons (ro_callV (C := rN0) (T := rF0) (N := 7) rfl ok_c_dayAtFar (by decide +kernel) rfl (fun s args ht => cwV (C := rN0) 4 ht (rgoodV (C := rN0) (fun w h => List.mem_cons_of_mem _ h) q_659 q_660 q_661 q_13 q_662) rfl rfl rfl hv_c_dayAtFar ⟨Nat.le_of_ble_eq_true rfl, Nat.le_of_ble_eq_true rfl⟩) rfl) ?_
  refine rcons (ro_callV (C := rN0) (T := rF0) (N := 7) rfl ok_c_become (by decide +kernel) rfl (fun s args ht => cwV (C := rN0) 3 ht (rgoodV (C := rN0) (fun w h => List.mem_cons_of_mem _ h) q_602 q_604 q_4 q_13 q_605) rfl rfl rfl hv_c_become ⟨Nat.le_of_ble_eq_true rfl, Nat.le_of_ble_eq_true rfl⟩) rfl) ?_
  refine rcons (ro_iret (by decide +kernel)) ?_
  exact rnil
def ps_c_dayBackFar : List Nat := [0, 1, 2, 5, 6, 7, 8, 9, 10, 11, 14, 17]
def tb_c_dayBackFar : List RT := [tq_al 0, tq_al 0, tq_getf 0 0, tq_il 1, tq_al 0, tq_il 1, tq_il 2, tq_il 3, tq_ic 1, tq_call (rV 0 m_c_dayAtFar) 5 1 2, tq_call (rV 0 m_c_become) 4 1 2, tq_iret 2]
def m_c_dayBackFar : RM := rMeth tb_c_dayBackFar 400 4
abbrev rm_c_dayBackFar : Room := { frames := 8, cells := 2, slots := 24, locals := 138 }
set_option maxHeartbeats 4000000 in
set_option maxRecDepth 20000 in
theorem ok_c_dayBackFar : rMet y_c_dayBackFar (Cond.code y_c_dayBackFar prog_1_method_9_code 4 (some .int) :: rT) rm_c_dayBackFar 2 m_c_dayBackFar := by
  refine rMeth_ok (ps := ps_c_dayBackFar) (tab := tb_c_dayBackFar) (by decide +kernel) rfl rfl rfl rfl ?_
  refine rcons (ro_aload_n (k := 0) rfl (by decide +kernel) rfl) ?_
  refine rcons (ro_aload_n (k := 0) rfl (by decide +kernel) rfl) ?_
  refine rcons (ro_getf (C := rN0) (T := rF0) (N := 7) (k := 0) (by decide +kernel) rfl (rU0c _) (by decide) (List.mem_cons_of_mem _ q_43) rfl) ?_
  refine rcons (ro_iload_n (k := 1) rfl (by decide +kernel) rfl) ?_
  refine rcons (ro_aload_n (k := 0) rfl (by decide +kernel) rfl) ?_
  refine rcons (ro_iload_n (k := 1) rfl (by decide +kernel) rfl) ?_
  refine rcons (ro_iload_n (k := 2) rfl (by decide +kernel) rfl) ?_
  refine rcons (ro_iload_n (k := 3) rfl (by decide +kernel) rfl) ?_
  refine rcons (ro_iconst (n := 1) (by decide +kernel) rfl rfl) ?_
  refine rcons (ro_callV (C := rN0) (T := rF0) (N := 7) rfl ok_c_dayAtFar (by decide +kernel) rfl (fun s args ht => cwV (C := rN0) 4 ht (rgoodV (C := rN0) (fun w h => List.mem_cons_of_mem _ h) q_659 q_660 q_661 q_13 q_662) rfl rfl rfl hv_c_dayAtFar ⟨Nat.le_of_ble_eq_true rfl, Nat.le_of_ble_eq_true rfl⟩) rfl) ?_
  refine rcons (ro_callV (C := rN0) (T := rF0) (N := 7) rfl ok_c_become (by decide +kernel) rfl (fun s args ht => cwV (C := rN0) 3 ht (rgoodV (C := rN0) (fun w h => List.mem_cons_of_mem _ h) q_602 q_604 q_4 q_13 q_605) rfl rfl rfl hv_c_become ⟨Nat.le_of_ble_eq_true rfl, Nat.le_of_ble_eq_true rfl⟩) rfl) ?_
  refine rcons (ro_iret (by decide +kernel)) ?_
  exact rnil
def ps_c_dayTwice : List Nat := [0, 1, 2, 3, 6, 7, 8, 10, 13]
def tb_c_dayTwice : List RT := [tq_al 0, tq_il 1, tq_il 2, tq_call (rV 0 m_c_dayAt) 3 1 1, tq_il 3, tq_i2l, tq_ic 7, tq_call m_c_numberOn 3 0 1, tq_iret 1]
def m_c_dayTwice : RM := rMeth tb_c_dayTwice 400 4
abbrev rm_c_dayTwice : Room := { frames := 8, cells := 1, slots := 12, locals := 133 }
set_option maxHeartbeats 4000000 in
set_option maxRecDepth 20000 in
theorem ok_c_dayTwice : rMet y_c_dayTwice (Cond.code y_c_dayTwice prog_1_method_13_code 4 (some .int) :: rT) rm_c_dayTwice 1 m_c_dayTwice := by
  refine rMeth_ok (ps := ps_c_dayTwice) (tab := tb_c_dayTwice) (by decide +kernel) rfl rfl rfl rfl ?_
  refine rcons (ro_aload_n (k := 0) rfl (by decide +kernel) rfl) ?_
  refine rcons (ro_iload_n (k := 1) rfl (by decide +kernel) rfl) ?_
  refine rcons (ro_iload_n (k := 2) rfl (by decide +kernel) rfl) ?_
  refine rcons (ro_callV (C := rN0) (T := rF0) (N := 7) rfl ok_c_dayAt (by decide +kernel) rfl (fun s args ht => cwV (C := rN0) 2 ht (rgoodV (C := rN0) (fun w h => List.mem_cons_of_mem _ h) q_637 q_638 q_639 q_13 q_640) rfl rfl rfl hv_c_dayAt ⟨Nat.le_of_ble_eq_true rfl, Nat.le_of_ble_eq_true rfl⟩) rfl) ?_
  refine rcons (ro_iload_n (k := 3) rfl (by decide +kernel) rfl) ?_
  refine rcons (ro_i2l (by decide +kernel) rfl) ?_
  refine rcons (ro_bipush (n := 7) (by decide +kernel) rfl rfl) ?_
  refine rcons (ro_callS ok_c_numberOn (by decide +kernel) rfl (fun s args ht => va_cwS 3 ht (rgoodS (fun w h => List.mem_cons_of_mem _ h) q_445 q_446 q_13 q_447) rfl rfl rfl hy_c_numberOn ⟨Nat.le_of_ble_eq_true rfl, Nat.le_of_ble_eq_true rfl⟩) rfl) ?_
  refine rcons (ro_iret (by decide +kernel)) ?_
  exact rnil
def ps_c_copy : List Nat := [0, 1, 2, 3, 4, 5, 8, 11]
def tb_c_copy : List RT := [tq_al 0, tq_al 1, tq_il 2, tq_al 1, tq_il 3, tq_call m_c_numberIn 2 1 2, tq_call (rV 0 m_c_become) 4 1 2, tq_iret 2]
def m_c_copy : RM := rMeth tb_c_copy 400 4
abbrev rm_c_copy : Room := { frames := 8, cells := 2, slots := 24, locals := 135 }
set_option maxHeartbeats 4000000 in
set_option maxRecDepth 20000 in
theorem ok_c_copy : rMet y_c_copy (Cond.code y_c_copy prog_1_method_61_code 4 (some .int) :: rT) rm_c_copy 2 m_c_copy := by
  refine rMeth_ok (ps := ps_c_copy) (tab := tb_c_copy) (by decide +kernel) rfl rfl rfl rfl ?_
  refine rcons (ro_aload_n (k := 0) rfl (by decide +kernel) rfl) ?_
  refine rcons (ro_aload_n (k := 1) rfl (by decide +kernel) rfl) ?_
  refine rcons (ro_iload_n (k := 2) rfl (by decide +kernel) rfl) ?_
  refine rcons (ro_aload_n (k := 1) rfl (by decide +kernel) rfl) ?_
  refine rcons (ro_iload_n (k := 3) rfl (by decide +kernel) rfl) ?_
  refine rcons (ro_callS ok_c_numberIn (by decide +kernel) rfl (fun s args ht => va_cwS 2 ht (rgoodS (fun w h => List.mem_cons_of_mem _ h) q_498 q_499 q_13 q_500) rfl rfl rfl hy_c_numberIn ⟨Nat.le_of_ble_eq_true rfl, Nat.le_of_ble_eq_true rfl⟩) rfl) ?_
  refine rcons (ro_callV (C := rN0) (T := rF0) (N := 7) rfl ok_c_become (by decide +kernel) rfl (fun s args ht => cwV (C := rN0) 3 ht (rgoodV (C := rN0) (fun w h => List.mem_cons_of_mem _ h) q_602 q_604 q_4 q_13 q_605) rfl rfl rfl hv_c_become ⟨Nat.le_of_ble_eq_true rfl, Nat.le_of_ble_eq_true rfl⟩) rfl) ?_
  refine rcons (ro_iret (by decide +kernel)) ?_
  exact rnil
def ps_c_dayCopy : List Nat := [0, 1, 2, 5, 6, 7, 10]
def tb_c_dayCopy : List RT := [tq_al 0, tq_al 0, tq_getf 0 0, tq_il 1, tq_il 2, tq_call (rV 0 m_c_copy) 4 2 2, tq_iret 2]
def m_c_dayCopy : RM := rMeth tb_c_dayCopy 400 3
abbrev rm_c_dayCopy : Room := { frames := 9, cells := 2, slots := 24, locals := 158 }
set_option maxHeartbeats 4000000 in
set_option maxRecDepth 20000 in
theorem ok_c_dayCopy : rMet y_c_dayCopy (Cond.code y_c_dayCopy prog_1_method_14_code 3 (some .int) :: rT) rm_c_dayCopy 2 m_c_dayCopy := by
  refine rMeth_ok (ps := ps_c_dayCopy) (tab := tb_c_dayCopy) (by decide +kernel) rfl rfl rfl rfl ?_
  refine rcons (ro_aload_n (k := 0) rfl (by decide +kernel) rfl) ?_
  refine rcons (ro_aload_n (k := 0) rfl (by decide +kernel) rfl) ?_
  refine rcons (ro_getf (C := rN0) (T := rF0) (N := 7) (k := 0) (by decide +kernel) rfl (rU0c _) (by decide) (List.mem_cons_of_mem _ q_43) rfl) ?_
  refine rcons (ro_iload_n (k := 1) rfl (by decide +kernel) rfl) ?_
  refine rcons (ro_iload_n (k := 2) rfl (by decide +kernel) rfl) ?_
  refine rcons (ro_callV (C := rN0) (T := rF0) (N := 7) rfl ok_c_copy (by decide +kernel) rfl (fun s args ht => cwV (C := rN0) 3 ht (rgoodV (C := rN0) (fun w h => List.mem_cons_of_mem _ h) q_700 q_702 q_5 q_13 q_703) rfl rfl rfl hv_c_copy ⟨Nat.le_of_ble_eq_true rfl, Nat.le_of_ble_eq_true rfl⟩) rfl) ?_
  refine rcons (ro_iret (by decide +kernel)) ?_
  exact rnil
def ps_c_swap : List Nat := [0, 1, 2, 5, 7, 8, 9, 12, 14, 15, 16, 18, 21, 22, 23, 24, 26, 29]
def tb_c_swap : List RT := [tq_al 1, tq_il 2, tq_call m_c_numberIn 2 1 4, tq_is 6 4, tq_al 1, tq_il 3, tq_call m_c_numberIn 2 1 4, tq_is 6 5, tq_al 1, tq_il 3, tq_il 4, tq_call m_c_write 3 1 4, tq_al 0, tq_al 1, tq_il 2, tq_il 5, tq_call (rV 0 m_c_become) 4 1 4, tq_iret 4]
def m_c_swap : RM := rMeth tb_c_swap 400 6
abbrev rm_c_swap : Room := { frames := 8, cells := 4, slots := 48, locals := 135 }
set_option maxHeartbeats 4000000 in
set_option maxRecDepth 20000 in
theorem ok_c_swap : rMet y_c_swap (Cond.code y_c_swap prog_1_method_62_code 6 (some .int) :: rT) rm_c_swap 4 m_c_swap := by
  refine rMeth_ok (ps := ps_c_swap) (tab := tb_c_swap) (by decide +kernel) rfl rfl rfl rfl ?_
  refine rcons (ro_aload_n (k := 1) rfl (by decide +kernel) rfl) ?_
  refine rcons (ro_iload_n (k := 2) rfl (by decide +kernel) rfl) ?_
  refine rcons (ro_callS ok_c_numberIn (by decide +kernel) rfl (fun s args ht => va_cwS 2 ht (rgoodS (fun w h => List.mem_cons_of_mem _ h) q_498 q_499 q_13 q_500) rfl rfl rfl hy_c_numberIn ⟨Nat.le_of_ble_eq_true rfl, Nat.le_of_ble_eq_true rfl⟩) rfl) ?_
  refine rcons (ro_istore (by decide +kernel) rfl) ?_
  refine rcons (ro_aload_n (k := 1) rfl (by decide +kernel) rfl) ?_
  refine rcons (ro_iload_n (k := 3) rfl (by decide +kernel) rfl) ?_
  refine rcons (ro_callS ok_c_numberIn (by decide +kernel) rfl (fun s args ht => va_cwS 2 ht (rgoodS (fun w h => List.mem_cons_of_mem _ h) q_498 q_499 q_13 q_500) rfl rfl rfl hy_c_numberIn ⟨Nat.le_of_ble_eq_true rfl, Nat.le_of_ble_eq_true rfl⟩) rfl) ?_
  refine rcons (ro_istore (by decide +kernel) rfl) ?_
  refine rcons (ro_aload_n (k := 1) rfl (by decide +kernel) rfl) ?_
  refine rcons (ro_iload_n (k := 3) rfl (by decide +kernel) rfl) ?_
  refine rcons (ro_iload (by decide +kernel) rfl) ?_
  refine rcons (ro_callS ok_c_write (by decide +kernel) rfl (fun s args ht => va_cwS 3 ht (rgoodS (fun w h => List.mem_cons_of_mem _ h) q_606 q_607 q_13 q_608) rfl rfl rfl hy_c_write ⟨Nat.le_of_ble_eq_true rfl, Nat.le_of_ble_eq_true rfl⟩) rfl) ?_
  refine rcons (ro_aload_n (k := 0) rfl (by decide +kernel) rfl) ?_
  refine rcons (ro_aload_n (k := 1) rfl (by decide +kernel) rfl) ?_
  refine rcons (ro_iload_n (k := 2) rfl (by decide +kernel) rfl) ?_
  refine rcons (ro_iload (by decide +kernel) rfl) ?_
  refine rcons (ro_callV (C := rN0) (T := rF0) (N := 7) rfl ok_c_become (by decide +kernel) rfl (fun s args ht => cwV (C := rN0) 3 ht (rgoodV (C := rN0) (fun w h => List.mem_cons_of_mem _ h) q_602 q_604 q_4 q_13 q_605) rfl rfl rfl hv_c_become ⟨Nat.le_of_ble_eq_true rfl, Nat.le_of_ble_eq_true rfl⟩) rfl) ?_
  refine rcons (ro_iret (by decide +kernel)) ?_
  exact rnil
def ps_c_daySwap : List Nat := [0, 1, 2, 5, 6, 7, 10]
def tb_c_daySwap : List RT := [tq_al 0, tq_al 0, tq_getf 0 0, tq_il 1, tq_il 2, tq_call (rV 0 m_c_swap) 4 4 4, tq_iret 4]
def m_c_daySwap : RM := rMeth tb_c_daySwap 400 3
abbrev rm_c_daySwap : Room := { frames := 9, cells := 4, slots := 48, locals := 160 }
set_option maxHeartbeats 4000000 in
set_option maxRecDepth 20000 in
theorem ok_c_daySwap : rMet y_c_daySwap (Cond.code y_c_daySwap prog_1_method_15_code 3 (some .int) :: rT) rm_c_daySwap 4 m_c_daySwap := by
  refine rMeth_ok (ps := ps_c_daySwap) (tab := tb_c_daySwap) (by decide +kernel) rfl rfl rfl rfl ?_
  refine rcons (ro_aload_n (k := 0) rfl (by decide +kernel) rfl) ?_
  refine rcons (ro_aload_n (k := 0) rfl (by decide +kernel) rfl) ?_
  refine rcons (ro_getf (C := rN0) (T := rF0) (N := 7) (k := 0) (by decide +kernel) rfl (rU0c _) (by decide) (List.mem_cons_of_mem _ q_43) rfl) ?_
  refine rcons (ro_iload_n (k := 1) rfl (by decide +kernel) rfl) ?_
  refine rcons (ro_iload_n (k := 2) rfl (by decide +kernel) rfl) ?_
  refine rcons (ro_callV (C := rN0) (T := rF0) (N := 7) rfl ok_c_swap (by decide +kernel) rfl (fun s args ht => cwV (C := rN0) 3 ht (rgoodV (C := rN0) (fun w h => List.mem_cons_of_mem _ h) q_711 q_713 q_6 q_13 q_714) rfl rfl rfl hv_c_swap ⟨Nat.le_of_ble_eq_true rfl, Nat.le_of_ble_eq_true rfl⟩) rfl) ?_
  refine rcons (ro_iret (by decide +kernel)) ?_
  exact rnil
def ps_c_order : List Nat := [0, 1, 2, 5, 6, 9, 10, 11, 14, 15, 18, 19]
def tb_c_order : List RT := [tq_il 0, tq_il 1, tq_if2 (fun x y => decide (y ≤ x)) 5, tq_ic (-1), tq_go 11, tq_il 0, tq_il 1, tq_if2 (fun x y => decide (x ≤ y)) 10, tq_ic 1, tq_go 11, tq_ic 0, tq_iret 0]
def m_c_order : RM := rMeth tb_c_order 400 2
abbrev rm_c_order : Room := { frames := 0, cells := 0, slots := 0, locals := 0 }
set_option maxHeartbeats 4000000 in
set_option maxRecDepth 20000 in
theorem ok_c_order : rMet y_c_order (Cond.code y_c_order prog_1_method_65_code 2 (some .int) :: rT) rm_c_order 0 m_c_order := by
  refine rMeth_ok (ps := ps_c_order) (tab := tb_c_order) (by decide +kernel) rfl rfl rfl rfl ?_
  refine rcons (ro_iload_n (k := 0) rfl (by decide +kernel) rfl) ?_
  refine rcons (ro_iload_n (k := 1) rfl (by decide +kernel) rfl) ?_
  refine rcons (ro_icmp_ge (off := 7) (by decide +kernel) rfl rfl) ?_
  refine rcons (ro_iconst (n := (-1)) (by decide +kernel) rfl rfl) ?_
  refine rcons (ro_goto (off := 13) (by decide +kernel) rfl) ?_
  refine rcons (ro_iload_n (k := 0) rfl (by decide +kernel) rfl) ?_
  refine rcons (ro_iload_n (k := 1) rfl (by decide +kernel) rfl) ?_
  refine rcons (ro_icmp_le (off := 7) (by decide +kernel) rfl rfl) ?_
  refine rcons (ro_iconst (n := 1) (by decide +kernel) rfl rfl) ?_
  refine rcons (ro_goto (off := 4) (by decide +kernel) rfl) ?_
  refine rcons (ro_iconst (n := 0) (by decide +kernel) rfl rfl) ?_
  refine rcons (ro_iret (by decide +kernel)) ?_
  exact rnil
def ps_c_dayOrder : List Nat := [0, 1, 4, 5, 8, 9, 12, 13, 16, 19]
def tb_c_dayOrder : List RT := [tq_al 0, tq_getf 0 0, tq_il 1, tq_call m_c_numberIn 2 1 2, tq_al 0, tq_getf 0 0, tq_il 2, tq_call m_c_numberIn 2 1 2, tq_call m_c_order 2 0 2, tq_iret 2]
def m_c_dayOrder : RM := rMeth tb_c_dayOrder 400 3
abbrev rm_c_dayOrder : Room := { frames := 7, cells := 2, slots := 24, locals := 111 }
set_option maxHeartbeats 4000000 in
set_option maxRecDepth 20000 in
theorem ok_c_dayOrder : rMet y_c_dayOrder (Cond.code y_c_dayOrder prog_1_method_16_code 3 (some .int) :: rT) rm_c_dayOrder 2 m_c_dayOrder := by
  refine rMeth_ok (ps := ps_c_dayOrder) (tab := tb_c_dayOrder) (by decide +kernel) rfl rfl rfl rfl ?_
  refine rcons (ro_aload_n (k := 0) rfl (by decide +kernel) rfl) ?_
  refine rcons (ro_getf (C := rN0) (T := rF0) (N := 7) (k := 0) (by decide +kernel) rfl (rU0c _) (by decide) (List.mem_cons_of_mem _ q_43) rfl) ?_
  refine rcons (ro_iload_n (k := 1) rfl (by decide +kernel) rfl) ?_
  refine rcons (ro_callS ok_c_numberIn (by decide +kernel) rfl (fun s args ht => va_cwS 2 ht (rgoodS (fun w h => List.mem_cons_of_mem _ h) q_498 q_499 q_13 q_500) rfl rfl rfl hy_c_numberIn ⟨Nat.le_of_ble_eq_true rfl, Nat.le_of_ble_eq_true rfl⟩) rfl) ?_
  refine rcons (ro_aload_n (k := 0) rfl (by decide +kernel) rfl) ?_
  refine rcons (ro_getf (C := rN0) (T := rF0) (N := 7) (k := 0) (by decide +kernel) rfl (rU0c _) (by decide) (List.mem_cons_of_mem _ q_43) rfl) ?_
  refine rcons (ro_iload_n (k := 2) rfl (by decide +kernel) rfl) ?_
  refine rcons (ro_callS ok_c_numberIn (by decide +kernel) rfl (fun s args ht => va_cwS 2 ht (rgoodS (fun w h => List.mem_cons_of_mem _ h) q_498 q_499 q_13 q_500) rfl rfl rfl hy_c_numberIn ⟨Nat.le_of_ble_eq_true rfl, Nat.le_of_ble_eq_true rfl⟩) rfl) ?_
  refine rcons (ro_callS ok_c_order (by decide +kernel) rfl (fun s args ht => va_cwS 2 ht (rgoodS (fun w h => List.mem_cons_of_mem _ h) q_553 q_554 q_13 q_555) rfl rfl rfl hy_c_order ⟨Nat.le_of_ble_eq_true rfl, Nat.le_of_ble_eq_true rfl⟩) rfl) ?_
  refine rcons (ro_iret (by decide +kernel)) ?_
  exact rnil
def ps_c_isSameDay : List Nat := [0, 1, 4, 5, 8, 9, 12, 13, 16, 19, 20, 23, 24]
def tb_c_isSameDay : List RT := [tq_al 0, tq_getf 0 0, tq_il 1, tq_call m_c_numberIn 2 1 2, tq_al 0, tq_getf 0 0, tq_il 2, tq_call m_c_numberIn 2 1 2, tq_if2 (fun x y => !decide (x = y)) 11, tq_ic 1, tq_go 12, tq_ic 0, tq_zret 2]
def m_c_isSameDay : RM := rMeth tb_c_isSameDay 400 3
abbrev rm_c_isSameDay : Room := { frames := 7, cells := 2, slots := 24, locals := 111 }
set_option maxHeartbeats 4000000 in
set_option maxRecDepth 20000 in
theorem ok_c_isSameDay : rMet y_c_isSameDay (Cond.code y_c_isSameDay prog_1_method_17_code 3 (some .boolean) :: rT) rm_c_isSameDay 2 m_c_isSameDay := by
  refine rMeth_ok (ps := ps_c_isSameDay) (tab := tb_c_isSameDay) (by decide +kernel) rfl rfl rfl rfl ?_
  refine rcons (ro_aload_n (k := 0) rfl (by decide +kernel) rfl) ?_
  refine rcons (ro_getf (C := rN0) (T := rF0) (N := 7) (k := 0) (by decide +kernel) rfl (rU0c _) (by decide) (List.mem_cons_of_mem _ q_43) rfl) ?_
  refine rcons (ro_iload_n (k := 1) rfl (by decide +kernel) rfl) ?_
  refine rcons (ro_callS ok_c_numberIn (by decide +kernel) rfl (fun s args ht => va_cwS 2 ht (rgoodS (fun w h => List.mem_cons_of_mem _ h) q_498 q_499 q_13 q_500) rfl rfl rfl hy_c_numberIn ⟨Nat.le_of_ble_eq_true rfl, Nat.le_of_ble_eq_true rfl⟩) rfl) ?_
  refine rcons (ro_aload_n (k := 0) rfl (by decide +kernel) rfl) ?_
  refine rcons (ro_getf (C := rN0) (T := rF0) (N := 7) (k := 0) (by decide +kernel) rfl (rU0c _) (by decide) (List.mem_cons_of_mem _ q_43) rfl) ?_
  refine rcons (ro_iload_n (k := 2) rfl (by decide +kernel) rfl) ?_
  refine rcons (ro_callS ok_c_numberIn (by decide +kernel) rfl (fun s args ht => va_cwS 2 ht (rgoodS (fun w h => List.mem_cons_of_mem _ h) q_498 q_499 q_13 q_500) rfl rfl rfl hy_c_numberIn ⟨Nat.le_of_ble_eq_true rfl, Nat.le_of_ble_eq_true rfl⟩) rfl) ?_
  refine rcons (ro_icmp_ne (off := 7) (by decide +kernel) rfl rfl) ?_
  refine rcons (ro_iconst (n := 1) (by decide +kernel) rfl rfl) ?_
  refine rcons (ro_goto (off := 4) (by decide +kernel) rfl) ?_
  refine rcons (ro_iconst (n := 0) (by decide +kernel) rfl rfl) ?_
  refine rcons (ro_zret (by decide +kernel)) ?_
  exact rnil
def ps_c_hasNumber : List Nat := [0, 1, 2, 5, 7, 8, 9, 12, 14, 15, 18, 19, 22, 23]
def tb_c_hasNumber : List RT := [tq_al 0, tq_il 1, tq_call m_c_numberIn 2 1 2, tq_is 5 4, tq_il 2, tq_il 3, tq_call m_c_refuseOutside 2 1 2, tq_il 4, tq_il 2, tq_if2 (fun x y => !decide (x = y)) 12, tq_ic 1, tq_go 13, tq_ic 0, tq_zret 2]
def m_c_hasNumber : RM := rMeth tb_c_hasNumber 400 5
abbrev rm_c_hasNumber : Room := { frames := 7, cells := 2, slots := 24, locals := 111 }
set_option maxHeartbeats 4000000 in
set_option maxRecDepth 20000 in
theorem ok_c_hasNumber : rMet y_c_hasNumber (Cond.code y_c_hasNumber prog_1_method_63_code 5 (some .boolean) :: rT) rm_c_hasNumber 2 m_c_hasNumber := by
  refine rMeth_ok (ps := ps_c_hasNumber) (tab := tb_c_hasNumber) (by decide +kernel) rfl rfl rfl rfl ?_
  refine rcons (ro_aload_n (k := 0) rfl (by decide +kernel) rfl) ?_
  refine rcons (ro_iload_n (k := 1) rfl (by decide +kernel) rfl) ?_
  refine rcons (ro_callS ok_c_numberIn (by decide +kernel) rfl (fun s args ht => va_cwS 2 ht (rgoodS (fun w h => List.mem_cons_of_mem _ h) q_498 q_499 q_13 q_500) rfl rfl rfl hy_c_numberIn ⟨Nat.le_of_ble_eq_true rfl, Nat.le_of_ble_eq_true rfl⟩) rfl) ?_
  refine rcons (ro_istore (by decide +kernel) rfl) ?_
  refine rcons (ro_iload_n (k := 2) rfl (by decide +kernel) rfl) ?_
  refine rcons (ro_iload_n (k := 3) rfl (by decide +kernel) rfl) ?_
  refine rcons (ro_callS ok_c_refuseOutside (by decide +kernel) rfl (fun s args ht => va_cwS 2 ht (rgoodS (fun w h => List.mem_cons_of_mem _ h) q_596 q_597 q_13 q_598) rfl rfl rfl hy_c_refuseOutside ⟨Nat.le_of_ble_eq_true rfl, Nat.le_of_ble_eq_true rfl⟩) rfl) ?_
  refine rcons (ro_iload (by decide +kernel) rfl) ?_
  refine rcons (ro_iload_n (k := 2) rfl (by decide +kernel) rfl) ?_
  refine rcons (ro_icmp_ne (off := 7) (by decide +kernel) rfl rfl) ?_
  refine rcons (ro_iconst (n := 1) (by decide +kernel) rfl rfl) ?_
  refine rcons (ro_goto (off := 4) (by decide +kernel) rfl) ?_
  refine rcons (ro_iconst (n := 0) (by decide +kernel) rfl rfl) ?_
  refine rcons (ro_zret (by decide +kernel)) ?_
  exact rnil
def ps_c_isDay : List Nat := [0, 1, 4, 5, 6, 8, 11]
def tb_c_isDay : List RT := [tq_al 0, tq_getf 0 0, tq_il 1, tq_il 2, tq_ic 7, tq_call m_c_hasNumber 4 2 2, tq_zret 2]
def m_c_isDay : RM := rMeth tb_c_isDay 400 3
abbrev rm_c_isDay : Room := { frames := 8, cells := 2, slots := 24, locals := 135 }
set_option maxHeartbeats 4000000 in
set_option maxRecDepth 20000 in
theorem ok_c_isDay : rMet y_c_isDay (Cond.code y_c_isDay prog_1_method_18_code 3 (some .boolean) :: rT) rm_c_isDay 2 m_c_isDay := by
  refine rMeth_ok (ps := ps_c_isDay) (tab := tb_c_isDay) (by decide +kernel) rfl rfl rfl rfl ?_
  refine rcons (ro_aload_n (k := 0) rfl (by decide +kernel) rfl) ?_
  refine rcons (ro_getf (C := rN0) (T := rF0) (N := 7) (k := 0) (by decide +kernel) rfl (rU0c _) (by decide) (List.mem_cons_of_mem _ q_43) rfl) ?_
  refine rcons (ro_iload_n (k := 1) rfl (by decide +kernel) rfl) ?_
  refine rcons (ro_iload_n (k := 2) rfl (by decide +kernel) rfl) ?_
  refine rcons (ro_bipush (n := 7) (by decide +kernel) rfl rfl) ?_
  refine rcons (ro_callS ok_c_hasNumber (by decide +kernel) rfl (fun s args ht => va_cwS 4 ht (rgoodS (fun w h => List.mem_cons_of_mem _ h) q_733 q_734 q_13 q_735) rfl rfl rfl hy_c_hasNumber ⟨Nat.le_of_ble_eq_true rfl, Nat.le_of_ble_eq_true rfl⟩) rfl) ?_
  refine rcons (ro_zret (by decide +kernel)) ?_
  exact rnil
def ps_c_month : List Nat := [0, 1, 2, 5, 6, 7, 9, 12]
def tb_c_month : List RT := [tq_al 0, tq_al 0, tq_getf 0 1, tq_il 1, tq_il 2, tq_ic 12, tq_call (rV 0 m_c_exchange) 5 3 3, tq_iret 3]
def m_c_month : RM := rMeth tb_c_month 400 3
abbrev rm_c_month : Room := { frames := 9, cells := 3, slots := 36, locals := 160 }
set_option maxHeartbeats 4000000 in
set_option maxRecDepth 20000 in
theorem ok_c_month : rMet y_c_month (Cond.code y_c_month prog_1_method_19_code 3 (some .int) :: rT) rm_c_month 3 m_c_month := by
  refine rMeth_ok (ps := ps_c_month) (tab := tb_c_month) (by decide +kernel) rfl rfl rfl rfl ?_
  refine rcons (ro_aload_n (k := 0) rfl (by decide +kernel) rfl) ?_
  refine rcons (ro_aload_n (k := 0) rfl (by decide +kernel) rfl) ?_
  refine rcons (ro_getf (C := rN0) (T := rF0) (N := 7) (k := 1) (by decide +kernel) rfl (rU0c _) (by decide) (List.mem_cons_of_mem _ q_44) rfl) ?_
  refine rcons (ro_iload_n (k := 1) rfl (by decide +kernel) rfl) ?_
  refine rcons (ro_iload_n (k := 2) rfl (by decide +kernel) rfl) ?_
  refine rcons (ro_bipush (n := 12) (by decide +kernel) rfl rfl) ?_
  refine rcons (ro_callV (C := rN0) (T := rF0) (N := 7) rfl ok_c_exchange (by decide +kernel) rfl (fun s args ht => cwV (C := rN0) 4 ht (rgoodV (C := rN0) (fun w h => List.mem_cons_of_mem _ h) q_592 q_594 q_3 q_13 q_595) rfl rfl rfl hv_c_exchange ⟨Nat.le_of_ble_eq_true rfl, Nat.le_of_ble_eq_true rfl⟩) rfl) ?_
  refine rcons (ro_iret (by decide +kernel)) ?_
  exact rnil
def ps_c_monthNumber : List Nat := [0, 1, 4, 5, 8]
def tb_c_monthNumber : List RT := [tq_al 0, tq_getf 0 1, tq_il 1, tq_call m_c_numberIn 2 1 1, tq_iret 1]
def m_c_monthNumber : RM := rMeth tb_c_monthNumber 400 2
abbrev rm_c_monthNumber : Room := { frames := 7, cells := 1, slots := 12, locals := 111 }
set_option maxHeartbeats 4000000 in
set_option maxRecDepth 20000 in
theorem ok_c_monthNumber : rMet y_c_monthNumber (Cond.code y_c_monthNumber prog_1_method_20_code 2 (some .int) :: rT) rm_c_monthNumber 1 m_c_monthNumber := by
  refine rMeth_ok (ps := ps_c_monthNumber) (tab := tb_c_monthNumber) (by decide +kernel) rfl rfl rfl rfl ?_
  refine rcons (ro_aload_n (k := 0) rfl (by decide +kernel) rfl) ?_
  refine rcons (ro_getf (C := rN0) (T := rF0) (N := 7) (k := 1) (by decide +kernel) rfl (rU0c _) (by decide) (List.mem_cons_of_mem _ q_44) rfl) ?_
  refine rcons (ro_iload_n (k := 1) rfl (by decide +kernel) rfl) ?_
  refine rcons (ro_callS ok_c_numberIn (by decide +kernel) rfl (fun s args ht => va_cwS 2 ht (rgoodS (fun w h => List.mem_cons_of_mem _ h) q_498 q_499 q_13 q_500) rfl rfl rfl hy_c_numberIn ⟨Nat.le_of_ble_eq_true rfl, Nat.le_of_ble_eq_true rfl⟩) rfl) ?_
  refine rcons (ro_iret (by decide +kernel)) ?_
  exact rnil
def ps_c_monthPlace : List Nat := [0, 1, 4, 5, 8, 11]
def tb_c_monthPlace : List RT := [tq_al 0, tq_getf 0 1, tq_il 1, tq_call m_c_numberIn 2 1 1, tq_call m_c_placeOf 1 0 1, tq_iret 1]
def m_c_monthPlace : RM := rMeth tb_c_monthPlace 400 2
abbrev rm_c_monthPlace : Room := { frames := 7, cells := 1, slots := 12, locals := 111 }
set_option maxHeartbeats 4000000 in
set_option maxRecDepth 20000 in
theorem ok_c_monthPlace : rMet y_c_monthPlace (Cond.code y_c_monthPlace prog_1_method_21_code 2 (some .int) :: rT) rm_c_monthPlace 1 m_c_monthPlace := by
  refine rMeth_ok (ps := ps_c_monthPlace) (tab := tb_c_monthPlace) (by decide +kernel) rfl rfl rfl rfl ?_
  refine rcons (ro_aload_n (k := 0) rfl (by decide +kernel) rfl) ?_
  refine rcons (ro_getf (C := rN0) (T := rF0) (N := 7) (k := 1) (by decide +kernel) rfl (rU0c _) (by decide) (List.mem_cons_of_mem _ q_44) rfl) ?_
  refine rcons (ro_iload_n (k := 1) rfl (by decide +kernel) rfl) ?_
  refine rcons (ro_callS ok_c_numberIn (by decide +kernel) rfl (fun s args ht => va_cwS 2 ht (rgoodS (fun w h => List.mem_cons_of_mem _ h) q_498 q_499 q_13 q_500) rfl rfl rfl hy_c_numberIn ⟨Nat.le_of_ble_eq_true rfl, Nat.le_of_ble_eq_true rfl⟩) rfl) ?_
  refine rcons (ro_callS ok_c_placeOf (by decide +kernel) rfl (fun s args ht => va_cwS 1 ht (rgoodS (fun w h => List.mem_cons_of_mem _ h) q_448 q_449 q_13 q_450) rfl rfl rfl hy_c_placeOf ⟨Nat.le_of_ble_eq_true rfl, Nat.le_of_ble_eq_true rfl⟩) rfl) ?_
  refine rcons (ro_iret (by decide +kernel)) ?_
  exact rnil
def ps_c_nameOfMonth : List Nat := [0, 1, 60, 62, 63, 65, 66, 68, 69, 71, 72, 74, 75, 77, 78, 80, 81, 83, 84, 86, 87, 90, 91, 94, 95, 98]
def tb_c_nameOfMonth : List RT := [tq_il 0, tq_sw 1 [2, 4, 6, 8, 10, 12, 14, 16, 18, 20, 22] 24, tq_rc 108, tq_aret 0, tq_rc 109, tq_aret 0, tq_rc 110, tq_aret 0, tq_rc 111, tq_aret 0, tq_rc 112, tq_aret 0, tq_rc 113, tq_aret 0, tq_rc 114, tq_aret 0, tq_rc 115, tq_aret 0, tq_rc 116, tq_aret 0, tq_rc 117, tq_aret 0, tq_rc 118, tq_aret 0, tq_rc 119, tq_aret 0]
def m_c_nameOfMonth : RM := rMeth tb_c_nameOfMonth 400 1
abbrev rm_c_nameOfMonth : Room := { frames := 0, cells := 0, slots := 0, locals := 0 }
set_option maxHeartbeats 4000000 in
set_option maxRecDepth 20000 in
theorem ok_c_nameOfMonth : rMet y_c_nameOfMonth (Cond.code y_c_nameOfMonth prog_1_method_74_code 1 (some (.object "java/lang/String")) :: rT) rm_c_nameOfMonth 0 m_c_nameOfMonth := by
  refine rMeth_ok (ps := ps_c_nameOfMonth) (tab := tb_c_nameOfMonth) (by decide +kernel) rfl rfl rfl rfl ?_
  refine rcons (ro_iload_n (k := 0) rfl (by decide +kernel) rfl) ?_
  refine rcons (ro_sw (dflt := 94) (lo := 1) (hi := 11) (offs := #[59, 62, 65, 68, 71, 74, 77, 80, 83, 86, 90]) (len := 59) (by decide +kernel) rfl rfl (rsw_ok (pc := 1) (d := 24) (offs := #[59, 62, 65, 68, 71, 74, 77, 80, 83, 86, 90]) (os := [2, 4, 6, 8, 10, 12, 14, 16, 18, 20, 22]) (J := fun o => ps_c_nameOfMonth.getD o 0) (by decide +kernel))) ?_
  refine rcons (ro_ldcS (k := 8) (by decide) rfl (by decide +kernel) rfl) ?_
  refine rcons (ro_aret (by decide +kernel)) ?_
  refine rcons (ro_ldcS (k := 9) (by decide) rfl (by decide +kernel) rfl) ?_
  refine rcons (ro_aret (by decide +kernel)) ?_
  refine rcons (ro_ldcS (k := 10) (by decide) rfl (by decide +kernel) rfl) ?_
  refine rcons (ro_aret (by decide +kernel)) ?_
  refine rcons (ro_ldcS (k := 11) (by decide) rfl (by decide +kernel) rfl) ?_
  refine rcons (ro_aret (by decide +kernel)) ?_
  refine rcons (ro_ldcS (k := 12) (by decide) rfl (by decide +kernel) rfl) ?_
  refine rcons (ro_aret (by decide +kernel)) ?_
  refine rcons (ro_ldcS (k := 13) (by decide) rfl (by decide +kernel) rfl) ?_
  refine rcons (ro_aret (by decide +kernel)) ?_
  refine rcons (ro_ldcS (k := 14) (by decide) rfl (by decide +kernel) rfl) ?_
  refine rcons (ro_aret (by decide +kernel)) ?_
  refine rcons (ro_ldcS (k := 15) (by decide) rfl (by decide +kernel) rfl) ?_
  refine rcons (ro_aret (by decide +kernel)) ?_
  refine rcons (ro_ldcS (k := 16) (by decide) rfl (by decide +kernel) rfl) ?_
  refine rcons (ro_aret (by decide +kernel)) ?_
  refine rcons (ro_ldcSW (k := 17) (by decide) rfl (by decide +kernel) rfl) ?_
  refine rcons (ro_aret (by decide +kernel)) ?_
  refine rcons (ro_ldcSW (k := 18) (by decide) rfl (by decide +kernel) rfl) ?_
  refine rcons (ro_aret (by decide +kernel)) ?_
  refine rcons (ro_ldcSW (k := 19) (by decide) rfl (by decide +kernel) rfl) ?_
  refine rcons (ro_aret (by decide +kernel)) ?_
  exact rnil
def ps_c_monthName : List Nat := [0, 1, 4, 5, 8, 11]
def tb_c_monthName : List RT := [tq_al 0, tq_getf 0 1, tq_il 1, tq_call m_c_numberIn 2 1 1, tq_call m_c_nameOfMonth 1 0 1, tq_aret 1]
def m_c_monthName : RM := rMeth tb_c_monthName 400 2
abbrev rm_c_monthName : Room := { frames := 7, cells := 1, slots := 12, locals := 111 }
set_option maxHeartbeats 4000000 in
set_option maxRecDepth 20000 in
theorem ok_c_monthName : rMet y_c_monthName (Cond.code y_c_monthName prog_1_method_22_code 2 (some (.object "java/lang/String")) :: rT) rm_c_monthName 1 m_c_monthName := by
  refine rMeth_ok (ps := ps_c_monthName) (tab := tb_c_monthName) (by decide +kernel) rfl rfl rfl rfl ?_
  refine rcons (ro_aload_n (k := 0) rfl (by decide +kernel) rfl) ?_
  refine rcons (ro_getf (C := rN0) (T := rF0) (N := 7) (k := 1) (by decide +kernel) rfl (rU0c _) (by decide) (List.mem_cons_of_mem _ q_44) rfl) ?_
  refine rcons (ro_iload_n (k := 1) rfl (by decide +kernel) rfl) ?_
  refine rcons (ro_callS ok_c_numberIn (by decide +kernel) rfl (fun s args ht => va_cwS 2 ht (rgoodS (fun w h => List.mem_cons_of_mem _ h) q_498 q_499 q_13 q_500) rfl rfl rfl hy_c_numberIn ⟨Nat.le_of_ble_eq_true rfl, Nat.le_of_ble_eq_true rfl⟩) rfl) ?_
  refine rcons (ro_callS ok_c_nameOfMonth (by decide +kernel) rfl (fun s args ht => va_cwS 1 ht (rgoodS (fun w h => List.mem_cons_of_mem _ h) q_415 q_416 q_13 q_417) rfl rfl rfl hy_c_nameOfMonth ⟨Nat.le_of_ble_eq_true rfl, Nat.le_of_ble_eq_true rfl⟩) rfl) ?_
  refine rcons (ro_aret (by decide +kernel)) ?_
  exact rnil
def ps_c_monthAt : List Nat := [0, 1, 4, 5, 8, 9, 10, 12, 15]
def tb_c_monthAt : List RT := [tq_al 0, tq_getf 0 1, tq_il 1, tq_call m_c_numberIn 2 1 1, tq_il 2, tq_i2l, tq_ic 12, tq_call m_c_numberOn 3 0 1, tq_iret 1]
def m_c_monthAt : RM := rMeth tb_c_monthAt 400 3
abbrev rm_c_monthAt : Room := { frames := 7, cells := 1, slots := 12, locals := 111 }
set_option maxHeartbeats 4000000 in
set_option maxRecDepth 20000 in
theorem ok_c_monthAt : rMet y_c_monthAt (Cond.code y_c_monthAt prog_1_method_27_code 3 (some .int) :: rT) rm_c_monthAt 1 m_c_monthAt := by
  refine rMeth_ok (ps := ps_c_monthAt) (tab := tb_c_monthAt) (by decide +kernel) rfl rfl rfl rfl ?_
  refine rcons (ro_aload_n (k := 0) rfl (by decide +kernel) rfl) ?_
  refine rcons (ro_getf (C := rN0) (T := rF0) (N := 7) (k := 1) (by decide +kernel) rfl (rU0c _) (by decide) (List.mem_cons_of_mem _ q_44) rfl) ?_
  refine rcons (ro_iload_n (k := 1) rfl (by decide +kernel) rfl) ?_
  refine rcons (ro_callS ok_c_numberIn (by decide +kernel) rfl (fun s args ht => va_cwS 2 ht (rgoodS (fun w h => List.mem_cons_of_mem _ h) q_498 q_499 q_13 q_500) rfl rfl rfl hy_c_numberIn ⟨Nat.le_of_ble_eq_true rfl, Nat.le_of_ble_eq_true rfl⟩) rfl) ?_
  refine rcons (ro_iload_n (k := 2) rfl (by decide +kernel) rfl) ?_
  refine rcons (ro_i2l (by decide +kernel) rfl) ?_
  refine rcons (ro_bipush (n := 12) (by decide +kernel) rfl rfl) ?_
  refine rcons (ro_callS ok_c_numberOn (by decide +kernel) rfl (fun s args ht => va_cwS 3 ht (rgoodS (fun w h => List.mem_cons_of_mem _ h) q_445 q_446 q_13 q_447) rfl rfl rfl hy_c_numberOn ⟨Nat.le_of_ble_eq_true rfl, Nat.le_of_ble_eq_true rfl⟩) rfl) ?_
  refine rcons (ro_iret (by decide +kernel)) ?_
  exact rnil
def ps_c_monthOn : List Nat := [0, 1, 2, 5, 6, 7, 8, 9, 12, 15]
def tb_c_monthOn : List RT := [tq_al 0, tq_al 0, tq_getf 0 1, tq_il 1, tq_al 0, tq_il 1, tq_il 2, tq_call (rV 0 m_c_monthAt) 3 1 2, tq_call (rV 0 m_c_become) 4 1 2, tq_iret 2]
def m_c_monthOn : RM := rMeth tb_c_monthOn 400 3
abbrev rm_c_monthOn : Room := { frames := 8, cells := 2, slots := 24, locals := 135 }
set_option maxHeartbeats 4000000 in
set_option maxRecDepth 20000 in
theorem ok_c_monthOn : rMet y_c_monthOn (Cond.code y_c_monthOn prog_1_method_23_code 3 (some .int) :: rT) rm_c_monthOn 2 m_c_monthOn := by
  refine rMeth_ok (ps := ps_c_monthOn) (tab := tb_c_monthOn) (by decide +kernel) rfl rfl rfl rfl ?_
  refine rcons (ro_aload_n (k := 0) rfl (by decide +kernel) rfl) ?_
  refine rcons (ro_aload_n (k := 0) rfl (by decide +kernel) rfl) ?_
  refine rcons (ro_getf (C := rN0) (T := rF0) (N := 7) (k := 1) (by decide +kernel) rfl (rU0c _) (by decide) (List.mem_cons_of_mem _ q_44) rfl) ?_
  refine rcons (ro_iload_n (k := 1) rfl (by decide +kernel) rfl) ?_
  refine rcons (ro_aload_n (k := 0) rfl (by decide +kernel) rfl) ?_
  refine rcons (ro_iload_n (k := 1) rfl (by decide +kernel) rfl) ?_
  refine rcons (ro_iload_n (k := 2) rfl (by decide +kernel) rfl) ?_
  refine rcons (ro_callV (C := rN0) (T := rF0) (N := 7) rfl ok_c_monthAt (by decide +kernel) rfl (fun s args ht => cwV (C := rN0) 2 ht (rgoodV (C := rN0) (fun w h => List.mem_cons_of_mem _ h) q_771 q_772 q_773 q_13 q_774) rfl rfl rfl hv_c_monthAt ⟨Nat.le_of_ble_eq_true rfl, Nat.le_of_ble_eq_true rfl⟩) rfl) ?_
  refine rcons (ro_callV (C := rN0) (T := rF0) (N := 7) rfl ok_c_become (by decide +kernel) rfl (fun s args ht => cwV (C := rN0) 3 ht (rgoodV (C := rN0) (fun w h => List.mem_cons_of_mem _ h) q_602 q_604 q_4 q_13 q_605) rfl rfl rfl hv_c_become ⟨Nat.le_of_ble_eq_true rfl, Nat.le_of_ble_eq_true rfl⟩) rfl) ?_
  refine rcons (ro_iret (by decide +kernel)) ?_
  exact rnil
def ps_c_monthAhead : List Nat := [0, 1, 4, 5, 8, 9, 10, 12, 15]
def tb_c_monthAhead : List RT := [tq_al 0, tq_getf 0 1, tq_il 1, tq_call m_c_numberIn 2 1 1, tq_il 2, tq_i2l, tq_ic 12, tq_call m_c_numberBack 3 0 1, tq_iret 1]
def m_c_monthAhead : RM := rMeth tb_c_monthAhead 400 3
abbrev rm_c_monthAhead : Room := { frames := 7, cells := 1, slots := 12, locals := 111 }
set_option maxHeartbeats 4000000 in
set_option maxRecDepth 20000 in
theorem ok_c_monthAhead : rMet y_c_monthAhead (Cond.code y_c_monthAhead prog_1_method_28_code 3 (some .int) :: rT) rm_c_monthAhead 1 m_c_monthAhead := by
  refine rMeth_ok (ps := ps_c_monthAhead) (tab := tb_c_monthAhead) (by decide +kernel) rfl rfl rfl rfl ?_
  refine rcons (ro_aload_n (k := 0) rfl (by decide +kernel) rfl) ?_
  refine rcons (ro_getf (C := rN0) (T := rF0) (N := 7) (k := 1) (by decide +kernel) rfl (rU0c _) (by decide) (List.mem_cons_of_mem _ q_44) rfl) ?_
  refine rcons (ro_iload_n (k := 1) rfl (by decide +kernel) rfl) ?_
  refine rcons (ro_callS ok_c_numberIn (by decide +kernel) rfl (fun s args ht => va_cwS 2 ht (rgoodS (fun w h => List.mem_cons_of_mem _ h) q_498 q_499 q_13 q_500) rfl rfl rfl hy_c_numberIn ⟨Nat.le_of_ble_eq_true rfl, Nat.le_of_ble_eq_true rfl⟩) rfl) ?_
  refine rcons (ro_iload_n (k := 2) rfl (by decide +kernel) rfl) ?_
  refine rcons (ro_i2l (by decide +kernel) rfl) ?_
  refine rcons (ro_bipush (n := 12) (by decide +kernel) rfl rfl) ?_
  refine rcons (ro_callS ok_c_numberBack (by decide +kernel) rfl (fun s args ht => va_cwS 3 ht (rgoodS (fun w h => List.mem_cons_of_mem _ h) q_457 q_458 q_13 q_459) rfl rfl rfl hy_c_numberBack ⟨Nat.le_of_ble_eq_true rfl, Nat.le_of_ble_eq_true rfl⟩) rfl) ?_
  refine rcons (ro_iret (by decide +kernel)) ?_
  exact rnil
def ps_c_monthBack : List Nat := [0, 1, 2, 5, 6, 7, 8, 9, 12, 15]
def tb_c_monthBack : List RT := [tq_al 0, tq_al 0, tq_getf 0 1, tq_il 1, tq_al 0, tq_il 1, tq_il 2, tq_call (rV 0 m_c_monthAhead) 3 1 2, tq_call (rV 0 m_c_become) 4 1 2, tq_iret 2]
def m_c_monthBack : RM := rMeth tb_c_monthBack 400 3
abbrev rm_c_monthBack : Room := { frames := 8, cells := 2, slots := 24, locals := 135 }
set_option maxHeartbeats 4000000 in
set_option maxRecDepth 20000 in
theorem ok_c_monthBack : rMet y_c_monthBack (Cond.code y_c_monthBack prog_1_method_24_code 3 (some .int) :: rT) rm_c_monthBack 2 m_c_monthBack := by
  refine rMeth_ok (ps := ps_c_monthBack) (tab := tb_c_monthBack) (by decide +kernel) rfl rfl rfl rfl ?_
  refine rcons (ro_aload_n (k := 0) rfl (by decide +kernel) rfl) ?_
  refine rcons (ro_aload_n (k := 0) rfl (by decide +kernel) rfl) ?_
  refine rcons (ro_getf (C := rN0) (T := rF0) (N := 7) (k := 1) (by decide +kernel) rfl (rU0c _) (by decide) (List.mem_cons_of_mem _ q_44) rfl) ?_
  refine rcons (ro_iload_n (k := 1) rfl (by decide +kernel) rfl) ?_
  refine rcons (ro_aload_n (k := 0) rfl (by decide +kernel) rfl) ?_
  refine rcons (ro_iload_n (k := 1) rfl (by decide +kernel) rfl) ?_
  refine rcons (ro_iload_n (k := 2) rfl (by decide +kernel) rfl) ?_
  refine rcons (ro_callV (C := rN0) (T := rF0) (N := 7) rfl ok_c_monthAhead (by decide +kernel) rfl (fun s args ht => cwV (C := rN0) 2 ht (rgoodV (C := rN0) (fun w h => List.mem_cons_of_mem _ h) q_782 q_783 q_784 q_13 q_785) rfl rfl rfl hv_c_monthAhead ⟨Nat.le_of_ble_eq_true rfl, Nat.le_of_ble_eq_true rfl⟩) rfl) ?_
  refine rcons (ro_callV (C := rN0) (T := rF0) (N := 7) rfl ok_c_become (by decide +kernel) rfl (fun s args ht => cwV (C := rN0) 3 ht (rgoodV (C := rN0) (fun w h => List.mem_cons_of_mem _ h) q_602 q_604 q_4 q_13 q_605) rfl rfl rfl hv_c_become ⟨Nat.le_of_ble_eq_true rfl, Nat.le_of_ble_eq_true rfl⟩) rfl) ?_
  refine rcons (ro_iret (by decide +kernel)) ?_
  exact rnil
def ps_c_monthAtFar : List Nat := [0, 1, 4, 5, 8, 10, 11, 12, 15, 17, 19, 22, 24, 26, 28, 31, 34, 36, 38, 40, 43]
def tb_c_monthAtFar : List RT := [tq_al 0, tq_getf 0 1, tq_il 1, tq_call m_c_numberIn 2 1 1, tq_is 8 5, tq_il 2, tq_il 3, tq_call m_c_amount 2 0 1, tq_ls 8 6, tq_il 4, tq_if1 (fun x => decide (x = 0)) 16, tq_il 5, tq_ll 6, tq_ic 12, tq_call m_c_numberBack 3 0 1, tq_go 20, tq_il 5, tq_ll 6, tq_ic 12, tq_call m_c_numberOn 3 0 1, tq_iret 1]
def m_c_monthAtFar : RM := rMeth tb_c_monthAtFar 400 8
abbrev rm_c_monthAtFar : Room := { frames := 7, cells := 1, slots := 12, locals := 111 }
set_option maxHeartbeats 4000000 in
set_option maxRecDepth 20000 in
theorem ok_c_monthAtFar : rMet y_c_monthAtFar (Cond.code y_c_monthAtFar prog_1_method_29_code 8 (some .int) :: rT) rm_c_monthAtFar 1 m_c_monthAtFar := by
  refine rMeth_ok (ps := ps_c_monthAtFar) (tab := tb_c_monthAtFar) (by decide +kernel) rfl rfl rfl rfl ?_
  refine rcons (ro_aload_n (k := 0) rfl (by decide +kernel) rfl) ?_
  refine rcons (ro_getf (C := rN0) (T := rF0) (N := 7) (k := 1) (by decide +kernel) rfl (rU0c _) (by decide) (List.mem_cons_of_mem _ q_44) rfl) ?_
  refine rcons (ro_iload_n (k := 1) rfl (by decide +kernel) rfl) ?_
  refine rcons (ro_callS ok_c_numberIn (by decide +kernel) rfl (fun s args ht => va_cwS 2 ht (rgoodS (fun w h => List.mem_cons_of_mem _ h) q_498 q_499 q_13 q_500) rfl rfl rfl hy_c_numberIn ⟨Nat.le_of_ble_eq_true rfl, Nat.le_of_ble_eq_true rfl⟩) rfl) ?_
  refine rcons (ro_istore (by decide +kernel) rfl) ?_
  refine rcons (ro_iload_n (k := 2) rfl (by decide +kernel) rfl) ?_
  refine rcons (ro_iload_n (k := 3) rfl (by decide +kernel) rfl) ?_
  refine rcons (ro_callS ok_c_amount (by decide +kernel) rfl (fun s args ht => va_cwS 2 ht (rgoodS (fun w h => List.mem_cons_of_mem _ h) q_663 q_664 q_13 q_665) rfl rfl rfl hy_c_amount ⟨Nat.le_of_ble_eq_true rfl, Nat.le_of_ble_eq_true rfl⟩) rfl) ?_
  refine rcons (ro_lstore (by decide +kernel) rfl) ?_
  refine rcons (ro_iload (by decide +kernel) rfl) ?_
  refine rcons (ro_if_eq (off := 15) (by decide +kernel) rfl rfl) ?_
  refine rcons (ro_iload (by decide +kernel) rfl) ?_
  refine rcons (ro_lload (by decide +kernel) rfl) ?_
  refine rcons (ro_bipush (n := 12) (by decide +kernel) rfl rfl) ?_
  refine rcons (ro_callS ok_c_numberBack (by decide +kernel) rfl (fun s args ht => va_cwS 3 ht (rgoodS (fun w h => List.mem_cons_of_mem _ h) q_457 q_458 q_13 q_459) rfl rfl rfl hy_c_numberBack ⟨Nat.le_of_ble_eq_true rfl, Nat.le_of_ble_eq_true rfl⟩) rfl) ?_
  refine rcons (ro_goto (off := 12) (by decide +kernel) rfl) ?_
  refine rcons (ro_iload (by decide +kernel) rfl) ?_
  refine rcons (ro_lload (by decide +kernel) rfl) ?_
  refine rcons (ro_bipush (n := 12) (by decide +kernel) rfl rfl) ?_
  refine rcons (ro_callS ok_c_numberOn (by decide +kernel) rfl (fun s args ht => va_cwS 3 ht (rgoodS (fun w h => List.mem_cons_of_mem _ h) q_445 q_446 q_13 q_447) rfl rfl rfl hy_c_numberOn ⟨Nat.le_of_ble_eq_true rfl, Nat.le_of_ble_eq_true rfl⟩) rfl) ?_
  refine rcons (ro_iret (by decide +kernel)) ?_
  exact rnil
def ps_c_monthOnFar : List Nat := [0, 1, 2, 5, 6, 7, 8, 9, 10, 11, 14, 17]
def tb_c_monthOnFar : List RT := [tq_al 0, tq_al 0, tq_getf 0 1, tq_il 1, tq_al 0, tq_il 1, tq_il 2, tq_il 3, tq_ic 0, tq_call (rV 0 m_c_monthAtFar) 5 1 2, tq_call (rV 0 m_c_become) 4 1 2, tq_iret 2]
def m_c_monthOnFar : RM := rMeth tb_c_monthOnFar 400 4
abbrev rm_c_monthOnFar : Room := { frames := 8, cells := 2, slots := 24, locals := 138 }
set_option maxHeartbeats 4000000 in
set_option maxRecDepth 20000 in
theorem ok_c_monthOnFar : rMet y_c_monthOnFar (Cond.code y_c_monthOnFar prog_1_method_25_code 4 (some .int) :: rT) rm_c_monthOnFar 2 m_c_monthOnFar := by
  refine rMeth_ok (ps := ps_c_monthOnFar) (tab := tb_c_monthOnFar) (by decide +kernel) rfl rfl rfl rfl ?_
  refine rcons (ro_aload_n (k := 0) rfl (by decide +kernel) rfl) ?_
  refine rcons (ro_aload_n (k := 0) rfl (by decide +kernel) rfl) ?_
  refine rcons (ro_getf (C := rN0) (T := rF0) (N := 7) (k := 1) (by decide +kernel) rfl (rU0c _) (by decide) (List.mem_cons_of_mem _ q_44) rfl) ?_
  refine rcons (ro_iload_n (k := 1) rfl (by decide +kernel) rfl) ?_
  refine rcons (ro_aload_n (k := 0) rfl (by decide +kernel) rfl) ?_
  refine rcons (ro_iload_n (k := 1) rfl (by decide +kernel) rfl) ?_
  refine rcons (ro_iload_n (k := 2) rfl (by decide +kernel) rfl) ?_
  refine rcons (ro_iload_n (k := 3) rfl (by decide +kernel) rfl) ?_
  refine rcons (ro_iconst (n := 0) (by decide +kernel) rfl rfl) ?_
  refine rcons (ro_callV (C := rN0) (T := rF0) (N := 7) rfl ok_c_monthAtFar (by decide +kernel) rfl (fun s args ht => cwV (C := rN0) 4 ht (rgoodV (C := rN0) (fun w h => List.mem_cons_of_mem _ h) q_793 q_794 q_795 q_13 q_796) rfl rfl rfl hv_c_monthAtFar ⟨Nat.le_of_ble_eq_true rfl, Nat.le_of_ble_eq_true rfl⟩) rfl) ?_
  refine rcons (ro_callV (C := rN0) (T := rF0) (N := 7) rfl ok_c_become (by decide +kernel) rfl (fun s args ht => cwV (C := rN0) 3 ht (rgoodV (C := rN0) (fun w h => List.mem_cons_of_mem _ h) q_602 q_604 q_4 q_13 q_605) rfl rfl rfl hv_c_become ⟨Nat.le_of_ble_eq_true rfl, Nat.le_of_ble_eq_true rfl⟩) rfl) ?_
  refine rcons (ro_iret (by decide +kernel)) ?_
  exact rnil
def ps_c_monthBackFar : List Nat := [0, 1, 2, 5, 6, 7, 8, 9, 10, 11, 14, 17]
def tb_c_monthBackFar : List RT := [tq_al 0, tq_al 0, tq_getf 0 1, tq_il 1, tq_al 0, tq_il 1, tq_il 2, tq_il 3, tq_ic 1, tq_call (rV 0 m_c_monthAtFar) 5 1 2, tq_call (rV 0 m_c_become) 4 1 2, tq_iret 2]
def m_c_monthBackFar : RM := rMeth tb_c_monthBackFar 400 4
abbrev rm_c_monthBackFar : Room := { frames := 8, cells := 2, slots := 24, locals := 138 }
set_option maxHeartbeats 4000000 in
set_option maxRecDepth 20000 in
theorem ok_c_monthBackFar : rMet y_c_monthBackFar (Cond.code y_c_monthBackFar prog_1_method_26_code 4 (some .int) :: rT) rm_c_monthBackFar 2 m_c_monthBackFar := by
  refine rMeth_ok (ps := ps_c_monthBackFar) (tab := tb_c_monthBackFar) (by decide +kernel) rfl rfl rfl rfl ?_
  refine rcons (ro_aload_n (k := 0) rfl (by decide +kernel) rfl) ?_
  refine rcons (ro_aload_n (k := 0) rfl (by decide +kernel) rfl) ?_
  refine rcons (ro_getf (C := rN0) (T := rF0) (N := 7) (k := 1) (by decide +kernel) rfl (rU0c _) (by decide) (List.mem_cons_of_mem _ q_44) rfl) ?_
  refine rcons (ro_iload_n (k := 1) rfl (by decide +kernel) rfl) ?_
  refine rcons (ro_aload_n (k := 0) rfl (by decide +kernel) rfl) ?_
  refine rcons (ro_iload_n (k := 1) rfl (by decide +kernel) rfl) ?_
  refine rcons (ro_iload_n (k := 2) rfl (by decide +kernel) rfl) ?_
  refine rcons (ro_iload_n (k := 3) rfl (by decide +kernel) rfl) ?_
  refine rcons (ro_iconst (n := 1) (by decide +kernel) rfl rfl) ?_
  refine rcons (ro_callV (C := rN0) (T := rF0) (N := 7) rfl ok_c_monthAtFar (by decide +kernel) rfl (fun s args ht => cwV (C := rN0) 4 ht (rgoodV (C := rN0) (fun w h => List.mem_cons_of_mem _ h) q_793 q_794 q_795 q_13 q_796) rfl rfl rfl hv_c_monthAtFar ⟨Nat.le_of_ble_eq_true rfl, Nat.le_of_ble_eq_true rfl⟩) rfl) ?_
  refine rcons (ro_callV (C := rN0) (T := rF0) (N := 7) rfl ok_c_become (by decide +kernel) rfl (fun s args ht => cwV (C := rN0) 3 ht (rgoodV (C := rN0) (fun w h => List.mem_cons_of_mem _ h) q_602 q_604 q_4 q_13 q_605) rfl rfl rfl hv_c_become ⟨Nat.le_of_ble_eq_true rfl, Nat.le_of_ble_eq_true rfl⟩) rfl) ?_
  refine rcons (ro_iret (by decide +kernel)) ?_
  exact rnil
def ps_c_monthTwice : List Nat := [0, 1, 2, 3, 6, 7, 8, 10, 13]
def tb_c_monthTwice : List RT := [tq_al 0, tq_il 1, tq_il 2, tq_call (rV 0 m_c_monthAt) 3 1 1, tq_il 3, tq_i2l, tq_ic 12, tq_call m_c_numberOn 3 0 1, tq_iret 1]
def m_c_monthTwice : RM := rMeth tb_c_monthTwice 400 4
abbrev rm_c_monthTwice : Room := { frames := 8, cells := 1, slots := 12, locals := 133 }
set_option maxHeartbeats 4000000 in
set_option maxRecDepth 20000 in
theorem ok_c_monthTwice : rMet y_c_monthTwice (Cond.code y_c_monthTwice prog_1_method_30_code 4 (some .int) :: rT) rm_c_monthTwice 1 m_c_monthTwice := by
  refine rMeth_ok (ps := ps_c_monthTwice) (tab := tb_c_monthTwice) (by decide +kernel) rfl rfl rfl rfl ?_
  refine rcons (ro_aload_n (k := 0) rfl (by decide +kernel) rfl) ?_
  refine rcons (ro_iload_n (k := 1) rfl (by decide +kernel) rfl) ?_
  refine rcons (ro_iload_n (k := 2) rfl (by decide +kernel) rfl) ?_
  refine rcons (ro_callV (C := rN0) (T := rF0) (N := 7) rfl ok_c_monthAt (by decide +kernel) rfl (fun s args ht => cwV (C := rN0) 2 ht (rgoodV (C := rN0) (fun w h => List.mem_cons_of_mem _ h) q_771 q_772 q_773 q_13 q_774) rfl rfl rfl hv_c_monthAt ⟨Nat.le_of_ble_eq_true rfl, Nat.le_of_ble_eq_true rfl⟩) rfl) ?_
  refine rcons (ro_iload_n (k := 3) rfl (by decide +kernel) rfl) ?_
  refine rcons (ro_i2l (by decide +kernel) rfl) ?_
  refine rcons (ro_bipush (n := 12) (by decide +kernel) rfl rfl) ?_
  refine rcons (ro_callS ok_c_numberOn (by decide +kernel) rfl (fun s args ht => va_cwS 3 ht (rgoodS (fun w h => List.mem_cons_of_mem _ h) q_445 q_446 q_13 q_447) rfl rfl rfl hy_c_numberOn ⟨Nat.le_of_ble_eq_true rfl, Nat.le_of_ble_eq_true rfl⟩) rfl) ?_
  refine rcons (ro_iret (by decide +kernel)) ?_
  exact rnil
def ps_c_monthCopy : List Nat := [0, 1, 2, 5, 6, 7, 10]
def tb_c_monthCopy : List RT := [tq_al 0, tq_al 0, tq_getf 0 1, tq_il 1, tq_il 2, tq_call (rV 0 m_c_copy) 4 2 2, tq_iret 2]
def m_c_monthCopy : RM := rMeth tb_c_monthCopy 400 3
abbrev rm_c_monthCopy : Room := { frames := 9, cells := 2, slots := 24, locals := 158 }
set_option maxHeartbeats 4000000 in
set_option maxRecDepth 20000 in
theorem ok_c_monthCopy : rMet y_c_monthCopy (Cond.code y_c_monthCopy prog_1_method_31_code 3 (some .int) :: rT) rm_c_monthCopy 2 m_c_monthCopy := by
  refine rMeth_ok (ps := ps_c_monthCopy) (tab := tb_c_monthCopy) (by decide +kernel) rfl rfl rfl rfl ?_
  refine rcons (ro_aload_n (k := 0) rfl (by decide +kernel) rfl) ?_
  refine rcons (ro_aload_n (k := 0) rfl (by decide +kernel) rfl) ?_
  refine rcons (ro_getf (C := rN0) (T := rF0) (N := 7) (k := 1) (by decide +kernel) rfl (rU0c _) (by decide) (List.mem_cons_of_mem _ q_44) rfl) ?_
  refine rcons (ro_iload_n (k := 1) rfl (by decide +kernel) rfl) ?_
  refine rcons (ro_iload_n (k := 2) rfl (by decide +kernel) rfl) ?_
  refine rcons (ro_callV (C := rN0) (T := rF0) (N := 7) rfl ok_c_copy (by decide +kernel) rfl (fun s args ht => cwV (C := rN0) 3 ht (rgoodV (C := rN0) (fun w h => List.mem_cons_of_mem _ h) q_700 q_702 q_5 q_13 q_703) rfl rfl rfl hv_c_copy ⟨Nat.le_of_ble_eq_true rfl, Nat.le_of_ble_eq_true rfl⟩) rfl) ?_
  refine rcons (ro_iret (by decide +kernel)) ?_
  exact rnil
def ps_c_monthSwap : List Nat := [0, 1, 2, 5, 6, 7, 10]
def tb_c_monthSwap : List RT := [tq_al 0, tq_al 0, tq_getf 0 1, tq_il 1, tq_il 2, tq_call (rV 0 m_c_swap) 4 4 4, tq_iret 4]
def m_c_monthSwap : RM := rMeth tb_c_monthSwap 400 3
abbrev rm_c_monthSwap : Room := { frames := 9, cells := 4, slots := 48, locals := 160 }
set_option maxHeartbeats 4000000 in
set_option maxRecDepth 20000 in
theorem ok_c_monthSwap : rMet y_c_monthSwap (Cond.code y_c_monthSwap prog_1_method_32_code 3 (some .int) :: rT) rm_c_monthSwap 4 m_c_monthSwap := by
  refine rMeth_ok (ps := ps_c_monthSwap) (tab := tb_c_monthSwap) (by decide +kernel) rfl rfl rfl rfl ?_
  refine rcons (ro_aload_n (k := 0) rfl (by decide +kernel) rfl) ?_
  refine rcons (ro_aload_n (k := 0) rfl (by decide +kernel) rfl) ?_
  refine rcons (ro_getf (C := rN0) (T := rF0) (N := 7) (k := 1) (by decide +kernel) rfl (rU0c _) (by decide) (List.mem_cons_of_mem _ q_44) rfl) ?_
  refine rcons (ro_iload_n (k := 1) rfl (by decide +kernel) rfl) ?_
  refine rcons (ro_iload_n (k := 2) rfl (by decide +kernel) rfl) ?_
  refine rcons (ro_callV (C := rN0) (T := rF0) (N := 7) rfl ok_c_swap (by decide +kernel) rfl (fun s args ht => cwV (C := rN0) 3 ht (rgoodV (C := rN0) (fun w h => List.mem_cons_of_mem _ h) q_711 q_713 q_6 q_13 q_714) rfl rfl rfl hv_c_swap ⟨Nat.le_of_ble_eq_true rfl, Nat.le_of_ble_eq_true rfl⟩) rfl) ?_
  refine rcons (ro_iret (by decide +kernel)) ?_
  exact rnil
def ps_c_monthOrder : List Nat := [0, 1, 4, 5, 8, 9, 12, 13, 16, 19]
def tb_c_monthOrder : List RT := [tq_al 0, tq_getf 0 1, tq_il 1, tq_call m_c_numberIn 2 1 2, tq_al 0, tq_getf 0 1, tq_il 2, tq_call m_c_numberIn 2 1 2, tq_call m_c_order 2 0 2, tq_iret 2]
def m_c_monthOrder : RM := rMeth tb_c_monthOrder 400 3
abbrev rm_c_monthOrder : Room := { frames := 7, cells := 2, slots := 24, locals := 111 }
set_option maxHeartbeats 4000000 in
set_option maxRecDepth 20000 in
theorem ok_c_monthOrder : rMet y_c_monthOrder (Cond.code y_c_monthOrder prog_1_method_33_code 3 (some .int) :: rT) rm_c_monthOrder 2 m_c_monthOrder := by
  refine rMeth_ok (ps := ps_c_monthOrder) (tab := tb_c_monthOrder) (by decide +kernel) rfl rfl rfl rfl ?_
  refine rcons (ro_aload_n (k := 0) rfl (by decide +kernel) rfl) ?_
  refine rcons (ro_getf (C := rN0) (T := rF0) (N := 7) (k := 1) (by decide +kernel) rfl (rU0c _) (by decide) (List.mem_cons_of_mem _ q_44) rfl) ?_
  refine rcons (ro_iload_n (k := 1) rfl (by decide +kernel) rfl) ?_
  refine rcons (ro_callS ok_c_numberIn (by decide +kernel) rfl (fun s args ht => va_cwS 2 ht (rgoodS (fun w h => List.mem_cons_of_mem _ h) q_498 q_499 q_13 q_500) rfl rfl rfl hy_c_numberIn ⟨Nat.le_of_ble_eq_true rfl, Nat.le_of_ble_eq_true rfl⟩) rfl) ?_
  refine rcons (ro_aload_n (k := 0) rfl (by decide +kernel) rfl) ?_
  refine rcons (ro_getf (C := rN0) (T := rF0) (N := 7) (k := 1) (by decide +kernel) rfl (rU0c _) (by decide) (List.mem_cons_of_mem _ q_44) rfl) ?_
  refine rcons (ro_iload_n (k := 2) rfl (by decide +kernel) rfl) ?_
  refine rcons (ro_callS ok_c_numberIn (by decide +kernel) rfl (fun s args ht => va_cwS 2 ht (rgoodS (fun w h => List.mem_cons_of_mem _ h) q_498 q_499 q_13 q_500) rfl rfl rfl hy_c_numberIn ⟨Nat.le_of_ble_eq_true rfl, Nat.le_of_ble_eq_true rfl⟩) rfl) ?_
  refine rcons (ro_callS ok_c_order (by decide +kernel) rfl (fun s args ht => va_cwS 2 ht (rgoodS (fun w h => List.mem_cons_of_mem _ h) q_553 q_554 q_13 q_555) rfl rfl rfl hy_c_order ⟨Nat.le_of_ble_eq_true rfl, Nat.le_of_ble_eq_true rfl⟩) rfl) ?_
  refine rcons (ro_iret (by decide +kernel)) ?_
  exact rnil
def ps_c_isSameMonth : List Nat := [0, 1, 4, 5, 8, 9, 12, 13, 16, 19, 20, 23, 24]
def tb_c_isSameMonth : List RT := [tq_al 0, tq_getf 0 1, tq_il 1, tq_call m_c_numberIn 2 1 2, tq_al 0, tq_getf 0 1, tq_il 2, tq_call m_c_numberIn 2 1 2, tq_if2 (fun x y => !decide (x = y)) 11, tq_ic 1, tq_go 12, tq_ic 0, tq_zret 2]
def m_c_isSameMonth : RM := rMeth tb_c_isSameMonth 400 3
abbrev rm_c_isSameMonth : Room := { frames := 7, cells := 2, slots := 24, locals := 111 }
set_option maxHeartbeats 4000000 in
set_option maxRecDepth 20000 in
theorem ok_c_isSameMonth : rMet y_c_isSameMonth (Cond.code y_c_isSameMonth prog_1_method_34_code 3 (some .boolean) :: rT) rm_c_isSameMonth 2 m_c_isSameMonth := by
  refine rMeth_ok (ps := ps_c_isSameMonth) (tab := tb_c_isSameMonth) (by decide +kernel) rfl rfl rfl rfl ?_
  refine rcons (ro_aload_n (k := 0) rfl (by decide +kernel) rfl) ?_
  refine rcons (ro_getf (C := rN0) (T := rF0) (N := 7) (k := 1) (by decide +kernel) rfl (rU0c _) (by decide) (List.mem_cons_of_mem _ q_44) rfl) ?_
  refine rcons (ro_iload_n (k := 1) rfl (by decide +kernel) rfl) ?_
  refine rcons (ro_callS ok_c_numberIn (by decide +kernel) rfl (fun s args ht => va_cwS 2 ht (rgoodS (fun w h => List.mem_cons_of_mem _ h) q_498 q_499 q_13 q_500) rfl rfl rfl hy_c_numberIn ⟨Nat.le_of_ble_eq_true rfl, Nat.le_of_ble_eq_true rfl⟩) rfl) ?_
  refine rcons (ro_aload_n (k := 0) rfl (by decide +kernel) rfl) ?_
  refine rcons (ro_getf (C := rN0) (T := rF0) (N := 7) (k := 1) (by decide +kernel) rfl (rU0c _) (by decide) (List.mem_cons_of_mem _ q_44) rfl) ?_
  refine rcons (ro_iload_n (k := 2) rfl (by decide +kernel) rfl) ?_
  refine rcons (ro_callS ok_c_numberIn (by decide +kernel) rfl (fun s args ht => va_cwS 2 ht (rgoodS (fun w h => List.mem_cons_of_mem _ h) q_498 q_499 q_13 q_500) rfl rfl rfl hy_c_numberIn ⟨Nat.le_of_ble_eq_true rfl, Nat.le_of_ble_eq_true rfl⟩) rfl) ?_
  refine rcons (ro_icmp_ne (off := 7) (by decide +kernel) rfl rfl) ?_
  refine rcons (ro_iconst (n := 1) (by decide +kernel) rfl rfl) ?_
  refine rcons (ro_goto (off := 4) (by decide +kernel) rfl) ?_
  refine rcons (ro_iconst (n := 0) (by decide +kernel) rfl rfl) ?_
  refine rcons (ro_zret (by decide +kernel)) ?_
  exact rnil
def ps_c_isMonth : List Nat := [0, 1, 4, 5, 6, 8, 11]
def tb_c_isMonth : List RT := [tq_al 0, tq_getf 0 1, tq_il 1, tq_il 2, tq_ic 12, tq_call m_c_hasNumber 4 2 2, tq_zret 2]
def m_c_isMonth : RM := rMeth tb_c_isMonth 400 3
abbrev rm_c_isMonth : Room := { frames := 8, cells := 2, slots := 24, locals := 135 }
set_option maxHeartbeats 4000000 in
set_option maxRecDepth 20000 in
theorem ok_c_isMonth : rMet y_c_isMonth (Cond.code y_c_isMonth prog_1_method_35_code 3 (some .boolean) :: rT) rm_c_isMonth 2 m_c_isMonth := by
  refine rMeth_ok (ps := ps_c_isMonth) (tab := tb_c_isMonth) (by decide +kernel) rfl rfl rfl rfl ?_
  refine rcons (ro_aload_n (k := 0) rfl (by decide +kernel) rfl) ?_
  refine rcons (ro_getf (C := rN0) (T := rF0) (N := 7) (k := 1) (by decide +kernel) rfl (rU0c _) (by decide) (List.mem_cons_of_mem _ q_44) rfl) ?_
  refine rcons (ro_iload_n (k := 1) rfl (by decide +kernel) rfl) ?_
  refine rcons (ro_iload_n (k := 2) rfl (by decide +kernel) rfl) ?_
  refine rcons (ro_bipush (n := 12) (by decide +kernel) rfl rfl) ?_
  refine rcons (ro_callS ok_c_hasNumber (by decide +kernel) rfl (fun s args ht => va_cwS 4 ht (rgoodS (fun w h => List.mem_cons_of_mem _ h) q_733 q_734 q_13 q_735) rfl rfl rfl hy_c_hasNumber ⟨Nat.le_of_ble_eq_true rfl, Nat.le_of_ble_eq_true rfl⟩) rfl) ?_
  refine rcons (ro_zret (by decide +kernel)) ?_
  exact rnil
def ps_c_lengthOf : List Nat := [0, 1, 56, 57, 60, 62, 65, 67, 68, 70, 71, 73]
def tb_c_lengthOf : List RT := [tq_il 0, tq_sw 2 [2, 10, 8, 10, 8, 10, 10, 8, 10, 8] 10, tq_il 1, tq_if1 (fun x => decide (x = 0)) 6, tq_ic 29, tq_go 7, tq_ic 28, tq_iret 0, tq_ic 30, tq_iret 0, tq_ic 31, tq_iret 0]
def m_c_lengthOf : RM := rMeth tb_c_lengthOf 400 2
abbrev rm_c_lengthOf : Room := { frames := 0, cells := 0, slots := 0, locals := 0 }
set_option maxHeartbeats 4000000 in
set_option maxRecDepth 20000 in
theorem ok_c_lengthOf : rMet y_c_lengthOf (Cond.code y_c_lengthOf prog_1_method_75_code 2 (some .int) :: rT) rm_c_lengthOf 0 m_c_lengthOf := by
  refine rMeth_ok (ps := ps_c_lengthOf) (tab := tb_c_lengthOf) (by decide +kernel) rfl rfl rfl rfl ?_
  refine rcons (ro_iload_n (k := 0) rfl (by decide +kernel) rfl) ?_
  refine rcons (ro_sw (dflt := 70) (lo := 2) (hi := 11) (offs := #[55, 70, 67, 70, 67, 70, 70, 67, 70, 67]) (len := 55) (by decide +kernel) rfl rfl (rsw_ok (pc := 1) (d := 10) (offs := #[55, 70, 67, 70, 67, 70, 70, 67, 70, 67]) (os := [2, 10, 8, 10, 8, 10, 10, 8, 10, 8]) (J := fun o => ps_c_lengthOf.getD o 0) (by decide +kernel))) ?_
  refine rcons (ro_iload_n (k := 1) rfl (by decide +kernel) rfl) ?_
  refine rcons (ro_if_eq (off := 8) (by decide +kernel) rfl rfl) ?_
  refine rcons (ro_bipush (n := 29) (by decide +kernel) rfl rfl) ?_
  refine rcons (ro_goto (off := 5) (by decide +kernel) rfl) ?_
  refine rcons (ro_bipush (n := 28) (by decide +kernel) rfl rfl) ?_
  refine rcons (ro_iret (by decide +kernel)) ?_
  refine rcons (ro_bipush (n := 30) (by decide +kernel) rfl rfl) ?_
  refine rcons (ro_iret (by decide +kernel)) ?_
  refine rcons (ro_bipush (n := 31) (by decide +kernel) rfl rfl) ?_
  refine rcons (ro_iret (by decide +kernel)) ?_
  exact rnil
def ps_c_length : List Nat := [0, 1, 4, 5, 8, 9, 12]
def tb_c_length : List RT := [tq_al 0, tq_getf 0 1, tq_il 1, tq_call m_c_numberIn 2 1 1, tq_il 2, tq_call m_c_lengthOf 2 0 1, tq_iret 1]
def m_c_length : RM := rMeth tb_c_length 400 3
abbrev rm_c_length : Room := { frames := 7, cells := 1, slots := 12, locals := 111 }
set_option maxHeartbeats 4000000 in
set_option maxRecDepth 20000 in
theorem ok_c_length : rMet y_c_length (Cond.code y_c_length prog_1_method_36_code 3 (some .int) :: rT) rm_c_length 1 m_c_length := by
  refine rMeth_ok (ps := ps_c_length) (tab := tb_c_length) (by decide +kernel) rfl rfl rfl rfl ?_
  refine rcons (ro_aload_n (k := 0) rfl (by decide +kernel) rfl) ?_
  refine rcons (ro_getf (C := rN0) (T := rF0) (N := 7) (k := 1) (by decide +kernel) rfl (rU0c _) (by decide) (List.mem_cons_of_mem _ q_44) rfl) ?_
  refine rcons (ro_iload_n (k := 1) rfl (by decide +kernel) rfl) ?_
  refine rcons (ro_callS ok_c_numberIn (by decide +kernel) rfl (fun s args ht => va_cwS 2 ht (rgoodS (fun w h => List.mem_cons_of_mem _ h) q_498 q_499 q_13 q_500) rfl rfl rfl hy_c_numberIn ⟨Nat.le_of_ble_eq_true rfl, Nat.le_of_ble_eq_true rfl⟩) rfl) ?_
  refine rcons (ro_iload_n (k := 2) rfl (by decide +kernel) rfl) ?_
  refine rcons (ro_callS ok_c_lengthOf (by decide +kernel) rfl (fun s args ht => va_cwS 2 ht (rgoodS (fun w h => List.mem_cons_of_mem _ h) q_466 q_467 q_13 q_468) rfl rfl rfl hy_c_lengthOf ⟨Nat.le_of_ble_eq_true rfl, Nat.le_of_ble_eq_true rfl⟩) rfl) ?_
  refine rcons (ro_iret (by decide +kernel)) ?_
  exact rnil
def ps_c_leastOf : List Nat := [0, 1, 2, 5, 6, 7, 10, 13]
def tb_c_leastOf : List RT := [tq_il 0, tq_ic 0, tq_call m_c_lengthOf 2 0 0, tq_il 0, tq_ic 1, tq_call m_c_lengthOf 2 0 0, tq_mmin 0, tq_iret 0]
def m_c_leastOf : RM := rMeth tb_c_leastOf 400 1
abbrev rm_c_leastOf : Room := { frames := 1, cells := 0, slots := 0, locals := 21 }
set_option maxHeartbeats 4000000 in
set_option maxRecDepth 20000 in
theorem ok_c_leastOf : rMet y_c_leastOf (Cond.code y_c_leastOf prog_1_method_76_code 1 (some .int) :: rT) rm_c_leastOf 0 m_c_leastOf := by
  refine rMeth_ok (ps := ps_c_leastOf) (tab := tb_c_leastOf) (by decide +kernel) rfl rfl rfl rfl ?_
  refine rcons (ro_iload_n (k := 0) rfl (by decide +kernel) rfl) ?_
  refine rcons (ro_iconst (n := 0) (by decide +kernel) rfl rfl) ?_
  refine rcons (ro_callS ok_c_lengthOf (by decide +kernel) rfl (fun s args ht => va_cwS 2 ht (rgoodS (fun w h => List.mem_cons_of_mem _ h) q_466 q_467 q_13 q_468) rfl rfl rfl hy_c_lengthOf ⟨Nat.le_of_ble_eq_true rfl, Nat.le_of_ble_eq_true rfl⟩) rfl) ?_
  refine rcons (ro_iload_n (k := 0) rfl (by decide +kernel) rfl) ?_
  refine rcons (ro_iconst (n := 1) (by decide +kernel) rfl rfl) ?_
  refine rcons (ro_callS ok_c_lengthOf (by decide +kernel) rfl (fun s args ht => va_cwS 2 ht (rgoodS (fun w h => List.mem_cons_of_mem _ h) q_466 q_467 q_13 q_468) rfl rfl rfl hy_c_lengthOf ⟨Nat.le_of_ble_eq_true rfl, Nat.le_of_ble_eq_true rfl⟩) rfl) ?_
  refine rcons (ro_mmin (List.mem_cons_of_mem _ q_472) (List.mem_cons_of_mem _ q_140) (List.mem_cons_of_mem _ q_21) (List.mem_cons_of_mem _ q_141) (by decide) (by decide +kernel) rfl) ?_
  refine rcons (ro_iret (by decide +kernel)) ?_
  exact rnil
def ps_c_least : List Nat := [0, 1, 4, 5, 8, 11]
def tb_c_least : List RT := [tq_al 0, tq_getf 0 1, tq_il 1, tq_call m_c_numberIn 2 1 1, tq_call m_c_leastOf 1 0 1, tq_iret 1]
def m_c_least : RM := rMeth tb_c_least 400 2
abbrev rm_c_least : Room := { frames := 7, cells := 1, slots := 12, locals := 111 }
set_option maxHeartbeats 4000000 in
set_option maxRecDepth 20000 in
theorem ok_c_least : rMet y_c_least (Cond.code y_c_least prog_1_method_37_code 2 (some .int) :: rT) rm_c_least 1 m_c_least := by
  refine rMeth_ok (ps := ps_c_least) (tab := tb_c_least) (by decide +kernel) rfl rfl rfl rfl ?_
  refine rcons (ro_aload_n (k := 0) rfl (by decide +kernel) rfl) ?_
  refine rcons (ro_getf (C := rN0) (T := rF0) (N := 7) (k := 1) (by decide +kernel) rfl (rU0c _) (by decide) (List.mem_cons_of_mem _ q_44) rfl) ?_
  refine rcons (ro_iload_n (k := 1) rfl (by decide +kernel) rfl) ?_
  refine rcons (ro_callS ok_c_numberIn (by decide +kernel) rfl (fun s args ht => va_cwS 2 ht (rgoodS (fun w h => List.mem_cons_of_mem _ h) q_498 q_499 q_13 q_500) rfl rfl rfl hy_c_numberIn ⟨Nat.le_of_ble_eq_true rfl, Nat.le_of_ble_eq_true rfl⟩) rfl) ?_
  refine rcons (ro_callS ok_c_leastOf (by decide +kernel) rfl (fun s args ht => va_cwS 1 ht (rgoodS (fun w h => List.mem_cons_of_mem _ h) q_469 q_470 q_13 q_471) rfl rfl rfl hy_c_leastOf ⟨Nat.le_of_ble_eq_true rfl, Nat.le_of_ble_eq_true rfl⟩) rfl) ?_
  refine rcons (ro_iret (by decide +kernel)) ?_
  exact rnil
def ps_c_greatestOf : List Nat := [0, 1, 2, 5, 6, 7, 10, 13]
def tb_c_greatestOf : List RT := [tq_il 0, tq_ic 0, tq_call m_c_lengthOf 2 0 0, tq_il 0, tq_ic 1, tq_call m_c_lengthOf 2 0 0, tq_mmax 0, tq_iret 0]
def m_c_greatestOf : RM := rMeth tb_c_greatestOf 400 1
abbrev rm_c_greatestOf : Room := { frames := 1, cells := 0, slots := 0, locals := 21 }
set_option maxHeartbeats 4000000 in
set_option maxRecDepth 20000 in
theorem ok_c_greatestOf : rMet y_c_greatestOf (Cond.code y_c_greatestOf prog_1_method_77_code 1 (some .int) :: rT) rm_c_greatestOf 0 m_c_greatestOf := by
  refine rMeth_ok (ps := ps_c_greatestOf) (tab := tb_c_greatestOf) (by decide +kernel) rfl rfl rfl rfl ?_
  refine rcons (ro_iload_n (k := 0) rfl (by decide +kernel) rfl) ?_
  refine rcons (ro_iconst (n := 0) (by decide +kernel) rfl rfl) ?_
  refine rcons (ro_callS ok_c_lengthOf (by decide +kernel) rfl (fun s args ht => va_cwS 2 ht (rgoodS (fun w h => List.mem_cons_of_mem _ h) q_466 q_467 q_13 q_468) rfl rfl rfl hy_c_lengthOf ⟨Nat.le_of_ble_eq_true rfl, Nat.le_of_ble_eq_true rfl⟩) rfl) ?_
  refine rcons (ro_iload_n (k := 0) rfl (by decide +kernel) rfl) ?_
  refine rcons (ro_iconst (n := 1) (by decide +kernel) rfl rfl) ?_
  refine rcons (ro_callS ok_c_lengthOf (by decide +kernel) rfl (fun s args ht => va_cwS 2 ht (rgoodS (fun w h => List.mem_cons_of_mem _ h) q_466 q_467 q_13 q_468) rfl rfl rfl hy_c_lengthOf ⟨Nat.le_of_ble_eq_true rfl, Nat.le_of_ble_eq_true rfl⟩) rfl) ?_
  refine rcons (ro_mmax (List.mem_cons_of_mem _ q_476) (List.mem_cons_of_mem _ q_122) (List.mem_cons_of_mem _ q_21) (List.mem_cons_of_mem _ q_123) (by decide) (by decide +kernel) rfl) ?_
  refine rcons (ro_iret (by decide +kernel)) ?_
  exact rnil
def ps_c_greatest : List Nat := [0, 1, 4, 5, 8, 11]
def tb_c_greatest : List RT := [tq_al 0, tq_getf 0 1, tq_il 1, tq_call m_c_numberIn 2 1 1, tq_call m_c_greatestOf 1 0 1, tq_iret 1]
def m_c_greatest : RM := rMeth tb_c_greatest 400 2
abbrev rm_c_greatest : Room := { frames := 7, cells := 1, slots := 12, locals := 111 }
set_option maxHeartbeats 4000000 in
set_option maxRecDepth 20000 in
theorem ok_c_greatest : rMet y_c_greatest (Cond.code y_c_greatest prog_1_method_38_code 2 (some .int) :: rT) rm_c_greatest 1 m_c_greatest := by
  refine rMeth_ok (ps := ps_c_greatest) (tab := tb_c_greatest) (by decide +kernel) rfl rfl rfl rfl ?_
  refine rcons (ro_aload_n (k := 0) rfl (by decide +kernel) rfl) ?_
  refine rcons (ro_getf (C := rN0) (T := rF0) (N := 7) (k := 1) (by decide +kernel) rfl (rU0c _) (by decide) (List.mem_cons_of_mem _ q_44) rfl) ?_
  refine rcons (ro_iload_n (k := 1) rfl (by decide +kernel) rfl) ?_
  refine rcons (ro_callS ok_c_numberIn (by decide +kernel) rfl (fun s args ht => va_cwS 2 ht (rgoodS (fun w h => List.mem_cons_of_mem _ h) q_498 q_499 q_13 q_500) rfl rfl rfl hy_c_numberIn ⟨Nat.le_of_ble_eq_true rfl, Nat.le_of_ble_eq_true rfl⟩) rfl) ?_
  refine rcons (ro_callS ok_c_greatestOf (by decide +kernel) rfl (fun s args ht => va_cwS 1 ht (rgoodS (fun w h => List.mem_cons_of_mem _ h) q_473 q_474 q_13 q_475) rfl rfl rfl hy_c_greatestOf ⟨Nat.le_of_ble_eq_true rfl, Nat.le_of_ble_eq_true rfl⟩) rfl) ?_
  refine rcons (ro_iret (by decide +kernel)) ?_
  exact rnil
def ps_c_firstOf : List Nat := [0, 1, 2, 3, 4, 5, 6, 9, 10, 12, 15, 16, 17, 18, 21, 22, 23, 26, 29, 30]
def tb_c_firstOf : List RT := [tq_ic 1, tq_is 4 2, tq_ic 1, tq_is 4 3, tq_il 3, tq_il 0, tq_if2 (fun x y => decide (y ≤ x)) 18, tq_il 3, tq_ic 12, tq_if2 (fun x y => decide (y ≤ x)) 18, tq_il 2, tq_il 3, tq_il 1, tq_call m_c_lengthOf 2 0 0, tq_i2 (fun x y => x + y), tq_is 4 2, tq_inc 4 3 1, tq_go 4, tq_il 2, tq_iret 0]
def m_c_firstOf : RM := rMeth tb_c_firstOf 400 4
abbrev rm_c_firstOf : Room := { frames := 1, cells := 0, slots := 0, locals := 21 }
set_option maxHeartbeats 4000000 in
set_option maxRecDepth 20000 in
theorem ok_c_firstOf : rMet y_c_firstOf (Cond.code y_c_firstOf prog_1_method_78_code 4 (some .int) :: rT) rm_c_firstOf 0 m_c_firstOf := by
  refine rMeth_ok (ps := ps_c_firstOf) (tab := tb_c_firstOf) (by decide +kernel) rfl rfl rfl rfl ?_
  refine rcons (ro_iconst (n := 1) (by decide +kernel) rfl rfl) ?_
  refine rcons (ro_istore_n (k := 2) rfl (by decide +kernel) rfl) ?_
  refine rcons (ro_iconst (n := 1) (by decide +kernel) rfl rfl) ?_
  refine rcons (ro_istore_n (k := 3) rfl (by decide +kernel) rfl) ?_
  refine rcons (ro_iload_n (k := 3) rfl (by decide +kernel) rfl) ?_
  refine rcons (ro_iload_n (k := 0) rfl (by decide +kernel) rfl) ?_
  refine rcons (ro_icmp_ge (off := 23) (by decide +kernel) rfl rfl) ?_
  refine rcons (ro_iload_n (k := 3) rfl (by decide +kernel) rfl) ?_
  refine rcons (ro_bipush (n := 12) (by decide +kernel) rfl rfl) ?_
  refine rcons (ro_icmp_ge (off := 17) (by decide +kernel) rfl rfl) ?_
  refine rcons (ro_iload_n (k := 2) rfl (by decide +kernel) rfl) ?_
  refine rcons (ro_iload_n (k := 3) rfl (by decide +kernel) rfl) ?_
  refine rcons (ro_iload_n (k := 1) rfl (by decide +kernel) rfl) ?_
  refine rcons (ro_callS ok_c_lengthOf (by decide +kernel) rfl (fun s args ht => va_cwS 2 ht (rgoodS (fun w h => List.mem_cons_of_mem _ h) q_466 q_467 q_13 q_468) rfl rfl rfl hy_c_lengthOf ⟨Nat.le_of_ble_eq_true rfl, Nat.le_of_ble_eq_true rfl⟩) rfl) ?_
  refine rcons (ro_iadd (by decide +kernel) rfl) ?_
  refine rcons (ro_istore_n (k := 2) rfl (by decide +kernel) rfl) ?_
  refine rcons (ro_iinc (by decide +kernel) rfl) ?_
  refine rcons (ro_goto (off := (-22)) (by decide +kernel) rfl) ?_
  refine rcons (ro_iload_n (k := 2) rfl (by decide +kernel) rfl) ?_
  refine rcons (ro_iret (by decide +kernel)) ?_
  exact rnil
def ps_c_first : List Nat := [0, 1, 4, 5, 8, 9, 12]
def tb_c_first : List RT := [tq_al 0, tq_getf 0 1, tq_il 1, tq_call m_c_numberIn 2 1 1, tq_il 2, tq_call m_c_firstOf 2 0 1, tq_iret 1]
def m_c_first : RM := rMeth tb_c_first 400 3
abbrev rm_c_first : Room := { frames := 7, cells := 1, slots := 12, locals := 111 }
set_option maxHeartbeats 4000000 in
set_option maxRecDepth 20000 in
theorem ok_c_first : rMet y_c_first (Cond.code y_c_first prog_1_method_39_code 3 (some .int) :: rT) rm_c_first 1 m_c_first := by
  refine rMeth_ok (ps := ps_c_first) (tab := tb_c_first) (by decide +kernel) rfl rfl rfl rfl ?_
  refine rcons (ro_aload_n (k := 0) rfl (by decide +kernel) rfl) ?_
  refine rcons (ro_getf (C := rN0) (T := rF0) (N := 7) (k := 1) (by decide +kernel) rfl (rU0c _) (by decide) (List.mem_cons_of_mem _ q_44) rfl) ?_
  refine rcons (ro_iload_n (k := 1) rfl (by decide +kernel) rfl) ?_
  refine rcons (ro_callS ok_c_numberIn (by decide +kernel) rfl (fun s args ht => va_cwS 2 ht (rgoodS (fun w h => List.mem_cons_of_mem _ h) q_498 q_499 q_13 q_500) rfl rfl rfl hy_c_numberIn ⟨Nat.le_of_ble_eq_true rfl, Nat.le_of_ble_eq_true rfl⟩) rfl) ?_
  refine rcons (ro_iload_n (k := 2) rfl (by decide +kernel) rfl) ?_
  refine rcons (ro_callS ok_c_firstOf (by decide +kernel) rfl (fun s args ht => va_cwS 2 ht (rgoodS (fun w h => List.mem_cons_of_mem _ h) q_480 q_481 q_13 q_482) rfl rfl rfl hy_c_firstOf ⟨Nat.le_of_ble_eq_true rfl, Nat.le_of_ble_eq_true rfl⟩) rfl) ?_
  refine rcons (ro_iret (by decide +kernel)) ?_
  exact rnil
def ps_c_quarterOf : List Nat := [0, 1, 2, 5, 6, 7, 10, 11]
def tb_c_quarterOf : List RT := [tq_il 0, tq_il 0, tq_call m_c_placeOf 1 0 0, tq_i2l, tq_ic 3, tq_call m_c_rest 2 0 0, tq_i2 (fun x y => x - y), tq_iret 0]
def m_c_quarterOf : RM := rMeth tb_c_quarterOf 400 1
abbrev rm_c_quarterOf : Room := { frames := 2, cells := 0, slots := 0, locals := 47 }
set_option maxHeartbeats 4000000 in
set_option maxRecDepth 20000 in
theorem ok_c_quarterOf : rMet y_c_quarterOf (Cond.code y_c_quarterOf prog_1_method_79_code 1 (some .int) :: rT) rm_c_quarterOf 0 m_c_quarterOf := by
  refine rMeth_ok (ps := ps_c_quarterOf) (tab := tb_c_quarterOf) (by decide +kernel) rfl rfl rfl rfl ?_
  refine rcons (ro_iload_n (k := 0) rfl (by decide +kernel) rfl) ?_
  refine rcons (ro_iload_n (k := 0) rfl (by decide +kernel) rfl) ?_
  refine rcons (ro_callS ok_c_placeOf (by decide +kernel) rfl (fun s args ht => va_cwS 1 ht (rgoodS (fun w h => List.mem_cons_of_mem _ h) q_448 q_449 q_13 q_450) rfl rfl rfl hy_c_placeOf ⟨Nat.le_of_ble_eq_true rfl, Nat.le_of_ble_eq_true rfl⟩) rfl) ?_
  refine rcons (ro_i2l (by decide +kernel) rfl) ?_
  refine rcons (ro_iconst (n := 3) (by decide +kernel) rfl rfl) ?_
  refine rcons (ro_callS ok_c_rest (by decide +kernel) rfl (fun s args ht => va_cwS 2 ht (rgoodS (fun w h => List.mem_cons_of_mem _ h) q_451 q_452 q_13 q_453) rfl rfl rfl hy_c_rest ⟨Nat.le_of_ble_eq_true rfl, Nat.le_of_ble_eq_true rfl⟩) rfl) ?_
  refine rcons (ro_isub (by decide +kernel) rfl) ?_
  refine rcons (ro_iret (by decide +kernel)) ?_
  exact rnil
def ps_c_quarter : List Nat := [0, 1, 4, 5, 8, 11]
def tb_c_quarter : List RT := [tq_al 0, tq_getf 0 1, tq_il 1, tq_call m_c_numberIn 2 1 1, tq_call m_c_quarterOf 1 0 1, tq_iret 1]
def m_c_quarter : RM := rMeth tb_c_quarter 400 2
abbrev rm_c_quarter : Room := { frames := 7, cells := 1, slots := 12, locals := 111 }
set_option maxHeartbeats 4000000 in
set_option maxRecDepth 20000 in
theorem ok_c_quarter : rMet y_c_quarter (Cond.code y_c_quarter prog_1_method_40_code 2 (some .int) :: rT) rm_c_quarter 1 m_c_quarter := by
  refine rMeth_ok (ps := ps_c_quarter) (tab := tb_c_quarter) (by decide +kernel) rfl rfl rfl rfl ?_
  refine rcons (ro_aload_n (k := 0) rfl (by decide +kernel) rfl) ?_
  refine rcons (ro_getf (C := rN0) (T := rF0) (N := 7) (k := 1) (by decide +kernel) rfl (rU0c _) (by decide) (List.mem_cons_of_mem _ q_44) rfl) ?_
  refine rcons (ro_iload_n (k := 1) rfl (by decide +kernel) rfl) ?_
  refine rcons (ro_callS ok_c_numberIn (by decide +kernel) rfl (fun s args ht => va_cwS 2 ht (rgoodS (fun w h => List.mem_cons_of_mem _ h) q_498 q_499 q_13 q_500) rfl rfl rfl hy_c_numberIn ⟨Nat.le_of_ble_eq_true rfl, Nat.le_of_ble_eq_true rfl⟩) rfl) ?_
  refine rcons (ro_callS ok_c_quarterOf (by decide +kernel) rfl (fun s args ht => va_cwS 1 ht (rgoodS (fun w h => List.mem_cons_of_mem _ h) q_486 q_487 q_13 q_488) rfl rfl rfl hy_c_quarterOf ⟨Nat.le_of_ble_eq_true rfl, Nat.le_of_ble_eq_true rfl⟩) rfl) ?_
  refine rcons (ro_iret (by decide +kernel)) ?_
  exact rnil
def ps_c_toQuarter : List Nat := [0, 1, 4, 5, 8, 9, 10, 11, 12, 15, 16, 17, 20, 23, 24]
def tb_c_toQuarter : List RT := [tq_al 0, tq_getf 0 1, tq_il 1, tq_call m_c_numberIn 2 1 2, tq_is 3 2, tq_il 2, tq_al 0, tq_al 0, tq_getf 0 1, tq_il 1, tq_il 2, tq_call m_c_quarterOf 1 0 2, tq_call (rV 0 m_c_become) 4 1 2, tq_i2 (fun x y => x - y), tq_iret 2]
def m_c_toQuarter : RM := rMeth tb_c_toQuarter 400 3
abbrev rm_c_toQuarter : Room := { frames := 8, cells := 2, slots := 24, locals := 135 }
set_option maxHeartbeats 4000000 in
set_option maxRecDepth 20000 in
theorem ok_c_toQuarter : rMet y_c_toQuarter (Cond.code y_c_toQuarter prog_1_method_41_code 3 (some .int) :: rT) rm_c_toQuarter 2 m_c_toQuarter := by
  refine rMeth_ok (ps := ps_c_toQuarter) (tab := tb_c_toQuarter) (by decide +kernel) rfl rfl rfl rfl ?_
  refine rcons (ro_aload_n (k := 0) rfl (by decide +kernel) rfl) ?_
  refine rcons (ro_getf (C := rN0) (T := rF0) (N := 7) (k := 1) (by decide +kernel) rfl (rU0c _) (by decide) (List.mem_cons_of_mem _ q_44) rfl) ?_
  refine rcons (ro_iload_n (k := 1) rfl (by decide +kernel) rfl) ?_
  refine rcons (ro_callS ok_c_numberIn (by decide +kernel) rfl (fun s args ht => va_cwS 2 ht (rgoodS (fun w h => List.mem_cons_of_mem _ h) q_498 q_499 q_13 q_500) rfl rfl rfl hy_c_numberIn ⟨Nat.le_of_ble_eq_true rfl, Nat.le_of_ble_eq_true rfl⟩) rfl) ?_
  refine rcons (ro_istore_n (k := 2) rfl (by decide +kernel) rfl) ?_
  refine rcons (ro_iload_n (k := 2) rfl (by decide +kernel) rfl) ?_
  refine rcons (ro_aload_n (k := 0) rfl (by decide +kernel) rfl) ?_
  refine rcons (ro_aload_n (k := 0) rfl (by decide +kernel) rfl) ?_
  refine rcons (ro_getf (C := rN0) (T := rF0) (N := 7) (k := 1) (by decide +kernel) rfl (rU0c _) (by decide) (List.mem_cons_of_mem _ q_44) rfl) ?_
  refine rcons (ro_iload_n (k := 1) rfl (by decide +kernel) rfl) ?_
  refine rcons (ro_iload_n (k := 2) rfl (by decide +kernel) rfl) ?_
  refine rcons (ro_callS ok_c_quarterOf (by decide +kernel) rfl (fun s args ht => va_cwS 1 ht (rgoodS (fun w h => List.mem_cons_of_mem _ h) q_486 q_487 q_13 q_488) rfl rfl rfl hy_c_quarterOf ⟨Nat.le_of_ble_eq_true rfl, Nat.le_of_ble_eq_true rfl⟩) rfl) ?_
  refine rcons (ro_callV (C := rN0) (T := rF0) (N := 7) rfl ok_c_become (by decide +kernel) rfl (fun s args ht => cwV (C := rN0) 3 ht (rgoodV (C := rN0) (fun w h => List.mem_cons_of_mem _ h) q_602 q_604 q_4 q_13 q_605) rfl rfl rfl hv_c_become ⟨Nat.le_of_ble_eq_true rfl, Nat.le_of_ble_eq_true rfl⟩) rfl) ?_
  refine rcons (ro_isub (by decide +kernel) rfl) ?_
  refine rcons (ro_iret (by decide +kernel)) ?_
  exact rnil
def ps_c_becomeBoth : List Nat := [0, 1, 4, 5, 7, 10, 12, 14, 15, 16, 17, 20, 21, 22, 25, 26]
def tb_c_becomeBoth : List RT := [tq_al 0, tq_getf 0 0, tq_il 3, tq_il 4, tq_call m_c_write 3 1 2, tq_ic 100, tq_il 4, tq_i2 (fun x y => x * y), tq_al 0, tq_al 0, tq_getf 0 1, tq_il 1, tq_il 2, tq_call (rV 0 m_c_become) 4 1 2, tq_i2 (fun x y => x + y), tq_iret 2]
def m_c_becomeBoth : RM := rMeth tb_c_becomeBoth 400 5
abbrev rm_c_becomeBoth : Room := { frames := 8, cells := 2, slots := 24, locals := 135 }
set_option maxHeartbeats 4000000 in
set_option maxRecDepth 20000 in
theorem ok_c_becomeBoth : rMet y_c_becomeBoth (Cond.code y_c_becomeBoth prog_1_method_59_code 5 (some .int) :: rT) rm_c_becomeBoth 2 m_c_becomeBoth := by
  refine rMeth_ok (ps := ps_c_becomeBoth) (tab := tb_c_becomeBoth) (by decide +kernel) rfl rfl rfl rfl ?_
  refine rcons (ro_aload_n (k := 0) rfl (by decide +kernel) rfl) ?_
  refine rcons (ro_getf (C := rN0) (T := rF0) (N := 7) (k := 0) (by decide +kernel) rfl (rU0c _) (by decide) (List.mem_cons_of_mem _ q_43) rfl) ?_
  refine rcons (ro_iload_n (k := 3) rfl (by decide +kernel) rfl) ?_
  refine rcons (ro_iload (by decide +kernel) rfl) ?_
  refine rcons (ro_callS ok_c_write (by decide +kernel) rfl (fun s args ht => va_cwS 3 ht (rgoodS (fun w h => List.mem_cons_of_mem _ h) q_606 q_607 q_13 q_608) rfl rfl rfl hy_c_write ⟨Nat.le_of_ble_eq_true rfl, Nat.le_of_ble_eq_true rfl⟩) rfl) ?_
  refine rcons (ro_bipush (n := 100) (by decide +kernel) rfl rfl) ?_
  refine rcons (ro_iload (by decide +kernel) rfl) ?_
  refine rcons (ro_imul (by decide +kernel) rfl) ?_
  refine rcons (ro_aload_n (k := 0) rfl (by decide +kernel) rfl) ?_
  refine rcons (ro_aload_n (k := 0) rfl (by decide +kernel) rfl) ?_
  refine rcons (ro_getf (C := rN0) (T := rF0) (N := 7) (k := 1) (by decide +kernel) rfl (rU0c _) (by decide) (List.mem_cons_of_mem _ q_44) rfl) ?_
  refine rcons (ro_iload_n (k := 1) rfl (by decide +kernel) rfl) ?_
  refine rcons (ro_iload_n (k := 2) rfl (by decide +kernel) rfl) ?_
  refine rcons (ro_callV (C := rN0) (T := rF0) (N := 7) rfl ok_c_become (by decide +kernel) rfl (fun s args ht => cwV (C := rN0) 3 ht (rgoodV (C := rN0) (fun w h => List.mem_cons_of_mem _ h) q_602 q_604 q_4 q_13 q_605) rfl rfl rfl hv_c_become ⟨Nat.le_of_ble_eq_true rfl, Nat.le_of_ble_eq_true rfl⟩) rfl) ?_
  refine rcons (ro_iadd (by decide +kernel) rfl) ?_
  refine rcons (ro_iret (by decide +kernel)) ?_
  exact rnil
def ps_c_step : List Nat := [0, 1, 4, 5, 8, 10, 11, 14, 15, 18, 20, 21, 24, 25, 27, 30, 32, 33, 34, 36, 37, 39, 42, 43, 45, 48]
def tb_c_step : List RT := [tq_al 0, tq_getf 0 1, tq_il 1, tq_call m_c_numberIn 2 1 4, tq_is 6 4, tq_al 0, tq_getf 0 0, tq_il 2, tq_call m_c_numberIn 2 1 4, tq_il 4, tq_il 3, tq_call m_c_lengthOf 2 0 4, tq_i2l, tq_ic 7, tq_call m_c_numberOn 3 0 4, tq_is 6 5, tq_al 0, tq_il 1, tq_il 4, tq_lc 1, tq_ic 12, tq_call m_c_numberOn 3 0 4, tq_il 2, tq_il 5, tq_call (rV 0 m_c_becomeBoth) 5 2 4, tq_iret 4]
def m_c_step : RM := rMeth tb_c_step 400 6
abbrev rm_c_step : Room := { frames := 9, cells := 4, slots := 48, locals := 159 }
set_option maxHeartbeats 4000000 in
set_option maxRecDepth 20000 in
theorem ok_c_step : rMet y_c_step (Cond.code y_c_step prog_1_method_42_code 6 (some .int) :: rT) rm_c_step 4 m_c_step := by
  refine rMeth_ok (ps := ps_c_step) (tab := tb_c_step) (by decide +kernel) rfl rfl rfl rfl ?_
  refine rcons (ro_aload_n (k := 0) rfl (by decide +kernel) rfl) ?_
  refine rcons (ro_getf (C := rN0) (T := rF0) (N := 7) (k := 1) (by decide +kernel) rfl (rU0c _) (by decide) (List.mem_cons_of_mem _ q_44) rfl) ?_
  refine rcons (ro_iload_n (k := 1) rfl (by decide +kernel) rfl) ?_
  refine rcons (ro_callS ok_c_numberIn (by decide +kernel) rfl (fun s args ht => va_cwS 2 ht (rgoodS (fun w h => List.mem_cons_of_mem _ h) q_498 q_499 q_13 q_500) rfl rfl rfl hy_c_numberIn ⟨Nat.le_of_ble_eq_true rfl, Nat.le_of_ble_eq_true rfl⟩) rfl) ?_
  refine rcons (ro_istore (by decide +kernel) rfl) ?_
  refine rcons (ro_aload_n (k := 0) rfl (by decide +kernel) rfl) ?_
  refine rcons (ro_getf (C := rN0) (T := rF0) (N := 7) (k := 0) (by decide +kernel) rfl (rU0c _) (by decide) (List.mem_cons_of_mem _ q_43) rfl) ?_
  refine rcons (ro_iload_n (k := 2) rfl (by decide +kernel) rfl) ?_
  refine rcons (ro_callS ok_c_numberIn (by decide +kernel) rfl (fun s args ht => va_cwS 2 ht (rgoodS (fun w h => List.mem_cons_of_mem _ h) q_498 q_499 q_13 q_500) rfl rfl rfl hy_c_numberIn ⟨Nat.le_of_ble_eq_true rfl, Nat.le_of_ble_eq_true rfl⟩) rfl) ?_
  refine rcons (ro_iload (by decide +kernel) rfl) ?_
  refine rcons (ro_iload_n (k := 3) rfl (by decide +kernel) rfl) ?_
  refine rcons (ro_callS ok_c_lengthOf (by decide +kernel) rfl (fun s args ht => va_cwS 2 ht (rgoodS (fun w h => List.mem_cons_of_mem _ h) q_466 q_467 q_13 q_468) rfl rfl rfl hy_c_lengthOf ⟨Nat.le_of_ble_eq_true rfl, Nat.le_of_ble_eq_true rfl⟩) rfl) ?_
  refine rcons (ro_i2l (by decide +kernel) rfl) ?_
  refine rcons (ro_bipush (n := 7) (by decide +kernel) rfl rfl) ?_
  refine rcons (ro_callS ok_c_numberOn (by decide +kernel) rfl (fun s args ht => va_cwS 3 ht (rgoodS (fun w h => List.mem_cons_of_mem _ h) q_445 q_446 q_13 q_447) rfl rfl rfl hy_c_numberOn ⟨Nat.le_of_ble_eq_true rfl, Nat.le_of_ble_eq_true rfl⟩) rfl) ?_
  refine rcons (ro_istore (by decide +kernel) rfl) ?_
  refine rcons (ro_aload_n (k := 0) rfl (by decide +kernel) rfl) ?_
  refine rcons (ro_iload_n (k := 1) rfl (by decide +kernel) rfl) ?_
  refine rcons (ro_iload (by decide +kernel) rfl) ?_
  refine rcons (ro_lconst (n := 1) (by decide +kernel) rfl rfl) ?_
  refine rcons (ro_bipush (n := 12) (by decide +kernel) rfl rfl) ?_
  refine rcons (ro_callS ok_c_numberOn (by decide +kernel) rfl (fun s args ht => va_cwS 3 ht (rgoodS (fun w h => List.mem_cons_of_mem _ h) q_445 q_446 q_13 q_447) rfl rfl rfl hy_c_numberOn ⟨Nat.le_of_ble_eq_true rfl, Nat.le_of_ble_eq_true rfl⟩) rfl) ?_
  refine rcons (ro_iload_n (k := 2) rfl (by decide +kernel) rfl) ?_
  refine rcons (ro_iload (by decide +kernel) rfl) ?_
  refine rcons (ro_callV (C := rN0) (T := rF0) (N := 7) rfl ok_c_becomeBoth (by decide +kernel) rfl (fun s args ht => cwV (C := rN0) 4 ht (rgoodV (C := rN0) (fun w h => List.mem_cons_of_mem _ h) q_904 q_906 q_7 q_13 q_907) rfl rfl rfl hv_c_becomeBoth ⟨Nat.le_of_ble_eq_true rfl, Nat.le_of_ble_eq_true rfl⟩) rfl) ?_
  refine rcons (ro_iret (by decide +kernel)) ?_
  exact rnil
def ps_c_stepBack : List Nat := [0, 1, 4, 5, 8, 9, 11, 14, 16, 17, 20, 21, 24, 26, 27, 30, 31, 33, 36, 38, 39, 40, 42, 43, 45, 48]
def tb_c_stepBack : List RT := [tq_al 0, tq_getf 0 1, tq_il 1, tq_call m_c_numberIn 2 1 4, tq_lc 1, tq_ic 12, tq_call m_c_numberBack 3 0 4, tq_is 6 4, tq_al 0, tq_getf 0 0, tq_il 2, tq_call m_c_numberIn 2 1 4, tq_il 4, tq_il 3, tq_call m_c_lengthOf 2 0 4, tq_i2l, tq_ic 7, tq_call m_c_numberBack 3 0 4, tq_is 6 5, tq_al 0, tq_il 1, tq_il 4, tq_il 2, tq_il 5, tq_call (rV 0 m_c_becomeBoth) 5 2 4, tq_iret 4]
def m_c_stepBack : RM := rMeth tb_c_stepBack 400 6
abbrev rm_c_stepBack : Room := { frames := 9, cells := 4, slots := 48, locals := 159 }
set_option maxHeartbeats 4000000 in
set_option maxRecDepth 20000 in
theorem ok_c_stepBack : rMet y_c_stepBack (Cond.code y_c_stepBack prog_1_method_43_code 6 (some .int) :: rT) rm_c_stepBack 4 m_c_stepBack := by
  refine rMeth_ok (ps := ps_c_stepBack) (tab := tb_c_stepBack) (by decide +kernel) rfl rfl rfl rfl ?_
  refine rcons (ro_aload_n (k := 0) rfl (by decide +kernel) rfl) ?_
  refine rcons (ro_getf (C := rN0) (T := rF0) (N := 7) (k := 1) (by decide +kernel) rfl (rU0c _) (by decide) (List.mem_cons_of_mem _ q_44) rfl) ?_
  refine rcons (ro_iload_n (k := 1) rfl (by decide +kernel) rfl) ?_
  refine rcons (ro_callS ok_c_numberIn (by decide +kernel) rfl (fun s args ht => va_cwS 2 ht (rgoodS (fun w h => List.mem_cons_of_mem _ h) q_498 q_499 q_13 q_500) rfl rfl rfl hy_c_numberIn ⟨Nat.le_of_ble_eq_true rfl, Nat.le_of_ble_eq_true rfl⟩) rfl) ?_
  refine rcons (ro_lconst (n := 1) (by decide +kernel) rfl rfl) ?_
  refine rcons (ro_bipush (n := 12) (by decide +kernel) rfl rfl) ?_
  refine rcons (ro_callS ok_c_numberBack (by decide +kernel) rfl (fun s args ht => va_cwS 3 ht (rgoodS (fun w h => List.mem_cons_of_mem _ h) q_457 q_458 q_13 q_459) rfl rfl rfl hy_c_numberBack ⟨Nat.le_of_ble_eq_true rfl, Nat.le_of_ble_eq_true rfl⟩) rfl) ?_
  refine rcons (ro_istore (by decide +kernel) rfl) ?_
  refine rcons (ro_aload_n (k := 0) rfl (by decide +kernel) rfl) ?_
  refine rcons (ro_getf (C := rN0) (T := rF0) (N := 7) (k := 0) (by decide +kernel) rfl (rU0c _) (by decide) (List.mem_cons_of_mem _ q_43) rfl) ?_
  refine rcons (ro_iload_n (k := 2) rfl (by decide +kernel) rfl) ?_
  refine rcons (ro_callS ok_c_numberIn (by decide +kernel) rfl (fun s args ht => va_cwS 2 ht (rgoodS (fun w h => List.mem_cons_of_mem _ h) q_498 q_499 q_13 q_500) rfl rfl rfl hy_c_numberIn ⟨Nat.le_of_ble_eq_true rfl, Nat.le_of_ble_eq_true rfl⟩) rfl) ?_
  refine rcons (ro_iload (by decide +kernel) rfl) ?_
  refine rcons (ro_iload_n (k := 3) rfl (by decide +kernel) rfl) ?_
  refine rcons (ro_callS ok_c_lengthOf (by decide +kernel) rfl (fun s args ht => va_cwS 2 ht (rgoodS (fun w h => List.mem_cons_of_mem _ h) q_466 q_467 q_13 q_468) rfl rfl rfl hy_c_lengthOf ⟨Nat.le_of_ble_eq_true rfl, Nat.le_of_ble_eq_true rfl⟩) rfl) ?_
  refine rcons (ro_i2l (by decide +kernel) rfl) ?_
  refine rcons (ro_bipush (n := 7) (by decide +kernel) rfl rfl) ?_
  refine rcons (ro_callS ok_c_numberBack (by decide +kernel) rfl (fun s args ht => va_cwS 3 ht (rgoodS (fun w h => List.mem_cons_of_mem _ h) q_457 q_458 q_13 q_459) rfl rfl rfl hy_c_numberBack ⟨Nat.le_of_ble_eq_true rfl, Nat.le_of_ble_eq_true rfl⟩) rfl) ?_
  refine rcons (ro_istore (by decide +kernel) rfl) ?_
  refine rcons (ro_aload_n (k := 0) rfl (by decide +kernel) rfl) ?_
  refine rcons (ro_iload_n (k := 1) rfl (by decide +kernel) rfl) ?_
  refine rcons (ro_iload (by decide +kernel) rfl) ?_
  refine rcons (ro_iload_n (k := 2) rfl (by decide +kernel) rfl) ?_
  refine rcons (ro_iload (by decide +kernel) rfl) ?_
  refine rcons (ro_callV (C := rN0) (T := rF0) (N := 7) rfl ok_c_becomeBoth (by decide +kernel) rfl (fun s args ht => cwV (C := rN0) 4 ht (rgoodV (C := rN0) (fun w h => List.mem_cons_of_mem _ h) q_904 q_906 q_7 q_13 q_907) rfl rfl rfl hv_c_becomeBoth ⟨Nat.le_of_ble_eq_true rfl, Nat.le_of_ble_eq_true rfl⟩) rfl) ?_
  refine rcons (ro_iret (by decide +kernel)) ?_
  exact rnil
def ps_c_dayOfDate : List Nat := [0, 1, 2, 3, 6, 7, 8, 9, 10, 11, 12, 13, 15, 18]
def tb_c_dayOfDate : List RT := [tq_il 1, tq_il 0, tq_il 2, tq_call m_c_firstOf 2 0 0, tq_ic 1, tq_i2 (fun x y => x - y), tq_il 3, tq_i2 (fun x y => x + y), tq_ic 1, tq_i2 (fun x y => x - y), tq_i2l, tq_ic 7, tq_call m_c_numberOn 3 0 0, tq_iret 0]
def m_c_dayOfDate : RM := rMeth tb_c_dayOfDate 400 4
abbrev rm_c_dayOfDate : Room := { frames := 3, cells := 0, slots := 0, locals := 70 }
set_option maxHeartbeats 4000000 in
set_option maxRecDepth 20000 in
theorem ok_c_dayOfDate : rMet y_c_dayOfDate (Cond.code y_c_dayOfDate prog_1_method_80_code 4 (some .int) :: rT) rm_c_dayOfDate 0 m_c_dayOfDate := by
  refine rMeth_ok (ps := ps_c_dayOfDate) (tab := tb_c_dayOfDate) (by decide +kernel) rfl rfl rfl rfl ?_
  refine rcons (ro_iload_n (k := 1) rfl (by decide +kernel) rfl) ?_
  refine rcons (ro_iload_n (k := 0) rfl (by decide +kernel) rfl) ?_
  refine rcons (ro_iload_n (k := 2) rfl (by decide +kernel) rfl) ?_
  refine rcons (ro_callS ok_c_firstOf (by decide +kernel) rfl (fun s args ht => va_cwS 2 ht (rgoodS (fun w h => List.mem_cons_of_mem _ h) q_480 q_481 q_13 q_482) rfl rfl rfl hy_c_firstOf ⟨Nat.le_of_ble_eq_true rfl, Nat.le_of_ble_eq_true rfl⟩) rfl) ?_
  refine rcons (ro_iconst (n := 1) (by decide +kernel) rfl rfl) ?_
  refine rcons (ro_isub (by decide +kernel) rfl) ?_
  refine rcons (ro_iload_n (k := 3) rfl (by decide +kernel) rfl) ?_
  refine rcons (ro_iadd (by decide +kernel) rfl) ?_
  refine rcons (ro_iconst (n := 1) (by decide +kernel) rfl rfl) ?_
  refine rcons (ro_isub (by decide +kernel) rfl) ?_
  refine rcons (ro_i2l (by decide +kernel) rfl) ?_
  refine rcons (ro_bipush (n := 7) (by decide +kernel) rfl rfl) ?_
  refine rcons (ro_callS ok_c_numberOn (by decide +kernel) rfl (fun s args ht => va_cwS 3 ht (rgoodS (fun w h => List.mem_cons_of_mem _ h) q_445 q_446 q_13 q_447) rfl rfl rfl hy_c_numberOn ⟨Nat.le_of_ble_eq_true rfl, Nat.le_of_ble_eq_true rfl⟩) rfl) ?_
  refine rcons (ro_iret (by decide +kernel)) ?_
  exact rnil
def ps_c_begins : List Nat := [0, 1, 4, 5, 8, 9, 12, 13, 16, 17, 18, 21]
def tb_c_begins : List RT := [tq_al 0, tq_getf 0 1, tq_il 1, tq_call m_c_numberIn 2 1 2, tq_al 0, tq_getf 0 0, tq_il 2, tq_call m_c_numberIn 2 1 2, tq_il 3, tq_ic 1, tq_call m_c_dayOfDate 4 0 2, tq_iret 2]
def m_c_begins : RM := rMeth tb_c_begins 400 4
abbrev rm_c_begins : Room := { frames := 7, cells := 2, slots := 24, locals := 111 }
set_option maxHeartbeats 4000000 in
set_option maxRecDepth 20000 in
theorem ok_c_begins : rMet y_c_begins (Cond.code y_c_begins prog_1_method_44_code 4 (some .int) :: rT) rm_c_begins 2 m_c_begins := by
  refine rMeth_ok (ps := ps_c_begins) (tab := tb_c_begins) (by decide +kernel) rfl rfl rfl rfl ?_
  refine rcons (ro_aload_n (k := 0) rfl (by decide +kernel) rfl) ?_
  refine rcons (ro_getf (C := rN0) (T := rF0) (N := 7) (k := 1) (by decide +kernel) rfl (rU0c _) (by decide) (List.mem_cons_of_mem _ q_44) rfl) ?_
  refine rcons (ro_iload_n (k := 1) rfl (by decide +kernel) rfl) ?_
  refine rcons (ro_callS ok_c_numberIn (by decide +kernel) rfl (fun s args ht => va_cwS 2 ht (rgoodS (fun w h => List.mem_cons_of_mem _ h) q_498 q_499 q_13 q_500) rfl rfl rfl hy_c_numberIn ⟨Nat.le_of_ble_eq_true rfl, Nat.le_of_ble_eq_true rfl⟩) rfl) ?_
  refine rcons (ro_aload_n (k := 0) rfl (by decide +kernel) rfl) ?_
  refine rcons (ro_getf (C := rN0) (T := rF0) (N := 7) (k := 0) (by decide +kernel) rfl (rU0c _) (by decide) (List.mem_cons_of_mem _ q_43) rfl) ?_
  refine rcons (ro_iload_n (k := 2) rfl (by decide +kernel) rfl) ?_
  refine rcons (ro_callS ok_c_numberIn (by decide +kernel) rfl (fun s args ht => va_cwS 2 ht (rgoodS (fun w h => List.mem_cons_of_mem _ h) q_498 q_499 q_13 q_500) rfl rfl rfl hy_c_numberIn ⟨Nat.le_of_ble_eq_true rfl, Nat.le_of_ble_eq_true rfl⟩) rfl) ?_
  refine rcons (ro_iload_n (k := 3) rfl (by decide +kernel) rfl) ?_
  refine rcons (ro_iconst (n := 1) (by decide +kernel) rfl rfl) ?_
  refine rcons (ro_callS ok_c_dayOfDate (by decide +kernel) rfl (fun s args ht => va_cwS 4 ht (rgoodS (fun w h => List.mem_cons_of_mem _ h) q_922 q_923 q_13 q_924) rfl rfl rfl hy_c_dayOfDate ⟨Nat.le_of_ble_eq_true rfl, Nat.le_of_ble_eq_true rfl⟩) rfl) ?_
  refine rcons (ro_iret (by decide +kernel)) ?_
  exact rnil
def ps_c_date : List Nat := [0, 1, 4, 5, 8, 10, 11, 14, 15, 18, 20, 22, 24, 25, 28, 31, 33, 35, 36, 38, 41]
def tb_c_date : List RT := [tq_al 0, tq_getf 0 1, tq_il 1, tq_call m_c_numberIn 2 1 3, tq_is 7 5, tq_al 0, tq_getf 0 0, tq_il 2, tq_call m_c_numberIn 2 1 3, tq_is 7 6, tq_il 4, tq_il 5, tq_il 3, tq_call m_c_lengthOf 2 0 3, tq_call m_c_refuseOutside 2 1 3, tq_il 5, tq_il 6, tq_il 3, tq_il 4, tq_call m_c_dayOfDate 4 0 3, tq_iret 3]
def m_c_date : RM := rMeth tb_c_date 400 7
abbrev rm_c_date : Room := { frames := 7, cells := 3, slots := 36, locals := 111 }
set_option maxHeartbeats 4000000 in
set_option maxRecDepth 20000 in
theorem ok_c_date : rMet y_c_date (Cond.code y_c_date prog_1_method_45_code 7 (some .int) :: rT) rm_c_date 3 m_c_date := by
  refine rMeth_ok (ps := ps_c_date) (tab := tb_c_date) (by decide +kernel) rfl rfl rfl rfl ?_
  refine rcons (ro_aload_n (k := 0) rfl (by decide +kernel) rfl) ?_
  refine rcons (ro_getf (C := rN0) (T := rF0) (N := 7) (k := 1) (by decide +kernel) rfl (rU0c _) (by decide) (List.mem_cons_of_mem _ q_44) rfl) ?_
  refine rcons (ro_iload_n (k := 1) rfl (by decide +kernel) rfl) ?_
  refine rcons (ro_callS ok_c_numberIn (by decide +kernel) rfl (fun s args ht => va_cwS 2 ht (rgoodS (fun w h => List.mem_cons_of_mem _ h) q_498 q_499 q_13 q_500) rfl rfl rfl hy_c_numberIn ⟨Nat.le_of_ble_eq_true rfl, Nat.le_of_ble_eq_true rfl⟩) rfl) ?_
  refine rcons (ro_istore (by decide +kernel) rfl) ?_
  refine rcons (ro_aload_n (k := 0) rfl (by decide +kernel) rfl) ?_
  refine rcons (ro_getf (C := rN0) (T := rF0) (N := 7) (k := 0) (by decide +kernel) rfl (rU0c _) (by decide) (List.mem_cons_of_mem _ q_43) rfl) ?_
  refine rcons (ro_iload_n (k := 2) rfl (by decide +kernel) rfl) ?_
  refine rcons (ro_callS ok_c_numberIn (by decide +kernel) rfl (fun s args ht => va_cwS 2 ht (rgoodS (fun w h => List.mem_cons_of_mem _ h) q_498 q_499 q_13 q_500) rfl rfl rfl hy_c_numberIn ⟨Nat.le_of_ble_eq_true rfl, Nat.le_of_ble_eq_true rfl⟩) rfl) ?_
  refine rcons (ro_istore (by decide +kernel) rfl) ?_
  refine rcons (ro_iload (by decide +kernel) rfl) ?_
  refine rcons (ro_iload (by decide +kernel) rfl) ?_
  refine rcons (ro_iload_n (k := 3) rfl (by decide +kernel) rfl) ?_
  refine rcons (ro_callS ok_c_lengthOf (by decide +kernel) rfl (fun s args ht => va_cwS 2 ht (rgoodS (fun w h => List.mem_cons_of_mem _ h) q_466 q_467 q_13 q_468) rfl rfl rfl hy_c_lengthOf ⟨Nat.le_of_ble_eq_true rfl, Nat.le_of_ble_eq_true rfl⟩) rfl) ?_
  refine rcons (ro_callS ok_c_refuseOutside (by decide +kernel) rfl (fun s args ht => va_cwS 2 ht (rgoodS (fun w h => List.mem_cons_of_mem _ h) q_596 q_597 q_13 q_598) rfl rfl rfl hy_c_refuseOutside ⟨Nat.le_of_ble_eq_true rfl, Nat.le_of_ble_eq_true rfl⟩) rfl) ?_
  refine rcons (ro_iload (by decide +kernel) rfl) ?_
  refine rcons (ro_iload (by decide +kernel) rfl) ?_
  refine rcons (ro_iload_n (k := 3) rfl (by decide +kernel) rfl) ?_
  refine rcons (ro_iload (by decide +kernel) rfl) ?_
  refine rcons (ro_callS ok_c_dayOfDate (by decide +kernel) rfl (fun s args ht => va_cwS 4 ht (rgoodS (fun w h => List.mem_cons_of_mem _ h) q_922 q_923 q_13 q_924) rfl rfl rfl hy_c_dayOfDate ⟨Nat.le_of_ble_eq_true rfl, Nat.le_of_ble_eq_true rfl⟩) rfl) ?_
  refine rcons (ro_iret (by decide +kernel)) ?_
  exact rnil
def ps_c_areAlike : List Nat := [0, 1, 4, 5, 8, 9, 12, 14, 15, 18, 19, 22, 23, 26, 28, 30, 31, 33, 36, 38, 39, 41, 44, 47, 48, 51, 52]
def tb_c_areAlike : List RT := [tq_al 0, tq_getf 0 1, tq_il 1, tq_call m_c_numberIn 2 1 2, tq_il 3, tq_call m_c_firstOf 2 0 2, tq_is 6 4, tq_al 0, tq_getf 0 1, tq_il 2, tq_call m_c_numberIn 2 1 2, tq_il 3, tq_call m_c_firstOf 2 0 2, tq_is 6 5, tq_il 4, tq_i2l, tq_ic 7, tq_call m_c_rest 2 0 2, tq_il 5, tq_i2l, tq_ic 7, tq_call m_c_rest 2 0 2, tq_if2 (fun x y => !decide (x = y)) 25, tq_ic 1, tq_go 26, tq_ic 0, tq_zret 2]
def m_c_areAlike : RM := rMeth tb_c_areAlike 400 6
abbrev rm_c_areAlike : Room := { frames := 7, cells := 2, slots := 24, locals := 111 }
set_option maxHeartbeats 4000000 in
set_option maxRecDepth 20000 in
theorem ok_c_areAlike : rMet y_c_areAlike (Cond.code y_c_areAlike prog_1_method_46_code 6 (some .boolean) :: rT) rm_c_areAlike 2 m_c_areAlike := by
  refine rMeth_ok (ps := ps_c_areAlike) (tab := tb_c_areAlike) (by decide +kernel) rfl rfl rfl rfl ?_
  refine rcons (ro_aload_n (k := 0) rfl (by decide +kernel) rfl) ?_
  refine rcons (ro_getf (C := rN0) (T := rF0) (N := 7) (k := 1) (by decide +kernel) rfl (rU0c _) (by decide) (List.mem_cons_of_mem _ q_44) rfl) ?_
  refine rcons (ro_iload_n (k := 1) rfl (by decide +kernel) rfl) ?_
  refine rcons (ro_callS ok_c_numberIn (by decide +kernel) rfl (fun s args ht => va_cwS 2 ht (rgoodS (fun w h => List.mem_cons_of_mem _ h) q_498 q_499 q_13 q_500) rfl rfl rfl hy_c_numberIn ⟨Nat.le_of_ble_eq_true rfl, Nat.le_of_ble_eq_true rfl⟩) rfl) ?_
  refine rcons (ro_iload_n (k := 3) rfl (by decide +kernel) rfl) ?_
  refine rcons (ro_callS ok_c_firstOf (by decide +kernel) rfl (fun s args ht => va_cwS 2 ht (rgoodS (fun w h => List.mem_cons_of_mem _ h) q_480 q_481 q_13 q_482) rfl rfl rfl hy_c_firstOf ⟨Nat.le_of_ble_eq_true rfl, Nat.le_of_ble_eq_true rfl⟩) rfl) ?_
  refine rcons (ro_istore (by decide +kernel) rfl) ?_
  refine rcons (ro_aload_n (k := 0) rfl (by decide +kernel) rfl) ?_
  refine rcons (ro_getf (C := rN0) (T := rF0) (N := 7) (k := 1) (by decide +kernel) rfl (rU0c _) (by decide) (List.mem_cons_of_mem _ q_44) rfl) ?_
  refine rcons (ro_iload_n (k := 2) rfl (by decide +kernel) rfl) ?_
  refine rcons (ro_callS ok_c_numberIn (by decide +kernel) rfl (fun s args ht => va_cwS 2 ht (rgoodS (fun w h => List.mem_cons_of_mem _ h) q_498 q_499 q_13 q_500) rfl rfl rfl hy_c_numberIn ⟨Nat.le_of_ble_eq_true rfl, Nat.le_of_ble_eq_true rfl⟩) rfl) ?_
  refine rcons (ro_iload_n (k := 3) rfl (by decide +kernel) rfl) ?_
  refine rcons (ro_callS ok_c_firstOf (by decide +kernel) rfl (fun s args ht => va_cwS 2 ht (rgoodS (fun w h => List.mem_cons_of_mem _ h) q_480 q_481 q_13 q_482) rfl rfl rfl hy_c_firstOf ⟨Nat.le_of_ble_eq_true rfl, Nat.le_of_ble_eq_true rfl⟩) rfl) ?_
  refine rcons (ro_istore (by decide +kernel) rfl) ?_
  refine rcons (ro_iload (by decide +kernel) rfl) ?_
  refine rcons (ro_i2l (by decide +kernel) rfl) ?_
  refine rcons (ro_bipush (n := 7) (by decide +kernel) rfl rfl) ?_
  refine rcons (ro_callS ok_c_rest (by decide +kernel) rfl (fun s args ht => va_cwS 2 ht (rgoodS (fun w h => List.mem_cons_of_mem _ h) q_451 q_452 q_13 q_453) rfl rfl rfl hy_c_rest ⟨Nat.le_of_ble_eq_true rfl, Nat.le_of_ble_eq_true rfl⟩) rfl) ?_
  refine rcons (ro_iload (by decide +kernel) rfl) ?_
  refine rcons (ro_i2l (by decide +kernel) rfl) ?_
  refine rcons (ro_bipush (n := 7) (by decide +kernel) rfl rfl) ?_
  refine rcons (ro_callS ok_c_rest (by decide +kernel) rfl (fun s args ht => va_cwS 2 ht (rgoodS (fun w h => List.mem_cons_of_mem _ h) q_451 q_452 q_13 q_453) rfl rfl rfl hy_c_rest ⟨Nat.le_of_ble_eq_true rfl, Nat.le_of_ble_eq_true rfl⟩) rfl) ?_
  refine rcons (ro_icmp_ne (off := 7) (by decide +kernel) rfl rfl) ?_
  refine rcons (ro_iconst (n := 1) (by decide +kernel) rfl rfl) ?_
  refine rcons (ro_goto (off := 4) (by decide +kernel) rfl) ?_
  refine rcons (ro_iconst (n := 0) (by decide +kernel) rfl rfl) ?_
  refine rcons (ro_zret (by decide +kernel)) ?_
  exact rnil
def ps_c_isKept : List Nat := [0, 1, 4, 5, 6, 9, 12, 13, 15, 18, 19, 20, 23, 24, 25]
def tb_c_isKept : List RT := [tq_il 1, tq_if1 (fun x => decide (x < 0)) 5, tq_il 1, tq_ic 2, tq_if2 (fun x y => decide (x < y)) 10, tq_thr 0 1, tq_bad, tq_bad, tq_bad, tq_bad, tq_al 0, tq_getf 0 4, tq_il 1, tq_iald 1, tq_zret 1]
def m_c_isKept : RM := rMeth tb_c_isKept 400 2
abbrev rm_c_isKept : Room := { frames := 6, cells := 1, slots := 12, locals := 90 }
set_option maxHeartbeats 4000000 in
set_option maxRecDepth 20000 in
theorem ok_c_isKept : rMet y_c_isKept (Cond.code y_c_isKept prog_1_method_49_code 2 (some .boolean) :: rT) rm_c_isKept 1 m_c_isKept := by
  refine rMeth_ok (ps := ps_c_isKept) (tab := tb_c_isKept) (by decide +kernel) rfl rfl rfl rfl ?_
  refine rcons (ro_iload_n (k := 1) rfl (by decide +kernel) rfl) ?_
  refine rcons (ro_if_lt (off := 8) (by decide +kernel) rfl rfl) ?_
  refine rcons (ro_iload_n (k := 1) rfl (by decide +kernel) rfl) ?_
  refine rcons (ro_iconst (n := 2) (by decide +kernel) rfl rfl) ?_
  refine rcons (ro_icmp_lt (off := 13) (by decide +kernel) rfl rfl) ?_
  refine rcons (ro_thr (k := 21) (by decide +kernel) (by decide +kernel) (by decide +kernel) (by decide +kernel) (by decide +kernel) rfl (List.mem_cons_of_mem _ q_501) (List.mem_cons_of_mem _ q_19) (by decide +kernel) (rcm rtg_c154_0) rtb_c154_0 rto_150_c154_0 (by decide) rfl (by decide) (by decide)) ?_
  refine rcons (ro_bad) ?_
  refine rcons (ro_bad) ?_
  refine rcons (ro_bad) ?_
  refine rcons (ro_bad) ?_
  refine rcons (ro_aload_n (k := 0) rfl (by decide +kernel) rfl) ?_
  refine rcons (ro_getf (C := rN0) (T := rF0) (N := 7) (k := 4) (by decide +kernel) rfl (rU0c _) (by decide) (List.mem_cons_of_mem _ q_47) rfl) ?_
  refine rcons (ro_iload_n (k := 1) rfl (by decide +kernel) rfl) ?_
  refine rcons (ro_zald (by decide +kernel) rfl) ?_
  refine rcons (ro_zret (by decide +kernel)) ?_
  exact rnil
def ps_c_copyCells : List Nat := [0, 1, 2, 3, 4, 7, 8, 9, 10, 11, 12, 13, 16, 19]
def tb_c_copyCells : List RT := [tq_ic 0, tq_is 3 2, tq_il 2, tq_ic 4, tq_if2 (fun x y => decide (y ≤ x)) 13, tq_al 1, tq_il 2, tq_al 0, tq_il 2, tq_iald 0, tq_iast 0, tq_inc 3 2 1, tq_go 2, tq_vret 0]
def m_c_copyCells : RM := rMeth tb_c_copyCells 400 3
abbrev rm_c_copyCells : Room := { frames := 0, cells := 0, slots := 0, locals := 0 }
set_option maxHeartbeats 4000000 in
set_option maxRecDepth 20000 in
theorem ok_c_copyCells : rMet y_c_copyCells (Cond.code y_c_copyCells prog_1_method_66_code 3 none :: rT) rm_c_copyCells 0 m_c_copyCells := by
  refine rMeth_ok (ps := ps_c_copyCells) (tab := tb_c_copyCells) (by decide +kernel) rfl rfl rfl rfl ?_
  refine rcons (ro_iconst (n := 0) (by decide +kernel) rfl rfl) ?_
  refine rcons (ro_istore_n (k := 2) rfl (by decide +kernel) rfl) ?_
  refine rcons (ro_iload_n (k := 2) rfl (by decide +kernel) rfl) ?_
  refine rcons (ro_iconst (n := 4) (by decide +kernel) rfl rfl) ?_
  refine rcons (ro_icmp_ge (off := 15) (by decide +kernel) rfl rfl) ?_
  refine rcons (ro_aload_n (k := 1) rfl (by decide +kernel) rfl) ?_
  refine rcons (ro_iload_n (k := 2) rfl (by decide +kernel) rfl) ?_
  refine rcons (ro_aload_n (k := 0) rfl (by decide +kernel) rfl) ?_
  refine rcons (ro_iload_n (k := 2) rfl (by decide +kernel) rfl) ?_
  refine rcons (ro_iald (by decide +kernel) rfl) ?_
  refine rcons (ro_iast (by decide +kernel) rfl) ?_
  refine rcons (ro_iinc (by decide +kernel) rfl) ?_
  refine rcons (ro_goto (off := (-14)) (by decide +kernel) rfl) ?_
  refine rcons (ro_vret (by decide +kernel)) ?_
  exact rnil
def ps_c_keep : List Nat := [0, 1, 2, 5, 8, 9, 12, 13, 14, 15, 18, 19, 22, 23, 24, 27, 28, 31, 32, 35, 36, 37, 40, 41, 44, 45, 46, 47, 48]
def tb_c_keep : List RT := [tq_al 0, tq_il 1, tq_call (rV 0 m_c_isKept) 2 1 1, tq_if1 (fun x => decide (x = 0)) 6, tq_ic 1, tq_go 7, tq_ic 0, tq_is 3 2, tq_al 0, tq_getf 0 0, tq_al 0, tq_getf 0 2, tq_il 1, tq_aald 2, tq_call m_c_copyCells 2 0 1, tq_al 0, tq_getf 0 1, tq_al 0, tq_getf 0 3, tq_il 1, tq_aald 2, tq_call m_c_copyCells 2 0 1, tq_al 0, tq_getf 0 4, tq_il 1, tq_ic 1, tq_zast 1, tq_il 2, tq_iret 1]
def m_c_keep : RM := rMeth tb_c_keep 400 3
abbrev rm_c_keep : Room := { frames := 7, cells := 1, slots := 12, locals := 111 }
set_option maxHeartbeats 4000000 in
set_option maxRecDepth 20000 in
theorem ok_c_keep : rMet y_c_keep (Cond.code y_c_keep prog_1_method_47_code 3 (some .int) :: rT) rm_c_keep 1 m_c_keep := by
  refine rMeth_ok (ps := ps_c_keep) (tab := tb_c_keep) (by decide +kernel) rfl rfl rfl rfl ?_
  refine rcons (ro_aload_n (k := 0) rfl (by decide +kernel) rfl) ?_
  refine rcons (ro_iload_n (k := 1) rfl (by decide +kernel) rfl) ?_
  refine rcons (ro_callV (C := rN0) (T := rF0) (N := 7) rfl ok_c_isKept (by decide +kernel) rfl (fun s args ht => cwV (C := rN0) 1 ht (rgoodV (C := rN0) (fun w h => List.mem_cons_of_mem _ h) q_564 q_565 q_566 q_13 q_567) rfl rfl rfl hv_c_isKept ⟨Nat.le_of_ble_eq_true rfl, Nat.le_of_ble_eq_true rfl⟩) rfl) ?_
  refine rcons (ro_if_eq (off := 7) (by decide +kernel) rfl rfl) ?_
  refine rcons (ro_iconst (n := 1) (by decide +kernel) rfl rfl) ?_
  refine rcons (ro_goto (off := 4) (by decide +kernel) rfl) ?_
  refine rcons (ro_iconst (n := 0) (by decide +kernel) rfl rfl) ?_
  refine rcons (ro_istore_n (k := 2) rfl (by decide +kernel) rfl) ?_
  refine rcons (ro_aload_n (k := 0) rfl (by decide +kernel) rfl) ?_
  refine rcons (ro_getf (C := rN0) (T := rF0) (N := 7) (k := 0) (by decide +kernel) rfl (rU0c _) (by decide) (List.mem_cons_of_mem _ q_43) rfl) ?_
  refine rcons (ro_aload_n (k := 0) rfl (by decide +kernel) rfl) ?_
  refine rcons (ro_getf (C := rN0) (T := rF0) (N := 7) (k := 2) (by decide +kernel) rfl (rU0c _) (by decide) (List.mem_cons_of_mem _ q_45) rfl) ?_
  refine rcons (ro_iload_n (k := 1) rfl (by decide +kernel) rfl) ?_
  refine rcons (ro_aald (by decide +kernel) rfl) ?_
  refine rcons (ro_callS ok_c_copyCells (by decide +kernel) rfl (fun s args ht => va_cwS 2 ht (rgoodS (fun w h => List.mem_cons_of_mem _ h) q_943 q_944 q_13 q_945) rfl rfl rfl hy_c_copyCells ⟨Nat.le_of_ble_eq_true rfl, Nat.le_of_ble_eq_true rfl⟩) rfl) ?_
  refine rcons (ro_aload_n (k := 0) rfl (by decide +kernel) rfl) ?_
  refine rcons (ro_getf (C := rN0) (T := rF0) (N := 7) (k := 1) (by decide +kernel) rfl (rU0c _) (by decide) (List.mem_cons_of_mem _ q_44) rfl) ?_
  refine rcons (ro_aload_n (k := 0) rfl (by decide +kernel) rfl) ?_
  refine rcons (ro_getf (C := rN0) (T := rF0) (N := 7) (k := 3) (by decide +kernel) rfl (rU0c _) (by decide) (List.mem_cons_of_mem _ q_46) rfl) ?_
  refine rcons (ro_iload_n (k := 1) rfl (by decide +kernel) rfl) ?_
  refine rcons (ro_aald (by decide +kernel) rfl) ?_
  refine rcons (ro_callS ok_c_copyCells (by decide +kernel) rfl (fun s args ht => va_cwS 2 ht (rgoodS (fun w h => List.mem_cons_of_mem _ h) q_943 q_944 q_13 q_945) rfl rfl rfl hy_c_copyCells ⟨Nat.le_of_ble_eq_true rfl, Nat.le_of_ble_eq_true rfl⟩) rfl) ?_
  refine rcons (ro_aload_n (k := 0) rfl (by decide +kernel) rfl) ?_
  refine rcons (ro_getf (C := rN0) (T := rF0) (N := 7) (k := 4) (by decide +kernel) rfl (rU0c _) (by decide) (List.mem_cons_of_mem _ q_47) rfl) ?_
  refine rcons (ro_iload_n (k := 1) rfl (by decide +kernel) rfl) ?_
  refine rcons (ro_iconst (n := 1) (by decide +kernel) rfl rfl) ?_
  refine rcons (ro_zast (by decide +kernel) rfl) ?_
  refine rcons (ro_iload_n (k := 2) rfl (by decide +kernel) rfl) ?_
  refine rcons (ro_iret (by decide +kernel)) ?_
  exact rnil
def ps_c_countOthers : List Nat := [0, 1, 2, 3, 4, 5, 6, 9, 10, 11, 12, 13, 14, 15, 18, 21, 24, 27, 28]
def tb_c_countOthers : List RT := [tq_ic 0, tq_is 4 2, tq_ic 0, tq_is 4 3, tq_il 3, tq_ic 4, tq_if2 (fun x y => decide (y ≤ x)) 17, tq_al 0, tq_il 3, tq_iald 0, tq_al 1, tq_il 3, tq_iald 0, tq_if2 (fun x y => decide (x = y)) 15, tq_inc 4 2 1, tq_inc 4 3 1, tq_go 4, tq_il 2, tq_iret 0]
def m_c_countOthers : RM := rMeth tb_c_countOthers 400 4
abbrev rm_c_countOthers : Room := { frames := 0, cells := 0, slots := 0, locals := 0 }
set_option maxHeartbeats 4000000 in
set_option maxRecDepth 20000 in
theorem ok_c_countOthers : rMet y_c_countOthers (Cond.code y_c_countOthers prog_1_method_67_code 4 (some .int) :: rT) rm_c_countOthers 0 m_c_countOthers := by
  refine rMeth_ok (ps := ps_c_countOthers) (tab := tb_c_countOthers) (by decide +kernel) rfl rfl rfl rfl ?_
  refine rcons (ro_iconst (n := 0) (by decide +kernel) rfl rfl) ?_
  refine rcons (ro_istore_n (k := 2) rfl (by decide +kernel) rfl) ?_
  refine rcons (ro_iconst (n := 0) (by decide +kernel) rfl rfl) ?_
  refine rcons (ro_istore_n (k := 3) rfl (by decide +kernel) rfl) ?_
  refine rcons (ro_iload_n (k := 3) rfl (by decide +kernel) rfl) ?_
  refine rcons (ro_iconst (n := 4) (by decide +kernel) rfl rfl) ?_
  refine rcons (ro_icmp_ge (off := 21) (by decide +kernel) rfl rfl) ?_
  refine rcons (ro_aload_n (k := 0) rfl (by decide +kernel) rfl) ?_
  refine rcons (ro_iload_n (k := 3) rfl (by decide +kernel) rfl) ?_
  refine rcons (ro_iald (by decide +kernel) rfl) ?_
  refine rcons (ro_aload_n (k := 1) rfl (by decide +kernel) rfl) ?_
  refine rcons (ro_iload_n (k := 3) rfl (by decide +kernel) rfl) ?_
  refine rcons (ro_iald (by decide +kernel) rfl) ?_
  refine rcons (ro_icmp_eq (off := 6) (by decide +kernel) rfl rfl) ?_
  refine rcons (ro_iinc (by decide +kernel) rfl) ?_
  refine rcons (ro_iinc (by decide +kernel) rfl) ?_
  refine rcons (ro_goto (off := (-20)) (by decide +kernel) rfl) ?_
  refine rcons (ro_iload_n (k := 2) rfl (by decide +kernel) rfl) ?_
  refine rcons (ro_iret (by decide +kernel)) ?_
  exact rnil
def ps_c_back : List Nat := [0, 1, 2, 5, 8, 11, 12, 14, 17, 18, 19, 22, 23, 26, 27, 28, 31, 32, 35, 36, 39, 40, 41, 44, 45, 46, 47, 50, 51, 52, 53, 56, 59, 60, 63, 64, 65, 66, 69, 72, 73, 74, 77, 78, 79, 82, 83]
def tb_c_back : List RT := [tq_al 0, tq_il 1, tq_call (rV 0 m_c_isKept) 2 1 2, tq_if1 (fun x => !decide (x = 0)) 9, tq_thr 2 2, tq_bad, tq_bad, tq_bad, tq_bad, tq_al 0, tq_getf 0 0, tq_al 0, tq_getf 0 2, tq_il 1, tq_aald 2, tq_call m_c_countOthers 2 0 2, tq_al 0, tq_getf 0 1, tq_al 0, tq_getf 0 3, tq_il 1, tq_aald 2, tq_call m_c_countOthers 2 0 2, tq_i2 (fun x y => x + y), tq_is 3 2, tq_al 0, tq_getf 0 2, tq_il 1, tq_aald 2, tq_al 0, tq_getf 0 0, tq_call m_c_copyCells 2 0 2, tq_al 0, tq_getf 0 3, tq_il 1, tq_aald 2, tq_al 0, tq_getf 0 1, tq_call m_c_copyCells 2 0 2, tq_al 0, tq_dup, tq_getf 0 5, tq_ic 1, tq_i2 (fun x y => x + y), tq_putf 0 5 0, tq_il 2, tq_iret 2]
def m_c_back : RM := rMeth tb_c_back 400 3
abbrev rm_c_back : Room := { frames := 7, cells := 2, slots := 24, locals := 111 }
set_option maxHeartbeats 4000000 in
set_option maxRecDepth 20000 in
theorem ok_c_back : rMet y_c_back (Cond.code y_c_back prog_1_method_48_code 3 (some .int) :: rT) rm_c_back 2 m_c_back := by
  refine rMeth_ok (ps := ps_c_back) (tab := tb_c_back) (by decide +kernel) rfl rfl rfl rfl ?_
  refine rcons (ro_aload_n (k := 0) rfl (by decide +kernel) rfl) ?_
  refine rcons (ro_iload_n (k := 1) rfl (by decide +kernel) rfl) ?_
  refine rcons (ro_callV (C := rN0) (T := rF0) (N := 7) rfl ok_c_isKept (by decide +kernel) rfl (fun s args ht => cwV (C := rN0) 1 ht (rgoodV (C := rN0) (fun w h => List.mem_cons_of_mem _ h) q_564 q_565 q_566 q_13 q_567) rfl rfl rfl hv_c_isKept ⟨Nat.le_of_ble_eq_true rfl, Nat.le_of_ble_eq_true rfl⟩) rfl) ?_
  refine rcons (ro_if_ne (off := 13) (by decide +kernel) rfl rfl) ?_
  refine rcons (ro_thr (k := 23) (by decide +kernel) (by decide +kernel) (by decide +kernel) (by decide +kernel) (by decide +kernel) rfl (List.mem_cons_of_mem _ q_954) (List.mem_cons_of_mem _ q_22) (by decide +kernel) (rcm rtg_c139_2) rtb_c139_2 rto_135_c139_2 (by decide) rfl (by decide) (by decide)) ?_
  refine rcons (ro_bad) ?_
  refine rcons (ro_bad) ?_
  refine rcons (ro_bad) ?_
  refine rcons (ro_bad) ?_
  refine rcons (ro_aload_n (k := 0) rfl (by decide +kernel) rfl) ?_
  refine rcons (ro_getf (C := rN0) (T := rF0) (N := 7) (k := 0) (by decide +kernel) rfl (rU0c _) (by decide) (List.mem_cons_of_mem _ q_43) rfl) ?_
  refine rcons (ro_aload_n (k := 0) rfl (by decide +kernel) rfl) ?_
  refine rcons (ro_getf (C := rN0) (T := rF0) (N := 7) (k := 2) (by decide +kernel) rfl (rU0c _) (by decide) (List.mem_cons_of_mem _ q_45) rfl) ?_
  refine rcons (ro_iload_n (k := 1) rfl (by decide +kernel) rfl) ?_
  refine rcons (ro_aald (by decide +kernel) rfl) ?_
  refine rcons (ro_callS ok_c_countOthers (by decide +kernel) rfl (fun s args ht => va_cwS 2 ht (rgoodS (fun w h => List.mem_cons_of_mem _ h) q_970 q_971 q_13 q_972) rfl rfl rfl hy_c_countOthers ⟨Nat.le_of_ble_eq_true rfl, Nat.le_of_ble_eq_true rfl⟩) rfl) ?_
  refine rcons (ro_aload_n (k := 0) rfl (by decide +kernel) rfl) ?_
  refine rcons (ro_getf (C := rN0) (T := rF0) (N := 7) (k := 1) (by decide +kernel) rfl (rU0c _) (by decide) (List.mem_cons_of_mem _ q_44) rfl) ?_
  refine rcons (ro_aload_n (k := 0) rfl (by decide +kernel) rfl) ?_
  refine rcons (ro_getf (C := rN0) (T := rF0) (N := 7) (k := 3) (by decide +kernel) rfl (rU0c _) (by decide) (List.mem_cons_of_mem _ q_46) rfl) ?_
  refine rcons (ro_iload_n (k := 1) rfl (by decide +kernel) rfl) ?_
  refine rcons (ro_aald (by decide +kernel) rfl) ?_
  refine rcons (ro_callS ok_c_countOthers (by decide +kernel) rfl (fun s args ht => va_cwS 2 ht (rgoodS (fun w h => List.mem_cons_of_mem _ h) q_970 q_971 q_13 q_972) rfl rfl rfl hy_c_countOthers ⟨Nat.le_of_ble_eq_true rfl, Nat.le_of_ble_eq_true rfl⟩) rfl) ?_
  refine rcons (ro_iadd (by decide +kernel) rfl) ?_
  refine rcons (ro_istore_n (k := 2) rfl (by decide +kernel) rfl) ?_
  refine rcons (ro_aload_n (k := 0) rfl (by decide +kernel) rfl) ?_
  refine rcons (ro_getf (C := rN0) (T := rF0) (N := 7) (k := 2) (by decide +kernel) rfl (rU0c _) (by decide) (List.mem_cons_of_mem _ q_45) rfl) ?_
  refine rcons (ro_iload_n (k := 1) rfl (by decide +kernel) rfl) ?_
  refine rcons (ro_aald (by decide +kernel) rfl) ?_
  refine rcons (ro_aload_n (k := 0) rfl (by decide +kernel) rfl) ?_
  refine rcons (ro_getf (C := rN0) (T := rF0) (N := 7) (k := 0) (by decide +kernel) rfl (rU0c _) (by decide) (List.mem_cons_of_mem _ q_43) rfl) ?_
  refine rcons (ro_callS ok_c_copyCells (by decide +kernel) rfl (fun s args ht => va_cwS 2 ht (rgoodS (fun w h => List.mem_cons_of_mem _ h) q_943 q_944 q_13 q_945) rfl rfl rfl hy_c_copyCells ⟨Nat.le_of_ble_eq_true rfl, Nat.le_of_ble_eq_true rfl⟩) rfl) ?_
  refine rcons (ro_aload_n (k := 0) rfl (by decide +kernel) rfl) ?_
  refine rcons (ro_getf (C := rN0) (T := rF0) (N := 7) (k := 3) (by decide +kernel) rfl (rU0c _) (by decide) (List.mem_cons_of_mem _ q_46) rfl) ?_
  refine rcons (ro_iload_n (k := 1) rfl (by decide +kernel) rfl) ?_
  refine rcons (ro_aald (by decide +kernel) rfl) ?_
  refine rcons (ro_aload_n (k := 0) rfl (by decide +kernel) rfl) ?_
  refine rcons (ro_getf (C := rN0) (T := rF0) (N := 7) (k := 1) (by decide +kernel) rfl (rU0c _) (by decide) (List.mem_cons_of_mem _ q_44) rfl) ?_
  refine rcons (ro_callS ok_c_copyCells (by decide +kernel) rfl (fun s args ht => va_cwS 2 ht (rgoodS (fun w h => List.mem_cons_of_mem _ h) q_943 q_944 q_13 q_945) rfl rfl rfl hy_c_copyCells ⟨Nat.le_of_ble_eq_true rfl, Nat.le_of_ble_eq_true rfl⟩) rfl) ?_
  refine rcons (ro_aload_n (k := 0) rfl (by decide +kernel) rfl) ?_
  refine rcons (ro_dup (by decide +kernel) rfl) ?_
  refine rcons (ro_getf (C := rN0) (T := rF0) (N := 7) (k := 5) (by decide +kernel) rfl (rU0c _) (by decide) (List.mem_cons_of_mem _ q_48) rfl) ?_
  refine rcons (ro_iconst (n := 1) (by decide +kernel) rfl rfl) ?_
  refine rcons (ro_iadd (by decide +kernel) rfl) ?_
  refine rcons (ro_putf (C := rN0) (T := rF0) (N := 7) (k := 5) (Y := rY0) (by decide +kernel) rfl (rU0c _) rY0_ok rD0 (by decide) (List.mem_cons_of_mem _ q_48) rfl (Or.inl ⟨rfl, rfl⟩) rfl) ?_
  refine rcons (ro_iload_n (k := 2) rfl (by decide +kernel) rfl) ?_
  refine rcons (ro_iret (by decide +kernel)) ?_
  exact rnil
def ps_c_acts : List Nat := [0, 1, 4]
def tb_c_acts : List RT := [tq_al 0, tq_getf 0 5, tq_iret 0]
def m_c_acts : RM := rMeth tb_c_acts 400 1
abbrev rm_c_acts : Room := { frames := 0, cells := 0, slots := 0, locals := 0 }
set_option maxHeartbeats 4000000 in
set_option maxRecDepth 20000 in
theorem ok_c_acts : rMet y_c_acts (Cond.code y_c_acts prog_1_method_52_code 1 (some .int) :: rT) rm_c_acts 0 m_c_acts := by
  refine rMeth_ok (ps := ps_c_acts) (tab := tb_c_acts) (by decide +kernel) rfl rfl rfl rfl ?_
  refine rcons (ro_aload_n (k := 0) rfl (by decide +kernel) rfl) ?_
  refine rcons (ro_getf (C := rN0) (T := rF0) (N := 7) (k := 5) (by decide +kernel) rfl (rU0c _) (by decide) (List.mem_cons_of_mem _ q_48) rfl) ?_
  refine rcons (ro_iret (by decide +kernel)) ?_
  exact rnil
def ps_c_knock : List Nat := [0, 1, 2, 5, 6, 7, 10, 11, 14]
def tb_c_knock : List RT := [tq_al 0, tq_dup, tq_getf 0 6, tq_ic 1, tq_i2 (fun x y => x + y), tq_putf 0 6 0, tq_al 0, tq_getf 0 6, tq_iret 0]
def m_c_knock : RM := rMeth tb_c_knock 400 1
abbrev rm_c_knock : Room := { frames := 0, cells := 0, slots := 0, locals := 0 }
set_option maxHeartbeats 4000000 in
set_option maxRecDepth 20000 in
theorem ok_c_knock : rMet y_c_knock (Cond.code y_c_knock prog_1_method_53_code 1 (some .int) :: rT) rm_c_knock 0 m_c_knock := by
  refine rMeth_ok (ps := ps_c_knock) (tab := tb_c_knock) (by decide +kernel) rfl rfl rfl rfl ?_
  refine rcons (ro_aload_n (k := 0) rfl (by decide +kernel) rfl) ?_
  refine rcons (ro_dup (by decide +kernel) rfl) ?_
  refine rcons (ro_getf (C := rN0) (T := rF0) (N := 7) (k := 6) (by decide +kernel) rfl (rU0c _) (by decide) (List.mem_cons_of_mem _ q_49) rfl) ?_
  refine rcons (ro_iconst (n := 1) (by decide +kernel) rfl rfl) ?_
  refine rcons (ro_iadd (by decide +kernel) rfl) ?_
  refine rcons (ro_putf (C := rN0) (T := rF0) (N := 7) (k := 6) (Y := rY0) (by decide +kernel) rfl (rU0c _) rY0_ok rD0 (by decide) (List.mem_cons_of_mem _ q_49) rfl (Or.inl ⟨rfl, rfl⟩) rfl) ?_
  refine rcons (ro_aload_n (k := 0) rfl (by decide +kernel) rfl) ?_
  refine rcons (ro_getf (C := rN0) (T := rF0) (N := 7) (k := 6) (by decide +kernel) rfl (rU0c _) (by decide) (List.mem_cons_of_mem _ q_49) rfl) ?_
  refine rcons (ro_iret (by decide +kernel)) ?_
  exact rnil
def ps_c_comesToEachOnce : List Nat := [0, 1, 2, 3, 4, 5, 7, 9, 10, 13, 14, 15, 16, 19, 20, 21, 22, 23, 25, 26, 27, 30, 31, 32, 35, 36, 38, 39, 42, 43, 44, 45, 47, 48, 49, 52, 55, 56, 57, 60, 61, 64, 65]
def tb_c_comesToEachOnce : List RT := [tq_ic 0, tq_is 6 2, tq_il 0, tq_is 6 3, tq_ic 0, tq_is 6 4, tq_il 4, tq_il 1, tq_if2 (fun x y => decide (y ≤ x)) 36, tq_il 3, tq_lc 1, tq_il 1, tq_call m_c_numberOn 3 0 0, tq_is 6 3, tq_ic 1, tq_il 3, tq_i2 (fun x y => x <<< (y &&& 31)), tq_is 6 5, tq_il 3, tq_ic 1, tq_if2 (fun x y => decide (x < y)) 28, tq_il 3, tq_il 1, tq_if2 (fun x y => decide (y < x)) 28, tq_il 2, tq_il 5, tq_i2 (fun x y => x &&& y), tq_if1 (fun x => decide (x = 0)) 30, tq_ic 0, tq_zret 0, tq_il 2, tq_il 5, tq_i2 (fun x y => x ||| y), tq_is 6 2, tq_inc 6 4 1, tq_go 6, tq_il 3, tq_il 0, tq_if2 (fun x y => !decide (x = y)) 41, tq_ic 1, tq_go 42, tq_ic 0, tq_zret 0]
def m_c_comesToEachOnce : RM := rMeth tb_c_comesToEachOnce 400 6
abbrev rm_c_comesToEachOnce : Room := { frames := 3, cells := 0, slots := 0, locals := 70 }
set_option maxHeartbeats 4000000 in
set_option maxRecDepth 20000 in
theorem ok_c_comesToEachOnce : rMet y_c_comesToEachOnce (Cond.code y_c_comesToEachOnce prog_1_method_82_code 6 (some .boolean) :: rT) rm_c_comesToEachOnce 0 m_c_comesToEachOnce := by
  refine rMeth_ok (ps := ps_c_comesToEachOnce) (tab := tb_c_comesToEachOnce) (by decide +kernel) rfl rfl rfl rfl ?_
  refine rcons (ro_iconst (n := 0) (by decide +kernel) rfl rfl) ?_
  refine rcons (ro_istore_n (k := 2) rfl (by decide +kernel) rfl) ?_
  refine rcons (ro_iload_n (k := 0) rfl (by decide +kernel) rfl) ?_
  refine rcons (ro_istore_n (k := 3) rfl (by decide +kernel) rfl) ?_
  refine rcons (ro_iconst (n := 0) (by decide +kernel) rfl rfl) ?_
  refine rcons (ro_istore (by decide +kernel) rfl) ?_
  refine rcons (ro_iload (by decide +kernel) rfl) ?_
  refine rcons (ro_iload_n (k := 1) rfl (by decide +kernel) rfl) ?_
  refine rcons (ro_icmp_ge (off := 45) (by decide +kernel) rfl rfl) ?_
  refine rcons (ro_iload_n (k := 3) rfl (by decide +kernel) rfl) ?_
  refine rcons (ro_lconst (n := 1) (by decide +kernel) rfl rfl) ?_
  refine rcons (ro_iload_n (k := 1) rfl (by decide +kernel) rfl) ?_
  refine rcons (ro_callS ok_c_numberOn (by decide +kernel) rfl (fun s args ht => va_cwS 3 ht (rgoodS (fun w h => List.mem_cons_of_mem _ h) q_445 q_446 q_13 q_447) rfl rfl rfl hy_c_numberOn ⟨Nat.le_of_ble_eq_true rfl, Nat.le_of_ble_eq_true rfl⟩) rfl) ?_
  refine rcons (ro_istore_n (k := 3) rfl (by decide +kernel) rfl) ?_
  refine rcons (ro_iconst (n := 1) (by decide +kernel) rfl rfl) ?_
  refine rcons (ro_iload_n (k := 3) rfl (by decide +kernel) rfl) ?_
  refine rcons (ro_ishl (by decide +kernel) rfl) ?_
  refine rcons (ro_istore (by decide +kernel) rfl) ?_
  refine rcons (ro_iload_n (k := 3) rfl (by decide +kernel) rfl) ?_
  refine rcons (ro_iconst (n := 1) (by decide +kernel) rfl rfl) ?_
  refine rcons (ro_icmp_lt (off := 15) (by decide +kernel) rfl rfl) ?_
  refine rcons (ro_iload_n (k := 3) rfl (by decide +kernel) rfl) ?_
  refine rcons (ro_iload_n (k := 1) rfl (by decide +kernel) rfl) ?_
  refine rcons (ro_icmp_gt (off := 10) (by decide +kernel) rfl rfl) ?_
  refine rcons (ro_iload_n (k := 2) rfl (by decide +kernel) rfl) ?_
  refine rcons (ro_iload (by decide +kernel) rfl) ?_
  refine rcons (ro_iand (by decide +kernel) rfl) ?_
  refine rcons (ro_if_eq (off := 5) (by decide +kernel) rfl rfl) ?_
  refine rcons (ro_iconst (n := 0) (by decide +kernel) rfl rfl) ?_
  refine rcons (ro_zret (by decide +kernel)) ?_
  refine rcons (ro_iload_n (k := 2) rfl (by decide +kernel) rfl) ?_
  refine rcons (ro_iload (by decide +kernel) rfl) ?_
  refine rcons (ro_ior (by decide +kernel) rfl) ?_
  refine rcons (ro_istore_n (k := 2) rfl (by decide +kernel) rfl) ?_
  refine rcons (ro_iinc (by decide +kernel) rfl) ?_
  refine rcons (ro_goto (off := (-45)) (by decide +kernel) rfl) ?_
  refine rcons (ro_iload_n (k := 3) rfl (by decide +kernel) rfl) ?_
  refine rcons (ro_iload_n (k := 0) rfl (by decide +kernel) rfl) ?_
  refine rcons (ro_icmp_ne (off := 7) (by decide +kernel) rfl rfl) ?_
  refine rcons (ro_iconst (n := 1) (by decide +kernel) rfl rfl) ?_
  refine rcons (ro_goto (off := 4) (by decide +kernel) rfl) ?_
  refine rcons (ro_iconst (n := 0) (by decide +kernel) rfl rfl) ?_
  refine rcons (ro_zret (by decide +kernel)) ?_
  exact rnil
def ps_c_isRingSound : List Nat := [0, 1, 2, 3, 4, 7, 8, 9, 10, 11, 12, 13, 16, 17, 20, 21, 24, 25, 26, 27, 30, 31, 34, 35, 36, 37, 38, 39, 40, 43, 44, 47, 48, 49, 50, 51, 54, 55, 58, 59, 62, 63, 64, 65, 68, 69, 72, 73, 74, 77, 80, 81, 82, 85, 88, 89]
def tb_c_isRingSound : List RT := [tq_ic 1, tq_is 4 1, tq_il 1, tq_il 0, tq_if2 (fun x y => decide (y < x)) 54, tq_ic 1, tq_il 1, tq_ic 1, tq_i2 (fun x y => x - y), tq_i2l, tq_il 0, tq_call m_c_numberOn 3 0 0, tq_il 1, tq_if2 (fun x y => !decide (x = y)) 22, tq_il 1, tq_call m_c_placeOf 1 0 0, tq_il 1, tq_ic 1, tq_i2 (fun x y => x - y), tq_if2 (fun x y => !decide (x = y)) 22, tq_ic 1, tq_go 23, tq_ic 0, tq_is 4 2, tq_il 1, tq_il 0, tq_i2l, tq_il 0, tq_call m_c_numberOn 3 0 0, tq_il 1, tq_if2 (fun x y => !decide (x = y)) 40, tq_il 1, tq_il 0, tq_i2l, tq_il 0, tq_call m_c_numberBack 3 0 0, tq_il 1, tq_if2 (fun x y => !decide (x = y)) 40, tq_ic 1, tq_go 41, tq_ic 0, tq_is 4 3, tq_il 2, tq_if1 (fun x => decide (x = 0)) 50, tq_il 3, tq_if1 (fun x => decide (x = 0)) 50, tq_il 1, tq_il 0, tq_call m_c_comesToEachOnce 2 0 0, tq_if1 (fun x => !decide (x = 0)) 52, tq_ic 0, tq_zret 0, tq_inc 4 1 1, tq_go 2, tq_ic 1, tq_zret 0]
def m_c_isRingSound : RM := rMeth tb_c_isRingSound 400 4
abbrev rm_c_isRingSound : Room := { frames := 4, cells := 0, slots := 0, locals := 95 }
set_option maxHeartbeats 4000000 in
set_option maxRecDepth 20000 in
theorem ok_c_isRingSound : rMet y_c_isRingSound (Cond.code y_c_isRingSound prog_1_method_81_code 4 (some .boolean) :: rT) rm_c_isRingSound 0 m_c_isRingSound := by
  refine rMeth_ok (ps := ps_c_isRingSound) (tab := tb_c_isRingSound) (by decide +kernel) rfl rfl rfl rfl ?_
  refine rcons (ro_iconst (n := 1) (by decide +kernel) rfl rfl) ?_
  refine rcons (ro_istore_n (k := 1) rfl (by decide +kernel) rfl) ?_
  refine rcons (ro_iload_n (k := 1) rfl (by decide +kernel) rfl) ?_
  refine rcons (ro_iload_n (k := 0) rfl (by decide +kernel) rfl) ?_
  refine rcons (ro_icmp_gt (off := 84) (by decide +kernel) rfl rfl) ?_
  refine rcons (ro_iconst (n := 1) (by decide +kernel) rfl rfl) ?_
  refine rcons (ro_iload_n (k := 1) rfl (by decide +kernel) rfl) ?_
  refine rcons (ro_iconst (n := 1) (by decide +kernel) rfl rfl) ?_
  refine rcons (ro_isub (by decide +kernel) rfl) ?_
  refine rcons (ro_i2l (by decide +kernel) rfl) ?_
  refine rcons (ro_iload_n (k := 0) rfl (by decide +kernel) rfl) ?_
  refine rcons (ro_callS ok_c_numberOn (by decide +kernel) rfl (fun s args ht => va_cwS 3 ht (rgoodS (fun w h => List.mem_cons_of_mem _ h) q_445 q_446 q_13 q_447) rfl rfl rfl hy_c_numberOn ⟨Nat.le_of_ble_eq_true rfl, Nat.le_of_ble_eq_true rfl⟩) rfl) ?_
  refine rcons (ro_iload_n (k := 1) rfl (by decide +kernel) rfl) ?_
  refine rcons (ro_icmp_ne (off := 17) (by decide +kernel) rfl rfl) ?_
  refine rcons (ro_iload_n (k := 1) rfl (by decide +kernel) rfl) ?_
  refine rcons (ro_callS ok_c_placeOf (by decide +kernel) rfl (fun s args ht => va_cwS 1 ht (rgoodS (fun w h => List.mem_cons_of_mem _ h) q_448 q_449 q_13 q_450) rfl rfl rfl hy_c_placeOf ⟨Nat.le_of_ble_eq_true rfl, Nat.le_of_ble_eq_true rfl⟩) rfl) ?_
  refine rcons (ro_iload_n (k := 1) rfl (by decide +kernel) rfl) ?_
  refine rcons (ro_iconst (n := 1) (by decide +kernel) rfl rfl) ?_
  refine rcons (ro_isub (by decide +kernel) rfl) ?_
  refine rcons (ro_icmp_ne (off := 7) (by decide +kernel) rfl rfl) ?_
  refine rcons (ro_iconst (n := 1) (by decide +kernel) rfl rfl) ?_
  refine rcons (ro_goto (off := 4) (by decide +kernel) rfl) ?_
  refine rcons (ro_iconst (n := 0) (by decide +kernel) rfl rfl) ?_
  refine rcons (ro_istore_n (k := 2) rfl (by decide +kernel) rfl) ?_
  refine rcons (ro_iload_n (k := 1) rfl (by decide +kernel) rfl) ?_
  refine rcons (ro_iload_n (k := 0) rfl (by decide +kernel) rfl) ?_
  refine rcons (ro_i2l (by decide +kernel) rfl) ?_
  refine rcons (ro_iload_n (k := 0) rfl (by decide +kernel) rfl) ?_
  refine rcons (ro_callS ok_c_numberOn (by decide +kernel) rfl (fun s args ht => va_cwS 3 ht (rgoodS (fun w h => List.mem_cons_of_mem _ h) q_445 q_446 q_13 q_447) rfl rfl rfl hy_c_numberOn ⟨Nat.le_of_ble_eq_true rfl, Nat.le_of_ble_eq_true rfl⟩) rfl) ?_
  refine rcons (ro_iload_n (k := 1) rfl (by decide +kernel) rfl) ?_
  refine rcons (ro_icmp_ne (off := 18) (by decide +kernel) rfl rfl) ?_
  refine rcons (ro_iload_n (k := 1) rfl (by decide +kernel) rfl) ?_
  refine rcons (ro_iload_n (k := 0) rfl (by decide +kernel) rfl) ?_
  refine rcons (ro_i2l (by decide +kernel) rfl) ?_
  refine rcons (ro_iload_n (k := 0) rfl (by decide +kernel) rfl) ?_
  refine rcons (ro_callS ok_c_numberBack (by decide +kernel) rfl (fun s args ht => va_cwS 3 ht (rgoodS (fun w h => List.mem_cons_of_mem _ h) q_457 q_458 q_13 q_459) rfl rfl rfl hy_c_numberBack ⟨Nat.le_of_ble_eq_true rfl, Nat.le_of_ble_eq_true rfl⟩) rfl) ?_
  refine rcons (ro_iload_n (k := 1) rfl (by decide +kernel) rfl) ?_
  refine rcons (ro_icmp_ne (off := 7) (by decide +kernel) rfl rfl) ?_
  refine rcons (ro_iconst (n := 1) (by decide +kernel) rfl rfl) ?_
  refine rcons (ro_goto (off := 4) (by decide +kernel) rfl) ?_
  refine rcons (ro_iconst (n := 0) (by decide +kernel) rfl rfl) ?_
  refine rcons (ro_istore_n (k := 3) rfl (by decide +kernel) rfl) ?_
  refine rcons (ro_iload_n (k := 2) rfl (by decide +kernel) rfl) ?_
  refine rcons (ro_if_eq (off := 15) (by decide +kernel) rfl rfl) ?_
  refine rcons (ro_iload_n (k := 3) rfl (by decide +kernel) rfl) ?_
  refine rcons (ro_if_eq (off := 11) (by decide +kernel) rfl rfl) ?_
  refine rcons (ro_iload_n (k := 1) rfl (by decide +kernel) rfl) ?_
  refine rcons (ro_iload_n (k := 0) rfl (by decide +kernel) rfl) ?_
  refine rcons (ro_callS ok_c_comesToEachOnce (by decide +kernel) rfl (fun s args ht => va_cwS 2 ht (rgoodS (fun w h => List.mem_cons_of_mem _ h) q_460 q_461 q_13 q_462) rfl rfl rfl hy_c_comesToEachOnce ⟨Nat.le_of_ble_eq_true rfl, Nat.le_of_ble_eq_true rfl⟩) rfl) ?_
  refine rcons (ro_if_ne (off := 5) (by decide +kernel) rfl rfl) ?_
  refine rcons (ro_iconst (n := 0) (by decide +kernel) rfl rfl) ?_
  refine rcons (ro_zret (by decide +kernel)) ?_
  refine rcons (ro_iinc (by decide +kernel) rfl) ?_
  refine rcons (ro_goto (off := (-83)) (by decide +kernel) rfl) ?_
  refine rcons (ro_iconst (n := 1) (by decide +kernel) rfl rfl) ?_
  refine rcons (ro_zret (by decide +kernel)) ?_
  exact rnil
def ps_c_isFirstSound : List Nat := [0, 1, 2, 5, 6, 9, 10, 11, 12, 13, 16, 17, 18, 19, 20, 23, 24, 25, 26, 27, 30, 31, 34, 35, 38, 39]
def tb_c_isFirstSound : List RT := [tq_il 0, tq_ic 1, tq_if2 (fun x y => !decide (x = y)) 5, tq_ic 1, tq_go 16, tq_il 0, tq_ic 1, tq_i2 (fun x y => x - y), tq_il 1, tq_call m_c_firstOf 2 0 0, tq_il 0, tq_ic 1, tq_i2 (fun x y => x - y), tq_il 1, tq_call m_c_lengthOf 2 0 0, tq_i2 (fun x y => x + y), tq_is 3 2, tq_il 0, tq_il 1, tq_call m_c_firstOf 2 0 0, tq_il 2, tq_if2 (fun x y => !decide (x = y)) 24, tq_ic 1, tq_go 25, tq_ic 0, tq_zret 0]
def m_c_isFirstSound : RM := rMeth tb_c_isFirstSound 400 3
abbrev rm_c_isFirstSound : Room := { frames := 2, cells := 0, slots := 0, locals := 44 }
set_option maxHeartbeats 4000000 in
set_option maxRecDepth 20000 in
theorem ok_c_isFirstSound : rMet y_c_isFirstSound (Cond.code y_c_isFirstSound prog_1_method_84_code 3 (some .boolean) :: rT) rm_c_isFirstSound 0 m_c_isFirstSound := by
  refine rMeth_ok (ps := ps_c_isFirstSound) (tab := tb_c_isFirstSound) (by decide +kernel) rfl rfl rfl rfl ?_
  refine rcons (ro_iload_n (k := 0) rfl (by decide +kernel) rfl) ?_
  refine rcons (ro_iconst (n := 1) (by decide +kernel) rfl rfl) ?_
  refine rcons (ro_icmp_ne (off := 7) (by decide +kernel) rfl rfl) ?_
  refine rcons (ro_iconst (n := 1) (by decide +kernel) rfl rfl) ?_
  refine rcons (ro_goto (off := 18) (by decide +kernel) rfl) ?_
  refine rcons (ro_iload_n (k := 0) rfl (by decide +kernel) rfl) ?_
  refine rcons (ro_iconst (n := 1) (by decide +kernel) rfl rfl) ?_
  refine rcons (ro_isub (by decide +kernel) rfl) ?_
  refine rcons (ro_iload_n (k := 1) rfl (by decide +kernel) rfl) ?_
  refine rcons (ro_callS ok_c_firstOf (by decide +kernel) rfl (fun s args ht => va_cwS 2 ht (rgoodS (fun w h => List.mem_cons_of_mem _ h) q_480 q_481 q_13 q_482) rfl rfl rfl hy_c_firstOf ⟨Nat.le_of_ble_eq_true rfl, Nat.le_of_ble_eq_true rfl⟩) rfl) ?_
  refine rcons (ro_iload_n (k := 0) rfl (by decide +kernel) rfl) ?_
  refine rcons (ro_iconst (n := 1) (by decide +kernel) rfl rfl) ?_
  refine rcons (ro_isub (by decide +kernel) rfl) ?_
  refine rcons (ro_iload_n (k := 1) rfl (by decide +kernel) rfl) ?_
  refine rcons (ro_callS ok_c_lengthOf (by decide +kernel) rfl (fun s args ht => va_cwS 2 ht (rgoodS (fun w h => List.mem_cons_of_mem _ h) q_466 q_467 q_13 q_468) rfl rfl rfl hy_c_lengthOf ⟨Nat.le_of_ble_eq_true rfl, Nat.le_of_ble_eq_true rfl⟩) rfl) ?_
  refine rcons (ro_iadd (by decide +kernel) rfl) ?_
  refine rcons (ro_istore_n (k := 2) rfl (by decide +kernel) rfl) ?_
  refine rcons (ro_iload_n (k := 0) rfl (by decide +kernel) rfl) ?_
  refine rcons (ro_iload_n (k := 1) rfl (by decide +kernel) rfl) ?_
  refine rcons (ro_callS ok_c_firstOf (by decide +kernel) rfl (fun s args ht => va_cwS 2 ht (rgoodS (fun w h => List.mem_cons_of_mem _ h) q_480 q_481 q_13 q_482) rfl rfl rfl hy_c_firstOf ⟨Nat.le_of_ble_eq_true rfl, Nat.le_of_ble_eq_true rfl⟩) rfl) ?_
  refine rcons (ro_iload_n (k := 2) rfl (by decide +kernel) rfl) ?_
  refine rcons (ro_icmp_ne (off := 7) (by decide +kernel) rfl rfl) ?_
  refine rcons (ro_iconst (n := 1) (by decide +kernel) rfl rfl) ?_
  refine rcons (ro_goto (off := 4) (by decide +kernel) rfl) ?_
  refine rcons (ro_iconst (n := 0) (by decide +kernel) rfl rfl) ?_
  refine rcons (ro_zret (by decide +kernel)) ?_
  exact rnil
def ps_c_isQuarterSound : List Nat := [0, 1, 4, 5, 6, 9, 11, 14, 15, 16, 17, 20, 21, 24, 25, 28, 29, 32, 33]
def tb_c_isQuarterSound : List RT := [tq_il 0, tq_call m_c_quarterOf 1 0 0, tq_is 3 1, tq_il 1, tq_lc 3, tq_ic 12, tq_call m_c_numberOn 3 0 0, tq_is 3 2, tq_il 2, tq_il 1, tq_if2 (fun x y => decide (x = y)) 17, tq_il 2, tq_call m_c_quarterOf 1 0 0, tq_il 2, tq_if2 (fun x y => !decide (x = y)) 17, tq_ic 1, tq_go 18, tq_ic 0, tq_zret 0]
def m_c_isQuarterSound : RM := rMeth tb_c_isQuarterSound 400 3
abbrev rm_c_isQuarterSound : Room := { frames := 3, cells := 0, slots := 0, locals := 70 }
set_option maxHeartbeats 4000000 in
set_option maxRecDepth 20000 in
theorem ok_c_isQuarterSound : rMet y_c_isQuarterSound (Cond.code y_c_isQuarterSound prog_1_method_85_code 3 (some .boolean) :: rT) rm_c_isQuarterSound 0 m_c_isQuarterSound := by
  refine rMeth_ok (ps := ps_c_isQuarterSound) (tab := tb_c_isQuarterSound) (by decide +kernel) rfl rfl rfl rfl ?_
  refine rcons (ro_iload_n (k := 0) rfl (by decide +kernel) rfl) ?_
  refine rcons (ro_callS ok_c_quarterOf (by decide +kernel) rfl (fun s args ht => va_cwS 1 ht (rgoodS (fun w h => List.mem_cons_of_mem _ h) q_486 q_487 q_13 q_488) rfl rfl rfl hy_c_quarterOf ⟨Nat.le_of_ble_eq_true rfl, Nat.le_of_ble_eq_true rfl⟩) rfl) ?_
  refine rcons (ro_istore_n (k := 1) rfl (by decide +kernel) rfl) ?_
  refine rcons (ro_iload_n (k := 1) rfl (by decide +kernel) rfl) ?_
  refine rcons (ro_ldc2 (by decide +kernel) (List.mem_cons_of_mem _ q_489) rfl) ?_
  refine rcons (ro_bipush (n := 12) (by decide +kernel) rfl rfl) ?_
  refine rcons (ro_callS ok_c_numberOn (by decide +kernel) rfl (fun s args ht => va_cwS 3 ht (rgoodS (fun w h => List.mem_cons_of_mem _ h) q_445 q_446 q_13 q_447) rfl rfl rfl hy_c_numberOn ⟨Nat.le_of_ble_eq_true rfl, Nat.le_of_ble_eq_true rfl⟩) rfl) ?_
  refine rcons (ro_istore_n (k := 2) rfl (by decide +kernel) rfl) ?_
  refine rcons (ro_iload_n (k := 2) rfl (by decide +kernel) rfl) ?_
  refine rcons (ro_iload_n (k := 1) rfl (by decide +kernel) rfl) ?_
  refine rcons (ro_icmp_eq (off := 15) (by decide +kernel) rfl rfl) ?_
  refine rcons (ro_iload_n (k := 2) rfl (by decide +kernel) rfl) ?_
  refine rcons (ro_callS ok_c_quarterOf (by decide +kernel) rfl (fun s args ht => va_cwS 1 ht (rgoodS (fun w h => List.mem_cons_of_mem _ h) q_486 q_487 q_13 q_488) rfl rfl rfl hy_c_quarterOf ⟨Nat.le_of_ble_eq_true rfl, Nat.le_of_ble_eq_true rfl⟩) rfl) ?_
  refine rcons (ro_iload_n (k := 2) rfl (by decide +kernel) rfl) ?_
  refine rcons (ro_icmp_ne (off := 7) (by decide +kernel) rfl rfl) ?_
  refine rcons (ro_iconst (n := 1) (by decide +kernel) rfl rfl) ?_
  refine rcons (ro_goto (off := 4) (by decide +kernel) rfl) ?_
  refine rcons (ro_iconst (n := 0) (by decide +kernel) rfl rfl) ?_
  refine rcons (ro_zret (by decide +kernel)) ?_
  exact rnil
def ps_c_areMonthsSound : List Nat := [0, 1, 2, 3, 5, 8, 9, 10, 13, 14, 17, 20, 21, 22, 25, 26, 29, 32, 33, 36, 37, 38, 39, 40, 43, 46, 47, 48, 51, 54, 55, 58, 59, 60, 61, 64, 65, 68, 69, 72, 75, 76, 77, 80, 83, 84]
def tb_c_areMonthsSound : List RT := [tq_ic 1, tq_is 3 0, tq_il 0, tq_ic 12, tq_if2 (fun x y => decide (y < x)) 44, tq_il 0, tq_ic 0, tq_call m_c_lengthOf 2 0 0, tq_il 0, tq_call m_c_leastOf 1 0 0, tq_if2 (fun x y => !decide (x = y)) 19, tq_il 0, tq_ic 1, tq_call m_c_lengthOf 2 0 0, tq_il 0, tq_call m_c_greatestOf 1 0 0, tq_if2 (fun x y => !decide (x = y)) 19, tq_ic 1, tq_go 20, tq_ic 0, tq_is 3 1, tq_il 0, tq_ic 0, tq_call m_c_isFirstSound 2 0 0, tq_if1 (fun x => decide (x = 0)) 31, tq_il 0, tq_ic 1, tq_call m_c_isFirstSound 2 0 0, tq_if1 (fun x => decide (x = 0)) 31, tq_ic 1, tq_go 32, tq_ic 0, tq_is 3 2, tq_il 1, tq_if1 (fun x => decide (x = 0)) 40, tq_il 2, tq_if1 (fun x => decide (x = 0)) 40, tq_il 0, tq_call m_c_isQuarterSound 1 0 0, tq_if1 (fun x => !decide (x = 0)) 42, tq_ic 0, tq_zret 0, tq_inc 3 0 1, tq_go 2, tq_ic 1, tq_zret 0]
def m_c_areMonthsSound : RM := rMeth tb_c_areMonthsSound 400 3
abbrev rm_c_areMonthsSound : Room := { frames := 4, cells := 0, slots := 0, locals := 92 }
set_option maxHeartbeats 4000000 in
set_option maxRecDepth 20000 in
theorem ok_c_areMonthsSound : rMet y_c_areMonthsSound (Cond.code y_c_areMonthsSound prog_1_method_83_code 3 (some .boolean) :: rT) rm_c_areMonthsSound 0 m_c_areMonthsSound := by
  refine rMeth_ok (ps := ps_c_areMonthsSound) (tab := tb_c_areMonthsSound) (by decide +kernel) rfl rfl rfl rfl ?_
  refine rcons (ro_iconst (n := 1) (by decide +kernel) rfl rfl) ?_
  refine rcons (ro_istore_n (k := 0) rfl (by decide +kernel) rfl) ?_
  refine rcons (ro_iload_n (k := 0) rfl (by decide +kernel) rfl) ?_
  refine rcons (ro_bipush (n := 12) (by decide +kernel) rfl rfl) ?_
  refine rcons (ro_icmp_gt (off := 78) (by decide +kernel) rfl rfl) ?_
  refine rcons (ro_iload_n (k := 0) rfl (by decide +kernel) rfl) ?_
  refine rcons (ro_iconst (n := 0) (by decide +kernel) rfl rfl) ?_
  refine rcons (ro_callS ok_c_lengthOf (by decide +kernel) rfl (fun s args ht => va_cwS 2 ht (rgoodS (fun w h => List.mem_cons_of_mem _ h) q_466 q_467 q_13 q_468) rfl rfl rfl hy_c_lengthOf ⟨Nat.le_of_ble_eq_true rfl, Nat.le_of_ble_eq_true rfl⟩) rfl) ?_
  refine rcons (ro_iload_n (k := 0) rfl (by decide +kernel) rfl) ?_
  refine rcons (ro_callS ok_c_leastOf (by decide +kernel) rfl (fun s args ht => va_cwS 1 ht (rgoodS (fun w h => List.mem_cons_of_mem _ h) q_469 q_470 q_13 q_471) rfl rfl rfl hy_c_leastOf ⟨Nat.le_of_ble_eq_true rfl, Nat.le_of_ble_eq_true rfl⟩) rfl) ?_
  refine rcons (ro_icmp_ne (off := 19) (by decide +kernel) rfl rfl) ?_
  refine rcons (ro_iload_n (k := 0) rfl (by decide +kernel) rfl) ?_
  refine rcons (ro_iconst (n := 1) (by decide +kernel) rfl rfl) ?_
  refine rcons (ro_callS ok_c_lengthOf (by decide +kernel) rfl (fun s args ht => va_cwS 2 ht (rgoodS (fun w h => List.mem_cons_of_mem _ h) q_466 q_467 q_13 q_468) rfl rfl rfl hy_c_lengthOf ⟨Nat.le_of_ble_eq_true rfl, Nat.le_of_ble_eq_true rfl⟩) rfl) ?_
  refine rcons (ro_iload_n (k := 0) rfl (by decide +kernel) rfl) ?_
  refine rcons (ro_callS ok_c_greatestOf (by decide +kernel) rfl (fun s args ht => va_cwS 1 ht (rgoodS (fun w h => List.mem_cons_of_mem _ h) q_473 q_474 q_13 q_475) rfl rfl rfl hy_c_greatestOf ⟨Nat.le_of_ble_eq_true rfl, Nat.le_of_ble_eq_true rfl⟩) rfl) ?_
  refine rcons (ro_icmp_ne (off := 7) (by decide +kernel) rfl rfl) ?_
  refine rcons (ro_iconst (n := 1) (by decide +kernel) rfl rfl) ?_
  refine rcons (ro_goto (off := 4) (by decide +kernel) rfl) ?_
  refine rcons (ro_iconst (n := 0) (by decide +kernel) rfl rfl) ?_
  refine rcons (ro_istore_n (k := 1) rfl (by decide +kernel) rfl) ?_
  refine rcons (ro_iload_n (k := 0) rfl (by decide +kernel) rfl) ?_
  refine rcons (ro_iconst (n := 0) (by decide +kernel) rfl rfl) ?_
  refine rcons (ro_callS ok_c_isFirstSound (by decide +kernel) rfl (fun s args ht => va_cwS 2 ht (rgoodS (fun w h => List.mem_cons_of_mem _ h) q_477 q_478 q_13 q_479) rfl rfl rfl hy_c_isFirstSound ⟨Nat.le_of_ble_eq_true rfl, Nat.le_of_ble_eq_true rfl⟩) rfl) ?_
  refine rcons (ro_if_eq (off := 15) (by decide +kernel) rfl rfl) ?_
  refine rcons (ro_iload_n (k := 0) rfl (by decide +kernel) rfl) ?_
  refine rcons (ro_iconst (n := 1) (by decide +kernel) rfl rfl) ?_
  refine rcons (ro_callS ok_c_isFirstSound (by decide +kernel) rfl (fun s args ht => va_cwS 2 ht (rgoodS (fun w h => List.mem_cons_of_mem _ h) q_477 q_478 q_13 q_479) rfl rfl rfl hy_c_isFirstSound ⟨Nat.le_of_ble_eq_true rfl, Nat.le_of_ble_eq_true rfl⟩) rfl) ?_
  refine rcons (ro_if_eq (off := 7) (by decide +kernel) rfl rfl) ?_
  refine rcons (ro_iconst (n := 1) (by decide +kernel) rfl rfl) ?_
  refine rcons (ro_goto (off := 4) (by decide +kernel) rfl) ?_
  refine rcons (ro_iconst (n := 0) (by decide +kernel) rfl rfl) ?_
  refine rcons (ro_istore_n (k := 2) rfl (by decide +kernel) rfl) ?_
  refine rcons (ro_iload_n (k := 1) rfl (by decide +kernel) rfl) ?_
  refine rcons (ro_if_eq (off := 14) (by decide +kernel) rfl rfl) ?_
  refine rcons (ro_iload_n (k := 2) rfl (by decide +kernel) rfl) ?_
  refine rcons (ro_if_eq (off := 10) (by decide +kernel) rfl rfl) ?_
  refine rcons (ro_iload_n (k := 0) rfl (by decide +kernel) rfl) ?_
  refine rcons (ro_callS ok_c_isQuarterSound (by decide +kernel) rfl (fun s args ht => va_cwS 1 ht (rgoodS (fun w h => List.mem_cons_of_mem _ h) q_483 q_484 q_13 q_485) rfl rfl rfl hy_c_isQuarterSound ⟨Nat.le_of_ble_eq_true rfl, Nat.le_of_ble_eq_true rfl⟩) rfl) ?_
  refine rcons (ro_if_ne (off := 5) (by decide +kernel) rfl rfl) ?_
  refine rcons (ro_iconst (n := 0) (by decide +kernel) rfl rfl) ?_
  refine rcons (ro_zret (by decide +kernel)) ?_
  refine rcons (ro_iinc (by decide +kernel) rfl) ?_
  refine rcons (ro_goto (off := (-78)) (by decide +kernel) rfl) ?_
  refine rcons (ro_iconst (n := 1) (by decide +kernel) rfl rfl) ?_
  refine rcons (ro_zret (by decide +kernel)) ?_
  exact rnil
def ps_c_dayAfterYear : List Nat := [0, 1, 4, 5, 8, 9, 10, 13, 14, 17, 19, 20, 22, 24, 26, 29, 30, 32, 33, 36, 37, 39, 42, 43, 45, 46, 48, 51, 53, 56, 59, 60]
def tb_c_dayAfterYear : List RT := [tq_al 0, tq_getf 0 0, tq_il 1, tq_call m_c_numberIn 2 1 2, tq_is 6 3, tq_al 0, tq_getf 0 1, tq_il 1, tq_call m_c_numberIn 2 1 2, tq_is 6 4, tq_ic 0, tq_is 6 5, tq_il 5, tq_ic 12, tq_if2 (fun x y => decide (y ≤ x)) 30, tq_il 3, tq_il 4, tq_il 2, tq_call m_c_lengthOf 2 0 2, tq_i2l, tq_ic 7, tq_call m_c_numberOn 3 0 2, tq_is 6 3, tq_il 4, tq_lc 1, tq_ic 12, tq_call m_c_numberOn 3 0 2, tq_is 6 4, tq_inc 6 5 1, tq_go 12, tq_il 3, tq_iret 2]
def m_c_dayAfterYear : RM := rMeth tb_c_dayAfterYear 400 6
abbrev rm_c_dayAfterYear : Room := { frames := 7, cells := 2, slots := 24, locals := 111 }
set_option maxHeartbeats 4000000 in
set_option maxRecDepth 20000 in
theorem ok_c_dayAfterYear : rMet y_c_dayAfterYear (Cond.code y_c_dayAfterYear prog_1_method_87_code 6 (some .int) :: rT) rm_c_dayAfterYear 2 m_c_dayAfterYear := by
  refine rMeth_ok (ps := ps_c_dayAfterYear) (tab := tb_c_dayAfterYear) (by decide +kernel) rfl rfl rfl rfl ?_
  refine rcons (ro_aload_n (k := 0) rfl (by decide +kernel) rfl) ?_
  refine rcons (ro_getf (C := rN0) (T := rF0) (N := 7) (k := 0) (by decide +kernel) rfl (rU0c _) (by decide) (List.mem_cons_of_mem _ q_43) rfl) ?_
  refine rcons (ro_iload_n (k := 1) rfl (by decide +kernel) rfl) ?_
  refine rcons (ro_callS ok_c_numberIn (by decide +kernel) rfl (fun s args ht => va_cwS 2 ht (rgoodS (fun w h => List.mem_cons_of_mem _ h) q_498 q_499 q_13 q_500) rfl rfl rfl hy_c_numberIn ⟨Nat.le_of_ble_eq_true rfl, Nat.le_of_ble_eq_true rfl⟩) rfl) ?_
  refine rcons (ro_istore_n (k := 3) rfl (by decide +kernel) rfl) ?_
  refine rcons (ro_aload_n (k := 0) rfl (by decide +kernel) rfl) ?_
  refine rcons (ro_getf (C := rN0) (T := rF0) (N := 7) (k := 1) (by decide +kernel) rfl (rU0c _) (by decide) (List.mem_cons_of_mem _ q_44) rfl) ?_
  refine rcons (ro_iload_n (k := 1) rfl (by decide +kernel) rfl) ?_
  refine rcons (ro_callS ok_c_numberIn (by decide +kernel) rfl (fun s args ht => va_cwS 2 ht (rgoodS (fun w h => List.mem_cons_of_mem _ h) q_498 q_499 q_13 q_500) rfl rfl rfl hy_c_numberIn ⟨Nat.le_of_ble_eq_true rfl, Nat.le_of_ble_eq_true rfl⟩) rfl) ?_
  refine rcons (ro_istore (by decide +kernel) rfl) ?_
  refine rcons (ro_iconst (n := 0) (by decide +kernel) rfl rfl) ?_
  refine rcons (ro_istore (by decide +kernel) rfl) ?_
  refine rcons (ro_iload (by decide +kernel) rfl) ?_
  refine rcons (ro_bipush (n := 12) (by decide +kernel) rfl rfl) ?_
  refine rcons (ro_icmp_ge (off := 33) (by decide +kernel) rfl rfl) ?_
  refine rcons (ro_iload_n (k := 3) rfl (by decide +kernel) rfl) ?_
  refine rcons (ro_iload (by decide +kernel) rfl) ?_
  refine rcons (ro_iload_n (k := 2) rfl (by decide +kernel) rfl) ?_
  refine rcons (ro_callS ok_c_lengthOf (by decide +kernel) rfl (fun s args ht => va_cwS 2 ht (rgoodS (fun w h => List.mem_cons_of_mem _ h) q_466 q_467 q_13 q_468) rfl rfl rfl hy_c_lengthOf ⟨Nat.le_of_ble_eq_true rfl, Nat.le_of_ble_eq_true rfl⟩) rfl) ?_
  refine rcons (ro_i2l (by decide +kernel) rfl) ?_
  refine rcons (ro_bipush (n := 7) (by decide +kernel) rfl rfl) ?_
  refine rcons (ro_callS ok_c_numberOn (by decide +kernel) rfl (fun s args ht => va_cwS 3 ht (rgoodS (fun w h => List.mem_cons_of_mem _ h) q_445 q_446 q_13 q_447) rfl rfl rfl hy_c_numberOn ⟨Nat.le_of_ble_eq_true rfl, Nat.le_of_ble_eq_true rfl⟩) rfl) ?_
  refine rcons (ro_istore_n (k := 3) rfl (by decide +kernel) rfl) ?_
  refine rcons (ro_iload (by decide +kernel) rfl) ?_
  refine rcons (ro_lconst (n := 1) (by decide +kernel) rfl rfl) ?_
  refine rcons (ro_bipush (n := 12) (by decide +kernel) rfl rfl) ?_
  refine rcons (ro_callS ok_c_numberOn (by decide +kernel) rfl (fun s args ht => va_cwS 3 ht (rgoodS (fun w h => List.mem_cons_of_mem _ h) q_445 q_446 q_13 q_447) rfl rfl rfl hy_c_numberOn ⟨Nat.le_of_ble_eq_true rfl, Nat.le_of_ble_eq_true rfl⟩) rfl) ?_
  refine rcons (ro_istore (by decide +kernel) rfl) ?_
  refine rcons (ro_iinc (by decide +kernel) rfl) ?_
  refine rcons (ro_goto (off := (-34)) (by decide +kernel) rfl) ?_
  refine rcons (ro_iload_n (k := 3) rfl (by decide +kernel) rfl) ?_
  refine rcons (ro_iret (by decide +kernel)) ?_
  exact rnil
def ps_c_areCellsSound : List Nat := [0, 1, 2, 3, 4, 7, 8, 9, 10, 13, 14, 17, 18, 19, 20, 22, 25, 28, 29, 30, 31, 34, 35, 38, 39, 40, 43, 45, 48, 51, 52, 55, 56, 57, 58, 61, 62, 63, 66, 69, 70]
def tb_c_areCellsSound : List RT := [tq_ic 0, tq_is 3 1, tq_il 1, tq_ic 4, tq_if2 (fun x y => decide (y ≤ x)) 39, tq_al 0, tq_il 1, tq_ic 0, tq_call (rV 0 m_c_dayAfterYear) 3 2 16, tq_al 0, tq_getf 0 0, tq_il 1, tq_iald 0, tq_lc 1, tq_ic 7, tq_call m_c_numberOn 3 0 16, tq_if2 (fun x y => !decide (x = y)) 31, tq_al 0, tq_il 1, tq_ic 1, tq_call (rV 0 m_c_dayAfterYear) 3 2 16, tq_al 0, tq_getf 0 0, tq_il 1, tq_iald 0, tq_lc 2, tq_ic 7, tq_call m_c_numberOn 3 0 16, tq_if2 (fun x y => !decide (x = y)) 31, tq_ic 1, tq_go 32, tq_ic 0, tq_is 3 2, tq_il 2, tq_if1 (fun x => !decide (x = 0)) 37, tq_ic 0, tq_zret 16, tq_inc 3 1 1, tq_go 2, tq_ic 1, tq_zret 16]
def m_c_areCellsSound : RM := rMeth tb_c_areCellsSound 400 3
abbrev rm_c_areCellsSound : Room := { frames := 8, cells := 16, slots := 192, locals := 136 }
set_option maxHeartbeats 4000000 in
set_option maxRecDepth 20000 in
theorem ok_c_areCellsSound : rMet y_c_areCellsSound (Cond.code y_c_areCellsSound prog_1_method_86_code 3 (some .boolean) :: rT) rm_c_areCellsSound 16 m_c_areCellsSound := by
  refine rMeth_ok (ps := ps_c_areCellsSound) (tab := tb_c_areCellsSound) (by decide +kernel) rfl rfl rfl rfl ?_
  refine rcons (ro_iconst (n := 0) (by decide +kernel) rfl rfl) ?_
  refine rcons (ro_istore_n (k := 1) rfl (by decide +kernel) rfl) ?_
  refine rcons (ro_iload_n (k := 1) rfl (by decide +kernel) rfl) ?_
  refine rcons (ro_iconst (n := 4) (by decide +kernel) rfl rfl) ?_
  refine rcons (ro_icmp_ge (off := 65) (by decide +kernel) rfl rfl) ?_
  refine rcons (ro_aload_n (k := 0) rfl (by decide +kernel) rfl) ?_
  refine rcons (ro_iload_n (k := 1) rfl (by decide +kernel) rfl) ?_
  refine rcons (ro_iconst (n := 0) (by decide +kernel) rfl rfl) ?_
  refine rcons (ro_callV (C := rN0) (T := rF0) (N := 7) rfl ok_c_dayAfterYear (by decide +kernel) rfl (fun s args ht => cwV (C := rN0) 2 ht (rgoodV (C := rN0) (fun w h => List.mem_cons_of_mem _ h) q_494 q_496 q_2 q_13 q_497) rfl rfl rfl hv_c_dayAfterYear ⟨Nat.le_of_ble_eq_true rfl, Nat.le_of_ble_eq_true rfl⟩) rfl) ?_
  refine rcons (ro_aload_n (k := 0) rfl (by decide +kernel) rfl) ?_
  refine rcons (ro_getf (C := rN0) (T := rF0) (N := 7) (k := 0) (by decide +kernel) rfl (rU0c _) (by decide) (List.mem_cons_of_mem _ q_43) rfl) ?_
  refine rcons (ro_iload_n (k := 1) rfl (by decide +kernel) rfl) ?_
  refine rcons (ro_iald (by decide +kernel) rfl) ?_
  refine rcons (ro_lconst (n := 1) (by decide +kernel) rfl rfl) ?_
  refine rcons (ro_bipush (n := 7) (by decide +kernel) rfl rfl) ?_
  refine rcons (ro_callS ok_c_numberOn (by decide +kernel) rfl (fun s args ht => va_cwS 3 ht (rgoodS (fun w h => List.mem_cons_of_mem _ h) q_445 q_446 q_13 q_447) rfl rfl rfl hy_c_numberOn ⟨Nat.le_of_ble_eq_true rfl, Nat.le_of_ble_eq_true rfl⟩) rfl) ?_
  refine rcons (ro_icmp_ne (off := 30) (by decide +kernel) rfl rfl) ?_
  refine rcons (ro_aload_n (k := 0) rfl (by decide +kernel) rfl) ?_
  refine rcons (ro_iload_n (k := 1) rfl (by decide +kernel) rfl) ?_
  refine rcons (ro_iconst (n := 1) (by decide +kernel) rfl rfl) ?_
  refine rcons (ro_callV (C := rN0) (T := rF0) (N := 7) rfl ok_c_dayAfterYear (by decide +kernel) rfl (fun s args ht => cwV (C := rN0) 2 ht (rgoodV (C := rN0) (fun w h => List.mem_cons_of_mem _ h) q_494 q_496 q_2 q_13 q_497) rfl rfl rfl hv_c_dayAfterYear ⟨Nat.le_of_ble_eq_true rfl, Nat.le_of_ble_eq_true rfl⟩) rfl) ?_
  refine rcons (ro_aload_n (k := 0) rfl (by decide +kernel) rfl) ?_
  refine rcons (ro_getf (C := rN0) (T := rF0) (N := 7) (k := 0) (by decide +kernel) rfl (rU0c _) (by decide) (List.mem_cons_of_mem _ q_43) rfl) ?_
  refine rcons (ro_iload_n (k := 1) rfl (by decide +kernel) rfl) ?_
  refine rcons (ro_iald (by decide +kernel) rfl) ?_
  refine rcons (ro_ldc2 (by decide +kernel) (List.mem_cons_of_mem _ q_517) rfl) ?_
  refine rcons (ro_bipush (n := 7) (by decide +kernel) rfl rfl) ?_
  refine rcons (ro_callS ok_c_numberOn (by decide +kernel) rfl (fun s args ht => va_cwS 3 ht (rgoodS (fun w h => List.mem_cons_of_mem _ h) q_445 q_446 q_13 q_447) rfl rfl rfl hy_c_numberOn ⟨Nat.le_of_ble_eq_true rfl, Nat.le_of_ble_eq_true rfl⟩) rfl) ?_
  refine rcons (ro_icmp_ne (off := 7) (by decide +kernel) rfl rfl) ?_
  refine rcons (ro_iconst (n := 1) (by decide +kernel) rfl rfl) ?_
  refine rcons (ro_goto (off := 4) (by decide +kernel) rfl) ?_
  refine rcons (ro_iconst (n := 0) (by decide +kernel) rfl rfl) ?_
  refine rcons (ro_istore_n (k := 2) rfl (by decide +kernel) rfl) ?_
  refine rcons (ro_iload_n (k := 2) rfl (by decide +kernel) rfl) ?_
  refine rcons (ro_if_ne (off := 5) (by decide +kernel) rfl rfl) ?_
  refine rcons (ro_iconst (n := 0) (by decide +kernel) rfl rfl) ?_
  refine rcons (ro_zret (by decide +kernel)) ?_
  refine rcons (ro_iinc (by decide +kernel) rfl) ?_
  refine rcons (ro_goto (off := (-64)) (by decide +kernel) rfl) ?_
  refine rcons (ro_iconst (n := 1) (by decide +kernel) rfl rfl) ?_
  refine rcons (ro_zret (by decide +kernel)) ?_
  exact rnil
def ps_c_isSound : List Nat := [0, 2, 5, 8, 10, 13, 16, 19, 22, 23, 26, 29, 30, 33, 34]
def tb_c_isSound : List RT := [tq_ic 7, tq_call m_c_isRingSound 1 0 16, tq_if1 (fun x => decide (x = 0)) 13, tq_ic 12, tq_call m_c_isRingSound 1 0 16, tq_if1 (fun x => decide (x = 0)) 13, tq_call m_c_areMonthsSound 0 0 16, tq_if1 (fun x => decide (x = 0)) 13, tq_al 0, tq_call (rV 0 m_c_areCellsSound) 1 16 16, tq_if1 (fun x => decide (x = 0)) 13, tq_ic 1, tq_go 14, tq_ic 0, tq_zret 16]
def m_c_isSound : RM := rMeth tb_c_isSound 400 1
abbrev rm_c_isSound : Room := { frames := 9, cells := 16, slots := 192, locals := 158 }
set_option maxHeartbeats 4000000 in
set_option maxRecDepth 20000 in
theorem ok_c_isSound : rMet y_c_isSound (Cond.code y_c_isSound prog_1_method_54_code 1 (some .boolean) :: rT) rm_c_isSound 16 m_c_isSound := by
  refine rMeth_ok (ps := ps_c_isSound) (tab := tb_c_isSound) (by decide +kernel) rfl rfl rfl rfl ?_
  refine rcons (ro_bipush (n := 7) (by decide +kernel) rfl rfl) ?_
  refine rcons (ro_callS ok_c_isRingSound (by decide +kernel) rfl (fun s args ht => va_cwS 1 ht (rgoodS (fun w h => List.mem_cons_of_mem _ h) q_442 q_443 q_13 q_444) rfl rfl rfl hy_c_isRingSound ⟨Nat.le_of_ble_eq_true rfl, Nat.le_of_ble_eq_true rfl⟩) rfl) ?_
  refine rcons (ro_if_eq (off := 28) (by decide +kernel) rfl rfl) ?_
  refine rcons (ro_bipush (n := 12) (by decide +kernel) rfl rfl) ?_
  refine rcons (ro_callS ok_c_isRingSound (by decide +kernel) rfl (fun s args ht => va_cwS 1 ht (rgoodS (fun w h => List.mem_cons_of_mem _ h) q_442 q_443 q_13 q_444) rfl rfl rfl hy_c_isRingSound ⟨Nat.le_of_ble_eq_true rfl, Nat.le_of_ble_eq_true rfl⟩) rfl) ?_
  refine rcons (ro_if_eq (off := 20) (by decide +kernel) rfl rfl) ?_
  refine rcons (ro_callS ok_c_areMonthsSound (by decide +kernel) rfl (fun s args ht => va_cwS 0 ht (rgoodS (fun w h => List.mem_cons_of_mem _ h) q_463 q_464 q_13 q_465) rfl rfl rfl hy_c_areMonthsSound ⟨Nat.le_of_ble_eq_true rfl, Nat.le_of_ble_eq_true rfl⟩) rfl) ?_
  refine rcons (ro_if_eq (off := 14) (by decide +kernel) rfl rfl) ?_
  refine rcons (ro_aload_n (k := 0) rfl (by decide +kernel) rfl) ?_
  refine rcons (ro_callV (C := rN0) (T := rF0) (N := 7) rfl ok_c_areCellsSound (by decide +kernel) rfl (fun s args ht => cwV (C := rN0) 0 ht (rgoodV (C := rN0) (fun w h => List.mem_cons_of_mem _ h) q_490 q_492 q_1 q_13 q_493) rfl rfl rfl hv_c_areCellsSound ⟨Nat.le_of_ble_eq_true rfl, Nat.le_of_ble_eq_true rfl⟩) rfl) ?_
  refine rcons (ro_if_eq (off := 7) (by decide +kernel) rfl rfl) ?_
  refine rcons (ro_iconst (n := 1) (by decide +kernel) rfl rfl) ?_
  refine rcons (ro_goto (off := 4) (by decide +kernel) rfl) ?_
  refine rcons (ro_iconst (n := 0) (by decide +kernel) rfl rfl) ?_
  refine rcons (ro_zret (by decide +kernel)) ?_
  exact rnil
def ps_c_mixed : List Nat := [0, 1, 4, 5, 6, 7, 8]
def tb_c_mixed : List RT := [tq_ll 0, tq_lc 31, tq_l2 (fun x y => x * y), tq_il 2, tq_i2l, tq_l2 (fun x y => x + y), tq_lret 0]
def m_c_mixed : RM := rMeth tb_c_mixed 400 3
abbrev rm_c_mixed : Room := { frames := 0, cells := 0, slots := 0, locals := 0 }
set_option maxHeartbeats 4000000 in
set_option maxRecDepth 20000 in
theorem ok_c_mixed : rMet y_c_mixed (Cond.code y_c_mixed prog_1_method_88_code 3 (some .long) :: rT) rm_c_mixed 0 m_c_mixed := by
  refine rMeth_ok (ps := ps_c_mixed) (tab := tb_c_mixed) (by decide +kernel) rfl rfl rfl rfl ?_
  refine rcons (ro_lload_n (k := 0) rfl (by decide +kernel) rfl) ?_
  refine rcons (ro_ldc2 (by decide +kernel) (List.mem_cons_of_mem _ q_526) rfl) ?_
  refine rcons (ro_lmul (by decide +kernel) rfl) ?_
  refine rcons (ro_iload_n (k := 2) rfl (by decide +kernel) rfl) ?_
  refine rcons (ro_i2l (by decide +kernel) rfl) ?_
  refine rcons (ro_ladd (by decide +kernel) rfl) ?_
  refine rcons (ro_lret (by decide +kernel)) ?_
  exact rnil
end RKM
