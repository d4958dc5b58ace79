section RKM
def ps_c_numberIn : List Nat := [0, 1, 4, 5, 6, 9, 12, 13, 15, 18, 19, 20, 21, 22]
def tb_c_numberIn : List RT := [tq_il 1, tq_if1 (fun x => decide (x < 0)) 5, tq_il 1, tq_ic 4, tq_if2 (fun x y => decide (x < y)) 10, tq_thr 0 1, tq_bad, tq_bad, tq_bad, tq_bad, tq_al 0, tq_il 1, tq_iald 0, tq_iret 1]
def m_c_numberIn : RM := rMeth tb_c_numberIn 400 2
abbrev rm_c_numberIn : Room := { frames := 6, cells := 1, slots := 12, locals := 90 }
set_option maxHeartbeats 4000000 in
set_option maxRecDepth 20000 in
theorem ok_c_numberIn : rMet y_c_numberIn (Cond.code y_c_numberIn prog_1_method_56_code 2 (some .int) :: rT) rm_c_numberIn 1 m_c_numberIn := by
  refine rMeth_ok (ps := ps_c_numberIn) (tab := tb_c_numberIn) (by decide +kernel) rfl rfl rfl rfl ?_
  refine rcons (ro_iload_n (k := 1) rfl (by decide +kernel) rfl) ?_
  refine rcons (ro_if_lt (off := 8) (by decide +kernel) rfl rfl) ?_
  refine rcons (ro_iload_n (k := 1) rfl (by decide +kernel) rfl) ?_
  refine rcons (ro_iconst (n := 4) (by decide +kernel) rfl rfl) ?_
  refine rcons (ro_icmp_lt (off := 13) (by decide +kernel) rfl rfl) ?_
  refine rcons (ro_thr (k := 20) (by decide +kernel) (by decide +kernel) (by decide +kernel) (by decide +kernel) (by decide +kernel) rfl (List.mem_cons_of_mem _ q_501) (List.mem_cons_of_mem _ q_19) (by decide +kernel) (rcm rtg_c154_0) rtb_c154_0 rto_150_c154_0 (by decide) rfl (by decide) (by decide)) ?_
  refine rcons (ro_bad) ?_
  refine rcons (ro_bad) ?_
  refine rcons (ro_bad) ?_
  refine rcons (ro_bad) ?_
  refine rcons (ro_aload_n (k := 0) rfl (by decide +kernel) rfl) ?_
  refine rcons (ro_iload_n (k := 1) rfl (by decide +kernel) rfl) ?_
  refine rcons (ro_iald (by decide +kernel) rfl) ?_
  refine rcons (ro_iret (by decide +kernel)) ?_
  exact rnil
def ps_c_refuseOutside : List Nat := [0, 1, 2, 5, 6, 7, 10, 13, 14, 16, 19, 20]
def tb_c_refuseOutside : List RT := [tq_il 0, tq_ic 1, tq_if2 (fun x y => decide (x < y)) 6, tq_il 0, tq_il 1, tq_if2 (fun x y => decide (x ≤ y)) 11, tq_thr 1 1, tq_bad, tq_bad, tq_bad, tq_bad, tq_vret 1]
def m_c_refuseOutside : RM := rMeth tb_c_refuseOutside 400 2
abbrev rm_c_refuseOutside : Room := { frames := 6, cells := 1, slots := 12, locals := 90 }
set_option maxHeartbeats 4000000 in
set_option maxRecDepth 20000 in
theorem ok_c_refuseOutside : rMet y_c_refuseOutside (Cond.code y_c_refuseOutside prog_1_method_64_code 2 none :: rT) rm_c_refuseOutside 1 m_c_refuseOutside := by
  refine rMeth_ok (ps := ps_c_refuseOutside) (tab := tb_c_refuseOutside) (by decide +kernel) rfl rfl rfl rfl ?_
  refine rcons (ro_iload_n (k := 0) rfl (by decide +kernel) rfl) ?_
  refine rcons (ro_iconst (n := 1) (by decide +kernel) rfl rfl) ?_
  refine rcons (ro_icmp_lt (off := 8) (by decide +kernel) rfl rfl) ?_
  refine rcons (ro_iload_n (k := 0) rfl (by decide +kernel) rfl) ?_
  refine rcons (ro_iload_n (k := 1) rfl (by decide +kernel) rfl) ?_
  refine rcons (ro_icmp_le (off := 13) (by decide +kernel) rfl rfl) ?_
  refine rcons (ro_thr (k := 22) (by decide +kernel) (by decide +kernel) (by decide +kernel) (by decide +kernel) (by decide +kernel) rfl (List.mem_cons_of_mem _ q_599) (List.mem_cons_of_mem _ q_20) (by decide +kernel) (rcm rtg_c215_1) rtb_c215_1 rto_211_c215_1 (by decide) rfl (by decide) (by decide)) ?_
  refine rcons (ro_bad) ?_
  refine rcons (ro_bad) ?_
  refine rcons (ro_bad) ?_
  refine rcons (ro_bad) ?_
  refine rcons (ro_vret (by decide +kernel)) ?_
  exact rnil
def ps_c_write : List Nat := [0, 1, 4, 5, 6, 9, 12, 13, 15, 18, 19, 20, 21, 22, 23]
def tb_c_write : List RT := [tq_il 1, tq_if1 (fun x => decide (x < 0)) 5, tq_il 1, tq_ic 4, tq_if2 (fun x y => decide (x < y)) 10, tq_thr 0 1, tq_bad, tq_bad, tq_bad, tq_bad, tq_al 0, tq_il 1, tq_il 2, tq_iast 0, tq_vret 1]
def m_c_write : RM := rMeth tb_c_write 400 3
abbrev rm_c_write : Room := { frames := 6, cells := 1, slots := 12, locals := 90 }
set_option maxHeartbeats 4000000 in
set_option maxRecDepth 20000 in
theorem ok_c_write : rMet y_c_write (Cond.code y_c_write prog_1_method_57_code 3 none :: rT) rm_c_write 1 m_c_write := by
  refine rMeth_ok (ps := ps_c_write) (tab := tb_c_write) (by decide +kernel) rfl rfl rfl rfl ?_
  refine rcons (ro_iload_n (k := 1) rfl (by decide +kernel) rfl) ?_
  refine rcons (ro_if_lt (off := 8) (by decide +kernel) rfl rfl) ?_
  refine rcons (ro_iload_n (k := 1) rfl (by decide +kernel) rfl) ?_
  refine rcons (ro_iconst (n := 4) (by decide +kernel) rfl rfl) ?_
  refine rcons (ro_icmp_lt (off := 13) (by decide +kernel) rfl rfl) ?_
  refine rcons (ro_thr (k := 20) (by decide +kernel) (by decide +kernel) (by decide +kernel) (by decide +kernel) (by decide +kernel) rfl (List.mem_cons_of_mem _ q_501) (List.mem_cons_of_mem _ q_19) (by decide +kernel) (rcm rtg_c154_0) rtb_c154_0 rto_150_c154_0 (by decide) rfl (by decide) (by decide)) ?_
  refine rcons (ro_bad) ?_
  refine rcons (ro_bad) ?_
  refine rcons (ro_bad) ?_
  refine rcons (ro_bad) ?_
  refine rcons (ro_aload_n (k := 0) rfl (by decide +kernel) rfl) ?_
  refine rcons (ro_iload_n (k := 1) rfl (by decide +kernel) rfl) ?_
  refine rcons (ro_iload_n (k := 2) rfl (by decide +kernel) rfl) ?_
  refine rcons (ro_iast (by decide +kernel) rfl) ?_
  refine rcons (ro_vret (by decide +kernel)) ?_
  exact rnil
def ps_c_become : List Nat := [0, 1, 2, 3, 6, 7, 8, 11, 12, 13, 16, 17]
def tb_c_become : List RT := [tq_al 1, tq_il 2, tq_il 3, tq_call m_c_write 3 1 1, tq_al 0, tq_dup, tq_getf 0 5, tq_ic 1, tq_i2 (fun x y => x + y), tq_putf 0 5 0, tq_il 3, tq_iret 1]
def m_c_become : RM := rMeth tb_c_become 400 4
abbrev rm_c_become : Room := { frames := 7, cells := 1, slots := 12, locals := 112 }
set_option maxHeartbeats 4000000 in
set_option maxRecDepth 20000 in
theorem ok_c_become : rMet y_c_become (Cond.code y_c_become prog_1_method_58_code 4 (some .int) :: rT) rm_c_become 1 m_c_become := by
  refine rMeth_ok (ps := ps_c_become) (tab := tb_c_become) (by decide +kernel) rfl rfl rfl rfl ?_
  refine rcons (ro_aload_n (k := 1) rfl (by decide +kernel) rfl) ?_
  refine rcons (ro_iload_n (k := 2) rfl (by decide +kernel) rfl) ?_
  refine rcons (ro_iload_n (k := 3) rfl (by decide +kernel) rfl) ?_
  refine rcons (ro_callS ok_c_write (by decide +kernel) rfl (fun s args ht => va_cwS 3 ht (rgoodS (fun w h => List.mem_cons_of_mem _ h) q_606 q_607 q_13 q_608) rfl rfl rfl hy_c_write ⟨Nat.le_of_ble_eq_true rfl, Nat.le_of_ble_eq_true rfl⟩) rfl) ?_
  refine rcons (ro_aload_n (k := 0) rfl (by decide +kernel) rfl) ?_
  refine rcons (ro_dup (by decide +kernel) rfl) ?_
  refine rcons (ro_getf (C := rN0) (T := rF0) (N := 7) (k := 5) (by decide +kernel) rfl (rU0c _) (by decide) (List.mem_cons_of_mem _ q_48) rfl) ?_
  refine rcons (ro_iconst (n := 1) (by decide +kernel) rfl rfl) ?_
  refine rcons (ro_iadd (by decide +kernel) rfl) ?_
  refine rcons (ro_putf (C := rN0) (T := rF0) (N := 7) (k := 5) (Y := rY0) (by decide +kernel) rfl (rU0c _) rY0_ok rD0 (by decide) (List.mem_cons_of_mem _ q_48) rfl (Or.inl ⟨rfl, rfl⟩) rfl) ?_
  refine rcons (ro_iload_n (k := 3) rfl (by decide +kernel) rfl) ?_
  refine rcons (ro_iret (by decide +kernel)) ?_
  exact rnil
def ps_c_exchange : List Nat := [0, 1, 2, 5, 7, 8, 10, 13, 14, 15, 16, 17, 20, 21, 23]
def tb_c_exchange : List RT := [tq_al 1, tq_il 2, tq_call m_c_numberIn 2 1 3, tq_is 6 5, tq_il 3, tq_il 4, tq_call m_c_refuseOutside 2 1 3, tq_al 0, tq_al 1, tq_il 2, tq_il 3, tq_call (rV 0 m_c_become) 4 1 3, tq_pop, tq_il 5, tq_iret 3]
def m_c_exchange : RM := rMeth tb_c_exchange 400 6
abbrev rm_c_exchange : Room := { frames := 8, cells := 3, slots := 36, locals := 135 }
set_option maxHeartbeats 4000000 in
set_option maxRecDepth 20000 in
theorem ok_c_exchange : rMet y_c_exchange (Cond.code y_c_exchange prog_1_method_60_code 6 (some .int) :: rT) rm_c_exchange 3 m_c_exchange := by
  refine rMeth_ok (ps := ps_c_exchange) (tab := tb_c_exchange) (by decide +kernel) rfl rfl rfl rfl ?_
  refine rcons (ro_aload_n (k := 1) rfl (by decide +kernel) rfl) ?_
  refine rcons (ro_iload_n (k := 2) rfl (by decide +kernel) rfl) ?_
  refine rcons (ro_callS ok_c_numberIn (by decide +kernel) rfl (fun s args ht => va_cwS 2 ht (rgoodS (fun w h => List.mem_cons_of_mem _ h) q_498 q_499 q_13 q_500) rfl rfl rfl hy_c_numberIn ⟨Nat.le_of_ble_eq_true rfl, Nat.le_of_ble_eq_true rfl⟩) rfl) ?_
  refine rcons (ro_istore (by decide +kernel) rfl) ?_
  refine rcons (ro_iload_n (k := 3) rfl (by decide +kernel) rfl) ?_
  refine rcons (ro_iload (by decide +kernel) rfl) ?_
  refine rcons (ro_callS ok_c_refuseOutside (by decide +kernel) rfl (fun s args ht => va_cwS 2 ht (rgoodS (fun w h => List.mem_cons_of_mem _ h) q_596 q_597 q_13 q_598) rfl rfl rfl hy_c_refuseOutside ⟨Nat.le_of_ble_eq_true rfl, Nat.le_of_ble_eq_true rfl⟩) rfl) ?_
  refine rcons (ro_aload_n (k := 0) rfl (by decide +kernel) rfl) ?_
  refine rcons (ro_aload_n (k := 1) rfl (by decide +kernel) rfl) ?_
  refine rcons (ro_iload_n (k := 2) rfl (by decide +kernel) rfl) ?_
  refine rcons (ro_iload_n (k := 3) rfl (by decide +kernel) rfl) ?_
  refine rcons (ro_callV (C := rN0) (T := rF0) (N := 7) rfl ok_c_become (by decide +kernel) rfl (fun s args ht => cwV (C := rN0) 3 ht (rgoodV (C := rN0) (fun w h => List.mem_cons_of_mem _ h) q_602 q_604 q_4 q_13 q_605) rfl rfl rfl hv_c_become ⟨Nat.le_of_ble_eq_true rfl, Nat.le_of_ble_eq_true rfl⟩) rfl) ?_
  refine rcons (ro_pop (by decide +kernel) rfl) ?_
  refine rcons (ro_iload (by decide +kernel) rfl) ?_
  refine rcons (ro_iret (by decide +kernel)) ?_
  exact rnil
def ps_c_day : List Nat := [0, 1, 2, 5, 6, 7, 9, 12]
def tb_c_day : List RT := [tq_al 0, tq_al 0, tq_getf 0 0, tq_il 1, tq_il 2, tq_ic 7, tq_call (rV 0 m_c_exchange) 5 3 3, tq_iret 3]
def m_c_day : RM := rMeth tb_c_day 400 3
abbrev rm_c_day : Room := { frames := 9, cells := 3, slots := 36, locals := 160 }
set_option maxHeartbeats 4000000 in
set_option maxRecDepth 20000 in
theorem ok_c_day : rMet y_c_day (Cond.code y_c_day prog_1_method_2_code 3 (some .int) :: rT) rm_c_day 3 m_c_day := by
  refine rMeth_ok (ps := ps_c_day) (tab := tb_c_day) (by decide +kernel) rfl rfl rfl rfl ?_
  refine rcons (ro_aload_n (k := 0) rfl (by decide +kernel) rfl) ?_
  refine rcons (ro_aload_n (k := 0) rfl (by decide +kernel) rfl) ?_
  refine rcons (ro_getf (C := rN0) (T := rF0) (N := 7) (k := 0) (by decide +kernel) rfl (rU0c _) (by decide) (List.mem_cons_of_mem _ q_43) rfl) ?_
  refine rcons (ro_iload_n (k := 1) rfl (by decide +kernel) rfl) ?_
  refine rcons (ro_iload_n (k := 2) rfl (by decide +kernel) rfl) ?_
  refine rcons (ro_bipush (n := 7) (by decide +kernel) rfl rfl) ?_
  refine rcons (ro_callV (C := rN0) (T := rF0) (N := 7) rfl ok_c_exchange (by decide +kernel) rfl (fun s args ht => cwV (C := rN0) 4 ht (rgoodV (C := rN0) (fun w h => List.mem_cons_of_mem _ h) q_592 q_594 q_3 q_13 q_595) rfl rfl rfl hv_c_exchange ⟨Nat.le_of_ble_eq_true rfl, Nat.le_of_ble_eq_true rfl⟩) rfl) ?_
  refine rcons (ro_iret (by decide +kernel)) ?_
  exact rnil
def ps_c_dayNumber : List Nat := [0, 1, 4, 5, 8]
def tb_c_dayNumber : List RT := [tq_al 0, tq_getf 0 0, tq_il 1, tq_call m_c_numberIn 2 1 1, tq_iret 1]
def m_c_dayNumber : RM := rMeth tb_c_dayNumber 400 2
abbrev rm_c_dayNumber : Room := { frames := 7, cells := 1, slots := 12, locals := 111 }
set_option maxHeartbeats 4000000 in
set_option maxRecDepth 20000 in
theorem ok_c_dayNumber : rMet y_c_dayNumber (Cond.code y_c_dayNumber prog_1_method_3_code 2 (some .int) :: rT) rm_c_dayNumber 1 m_c_dayNumber := by
  refine rMeth_ok (ps := ps_c_dayNumber) (tab := tb_c_dayNumber) (by decide +kernel) rfl rfl rfl rfl ?_
  refine rcons (ro_aload_n (k := 0) rfl (by decide +kernel) rfl) ?_
  refine rcons (ro_getf (C := rN0) (T := rF0) (N := 7) (k := 0) (by decide +kernel) rfl (rU0c _) (by decide) (List.mem_cons_of_mem _ q_43) rfl) ?_
  refine rcons (ro_iload_n (k := 1) rfl (by decide +kernel) rfl) ?_
  refine rcons (ro_callS ok_c_numberIn (by decide +kernel) rfl (fun s args ht => va_cwS 2 ht (rgoodS (fun w h => List.mem_cons_of_mem _ h) q_498 q_499 q_13 q_500) rfl rfl rfl hy_c_numberIn ⟨Nat.le_of_ble_eq_true rfl, Nat.le_of_ble_eq_true rfl⟩) rfl) ?_
  refine rcons (ro_iret (by decide +kernel)) ?_
  exact rnil
def ps_c_placeOf : List Nat := [0, 1, 2, 3]
def tb_c_placeOf : List RT := [tq_il 0, tq_ic 1, tq_i2 (fun x y => x - y), tq_iret 0]
def m_c_placeOf : RM := rMeth tb_c_placeOf 400 1
abbrev rm_c_placeOf : Room := { frames := 0, cells := 0, slots := 0, locals := 0 }
set_option maxHeartbeats 4000000 in
set_option maxRecDepth 20000 in
theorem ok_c_placeOf : rMet y_c_placeOf (Cond.code y_c_placeOf prog_1_method_68_code 1 (some .int) :: rT) rm_c_placeOf 0 m_c_placeOf := by
  refine rMeth_ok (ps := ps_c_placeOf) (tab := tb_c_placeOf) (by decide +kernel) rfl rfl rfl rfl ?_
  refine rcons (ro_iload_n (k := 0) rfl (by decide +kernel) rfl) ?_
  refine rcons (ro_iconst (n := 1) (by decide +kernel) rfl rfl) ?_
  refine rcons (ro_isub (by decide +kernel) rfl) ?_
  refine rcons (ro_iret (by decide +kernel)) ?_
  exact rnil
def ps_c_dayPlace : List Nat := [0, 1, 4, 5, 8, 11]
def tb_c_dayPlace : List RT := [tq_al 0, tq_getf 0 0, tq_il 1, tq_call m_c_numberIn 2 1 1, tq_call m_c_placeOf 1 0 1, tq_iret 1]
def m_c_dayPlace : RM := rMeth tb_c_dayPlace 400 2
abbrev rm_c_dayPlace : Room := { frames := 7, cells := 1, slots := 12, locals := 111 }
set_option maxHeartbeats 4000000 in
set_option maxRecDepth 20000 in
theorem ok_c_dayPlace : rMet y_c_dayPlace (Cond.code y_c_dayPlace prog_1_method_4_code 2 (some .int) :: rT) rm_c_dayPlace 1 m_c_dayPlace := by
  refine rMeth_ok (ps := ps_c_dayPlace) (tab := tb_c_dayPlace) (by decide +kernel) rfl rfl rfl rfl ?_
  refine rcons (ro_aload_n (k := 0) rfl (by decide +kernel) rfl) ?_
  refine rcons (ro_getf (C := rN0) (T := rF0) (N := 7) (k := 0) (by decide +kernel) rfl (rU0c _) (by decide) (List.mem_cons_of_mem _ q_43) rfl) ?_
  refine rcons (ro_iload_n (k := 1) rfl (by decide +kernel) rfl) ?_
  refine rcons (ro_callS ok_c_numberIn (by decide +kernel) rfl (fun s args ht => va_cwS 2 ht (rgoodS (fun w h => List.mem_cons_of_mem _ h) q_498 q_499 q_13 q_500) rfl rfl rfl hy_c_numberIn ⟨Nat.le_of_ble_eq_true rfl, Nat.le_of_ble_eq_true rfl⟩) rfl) ?_
  refine rcons (ro_callS ok_c_placeOf (by decide +kernel) rfl (fun s args ht => va_cwS 1 ht (rgoodS (fun w h => List.mem_cons_of_mem _ h) q_448 q_449 q_13 q_450) rfl rfl rfl hy_c_placeOf ⟨Nat.le_of_ble_eq_true rfl, Nat.le_of_ble_eq_true rfl⟩) rfl) ?_
  refine rcons (ro_iret (by decide +kernel)) ?_
  exact rnil
def ps_c_nameOfDay : List Nat := [0, 1, 40, 42, 43, 45, 46, 48, 49, 51, 52, 54, 55, 57, 58, 60]
def tb_c_nameOfDay : List RT := [tq_il 0, tq_sw 1 [2, 4, 6, 8, 10, 12] 14, tq_rc 100, tq_aret 0, tq_rc 101, tq_aret 0, tq_rc 102, tq_aret 0, tq_rc 103, tq_aret 0, tq_rc 104, tq_aret 0, tq_rc 105, tq_aret 0, tq_rc 106, tq_aret 0]
def m_c_nameOfDay : RM := rMeth tb_c_nameOfDay 400 1
abbrev rm_c_nameOfDay : Room := { frames := 0, cells := 0, slots := 0, locals := 0 }
set_option maxHeartbeats 4000000 in
set_option maxRecDepth 20000 in
theorem ok_c_nameOfDay : rMet y_c_nameOfDay (Cond.code y_c_nameOfDay prog_1_method_73_code 1 (some (.object "java/lang/String")) :: rT) rm_c_nameOfDay 0 m_c_nameOfDay := by
  refine rMeth_ok (ps := ps_c_nameOfDay) (tab := tb_c_nameOfDay) (by decide +kernel) rfl rfl rfl rfl ?_
  refine rcons (ro_iload_n (k := 0) rfl (by decide +kernel) rfl) ?_
  refine rcons (ro_sw (dflt := 57) (lo := 1) (hi := 6) (offs := #[39, 42, 45, 48, 51, 54]) (len := 39) (by decide +kernel) rfl rfl (rsw_ok (pc := 1) (d := 14) (offs := #[39, 42, 45, 48, 51, 54]) (os := [2, 4, 6, 8, 10, 12]) (J := fun o => ps_c_nameOfDay.getD o 0) (by decide +kernel))) ?_
  refine rcons (ro_ldcS (k := 0) (by decide) rfl (by decide +kernel) rfl) ?_
  refine rcons (ro_aret (by decide +kernel)) ?_
  refine rcons (ro_ldcS (k := 1) (by decide) rfl (by decide +kernel) rfl) ?_
  refine rcons (ro_aret (by decide +kernel)) ?_
  refine rcons (ro_ldcS (k := 2) (by decide) rfl (by decide +kernel) rfl) ?_
  refine rcons (ro_aret (by decide +kernel)) ?_
  refine rcons (ro_ldcS (k := 3) (by decide) rfl (by decide +kernel) rfl) ?_
  refine rcons (ro_aret (by decide +kernel)) ?_
  refine rcons (ro_ldcS (k := 4) (by decide) rfl (by decide +kernel) rfl) ?_
  refine rcons (ro_aret (by decide +kernel)) ?_
  refine rcons (ro_ldcS (k := 5) (by decide) rfl (by decide +kernel) rfl) ?_
  refine rcons (ro_aret (by decide +kernel)) ?_
  refine rcons (ro_ldcS (k := 6) (by decide) rfl (by decide +kernel) rfl) ?_
  refine rcons (ro_aret (by decide +kernel)) ?_
  exact rnil
def s_c_nameOfDay : RM := fun as σ Q => match as with
  | [.inl n] => rd n.1 (dD n.2) (Q (.inl (some (rR (99 + n.2.toNatClampNeg)))) σ)
  | _ => False
set_option maxHeartbeats 4000000 in
set_option maxRecDepth 20000 in
theorem okS_c_nameOfDay : rMet y_c_nameOfDay (Cond.code y_c_nameOfDay prog_1_method_73_code 1 (some (.object "java/lang/String")) :: rT) rm_c_nameOfDay 0 s_c_nameOfDay := by
  refine rMet_val ok_c_nameOfDay (fun as σ Q h => ?_)
  unfold s_c_nameOfDay at h
  split at h
  · next n =>
    obtain ⟨hd, h⟩ := rd_use h
    obtain ⟨k, k1, k2, hk⟩ := dD_nat hd
    refine ⟨[rI true (nI k)], some (rR (99 + (nI k).toNatClampNeg)), some (rR (99 + n.2.toNatClampNeg)), fun _ => by rw [← hk]; rfl, ?_, fun _ => by rw [← hk], h⟩
    rcases k7 k1 k2 with rfl | rfl | rfl | rfl | rfl | rfl | rfl <;> exact And.intro rfl rfl
  · exact h.elim
def ps_c_dayName : List Nat := [0, 1, 4, 5, 8, 11]
def tb_c_dayName : List RT := [tq_al 0, tq_getf 0 0, tq_il 1, tq_call m_c_numberIn 2 1 1, tq_call s_c_nameOfDay 1 0 1, tq_aret 1]
def m_c_dayName : RM := rMeth tb_c_dayName 400 2
abbrev rm_c_dayName : Room := { frames := 7, cells := 1, slots := 12, locals := 111 }
set_option maxHeartbeats 4000000 in
set_option maxRecDepth 20000 in
theorem ok_c_dayName : rMet y_c_dayName (Cond.code y_c_dayName prog_1_method_5_code 2 (some (.object "java/lang/String")) :: rT) rm_c_dayName 1 m_c_dayName := by
  refine rMeth_ok (ps := ps_c_dayName) (tab := tb_c_dayName) (by decide +kernel) rfl rfl rfl rfl ?_
  refine rcons (ro_aload_n (k := 0) rfl (by decide +kernel) rfl) ?_
  refine rcons (ro_getf (C := rN0) (T := rF0) (N := 7) (k := 0) (by decide +kernel) rfl (rU0c _) (by decide) (List.mem_cons_of_mem _ q_43) rfl) ?_
  refine rcons (ro_iload_n (k := 1) rfl (by decide +kernel) rfl) ?_
  refine rcons (ro_callS ok_c_numberIn (by decide +kernel) rfl (fun s args ht => va_cwS 2 ht (rgoodS (fun w h => List.mem_cons_of_mem _ h) q_498 q_499 q_13 q_500) rfl rfl rfl hy_c_numberIn ⟨Nat.le_of_ble_eq_true rfl, Nat.le_of_ble_eq_true rfl⟩) rfl) ?_
  refine rcons (ro_callS okS_c_nameOfDay (by decide +kernel) rfl (fun s args ht => va_cwS 1 ht (rgoodS (fun w h => List.mem_cons_of_mem _ h) q_198 q_199 q_13 q_200) rfl rfl rfl hy_c_nameOfDay ⟨Nat.le_of_ble_eq_true rfl, Nat.le_of_ble_eq_true rfl⟩) rfl) ?_
  refine rcons (ro_aret (by decide +kernel)) ?_
  exact rnil
def ps_c_rest : List Nat := [0, 1, 2, 5, 6, 9, 10, 11, 12, 15, 16]
def tb_c_rest : List RT := [tq_il 2, tq_ic 1, tq_if2 (fun x y => decide (y ≤ x)) 5, tq_ic 0, tq_go 10, tq_ll 0, tq_il 2, tq_i2l, tq_call m_jm_floorMod 2 0 0, tq_l2i, tq_iret 0]
def m_c_rest : RM := rMeth tb_c_rest 400 3
abbrev rm_c_rest : Room := { frames := 1, cells := 0, slots := 0, locals := 25 }
set_option maxHeartbeats 4000000 in
set_option maxRecDepth 20000 in
theorem ok_c_rest : rMet y_c_rest (Cond.code y_c_rest prog_1_method_70_code 3 (some .int) :: rT) rm_c_rest 0 m_c_rest := by
  refine rMeth_ok (ps := ps_c_rest) (tab := tb_c_rest) (by decide +kernel) rfl rfl rfl rfl ?_
  refine rcons (ro_iload_n (k := 2) rfl (by decide +kernel) rfl) ?_
  refine rcons (ro_iconst (n := 1) (by decide +kernel) rfl rfl) ?_
  refine rcons (ro_icmp_ge (off := 7) (by decide +kernel) rfl rfl) ?_
  refine rcons (ro_iconst (n := 0) (by decide +kernel) rfl rfl) ?_
  refine rcons (ro_goto (off := 10) (by decide +kernel) rfl) ?_
  refine rcons (ro_lload_n (k := 0) rfl (by decide +kernel) rfl) ?_
  refine rcons (ro_iload_n (k := 2) rfl (by decide +kernel) rfl) ?_
  refine rcons (ro_i2l (by decide +kernel) rfl) ?_
  refine rcons (ro_callS ok_jm_floorMod (by decide +kernel) rfl (fun s args ht => va_cwS 2 ht (rgoodS (fun w h => List.mem_cons_of_mem _ h) q_454 q_455 q_21 q_456) rfl rfl rfl hy_jm_floorMod ⟨Nat.le_of_ble_eq_true rfl, Nat.le_of_ble_eq_true rfl⟩) rfl) ?_
  refine rcons (ro_l2i (by decide +kernel) rfl) ?_
  refine rcons (ro_iret (by decide +kernel)) ?_
  exact rnil
def s_c_rest : RM := fun as σ Q => match as with
  | [.inr (.inl x), .inl y] => rd (x.1 && y.1) (dR3 y.2) (Q (.inl (some (rI (x.1 && y.1) (restF x.2 y.2)))) σ)
  | _ => False
set_option maxHeartbeats 4000000 in
set_option maxRecDepth 20000 in
theorem okS_c_rest : rMet y_c_rest (Cond.code y_c_rest prog_1_method_70_code 3 (some .int) :: rT) rm_c_rest 0 s_c_rest := by
  refine rMet_val ok_c_rest (fun as σ Q h => ?_)
  unfold s_c_rest at h
  split at h
  · next x y =>
    obtain ⟨hd, h⟩ := rd_use h
    have hy := dR3_int hd
    refine ⟨[rL false x.2, rI false y.2], some (rI false (restF x.2 y.2)), some (rI (x.1 && y.1) (restF x.2 y.2)), fun _ => rfl, ?_, fun _ => rfl, h⟩
    apply And.intro
    · intro h1
      apply And.intro
      · exact rest_ne hd
      · apply And.intro
        · intro h2
          exact And.intro (rvI (rsv_1 hd (lg_ge h2))) rfl
        · intro h2
          apply And.intro
          · intro h3
            exact And.intro (rvI (rsv_2 hd (lg_nge h2) (lg_eq0 h3))) rfl
          · intro h3
            exact And.intro (rvI (rsv_3 hd (lg_nge h2) (lg_ne0 h3))) rfl
    · intro h1
      have h1 : ¬ (1 : Int32) ≤ y.2 := of_decide_eq_false h1
      rw [Int32.le_iff_toInt_le] at h1
      have e1 : (1 : Int32).toInt = 1 := rfl
      omega
  · exact h.elim
def ps_c_numberOn : List Nat := [0, 1, 4, 5, 6, 9, 10, 11, 12, 15, 16, 17]
def tb_c_numberOn : List RT := [tq_il 0, tq_call m_c_placeOf 1 0 0, tq_ll 1, tq_il 3, tq_call s_c_rest 2 0 0, tq_i2 (fun x y => x + y), tq_i2l, tq_il 3, tq_call s_c_rest 2 0 0, tq_ic 1, tq_i2 (fun x y => x + y), tq_iret 0]
def m_c_numberOn : RM := rMeth tb_c_numberOn 400 4
abbrev rm_c_numberOn : Room := { frames := 2, cells := 0, slots := 0, locals := 47 }
set_option maxHeartbeats 4000000 in
set_option maxRecDepth 20000 in
theorem ok_c_numberOn : rMet y_c_numberOn (Cond.code y_c_numberOn prog_1_method_71_code 4 (some .int) :: rT) rm_c_numberOn 0 m_c_numberOn := by
  refine rMeth_ok (ps := ps_c_numberOn) (tab := tb_c_numberOn) (by decide +kernel) rfl rfl rfl rfl ?_
  refine rcons (ro_iload_n (k := 0) rfl (by decide +kernel) rfl) ?_
  refine rcons (ro_callS ok_c_placeOf (by decide +kernel) rfl (fun s args ht => va_cwS 1 ht (rgoodS (fun w h => List.mem_cons_of_mem _ h) q_448 q_449 q_13 q_450) rfl rfl rfl hy_c_placeOf ⟨Nat.le_of_ble_eq_true rfl, Nat.le_of_ble_eq_true rfl⟩) rfl) ?_
  refine rcons (ro_lload_n (k := 1) rfl (by decide +kernel) rfl) ?_
  refine rcons (ro_iload_n (k := 3) rfl (by decide +kernel) rfl) ?_
  refine rcons (ro_callS okS_c_rest (by decide +kernel) rfl (fun s args ht => va_cwS 2 ht (rgoodS (fun w h => List.mem_cons_of_mem _ h) q_451 q_452 q_13 q_453) rfl rfl rfl hy_c_rest ⟨Nat.le_of_ble_eq_true rfl, Nat.le_of_ble_eq_true rfl⟩) rfl) ?_
  refine rcons (ro_iadd (by decide +kernel) rfl) ?_
  refine rcons (ro_i2l (by decide +kernel) rfl) ?_
  refine rcons (ro_iload_n (k := 3) rfl (by decide +kernel) rfl) ?_
  refine rcons (ro_callS okS_c_rest (by decide +kernel) rfl (fun s args ht => va_cwS 2 ht (rgoodS (fun w h => List.mem_cons_of_mem _ h) q_451 q_452 q_13 q_453) rfl rfl rfl hy_c_rest ⟨Nat.le_of_ble_eq_true rfl, Nat.le_of_ble_eq_true rfl⟩) rfl) ?_
  refine rcons (ro_iconst (n := 1) (by decide +kernel) rfl rfl) ?_
  refine rcons (ro_iadd (by decide +kernel) rfl) ?_
  refine rcons (ro_iret (by decide +kernel)) ?_
  exact rnil
def s_c_numberOn : RM := fun as σ Q => match as with
  | [.inl n, .inr (.inl x), .inl y] => rd (n.1 && x.1 && y.1) (dM n.2 && dR y.2) (Q (.inl (some (rI (n.1 && x.1 && y.1) (opF n.2 x.2 y.2)))) σ)
  | _ => False
set_option maxHeartbeats 4000000 in
set_option maxRecDepth 20000 in
theorem okS_c_numberOn : rMet y_c_numberOn (Cond.code y_c_numberOn prog_1_method_71_code 4 (some .int) :: rT) rm_c_numberOn 0 s_c_numberOn := by
  refine rMet_val ok_c_numberOn (fun as σ Q h => ?_)
  unfold s_c_numberOn at h
  split at h
  · next n x y =>
    obtain ⟨hd, h⟩ := rd_use h
    rw [Bool.and_eq_true] at hd
    refine ⟨[rI false n.2, rL false x.2, rI false y.2], some (rI false (opF n.2 x.2 y.2)), some (rI (n.1 && x.1 && y.1) (opF n.2 x.2 y.2)), fun _ => rfl, ?_, fun _ => rfl, h⟩
    exact And.intro (dR3_of hd.2) (And.intro (dR3_of hd.2) (And.intro (rvI (on_val hd.1 hd.2)) rfl))
  · exact h.elim
def ps_c_dayAt : List Nat := [0, 1, 4, 5, 8, 9, 10, 12, 15]
def tb_c_dayAt : List RT := [tq_al 0, tq_getf 0 0, tq_il 1, tq_call m_c_numberIn 2 1 1, tq_il 2, tq_i2l, tq_ic 7, tq_call s_c_numberOn 3 0 1, tq_iret 1]
def m_c_dayAt : RM := rMeth tb_c_dayAt 400 3
abbrev rm_c_dayAt : Room := { frames := 7, cells := 1, slots := 12, locals := 111 }
set_option maxHeartbeats 4000000 in
set_option maxRecDepth 20000 in
theorem ok_c_dayAt : rMet y_c_dayAt (Cond.code y_c_dayAt prog_1_method_10_code 3 (some .int) :: rT) rm_c_dayAt 1 m_c_dayAt := by
  refine rMeth_ok (ps := ps_c_dayAt) (tab := tb_c_dayAt) (by decide +kernel) rfl rfl rfl rfl ?_
  refine rcons (ro_aload_n (k := 0) rfl (by decide +kernel) rfl) ?_
  refine rcons (ro_getf (C := rN0) (T := rF0) (N := 7) (k := 0) (by decide +kernel) rfl (rU0c _) (by decide) (List.mem_cons_of_mem _ q_43) rfl) ?_
  refine rcons (ro_iload_n (k := 1) rfl (by decide +kernel) rfl) ?_
  refine rcons (ro_callS ok_c_numberIn (by decide +kernel) rfl (fun s args ht => va_cwS 2 ht (rgoodS (fun w h => List.mem_cons_of_mem _ h) q_498 q_499 q_13 q_500) rfl rfl rfl hy_c_numberIn ⟨Nat.le_of_ble_eq_true rfl, Nat.le_of_ble_eq_true rfl⟩) rfl) ?_
  refine rcons (ro_iload_n (k := 2) rfl (by decide +kernel) rfl) ?_
  refine rcons (ro_i2l (by decide +kernel) rfl) ?_
  refine rcons (ro_bipush (n := 7) (by decide +kernel) rfl rfl) ?_
  refine rcons (ro_callS okS_c_numberOn (by decide +kernel) rfl (fun s args ht => va_cwS 3 ht (rgoodS (fun w h => List.mem_cons_of_mem _ h) q_445 q_446 q_13 q_447) rfl rfl rfl hy_c_numberOn ⟨Nat.le_of_ble_eq_true rfl, Nat.le_of_ble_eq_true rfl⟩) rfl) ?_
  refine rcons (ro_iret (by decide +kernel)) ?_
  exact rnil
def ps_c_dayOn : List Nat := [0, 1, 2, 5, 6, 7, 8, 9, 12, 15]
def tb_c_dayOn : List RT := [tq_al 0, tq_al 0, tq_getf 0 0, tq_il 1, tq_al 0, tq_il 1, tq_il 2, tq_call (rV 0 m_c_dayAt) 3 1 2, tq_call (rV 0 m_c_become) 4 1 2, tq_iret 2]
def m_c_dayOn : RM := rMeth tb_c_dayOn 400 3
abbrev rm_c_dayOn : Room := { frames := 8, cells := 2, slots := 24, locals := 135 }
set_option maxHeartbeats 4000000 in
set_option maxRecDepth 20000 in
theorem ok_c_dayOn : rMet y_c_dayOn (Cond.code y_c_dayOn prog_1_method_6_code 3 (some .int) :: rT) rm_c_dayOn 2 m_c_dayOn := by
  refine rMeth_ok (ps := ps_c_dayOn) (tab := tb_c_dayOn) (by decide +kernel) rfl rfl rfl rfl ?_
  refine rcons (ro_aload_n (k := 0) rfl (by decide +kernel) rfl) ?_
  refine rcons (ro_aload_n (k := 0) rfl (by decide +kernel) rfl) ?_
  refine rcons (ro_getf (C := rN0) (T := rF0) (N := 7) (k := 0) (by decide +kernel) rfl (rU0c _) (by decide) (List.mem_cons_of_mem _ q_43) rfl) ?_
  refine rcons (ro_iload_n (k := 1) rfl (by decide +kernel) rfl) ?_
  refine rcons (ro_aload_n (k := 0) rfl (by decide +kernel) rfl) ?_
  refine rcons (ro_iload_n (k := 1) rfl (by decide +kernel) rfl) ?_
  refine rcons (ro_iload_n (k := 2) rfl (by decide +kernel) rfl) ?_
  refine rcons (ro_callV (C := rN0) (T := rF0) (N := 7) rfl ok_c_dayAt (by decide +kernel) rfl (fun s args ht => cwV (C := rN0) 2 ht (rgoodV (C := rN0) (fun w h => List.mem_cons_of_mem _ h) q_637 q_638 q_639 q_13 q_640) rfl rfl rfl hv_c_dayAt ⟨Nat.le_of_ble_eq_true rfl, Nat.le_of_ble_eq_true rfl⟩) rfl) ?_
  refine rcons (ro_callV (C := rN0) (T := rF0) (N := 7) rfl ok_c_become (by decide +kernel) rfl (fun s args ht => cwV (C := rN0) 3 ht (rgoodV (C := rN0) (fun w h => List.mem_cons_of_mem _ h) q_602 q_604 q_4 q_13 q_605) rfl rfl rfl hv_c_become ⟨Nat.le_of_ble_eq_true rfl, Nat.le_of_ble_eq_true rfl⟩) rfl) ?_
  refine rcons (ro_iret (by decide +kernel)) ?_
  exact rnil
def ps_c_numberBack : List Nat := [0, 1, 2, 3, 6, 7, 8, 9, 12]
def tb_c_numberBack : List RT := [tq_il 0, tq_ll 1, tq_il 3, tq_call s_c_rest 2 0 0, tq_i1 (fun x => -x), tq_i2l, tq_il 3, tq_call s_c_numberOn 3 0 0, tq_iret 0]
def m_c_numberBack : RM := rMeth tb_c_numberBack 400 4
abbrev rm_c_numberBack : Room := { frames := 3, cells := 0, slots := 0, locals := 70 }
set_option maxHeartbeats 4000000 in
set_option maxRecDepth 20000 in
theorem ok_c_numberBack : rMet y_c_numberBack (Cond.code y_c_numberBack prog_1_method_72_code 4 (some .int) :: rT) rm_c_numberBack 0 m_c_numberBack := by
  refine rMeth_ok (ps := ps_c_numberBack) (tab := tb_c_numberBack) (by decide +kernel) rfl rfl rfl rfl ?_
  refine rcons (ro_iload_n (k := 0) rfl (by decide +kernel) rfl) ?_
  refine rcons (ro_lload_n (k := 1) rfl (by decide +kernel) rfl) ?_
  refine rcons (ro_iload_n (k := 3) rfl (by decide +kernel) rfl) ?_
  refine rcons (ro_callS okS_c_rest (by decide +kernel) rfl (fun s args ht => va_cwS 2 ht (rgoodS (fun w h => List.mem_cons_of_mem _ h) q_451 q_452 q_13 q_453) rfl rfl rfl hy_c_rest ⟨Nat.le_of_ble_eq_true rfl, Nat.le_of_ble_eq_true rfl⟩) rfl) ?_
  refine rcons (ro_ineg (by decide +kernel) rfl) ?_
  refine rcons (ro_i2l (by decide +kernel) rfl) ?_
  refine rcons (ro_iload_n (k := 3) rfl (by decide +kernel) rfl) ?_
  refine rcons (ro_callS okS_c_numberOn (by decide +kernel) rfl (fun s args ht => va_cwS 3 ht (rgoodS (fun w h => List.mem_cons_of_mem _ h) q_445 q_446 q_13 q_447) rfl rfl rfl hy_c_numberOn ⟨Nat.le_of_ble_eq_true rfl, Nat.le_of_ble_eq_true rfl⟩) rfl) ?_
  refine rcons (ro_iret (by decide +kernel)) ?_
  exact rnil
def s_c_numberBack : RM := fun as σ Q => match as with
  | [.inl n, .inr (.inl x), .inl y] => rd (n.1 && x.1 && y.1) (dM n.2 && dR y.2) (Q (.inl (some (rI (n.1 && x.1 && y.1) (opB n.2 x.2 y.2)))) σ)
  | _ => False
set_option maxHeartbeats 4000000 in
set_option maxRecDepth 20000 in
theorem okS_c_numberBack : rMet y_c_numberBack (Cond.code y_c_numberBack prog_1_method_72_code 4 (some .int) :: rT) rm_c_numberBack 0 s_c_numberBack := by
  refine rMet_val ok_c_numberBack (fun as σ Q h => ?_)
  unfold s_c_numberBack at h
  split at h
  · next n x y =>
    obtain ⟨hd, h⟩ := rd_use h
    have hd2 := hd
    rw [Bool.and_eq_true] at hd2
    refine ⟨[rI false n.2, rL false x.2, rI false y.2], some (rI false (opB n.2 x.2 y.2)), some (rI (n.1 && x.1 && y.1) (opB n.2 x.2 y.2)), fun _ => rfl, ?_, fun _ => rfl, h⟩
    exact And.intro (dR3_of hd2.2) (And.intro hd (And.intro (rvI (back_val hd2.2)) rfl))
  · exact h.elim
def ps_c_dayAhead : List Nat := [0, 1, 4, 5, 8, 9, 10, 12, 15]
def tb_c_dayAhead : List RT := [tq_al 0, tq_getf 0 0, tq_il 1, tq_call m_c_numberIn 2 1 1, tq_il 2, tq_i2l, tq_ic 7, tq_call s_c_numberBack 3 0 1, tq_iret 1]
def m_c_dayAhead : RM := rMeth tb_c_dayAhead 400 3
abbrev rm_c_dayAhead : Room := { frames := 7, cells := 1, slots := 12, locals := 111 }
set_option maxHeartbeats 4000000 in
set_option maxRecDepth 20000 in
theorem ok_c_dayAhead : rMet y_c_dayAhead (Cond.code y_c_dayAhead prog_1_method_11_code 3 (some .int) :: rT) rm_c_dayAhead 1 m_c_dayAhead := by
  refine rMeth_ok (ps := ps_c_dayAhead) (tab := tb_c_dayAhead) (by decide +kernel) rfl rfl rfl rfl ?_
  refine rcons (ro_aload_n (k := 0) rfl (by decide +kernel) rfl) ?_
  refine rcons (ro_getf (C := rN0) (T := rF0) (N := 7) (k := 0) (by decide +kernel) rfl (rU0c _) (by decide) (List.mem_cons_of_mem _ q_43) rfl) ?_
  refine rcons (ro_iload_n (k := 1) rfl (by decide +kernel) rfl) ?_
  refine rcons (ro_callS ok_c_numberIn (by decide +kernel) rfl (fun s args ht => va_cwS 2 ht (rgoodS (fun w h => List.mem_cons_of_mem _ h) q_498 q_499 q_13 q_500) rfl rfl rfl hy_c_numberIn ⟨Nat.le_of_ble_eq_true rfl, Nat.le_of_ble_eq_true rfl⟩) rfl) ?_
  refine rcons (ro_iload_n (k := 2) rfl (by decide +kernel) rfl) ?_
  refine rcons (ro_i2l (by decide +kernel) rfl) ?_
  refine rcons (ro_bipush (n := 7) (by decide +kernel) rfl rfl) ?_
  refine rcons (ro_callS okS_c_numberBack (by decide +kernel) rfl (fun s args ht => va_cwS 3 ht (rgoodS (fun w h => List.mem_cons_of_mem _ h) q_457 q_458 q_13 q_459) rfl rfl rfl hy_c_numberBack ⟨Nat.le_of_ble_eq_true rfl, Nat.le_of_ble_eq_true rfl⟩) rfl) ?_
  refine rcons (ro_iret (by decide +kernel)) ?_
  exact rnil
def ps_c_dayBack : List Nat := [0, 1, 2, 5, 6, 7, 8, 9, 12, 15]
def tb_c_dayBack : List RT := [tq_al 0, tq_al 0, tq_getf 0 0, tq_il 1, tq_al 0, tq_il 1, tq_il 2, tq_call (rV 0 m_c_dayAhead) 3 1 2, tq_call (rV 0 m_c_become) 4 1 2, tq_iret 2]
def m_c_dayBack : RM := rMeth tb_c_dayBack 400 3
abbrev rm_c_dayBack : Room := { frames := 8, cells := 2, slots := 24, locals := 135 }
set_option maxHeartbeats 4000000 in
set_option maxRecDepth 20000 in
theorem ok_c_dayBack : rMet y_c_dayBack (Cond.code y_c_dayBack prog_1_method_7_code 3 (some .int) :: rT) rm_c_dayBack 2 m_c_dayBack := by
  refine rMeth_ok (ps := ps_c_dayBack) (tab := tb_c_dayBack) (by decide +kernel) rfl rfl rfl rfl ?_
  refine rcons (ro_aload_n (k := 0) rfl (by decide +kernel) rfl) ?_
  refine rcons (ro_aload_n (k := 0) rfl (by decide +kernel) rfl) ?_
  refine rcons (ro_getf (C := rN0) (T := rF0) (N := 7) (k := 0) (by decide +kernel) rfl (rU0c _) (by decide) (List.mem_cons_of_mem _ q_43) rfl) ?_
  refine rcons (ro_iload_n (k := 1) rfl (by decide +kernel) rfl) ?_
  refine rcons (ro_aload_n (k := 0) rfl (by decide +kernel) rfl) ?_
  refine rcons (ro_iload_n (k := 1) rfl (by decide +kernel) rfl) ?_
  refine rcons (ro_iload_n (k := 2) rfl (by decide +kernel) rfl) ?_
  refine rcons (ro_callV (C := rN0) (T := rF0) (N := 7) rfl ok_c_dayAhead (by decide +kernel) rfl (fun s args ht => cwV (C := rN0) 2 ht (rgoodV (C := rN0) (fun w h => List.mem_cons_of_mem _ h) q_648 q_649 q_650 q_13 q_651) rfl rfl rfl hv_c_dayAhead ⟨Nat.le_of_ble_eq_true rfl, Nat.le_of_ble_eq_true rfl⟩) rfl) ?_
  refine rcons (ro_callV (C := rN0) (T := rF0) (N := 7) rfl ok_c_become (by decide +kernel) rfl (fun s args ht => cwV (C := rN0) 3 ht (rgoodV (C := rN0) (fun w h => List.mem_cons_of_mem _ h) q_602 q_604 q_4 q_13 q_605) rfl rfl rfl hv_c_become ⟨Nat.le_of_ble_eq_true rfl, Nat.le_of_ble_eq_true rfl⟩) rfl) ?_
  refine rcons (ro_iret (by decide +kernel)) ?_
  exact rnil
def ps_c_amount : List Nat := [0, 1, 2, 4, 5, 6, 7, 10, 11, 12]
def tb_c_amount : List RT := [tq_il 0, tq_i2l, tq_ic 32, tq_lshl, tq_il 1, tq_i2l, tq_lc 4294967295, tq_l2 (fun x y => x &&& y), tq_l2 (fun x y => x ||| y), tq_lret 0]
def m_c_amount : RM := rMeth tb_c_amount 400 2
abbrev rm_c_amount : Room := { frames := 0, cells := 0, slots := 0, locals := 0 }
set_option maxHeartbeats 4000000 in
set_option maxRecDepth 20000 in
theorem ok_c_amount : rMet y_c_amount (Cond.code y_c_amount prog_1_method_69_code 2 (some .long) :: rT) rm_c_amount 0 m_c_amount := by
  refine rMeth_ok (ps := ps_c_amount) (tab := tb_c_amount) (by decide +kernel) rfl rfl rfl rfl ?_
  refine rcons (ro_iload_n (k := 0) rfl (by decide +kernel) rfl) ?_
  refine rcons (ro_i2l (by decide +kernel) rfl) ?_
  refine rcons (ro_bipush (n := 32) (by decide +kernel) rfl rfl) ?_
  refine rcons (ro_lshl (by decide +kernel) rfl) ?_
  refine rcons (ro_iload_n (k := 1) rfl (by decide +kernel) rfl) ?_
  refine rcons (ro_i2l (by decide +kernel) rfl) ?_
  refine rcons (ro_ldc2 (by decide +kernel) (List.mem_cons_of_mem _ q_666) rfl) ?_
  refine rcons (ro_land (by decide +kernel) rfl) ?_
  refine rcons (ro_lor (by decide +kernel) rfl) ?_
  refine rcons (ro_lret (by decide +kernel)) ?_
  exact rnil
def ps_c_dayAtFar : List Nat := [0, 1, 4, 5, 8, 10, 11, 12, 15, 17, 19, 22, 24, 26, 28, 31, 34, 36, 38, 40, 43]
def tb_c_dayAtFar : List RT := [tq_al 0, tq_getf 0 0, tq_il 1, tq_call m_c_numberIn 2 1 1, tq_is 8 5, tq_il 2, tq_il 3, tq_call m_c_amount 2 0 1, tq_ls 8 6, tq_il 4, tq_if1 (fun x => decide (x = 0)) 16, tq_il 5, tq_ll 6, tq_ic 7, tq_call s_c_numberBack 3 0 1, tq_go 20, tq_il 5, tq_ll 6, tq_ic 7, tq_call s_c_numberOn 3 0 1, tq_iret 1]
def m_c_dayAtFar : RM := rMeth tb_c_dayAtFar 400 8
abbrev rm_c_dayAtFar : Room := { frames := 7, cells := 1, slots := 12, locals := 111 }
set_option maxHeartbeats 4000000 in
set_option maxRecDepth 20000 in
theorem ok_c_dayAtFar : rMet y_c_dayAtFar (Cond.code y_c_dayAtFar prog_1_method_12_code 8 (some .int) :: rT) rm_c_dayAtFar 1 m_c_dayAtFar := by
  refine rMeth_ok (ps := ps_c_dayAtFar) (tab := tb_c_dayAtFar) (by decide +kernel) rfl rfl rfl rfl ?_
  refine rcons (ro_aload_n (k := 0) rfl (by decide +kernel) rfl) ?_
  refine rcons (ro_getf (C := rN0) (T := rF0) (N := 7) (k := 0) (by decide +kernel) rfl (rU0c _) (by decide) (List.mem_cons_of_mem _ q_43) rfl) ?_
  refine rcons (ro_iload_n (k := 1) rfl (by decide +kernel) rfl) ?_
  refine rcons (ro_callS ok_c_numberIn (by decide +kernel) rfl (fun s args ht => va_cwS 2 ht (rgoodS (fun w h => List.mem_cons_of_mem _ h) q_498 q_499 q_13 q_500) rfl rfl rfl hy_c_numberIn ⟨Nat.le_of_ble_eq_true rfl, Nat.le_of_ble_eq_true rfl⟩) rfl) ?_
  refine rcons (ro_istore (by decide +kernel) rfl) ?_
  refine rcons (ro_iload_n (k := 2) rfl (by decide +kernel) rfl) ?_
  refine rcons (ro_iload_n (k := 3) rfl (by decide +kernel) rfl) ?_
  refine rcons (ro_callS ok_c_amount (by decide +kernel) rfl (fun s args ht => va_cwS 2 ht (rgoodS (fun w h => List.mem_cons_of_mem _ h) q_663 q_664 q_13 q_665) rfl rfl rfl hy_c_amount ⟨Nat.le_of_ble_eq_true rfl, Nat.le_of_ble_eq_true rfl⟩) rfl) ?_
  refine rcons (ro_lstore (by decide +kernel) rfl) ?_
  refine rcons (ro_iload (by decide +kernel) rfl) ?_
  refine rcons (ro_if_eq (off := 15) (by decide +kernel) rfl rfl) ?_
  refine rcons (ro_iload (by decide +kernel) rfl) ?_
  refine rcons (ro_lload (by decide +kernel) rfl) ?_
  refine rcons (ro_bipush (n := 7) (by decide +kernel) rfl rfl) ?_
  refine rcons (ro_callS okS_c_numberBack (by decide +kernel) rfl (fun s args ht => va_cwS 3 ht (rgoodS (fun w h => List.mem_cons_of_mem _ h) q_457 q_458 q_13 q_459) rfl rfl rfl hy_c_numberBack ⟨Nat.le_of_ble_eq_true rfl, Nat.le_of_ble_eq_true rfl⟩) rfl) ?_
  refine rcons (ro_goto (off := 12) (by decide +kernel) rfl) ?_
  refine rcons (ro_iload (by decide +kernel) rfl) ?_
  refine rcons (ro_lload (by decide +kernel) rfl) ?_
  refine rcons (ro_bipush (n := 7) (by decide +kernel) rfl rfl) ?_
  refine rcons (ro_callS okS_c_numberOn (by decide +kernel) rfl (fun s args ht => va_cwS 3 ht (rgoodS (fun w h => List.mem_cons_of_mem _ h) q_445 q_446 q_13 q_447) rfl rfl rfl hy_c_numberOn ⟨Nat.le_of_ble_eq_true rfl, Nat.le_of_ble_eq_true rfl⟩) rfl) ?_
  refine rcons (ro_iret (by decide +kernel)) ?_
  exact rnil
def ps_c_dayOnFar : List Nat := [0, 1, 2, 5, 6, 7, 8, 9, 10, 11, 14, 17]
def tb_c_dayOnFar : List RT := [tq_al 0, tq_al 0, tq_getf 0 0, tq_il 1, tq_al 0, tq_il 1, tq_il 2, tq_il 3, tq_ic 0, tq_call (rV 0 m_c_dayAtFar) 5 1 2, tq_call (rV 0 m_c_become) 4 1 2, tq_iret 2]
def m_c_dayOnFar : RM := rMeth tb_c_dayOnFar 400 4
abbrev rm_c_dayOnFar : Room := { frames := 8, cells := 2, slots := 24, locals := 138 }
set_option maxHeartbeats 4000000 in
set_option maxRecDepth 20000 in
theorem ok_c_dayOnFar : rMet y_c_dayOnFar (Cond.code y_c_dayOnFar prog_1_method_8_code 4 (some .int) :: rT) rm_c_dayOnFar 2 m_c_dayOnFar := by
  refine rMeth_ok (ps := ps_c_dayOnFar) (tab := tb_c_dayOnFar) (by decide +kernel) rfl rfl rfl rfl ?_
  refine rcons (ro_aload_n (k := 0) rfl (by decide +kernel) rfl) ?_
  refine rcons (ro_aload_n (k := 0) rfl (by decide +kernel) rfl) ?_
  refine rcons (ro_getf (C := rN0) (T := rF0) (N := 7) (k := 0) (by decide +kernel) rfl (rU0c _) (by decide) (List.mem_cons_of_mem _ q_43) rfl) ?_
  refine rcons (ro_iload_n (k := 1) rfl (by decide +kernel) rfl) ?_
  refine rcons (ro_aload_n (k := 0) rfl (by decide +kernel) rfl) ?_
  refine rcons (ro_iload_n (k := 1) rfl (by decide +kernel) rfl) ?_
  refine rcons (ro_iload_n (k := 2) rfl (by decide +kernel) rfl) ?_
  refine rcons (ro_iload_n (k := 3) rfl (by decide +kernel) rfl) ?_
  refine rcons (ro_iconst (n := 0) (by decide +kernel) rfl rfl) ?_
  refine rcons (ro_callV (C := rN0) (T := rF0) (N := 7) rfl ok_c_dayAtFar (by decide +kernel) rfl (fun s args ht => cwV (C := rN0) 4 ht (rgoodV (C := rN0) (fun w h => List.mem_cons_of_mem _ h) q_659 q_660 q_661 q_13 q_662) rfl rfl rfl hv_c_dayAtFar ⟨Nat.le_of_ble_eq_true rfl, Nat.le_of_ble_eq_true rfl⟩) rfl) ?_
  refine rcons (ro_callV (C := rN0) (T := rF0) (N := 7) rfl ok_c_become (by decide +kernel) rfl (fun s args ht => cwV (C := rN0) 3 ht (rgoodV (C := rN0) (fun w h => List.mem_cons_of_mem _ h) q_602 q_604 q_4 q_13 q_605) rfl rfl rfl hv_c_become ⟨Nat.le_of_ble_eq_true rfl, Nat.le_of_ble_eq_true rfl⟩) rfl) ?_
  refine rcons (ro_iret (by decide +kernel)) ?_
  exact rnil
def ps_c_dayBackFar : List Nat := [0, 1, 2, 5, 6, 7, 8, 9, 10, 11, 14, 17]
def tb_c_dayBackFar : List RT := [tq_al 0, tq_al 0, tq_getf 0 0, tq_il 1, tq_al 0, tq_il 1, tq_il 2, tq_il 3, tq_ic 1, tq_call (rV 0 m_c_dayAtFar) 5 1 2, tq_call (rV 0 m_c_become) 4 1 2, tq_iret 2]
def m_c_dayBackFar : RM := rMeth tb_c_dayBackFar 400 4
abbrev rm_c_dayBackFar : Room := { frames := 8, cells := 2, slots := 24, locals := 138 }
set_option maxHeartbeats 4000000 in
set_option maxRecDepth 20000 in
theorem ok_c_dayBackFar : rMet y_c_dayBackFar (Cond.code y_c_dayBackFar prog_1_method_9_code 4 (some .int) :: rT) rm_c_dayBackFar 2 m_c_dayBackFar := by
  refine rMeth_ok (ps := ps_c_dayBackFar) (tab := tb_c_dayBackFar) (by decide +kernel) rfl rfl rfl rfl ?_
  refine rcons (ro_aload_n (k := 0) rfl (by decide +kernel) rfl) ?_
  refine rcons (ro_aload_n (k := 0) rfl (by decide +kernel) rfl) ?_
  refine rcons (ro_getf (C := rN0) (T := rF0) (N := 7) (k := 0) (by decide +kernel) rfl (rU0c _) (by decide) (List.mem_cons_of_mem _ q_43) rfl) ?_
  refine rcons (ro_iload_n (k := 1) rfl (by decide +kernel) rfl) ?_
  refine rcons (ro_aload_n (k := 0) rfl (by decide +kernel) rfl) ?_
  refine rcons (ro_iload_n (k := 1) rfl (by decide +kernel) rfl) ?_
  refine rcons (ro_iload_n (k := 2) rfl (by decide +kernel) rfl) ?_
  refine rcons (ro_iload_n (k := 3) rfl (by decide +kernel) rfl) ?_
  refine rcons (ro_iconst (n := 1) (by decide +kernel) rfl rfl) ?_
  refine rcons (ro_callV (C := rN0) (T := rF0) (N := 7) rfl ok_c_dayAtFar (by decide +kernel) rfl (fun s args ht => cwV (C := rN0) 4 ht (rgoodV (C := rN0) (fun w h => List.mem_cons_of_mem _ h) q_659 q_660 q_661 q_13 q_662) rfl rfl rfl hv_c_dayAtFar ⟨Nat.le_of_ble_eq_true rfl, Nat.le_of_ble_eq_true rfl⟩) rfl) ?_
  refine rcons (ro_callV (C := rN0) (T := rF0) (N := 7) rfl ok_c_become (by decide +kernel) rfl (fun s args ht => cwV (C := rN0) 3 ht (rgoodV (C := rN0) (fun w h => List.mem_cons_of_mem _ h) q_602 q_604 q_4 q_13 q_605) rfl rfl rfl hv_c_become ⟨Nat.le_of_ble_eq_true rfl, Nat.le_of_ble_eq_true rfl⟩) rfl) ?_
  refine rcons (ro_iret (by decide +kernel)) ?_
  exact rnil
def ps_c_dayTwice : List Nat := [0, 1, 2, 3, 6, 7, 8, 10, 13]
def tb_c_dayTwice : List RT := [tq_al 0, tq_il 1, tq_il 2, tq_call (rV 0 m_c_dayAt) 3 1 1, tq_il 3, tq_i2l, tq_ic 7, tq_call s_c_numberOn 3 0 1, tq_iret 1]
def m_c_dayTwice : RM := rMeth tb_c_dayTwice 400 4
abbrev rm_c_dayTwice : Room := { frames := 8, cells := 1, slots := 12, locals := 133 }
set_option maxHeartbeats 4000000 in
set_option maxRecDepth 20000 in
theorem ok_c_dayTwice : rMet y_c_dayTwice (Cond.code y_c_dayTwice prog_1_method_13_code 4 (some .int) :: rT) rm_c_dayTwice 1 m_c_dayTwice := by
  refine rMeth_ok (ps := ps_c_dayTwice) (tab := tb_c_dayTwice) (by decide +kernel) rfl rfl rfl rfl ?_
  refine rcons (ro_aload_n (k := 0) rfl (by decide +kernel) rfl) ?_
  refine rcons (ro_iload_n (k := 1) rfl (by decide +kernel) rfl) ?_
  refine rcons (ro_iload_n (k := 2) rfl (by decide +kernel) rfl) ?_
  refine rcons (ro_callV (C := rN0) (T := rF0) (N := 7) rfl ok_c_dayAt (by decide +kernel) rfl (fun s args ht => cwV (C := rN0) 2 ht (rgoodV (C := rN0) (fun w h => List.mem_cons_of_mem _ h) q_637 q_638 q_639 q_13 q_640) rfl rfl rfl hv_c_dayAt ⟨Nat.le_of_ble_eq_true rfl, Nat.le_of_ble_eq_true rfl⟩) rfl) ?_
  refine rcons (ro_iload_n (k := 3) rfl (by decide +kernel) rfl) ?_
  refine rcons (ro_i2l (by decide +kernel) rfl) ?_
  refine rcons (ro_bipush (n := 7) (by decide +kernel) rfl rfl) ?_
  refine rcons (ro_callS okS_c_numberOn (by decide +kernel) rfl (fun s args ht => va_cwS 3 ht (rgoodS (fun w h => List.mem_cons_of_mem _ h) q_445 q_446 q_13 q_447) rfl rfl rfl hy_c_numberOn ⟨Nat.le_of_ble_eq_true rfl, Nat.le_of_ble_eq_true rfl⟩) rfl) ?_
  refine rcons (ro_iret (by decide +kernel)) ?_
  exact rnil
def ps_c_copy : List Nat := [0, 1, 2, 3, 4, 5, 8, 11]
def tb_c_copy : List RT := [tq_al 0, tq_al 1, tq_il 2, tq_al 1, tq_il 3, tq_call m_c_numberIn 2 1 2, tq_call (rV 0 m_c_become) 4 1 2, tq_iret 2]
def m_c_copy : RM := rMeth tb_c_copy 400 4
abbrev rm_c_copy : Room := { frames := 8, cells := 2, slots := 24, locals := 135 }
set_option maxHeartbeats 4000000 in
set_option maxRecDepth 20000 in
theorem ok_c_copy : rMet y_c_copy (Cond.code y_c_copy prog_1_method_61_code 4 (some .int) :: rT) rm_c_copy 2 m_c_copy := by
  refine rMeth_ok (ps := ps_c_copy) (tab := tb_c_copy) (by decide +kernel) rfl rfl rfl rfl ?_
  refine rcons (ro_aload_n (k := 0) rfl (by decide +kernel) rfl) ?_
  refine rcons (ro_aload_n (k := 1) rfl (by decide +kernel) rfl) ?_
  refine rcons (ro_iload_n (k := 2) rfl (by decide +kernel) rfl) ?_
  refine rcons (ro_aload_n (k := 1) rfl (by decide +kernel) rfl) ?_
  refine rcons (ro_iload_n (k := 3) rfl (by decide +kernel) rfl) ?_
  refine rcons (ro_callS ok_c_numberIn (by decide +kernel) rfl (fun s args ht => va_cwS 2 ht (rgoodS (fun w h => List.mem_cons_of_mem _ h) q_498 q_499 q_13 q_500) rfl rfl rfl hy_c_numberIn ⟨Nat.le_of_ble_eq_true rfl, Nat.le_of_ble_eq_true rfl⟩) rfl) ?_
  refine rcons (ro_callV (C := rN0) (T := rF0) (N := 7) rfl ok_c_become (by decide +kernel) rfl (fun s args ht => cwV (C := rN0) 3 ht (rgoodV (C := rN0) (fun w h => List.mem_cons_of_mem _ h) q_602 q_604 q_4 q_13 q_605) rfl rfl rfl hv_c_become ⟨Nat.le_of_ble_eq_true rfl, Nat.le_of_ble_eq_true rfl⟩) rfl) ?_
  refine rcons (ro_iret (by decide +kernel)) ?_
  exact rnil
def ps_c_dayCopy : List Nat := [0, 1, 2, 5, 6, 7, 10]
def tb_c_dayCopy : List RT := [tq_al 0, tq_al 0, tq_getf 0 0, tq_il 1, tq_il 2, tq_call (rV 0 m_c_copy) 4 2 2, tq_iret 2]
def m_c_dayCopy : RM := rMeth tb_c_dayCopy 400 3
abbrev rm_c_dayCopy : Room := { frames := 9, cells := 2, slots := 24, locals := 158 }
set_option maxHeartbeats 4000000 in
set_option maxRecDepth 20000 in
theorem ok_c_dayCopy : rMet y_c_dayCopy (Cond.code y_c_dayCopy prog_1_method_14_code 3 (some .int) :: rT) rm_c_dayCopy 2 m_c_dayCopy := by
  refine rMeth_ok (ps := ps_c_dayCopy) (tab := tb_c_dayCopy) (by decide +kernel) rfl rfl rfl rfl ?_
  refine rcons (ro_aload_n (k := 0) rfl (by decide +kernel) rfl) ?_
  refine rcons (ro_aload_n (k := 0) rfl (by decide +kernel) rfl) ?_
  refine rcons (ro_getf (C := rN0) (T := rF0) (N := 7) (k := 0) (by decide +kernel) rfl (rU0c _) (by decide) (List.mem_cons_of_mem _ q_43) rfl) ?_
  refine rcons (ro_iload_n (k := 1) rfl (by decide +kernel) rfl) ?_
  refine rcons (ro_iload_n (k := 2) rfl (by decide +kernel) rfl) ?_
  refine rcons (ro_callV (C := rN0) (T := rF0) (N := 7) rfl ok_c_copy (by decide +kernel) rfl (fun s args ht => cwV (C := rN0) 3 ht (rgoodV (C := rN0) (fun w h => List.mem_cons_of_mem _ h) q_700 q_702 q_5 q_13 q_703) rfl rfl rfl hv_c_copy ⟨Nat.le_of_ble_eq_true rfl, Nat.le_of_ble_eq_true rfl⟩) rfl) ?_
  refine rcons (ro_iret (by decide +kernel)) ?_
  exact rnil
def ps_c_swap : List Nat := [0, 1, 2, 5, 7, 8, 9, 12, 14, 15, 16, 18, 21, 22, 23, 24, 26, 29]
def tb_c_swap : List RT := [tq_al 1, tq_il 2, tq_call m_c_numberIn 2 1 4, tq_is 6 4, tq_al 1, tq_il 3, tq_call m_c_numberIn 2 1 4, tq_is 6 5, tq_al 1, tq_il 3, tq_il 4, tq_call m_c_write 3 1 4, tq_al 0, tq_al 1, tq_il 2, tq_il 5, tq_call (rV 0 m_c_become) 4 1 4, tq_iret 4]
def m_c_swap : RM := rMeth tb_c_swap 400 6
abbrev rm_c_swap : Room := { frames := 8, cells := 4, slots := 48, locals := 135 }
set_option maxHeartbeats 4000000 in
set_option maxRecDepth 20000 in
theorem ok_c_swap : rMet y_c_swap (Cond.code y_c_swap prog_1_method_62_code 6 (some .int) :: rT) rm_c_swap 4 m_c_swap := by
  refine rMeth_ok (ps := ps_c_swap) (tab := tb_c_swap) (by decide +kernel) rfl rfl rfl rfl ?_
  refine rcons (ro_aload_n (k := 1) rfl (by decide +kernel) rfl) ?_
  refine rcons (ro_iload_n (k := 2) rfl (by decide +kernel) rfl) ?_
  refine rcons (ro_callS ok_c_numberIn (by decide +kernel) rfl (fun s args ht => va_cwS 2 ht (rgoodS (fun w h => List.mem_cons_of_mem _ h) q_498 q_499 q_13 q_500) rfl rfl rfl hy_c_numberIn ⟨Nat.le_of_ble_eq_true rfl, Nat.le_of_ble_eq_true rfl⟩) rfl) ?_
  refine rcons (ro_istore (by decide +kernel) rfl) ?_
  refine rcons (ro_aload_n (k := 1) rfl (by decide +kernel) rfl) ?_
  refine rcons (ro_iload_n (k := 3) rfl (by decide +kernel) rfl) ?_
  refine rcons (ro_callS ok_c_numberIn (by decide +kernel) rfl (fun s args ht => va_cwS 2 ht (rgoodS (fun w h => List.mem_cons_of_mem _ h) q_498 q_499 q_13 q_500) rfl rfl rfl hy_c_numberIn ⟨Nat.le_of_ble_eq_true rfl, Nat.le_of_ble_eq_true rfl⟩) rfl) ?_
  refine rcons (ro_istore (by decide +kernel) rfl) ?_
  refine rcons (ro_aload_n (k := 1) rfl (by decide +kernel) rfl) ?_
  refine rcons (ro_iload_n (k := 3) rfl (by decide +kernel) rfl) ?_
  refine rcons (ro_iload (by decide +kernel) rfl) ?_
  refine rcons (ro_callS ok_c_write (by decide +kernel) rfl (fun s args ht => va_cwS 3 ht (rgoodS (fun w h => List.mem_cons_of_mem _ h) q_606 q_607 q_13 q_608) rfl rfl rfl hy_c_write ⟨Nat.le_of_ble_eq_true rfl, Nat.le_of_ble_eq_true rfl⟩) rfl) ?_
  refine rcons (ro_aload_n (k := 0) rfl (by decide +kernel) rfl) ?_
  refine rcons (ro_aload_n (k := 1) rfl (by decide +kernel) rfl) ?_
  refine rcons (ro_iload_n (k := 2) rfl (by decide +kernel) rfl) ?_
  refine rcons (ro_iload (by decide +kernel) rfl) ?_
  refine rcons (ro_callV (C := rN0) (T := rF0) (N := 7) rfl ok_c_become (by decide +kernel) rfl (fun s args ht => cwV (C := rN0) 3 ht (rgoodV (C := rN0) (fun w h => List.mem_cons_of_mem _ h) q_602 q_604 q_4 q_13 q_605) rfl rfl rfl hv_c_become ⟨Nat.le_of_ble_eq_true rfl, Nat.le_of_ble_eq_true rfl⟩) rfl) ?_
  refine rcons (ro_iret (by decide +kernel)) ?_
  exact rnil
def ps_c_daySwap : List Nat := [0, 1, 2, 5, 6, 7, 10]
def tb_c_daySwap : List RT := [tq_al 0, tq_al 0, tq_getf 0 0, tq_il 1, tq_il 2, tq_call (rV 0 m_c_swap) 4 4 4, tq_iret 4]
def m_c_daySwap : RM := rMeth tb_c_daySwap 400 3
abbrev rm_c_daySwap : Room := { frames := 9, cells := 4, slots := 48, locals := 160 }
set_option maxHeartbeats 4000000 in
set_option maxRecDepth 20000 in
theorem ok_c_daySwap : rMet y_c_daySwap (Cond.code y_c_daySwap prog_1_method_15_code 3 (some .int) :: rT) rm_c_daySwap 4 m_c_daySwap := by
  refine rMeth_ok (ps := ps_c_daySwap) (tab := tb_c_daySwap) (by decide +kernel) rfl rfl rfl rfl ?_
  refine rcons (ro_aload_n (k := 0) rfl (by decide +kernel) rfl) ?_
  refine rcons (ro_aload_n (k := 0) rfl (by decide +kernel) rfl) ?_
  refine rcons (ro_getf (C := rN0) (T := rF0) (N := 7) (k := 0) (by decide +kernel) rfl (rU0c _) (by decide) (List.mem_cons_of_mem _ q_43) rfl) ?_
  refine rcons (ro_iload_n (k := 1) rfl (by decide +kernel) rfl) ?_
  refine rcons (ro_iload_n (k := 2) rfl (by decide +kernel) rfl) ?_
  refine rcons (ro_callV (C := rN0) (T := rF0) (N := 7) rfl ok_c_swap (by decide +kernel) rfl (fun s args ht => cwV (C := rN0) 3 ht (rgoodV (C := rN0) (fun w h => List.mem_cons_of_mem _ h) q_711 q_713 q_6 q_13 q_714) rfl rfl rfl hv_c_swap ⟨Nat.le_of_ble_eq_true rfl, Nat.le_of_ble_eq_true rfl⟩) rfl) ?_
  refine rcons (ro_iret (by decide +kernel)) ?_
  exact rnil
def ps_c_order : List Nat := [0, 1, 2, 5, 6, 9, 10, 11, 14, 15, 18, 19]
def tb_c_order : List RT := [tq_il 0, tq_il 1, tq_if2 (fun x y => decide (y ≤ x)) 5, tq_ic (-1), tq_go 11, tq_il 0, tq_il 1, tq_s2 (fun x y => decide (x ≤ y)) 1 0 11, tq_ic 1, tq_go 11, tq_ic 0, tq_iret 0]
def m_c_order : RM := rMeth tb_c_order 400 2
abbrev rm_c_order : Room := { frames := 0, cells := 0, slots := 0, locals := 0 }
set_option maxHeartbeats 4000000 in
set_option maxRecDepth 20000 in
theorem ok_c_order : rMet y_c_order (Cond.code y_c_order prog_1_method_65_code 2 (some .int) :: rT) rm_c_order 0 m_c_order := by
  refine rMeth_ok (ps := ps_c_order) (tab := tb_c_order) (by decide +kernel) rfl rfl rfl rfl ?_
  refine rcons (ro_iload_n (k := 0) rfl (by decide +kernel) rfl) ?_
  refine rcons (ro_iload_n (k := 1) rfl (by decide +kernel) rfl) ?_
  refine rcons (ro_icmp_ge (off := 7) (by decide +kernel) rfl rfl) ?_
  refine rcons (ro_iconst (n := (-1)) (by decide +kernel) rfl rfl) ?_
  refine rcons (ro_goto (off := 13) (by decide +kernel) rfl) ?_
  refine rcons (ro_iload_n (k := 0) rfl (by decide +kernel) rfl) ?_
  refine rcons (ro_iload_n (k := 1) rfl (by decide +kernel) rfl) ?_
  refine rcons (ro_s2_le (off := 7) (off2 := 4) (n1 := 1) (n2 := 0) (by decide +kernel) (by decide +kernel) rfl (by decide +kernel) (by decide +kernel) rfl rfl rfl rfl) ?_
  refine rcons (ro_iconst (n := 1) (by decide +kernel) rfl rfl) ?_
  refine rcons (ro_goto (off := 4) (by decide +kernel) rfl) ?_
  refine rcons (ro_iconst (n := 0) (by decide +kernel) rfl rfl) ?_
  refine rcons (ro_iret (by decide +kernel)) ?_
  exact rnil
def s_c_order : RM := fun as σ Q => match as with
  | [.inl a, .inl b] => Q (.inl (some (rI false (ordF a.2 b.2)))) σ
  | _ => False
set_option maxHeartbeats 4000000 in
set_option maxRecDepth 20000 in
theorem okS_c_order : rMet y_c_order (Cond.code y_c_order prog_1_method_65_code 2 (some .int) :: rT) rm_c_order 0 s_c_order := by
  refine rMet_int ok_c_order (fun as σ Q h => ?_)
  unfold s_c_order at h
  split at h
  · next a b =>
    refine ⟨[rI false a.2, rI false b.2], ordF a.2 b.2, false, fun _ => rfl, ?_, h⟩
    apply And.intro
    · intro h1
      have h1 := of_decide_eq_true h1
      have h1' : decide (a.2 < b.2) = false := decide_eq_false (Int32.not_lt.mpr h1)
      exact And.intro ⟨false, congrArg (fun z => Sum.inl (some (rI false z))) (ord_2 h1')⟩ rfl
    · intro h1
      have h1' : decide (a.2 < b.2) = true := decide_eq_true (Int32.not_le.mp (of_decide_eq_false h1))
      exact And.intro ⟨true, (by rw [ordF, h1']; rfl)⟩ rfl
  · exact h.elim
def ps_c_dayOrder : List Nat := [0, 1, 4, 5, 8, 9, 12, 13, 16, 19]
def tb_c_dayOrder : List RT := [tq_al 0, tq_getf 0 0, tq_il 1, tq_call m_c_numberIn 2 1 2, tq_al 0, tq_getf 0 0, tq_il 2, tq_call m_c_numberIn 2 1 2, tq_call s_c_order 2 0 2, tq_iret 2]
def m_c_dayOrder : RM := rMeth tb_c_dayOrder 400 3
abbrev rm_c_dayOrder : Room := { frames := 7, cells := 2, slots := 24, locals := 111 }
set_option maxHeartbeats 4000000 in
set_option maxRecDepth 20000 in
theorem ok_c_dayOrder : rMet y_c_dayOrder (Cond.code y_c_dayOrder prog_1_method_16_code 3 (some .int) :: rT) rm_c_dayOrder 2 m_c_dayOrder := by
  refine rMeth_ok (ps := ps_c_dayOrder) (tab := tb_c_dayOrder) (by decide +kernel) rfl rfl rfl rfl ?_
  refine rcons (ro_aload_n (k := 0) rfl (by decide +kernel) rfl) ?_
  refine rcons (ro_getf (C := rN0) (T := rF0) (N := 7) (k := 0) (by decide +kernel) rfl (rU0c _) (by decide) (List.mem_cons_of_mem _ q_43) rfl) ?_
  refine rcons (ro_iload_n (k := 1) rfl (by decide +kernel) rfl) ?_
  refine rcons (ro_callS ok_c_numberIn (by decide +kernel) rfl (fun s args ht => va_cwS 2 ht (rgoodS (fun w h => List.mem_cons_of_mem _ h) q_498 q_499 q_13 q_500) rfl rfl rfl hy_c_numberIn ⟨Nat.le_of_ble_eq_true rfl, Nat.le_of_ble_eq_true rfl⟩) rfl) ?_
  refine rcons (ro_aload_n (k := 0) rfl (by decide +kernel) rfl) ?_
  refine rcons (ro_getf (C := rN0) (T := rF0) (N := 7) (k := 0) (by decide +kernel) rfl (rU0c _) (by decide) (List.mem_cons_of_mem _ q_43) rfl) ?_
  refine rcons (ro_iload_n (k := 2) rfl (by decide +kernel) rfl) ?_
  refine rcons (ro_callS ok_c_numberIn (by decide +kernel) rfl (fun s args ht => va_cwS 2 ht (rgoodS (fun w h => List.mem_cons_of_mem _ h) q_498 q_499 q_13 q_500) rfl rfl rfl hy_c_numberIn ⟨Nat.le_of_ble_eq_true rfl, Nat.le_of_ble_eq_true rfl⟩) rfl) ?_
  refine rcons (ro_callS okS_c_order (by decide +kernel) rfl (fun s args ht => va_cwS 2 ht (rgoodS (fun w h => List.mem_cons_of_mem _ h) q_553 q_554 q_13 q_555) rfl rfl rfl hy_c_order ⟨Nat.le_of_ble_eq_true rfl, Nat.le_of_ble_eq_true rfl⟩) rfl) ?_
  refine rcons (ro_iret (by decide +kernel)) ?_
  exact rnil
def ps_c_isSameDay : List Nat := [0, 1, 4, 5, 8, 9, 12, 13, 16, 19, 20, 23, 24]
def tb_c_isSameDay : List RT := [tq_al 0, tq_getf 0 0, tq_il 1, tq_call m_c_numberIn 2 1 2, tq_al 0, tq_getf 0 0, tq_il 2, tq_call m_c_numberIn 2 1 2, tq_s2 (fun x y => !decide (x = y)) 1 0 12, tq_ic 1, tq_go 12, tq_ic 0, tq_zret 2]
def m_c_isSameDay : RM := rMeth tb_c_isSameDay 400 3
abbrev rm_c_isSameDay : Room := { frames := 7, cells := 2, slots := 24, locals := 111 }
set_option maxHeartbeats 4000000 in
set_option maxRecDepth 20000 in
theorem ok_c_isSameDay : rMet y_c_isSameDay (Cond.code y_c_isSameDay prog_1_method_17_code 3 (some .boolean) :: rT) rm_c_isSameDay 2 m_c_isSameDay := by
  refine rMeth_ok (ps := ps_c_isSameDay) (tab := tb_c_isSameDay) (by decide +kernel) rfl rfl rfl rfl ?_
  refine rcons (ro_aload_n (k := 0) rfl (by decide +kernel) rfl) ?_
  refine rcons (ro_getf (C := rN0) (T := rF0) (N := 7) (k := 0) (by decide +kernel) rfl (rU0c _) (by decide) (List.mem_cons_of_mem _ q_43) rfl) ?_
  refine rcons (ro_iload_n (k := 1) rfl (by decide +kernel) rfl) ?_
  refine rcons (ro_callS ok_c_numberIn (by decide +kernel) rfl (fun s args ht => va_cwS 2 ht (rgoodS (fun w h => List.mem_cons_of_mem _ h) q_498 q_499 q_13 q_500) rfl rfl rfl hy_c_numberIn ⟨Nat.le_of_ble_eq_true rfl, Nat.le_of_ble_eq_true rfl⟩) rfl) ?_
  refine rcons (ro_aload_n (k := 0) rfl (by decide +kernel) rfl) ?_
  refine rcons (ro_getf (C := rN0) (T := rF0) (N := 7) (k := 0) (by decide +kernel) rfl (rU0c _) (by decide) (List.mem_cons_of_mem _ q_43) rfl) ?_
  refine rcons (ro_iload_n (k := 2) rfl (by decide +kernel) rfl) ?_
  refine rcons (ro_callS ok_c_numberIn (by decide +kernel) rfl (fun s args ht => va_cwS 2 ht (rgoodS (fun w h => List.mem_cons_of_mem _ h) q_498 q_499 q_13 q_500) rfl rfl rfl hy_c_numberIn ⟨Nat.le_of_ble_eq_true rfl, Nat.le_of_ble_eq_true rfl⟩) rfl) ?_
  refine rcons (ro_s2_ne (off := 7) (off2 := 4) (n1 := 1) (n2 := 0) (by decide +kernel) (by decide +kernel) rfl (by decide +kernel) (by decide +kernel) rfl rfl rfl rfl) ?_
  refine rcons (ro_iconst (n := 1) (by decide +kernel) rfl rfl) ?_
  refine rcons (ro_goto (off := 4) (by decide +kernel) rfl) ?_
  refine rcons (ro_iconst (n := 0) (by decide +kernel) rfl rfl) ?_
  refine rcons (ro_zret (by decide +kernel)) ?_
  exact rnil
end RKM
