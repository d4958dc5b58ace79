section RKM
def ps_d_monthPlace : List Nat := [0, 1, 2, 5, 6, 9, 12, 13, 16, 17, 20, 21, 22, 23, 24]
def tb_d_monthPlace : List RT := [tq_al 0, tq_il 1, tq_call s_d_isNoCell 1 0 0, tq_ic 1, tq_call (rV 1 m_d_start) 3 0 0, tq_if1 (fun x => decide (x = 0)) 8, tq_ic 0, tq_go 14, tq_al 0, tq_getf 1 2, tq_il 1, tq_iald 0, tq_ic 1, tq_i2 (fun x y => x - y), tq_iret 0]
def m_d_monthPlace : RM := rMeth tb_d_monthPlace 400 2
abbrev rm_d_monthPlace : Room := { frames := 2, cells := 0, slots := 0, locals := 44 }
set_option maxHeartbeats 4000000 in
set_option maxRecDepth 20000 in
theorem ok_d_monthPlace : rMet y_d_monthPlace (Cond.code y_d_monthPlace prog_4_method_33_code 2 (some .int) :: rT) rm_d_monthPlace 0 m_d_monthPlace := by
  refine rMeth_ok (ps := ps_d_monthPlace) (tab := tb_d_monthPlace) (by decide +kernel) rfl rfl rfl rfl ?_
  refine rcons (ro_aload_n (k := 0) rfl (by decide +kernel) rfl) ?_
  refine rcons (ro_iload_n (k := 1) rfl (by decide +kernel) rfl) ?_
  refine rcons (ro_callS okS_d_isNoCell (by decide +kernel) rfl (fun s args ht => va_cwS 1 ht (rgoodS (fun w h => List.mem_cons_of_mem _ h) q_1010 q_1011 q_14 q_1012) rfl rfl rfl hy_d_isNoCell ⟨Nat.le_of_ble_eq_true rfl, Nat.le_of_ble_eq_true rfl⟩) rfl) ?_
  refine rcons (ro_iconst (n := 1) (by decide +kernel) rfl rfl) ?_
  refine rcons (ro_callV (C := rN1) (T := rF1) (N := 7) rfl ok_d_start (by decide +kernel) rfl (fun s args ht => cwV (C := rN1) 2 ht (rgoodV (C := rN1) (fun w h => List.mem_cons_of_mem _ h) q_1013 q_1015 q_8 q_14 q_1016) rfl rfl rfl hv_d_start ⟨Nat.le_of_ble_eq_true rfl, Nat.le_of_ble_eq_true rfl⟩) rfl) ?_
  refine rcons (ro_if_eq (off := 7) (by decide +kernel) rfl rfl) ?_
  refine rcons (ro_iconst (n := 0) (by decide +kernel) rfl rfl) ?_
  refine rcons (ro_goto (off := 11) (by decide +kernel) rfl) ?_
  refine rcons (ro_aload_n (k := 0) rfl (by decide +kernel) rfl) ?_
  refine rcons (ro_getf (C := rN1) (T := rF1) (N := 7) (k := 2) (by decide +kernel) rfl (rU1c _) (by decide) (List.mem_cons_of_mem _ q_986) rfl) ?_
  refine rcons (ro_iload_n (k := 1) rfl (by decide +kernel) rfl) ?_
  refine rcons (ro_iald (by decide +kernel) rfl) ?_
  refine rcons (ro_iconst (n := 1) (by decide +kernel) rfl rfl) ?_
  refine rcons (ro_isub (by decide +kernel) rfl) ?_
  refine rcons (ro_iret (by decide +kernel)) ?_
  exact rnil
def ps_d_monthName : List Nat := [0, 1, 2, 5, 6, 9, 12, 14, 17, 20, 21, 24, 25, 26, 27, 28, 29]
def tb_d_monthName : List RT := [tq_al 0, tq_il 1, tq_call s_d_isNoCell 1 0 0, tq_ic 1, tq_call (rV 1 m_d_start) 3 0 0, tq_if1 (fun x => decide (x = 0)) 8, tq_rc 124, tq_go 16, tq_rc 51, tq_al 0, tq_getf 1 2, tq_il 1, tq_iald 0, tq_ic 1, tq_i2 (fun x y => x - y), tq_aldS 51 12 133, tq_aret 0]
def m_d_monthName : RM := rMeth tb_d_monthName 400 2
abbrev rm_d_monthName : Room := { frames := 2, cells := 0, slots := 0, locals := 44 }
set_option maxHeartbeats 4000000 in
set_option maxRecDepth 20000 in
theorem ok_d_monthName : rMet y_d_monthName (Cond.code y_d_monthName prog_4_method_34_code 2 (some (.object "java/lang/String")) :: rT) rm_d_monthName 0 m_d_monthName := by
  refine rMeth_ok (ps := ps_d_monthName) (tab := tb_d_monthName) (by decide +kernel) rfl rfl rfl rfl ?_
  refine rcons (ro_aload_n (k := 0) rfl (by decide +kernel) rfl) ?_
  refine rcons (ro_iload_n (k := 1) rfl (by decide +kernel) rfl) ?_
  refine rcons (ro_callS okS_d_isNoCell (by decide +kernel) rfl (fun s args ht => va_cwS 1 ht (rgoodS (fun w h => List.mem_cons_of_mem _ h) q_1010 q_1011 q_14 q_1012) rfl rfl rfl hy_d_isNoCell ⟨Nat.le_of_ble_eq_true rfl, Nat.le_of_ble_eq_true rfl⟩) rfl) ?_
  refine rcons (ro_iconst (n := 1) (by decide +kernel) rfl rfl) ?_
  refine rcons (ro_callV (C := rN1) (T := rF1) (N := 7) rfl ok_d_start (by decide +kernel) rfl (fun s args ht => cwV (C := rN1) 2 ht (rgoodV (C := rN1) (fun w h => List.mem_cons_of_mem _ h) q_1013 q_1015 q_8 q_14 q_1016) rfl rfl rfl hv_d_start ⟨Nat.le_of_ble_eq_true rfl, Nat.le_of_ble_eq_true rfl⟩) rfl) ?_
  refine rcons (ro_if_eq (off := 8) (by decide +kernel) rfl rfl) ?_
  refine rcons (ro_ldcS (k := 24) (by decide) rfl (by decide +kernel) rfl) ?_
  refine rcons (ro_goto (off := 15) (by decide +kernel) rfl) ?_
  refine rcons (ro_gets (C := "RingdaysModel") (n := "MONTHS") (d := "[Ljava/lang/String;") rh5 (List.mem_cons_of_mem _ q_1121) (by decide +kernel) rfl) ?_
  refine rcons (ro_aload_n (k := 0) rfl (by decide +kernel) rfl) ?_
  refine rcons (ro_getf (C := rN1) (T := rF1) (N := 7) (k := 2) (by decide +kernel) rfl (rU1c _) (by decide) (List.mem_cons_of_mem _ q_986) rfl) ?_
  refine rcons (ro_iload_n (k := 1) rfl (by decide +kernel) rfl) ?_
  refine rcons (ro_iald (by decide +kernel) rfl) ?_
  refine rcons (ro_iconst (n := 1) (by decide +kernel) rfl rfl) ?_
  refine rcons (ro_isub (by decide +kernel) rfl) ?_
  refine rcons (ro_aldS rh6 (by decide +kernel) rfl) ?_
  refine rcons (ro_aret (by decide +kernel)) ?_
  exact rnil
def ps_d_monthBecomes : List Nat := [0, 1, 4, 5, 6, 7, 8, 9, 12, 13, 14, 17, 18]
def tb_d_monthBecomes : List RT := [tq_al 0, tq_getf 1 2, tq_il 1, tq_il 2, tq_iast 0, tq_al 0, tq_dup, tq_getf 1 5, tq_ic 1, tq_i2 (fun x y => x + y), tq_putf 1 5 0, tq_il 2, tq_iret 0]
def m_d_monthBecomes : RM := rMeth tb_d_monthBecomes 400 3
abbrev rm_d_monthBecomes : Room := { frames := 0, cells := 0, slots := 0, locals := 0 }
set_option maxHeartbeats 4000000 in
set_option maxRecDepth 20000 in
theorem ok_d_monthBecomes : rMet y_d_monthBecomes (Cond.code y_d_monthBecomes prog_4_method_35_code 3 (some .int) :: rT) rm_d_monthBecomes 0 m_d_monthBecomes := by
  refine rMeth_ok (ps := ps_d_monthBecomes) (tab := tb_d_monthBecomes) (by decide +kernel) rfl rfl rfl rfl ?_
  refine rcons (ro_aload_n (k := 0) rfl (by decide +kernel) rfl) ?_
  refine rcons (ro_getf (C := rN1) (T := rF1) (N := 7) (k := 2) (by decide +kernel) rfl (rU1c _) (by decide) (List.mem_cons_of_mem _ q_986) rfl) ?_
  refine rcons (ro_iload_n (k := 1) rfl (by decide +kernel) rfl) ?_
  refine rcons (ro_iload_n (k := 2) rfl (by decide +kernel) rfl) ?_
  refine rcons (ro_iast (by decide +kernel) rfl) ?_
  refine rcons (ro_aload_n (k := 0) rfl (by decide +kernel) rfl) ?_
  refine rcons (ro_dup (by decide +kernel) rfl) ?_
  refine rcons (ro_getf (C := rN1) (T := rF1) (N := 7) (k := 5) (by decide +kernel) rfl (rU1c _) (by decide) (List.mem_cons_of_mem _ q_989) rfl) ?_
  refine rcons (ro_iconst (n := 1) (by decide +kernel) rfl rfl) ?_
  refine rcons (ro_iadd (by decide +kernel) rfl) ?_
  refine rcons (ro_putf (C := rN1) (T := rF1) (N := 7) (k := 5) (Y := rY1) (by decide +kernel) rfl (rU1c _) rY1_ok rD1 (by decide) (List.mem_cons_of_mem _ q_989) rfl (Or.inl ⟨rfl, rfl⟩) rfl) ?_
  refine rcons (ro_iload_n (k := 2) rfl (by decide +kernel) rfl) ?_
  refine rcons (ro_iret (by decide +kernel)) ?_
  exact rnil
def ps_d_monthOn : List Nat := [0, 1, 2, 5, 6, 9, 12, 13, 16, 17, 18, 19, 22, 23, 24, 26, 27, 28, 31, 34]
def tb_d_monthOn : List RT := [tq_al 0, tq_il 1, tq_call s_d_isNoCell 1 0 0, tq_ic 1, tq_call (rV 1 m_d_start) 3 0 0, tq_if1 (fun x => decide (x = 0)) 8, tq_ic 0, tq_go 19, tq_al 0, tq_il 1, tq_al 0, tq_getf 1 2, tq_il 1, tq_iald 0, tq_ic 12, tq_il 2, tq_i2l, tq_call s_d_on 3 0 0, tq_call (rV 1 m_d_monthBecomes) 3 0 0, tq_iret 0]
def m_d_monthOn : RM := rMeth tb_d_monthOn 400 3
abbrev rm_d_monthOn : Room := { frames := 2, cells := 0, slots := 0, locals := 44 }
set_option maxHeartbeats 4000000 in
set_option maxRecDepth 20000 in
theorem ok_d_monthOn : rMet y_d_monthOn (Cond.code y_d_monthOn prog_4_method_36_code 3 (some .int) :: rT) rm_d_monthOn 0 m_d_monthOn := by
  refine rMeth_ok (ps := ps_d_monthOn) (tab := tb_d_monthOn) (by decide +kernel) rfl rfl rfl rfl ?_
  refine rcons (ro_aload_n (k := 0) rfl (by decide +kernel) rfl) ?_
  refine rcons (ro_iload_n (k := 1) rfl (by decide +kernel) rfl) ?_
  refine rcons (ro_callS okS_d_isNoCell (by decide +kernel) rfl (fun s args ht => va_cwS 1 ht (rgoodS (fun w h => List.mem_cons_of_mem _ h) q_1010 q_1011 q_14 q_1012) rfl rfl rfl hy_d_isNoCell ⟨Nat.le_of_ble_eq_true rfl, Nat.le_of_ble_eq_true rfl⟩) rfl) ?_
  refine rcons (ro_iconst (n := 1) (by decide +kernel) rfl rfl) ?_
  refine rcons (ro_callV (C := rN1) (T := rF1) (N := 7) rfl ok_d_start (by decide +kernel) rfl (fun s args ht => cwV (C := rN1) 2 ht (rgoodV (C := rN1) (fun w h => List.mem_cons_of_mem _ h) q_1013 q_1015 q_8 q_14 q_1016) rfl rfl rfl hv_d_start ⟨Nat.le_of_ble_eq_true rfl, Nat.le_of_ble_eq_true rfl⟩) rfl) ?_
  refine rcons (ro_if_eq (off := 7) (by decide +kernel) rfl rfl) ?_
  refine rcons (ro_iconst (n := 0) (by decide +kernel) rfl rfl) ?_
  refine rcons (ro_goto (off := 21) (by decide +kernel) rfl) ?_
  refine rcons (ro_aload_n (k := 0) rfl (by decide +kernel) rfl) ?_
  refine rcons (ro_iload_n (k := 1) rfl (by decide +kernel) rfl) ?_
  refine rcons (ro_aload_n (k := 0) rfl (by decide +kernel) rfl) ?_
  refine rcons (ro_getf (C := rN1) (T := rF1) (N := 7) (k := 2) (by decide +kernel) rfl (rU1c _) (by decide) (List.mem_cons_of_mem _ q_986) rfl) ?_
  refine rcons (ro_iload_n (k := 1) rfl (by decide +kernel) rfl) ?_
  refine rcons (ro_iald (by decide +kernel) rfl) ?_
  refine rcons (ro_bipush (n := 12) (by decide +kernel) rfl rfl) ?_
  refine rcons (ro_iload_n (k := 2) rfl (by decide +kernel) rfl) ?_
  refine rcons (ro_i2l (by decide +kernel) rfl) ?_
  refine rcons (ro_callS okS_d_on (by decide +kernel) rfl (fun s args ht => va_cwS 3 ht (rgoodS (fun w h => List.mem_cons_of_mem _ h) q_1040 q_1041 q_14 q_1042) rfl rfl rfl hy_d_on ⟨Nat.le_of_ble_eq_true rfl, Nat.le_of_ble_eq_true rfl⟩) rfl) ?_
  refine rcons (ro_callV (C := rN1) (T := rF1) (N := 7) rfl ok_d_monthBecomes (by decide +kernel) rfl (fun s args ht => cwV (C := rN1) 2 ht (rgoodV (C := rN1) (fun w h => List.mem_cons_of_mem _ h) q_1127 q_1129 q_11 q_14 q_1130) rfl rfl rfl hv_d_monthBecomes ⟨Nat.le_of_ble_eq_true rfl, Nat.le_of_ble_eq_true rfl⟩) rfl) ?_
  refine rcons (ro_iret (by decide +kernel)) ?_
  exact rnil
def ps_d_monthBack : List Nat := [0, 1, 2, 5, 6, 9, 12, 13, 16, 17, 18, 19, 22, 23, 24, 26, 27, 28, 31, 34]
def tb_d_monthBack : List RT := [tq_al 0, tq_il 1, tq_call s_d_isNoCell 1 0 0, tq_ic 1, tq_call (rV 1 m_d_start) 3 0 0, tq_if1 (fun x => decide (x = 0)) 8, tq_ic 0, tq_go 19, tq_al 0, tq_il 1, tq_al 0, tq_getf 1 2, tq_il 1, tq_iald 0, tq_ic 12, tq_il 2, tq_i2l, tq_call s_d_ahead 3 0 0, tq_call (rV 1 m_d_monthBecomes) 3 0 0, tq_iret 0]
def m_d_monthBack : RM := rMeth tb_d_monthBack 400 3
abbrev rm_d_monthBack : Room := { frames := 2, cells := 0, slots := 0, locals := 44 }
set_option maxHeartbeats 4000000 in
set_option maxRecDepth 20000 in
theorem ok_d_monthBack : rMet y_d_monthBack (Cond.code y_d_monthBack prog_4_method_37_code 3 (some .int) :: rT) rm_d_monthBack 0 m_d_monthBack := by
  refine rMeth_ok (ps := ps_d_monthBack) (tab := tb_d_monthBack) (by decide +kernel) rfl rfl rfl rfl ?_
  refine rcons (ro_aload_n (k := 0) rfl (by decide +kernel) rfl) ?_
  refine rcons (ro_iload_n (k := 1) rfl (by decide +kernel) rfl) ?_
  refine rcons (ro_callS okS_d_isNoCell (by decide +kernel) rfl (fun s args ht => va_cwS 1 ht (rgoodS (fun w h => List.mem_cons_of_mem _ h) q_1010 q_1011 q_14 q_1012) rfl rfl rfl hy_d_isNoCell ⟨Nat.le_of_ble_eq_true rfl, Nat.le_of_ble_eq_true rfl⟩) rfl) ?_
  refine rcons (ro_iconst (n := 1) (by decide +kernel) rfl rfl) ?_
  refine rcons (ro_callV (C := rN1) (T := rF1) (N := 7) rfl ok_d_start (by decide +kernel) rfl (fun s args ht => cwV (C := rN1) 2 ht (rgoodV (C := rN1) (fun w h => List.mem_cons_of_mem _ h) q_1013 q_1015 q_8 q_14 q_1016) rfl rfl rfl hv_d_start ⟨Nat.le_of_ble_eq_true rfl, Nat.le_of_ble_eq_true rfl⟩) rfl) ?_
  refine rcons (ro_if_eq (off := 7) (by decide +kernel) rfl rfl) ?_
  refine rcons (ro_iconst (n := 0) (by decide +kernel) rfl rfl) ?_
  refine rcons (ro_goto (off := 21) (by decide +kernel) rfl) ?_
  refine rcons (ro_aload_n (k := 0) rfl (by decide +kernel) rfl) ?_
  refine rcons (ro_iload_n (k := 1) rfl (by decide +kernel) rfl) ?_
  refine rcons (ro_aload_n (k := 0) rfl (by decide +kernel) rfl) ?_
  refine rcons (ro_getf (C := rN1) (T := rF1) (N := 7) (k := 2) (by decide +kernel) rfl (rU1c _) (by decide) (List.mem_cons_of_mem _ q_986) rfl) ?_
  refine rcons (ro_iload_n (k := 1) rfl (by decide +kernel) rfl) ?_
  refine rcons (ro_iald (by decide +kernel) rfl) ?_
  refine rcons (ro_bipush (n := 12) (by decide +kernel) rfl rfl) ?_
  refine rcons (ro_iload_n (k := 2) rfl (by decide +kernel) rfl) ?_
  refine rcons (ro_i2l (by decide +kernel) rfl) ?_
  refine rcons (ro_callS okS_d_ahead (by decide +kernel) rfl (fun s args ht => va_cwS 3 ht (rgoodS (fun w h => List.mem_cons_of_mem _ h) q_1051 q_1052 q_14 q_1053) rfl rfl rfl hy_d_ahead ⟨Nat.le_of_ble_eq_true rfl, Nat.le_of_ble_eq_true rfl⟩) rfl) ?_
  refine rcons (ro_callV (C := rN1) (T := rF1) (N := 7) rfl ok_d_monthBecomes (by decide +kernel) rfl (fun s args ht => cwV (C := rN1) 2 ht (rgoodV (C := rN1) (fun w h => List.mem_cons_of_mem _ h) q_1127 q_1129 q_11 q_14 q_1130) rfl rfl rfl hv_d_monthBecomes ⟨Nat.le_of_ble_eq_true rfl, Nat.le_of_ble_eq_true rfl⟩) rfl) ?_
  refine rcons (ro_iret (by decide +kernel)) ?_
  exact rnil
def ps_d_monthOnFar : List Nat := [0, 1, 2, 5, 6, 9, 12, 13, 16, 17, 18, 19, 22, 23, 24, 26, 27, 28, 31, 34, 37]
def tb_d_monthOnFar : List RT := [tq_al 0, tq_il 1, tq_call s_d_isNoCell 1 0 0, tq_ic 1, tq_call (rV 1 m_d_start) 3 0 0, tq_if1 (fun x => decide (x = 0)) 8, tq_ic 0, tq_go 20, tq_al 0, tq_il 1, tq_al 0, tq_getf 1 2, tq_il 1, tq_iald 0, tq_ic 12, tq_il 2, tq_il 3, tq_call s_d_amount 2 0 0, tq_call s_d_on 3 0 0, tq_call (rV 1 m_d_monthBecomes) 3 0 0, tq_iret 0]
def m_d_monthOnFar : RM := rMeth tb_d_monthOnFar 400 4
abbrev rm_d_monthOnFar : Room := { frames := 2, cells := 0, slots := 0, locals := 44 }
set_option maxHeartbeats 4000000 in
set_option maxRecDepth 20000 in
theorem ok_d_monthOnFar : rMet y_d_monthOnFar (Cond.code y_d_monthOnFar prog_4_method_38_code 4 (some .int) :: rT) rm_d_monthOnFar 0 m_d_monthOnFar := by
  refine rMeth_ok (ps := ps_d_monthOnFar) (tab := tb_d_monthOnFar) (by decide +kernel) rfl rfl rfl rfl ?_
  refine rcons (ro_aload_n (k := 0) rfl (by decide +kernel) rfl) ?_
  refine rcons (ro_iload_n (k := 1) rfl (by decide +kernel) rfl) ?_
  refine rcons (ro_callS okS_d_isNoCell (by decide +kernel) rfl (fun s args ht => va_cwS 1 ht (rgoodS (fun w h => List.mem_cons_of_mem _ h) q_1010 q_1011 q_14 q_1012) rfl rfl rfl hy_d_isNoCell ⟨Nat.le_of_ble_eq_true rfl, Nat.le_of_ble_eq_true rfl⟩) rfl) ?_
  refine rcons (ro_iconst (n := 1) (by decide +kernel) rfl rfl) ?_
  refine rcons (ro_callV (C := rN1) (T := rF1) (N := 7) rfl ok_d_start (by decide +kernel) rfl (fun s args ht => cwV (C := rN1) 2 ht (rgoodV (C := rN1) (fun w h => List.mem_cons_of_mem _ h) q_1013 q_1015 q_8 q_14 q_1016) rfl rfl rfl hv_d_start ⟨Nat.le_of_ble_eq_true rfl, Nat.le_of_ble_eq_true rfl⟩) rfl) ?_
  refine rcons (ro_if_eq (off := 7) (by decide +kernel) rfl rfl) ?_
  refine rcons (ro_iconst (n := 0) (by decide +kernel) rfl rfl) ?_
  refine rcons (ro_goto (off := 24) (by decide +kernel) rfl) ?_
  refine rcons (ro_aload_n (k := 0) rfl (by decide +kernel) rfl) ?_
  refine rcons (ro_iload_n (k := 1) rfl (by decide +kernel) rfl) ?_
  refine rcons (ro_aload_n (k := 0) rfl (by decide +kernel) rfl) ?_
  refine rcons (ro_getf (C := rN1) (T := rF1) (N := 7) (k := 2) (by decide +kernel) rfl (rU1c _) (by decide) (List.mem_cons_of_mem _ q_986) rfl) ?_
  refine rcons (ro_iload_n (k := 1) rfl (by decide +kernel) rfl) ?_
  refine rcons (ro_iald (by decide +kernel) rfl) ?_
  refine rcons (ro_bipush (n := 12) (by decide +kernel) rfl rfl) ?_
  refine rcons (ro_iload_n (k := 2) rfl (by decide +kernel) rfl) ?_
  refine rcons (ro_iload_n (k := 3) rfl (by decide +kernel) rfl) ?_
  refine rcons (ro_callS okS_d_amount (by decide +kernel) rfl (fun s args ht => va_cwS 2 ht (rgoodS (fun w h => List.mem_cons_of_mem _ h) q_1058 q_1059 q_14 q_1060) rfl rfl rfl hy_d_amount ⟨Nat.le_of_ble_eq_true rfl, Nat.le_of_ble_eq_true rfl⟩) rfl) ?_
  refine rcons (ro_callS okS_d_on (by decide +kernel) rfl (fun s args ht => va_cwS 3 ht (rgoodS (fun w h => List.mem_cons_of_mem _ h) q_1040 q_1041 q_14 q_1042) rfl rfl rfl hy_d_on ⟨Nat.le_of_ble_eq_true rfl, Nat.le_of_ble_eq_true rfl⟩) rfl) ?_
  refine rcons (ro_callV (C := rN1) (T := rF1) (N := 7) rfl ok_d_monthBecomes (by decide +kernel) rfl (fun s args ht => cwV (C := rN1) 2 ht (rgoodV (C := rN1) (fun w h => List.mem_cons_of_mem _ h) q_1127 q_1129 q_11 q_14 q_1130) rfl rfl rfl hv_d_monthBecomes ⟨Nat.le_of_ble_eq_true rfl, Nat.le_of_ble_eq_true rfl⟩) rfl) ?_
  refine rcons (ro_iret (by decide +kernel)) ?_
  exact rnil
def ps_d_monthBackFar : List Nat := [0, 1, 2, 5, 6, 9, 12, 13, 16, 17, 18, 19, 22, 23, 24, 26, 27, 28, 31, 34, 37]
def tb_d_monthBackFar : List RT := [tq_al 0, tq_il 1, tq_call s_d_isNoCell 1 0 0, tq_ic 1, tq_call (rV 1 m_d_start) 3 0 0, tq_if1 (fun x => decide (x = 0)) 8, tq_ic 0, tq_go 20, tq_al 0, tq_il 1, tq_al 0, tq_getf 1 2, tq_il 1, tq_iald 0, tq_ic 12, tq_il 2, tq_il 3, tq_call s_d_amount 2 0 0, tq_call s_d_ahead 3 0 0, tq_call (rV 1 m_d_monthBecomes) 3 0 0, tq_iret 0]
def m_d_monthBackFar : RM := rMeth tb_d_monthBackFar 400 4
abbrev rm_d_monthBackFar : Room := { frames := 2, cells := 0, slots := 0, locals := 44 }
set_option maxHeartbeats 4000000 in
set_option maxRecDepth 20000 in
theorem ok_d_monthBackFar : rMet y_d_monthBackFar (Cond.code y_d_monthBackFar prog_4_method_39_code 4 (some .int) :: rT) rm_d_monthBackFar 0 m_d_monthBackFar := by
  refine rMeth_ok (ps := ps_d_monthBackFar) (tab := tb_d_monthBackFar) (by decide +kernel) rfl rfl rfl rfl ?_
  refine rcons (ro_aload_n (k := 0) rfl (by decide +kernel) rfl) ?_
  refine rcons (ro_iload_n (k := 1) rfl (by decide +kernel) rfl) ?_
  refine rcons (ro_callS okS_d_isNoCell (by decide +kernel) rfl (fun s args ht => va_cwS 1 ht (rgoodS (fun w h => List.mem_cons_of_mem _ h) q_1010 q_1011 q_14 q_1012) rfl rfl rfl hy_d_isNoCell ⟨Nat.le_of_ble_eq_true rfl, Nat.le_of_ble_eq_true rfl⟩) rfl) ?_
  refine rcons (ro_iconst (n := 1) (by decide +kernel) rfl rfl) ?_
  refine rcons (ro_callV (C := rN1) (T := rF1) (N := 7) rfl ok_d_start (by decide +kernel) rfl (fun s args ht => cwV (C := rN1) 2 ht (rgoodV (C := rN1) (fun w h => List.mem_cons_of_mem _ h) q_1013 q_1015 q_8 q_14 q_1016) rfl rfl rfl hv_d_start ⟨Nat.le_of_ble_eq_true rfl, Nat.le_of_ble_eq_true rfl⟩) rfl) ?_
  refine rcons (ro_if_eq (off := 7) (by decide +kernel) rfl rfl) ?_
  refine rcons (ro_iconst (n := 0) (by decide +kernel) rfl rfl) ?_
  refine rcons (ro_goto (off := 24) (by decide +kernel) rfl) ?_
  refine rcons (ro_aload_n (k := 0) rfl (by decide +kernel) rfl) ?_
  refine rcons (ro_iload_n (k := 1) rfl (by decide +kernel) rfl) ?_
  refine rcons (ro_aload_n (k := 0) rfl (by decide +kernel) rfl) ?_
  refine rcons (ro_getf (C := rN1) (T := rF1) (N := 7) (k := 2) (by decide +kernel) rfl (rU1c _) (by decide) (List.mem_cons_of_mem _ q_986) rfl) ?_
  refine rcons (ro_iload_n (k := 1) rfl (by decide +kernel) rfl) ?_
  refine rcons (ro_iald (by decide +kernel) rfl) ?_
  refine rcons (ro_bipush (n := 12) (by decide +kernel) rfl rfl) ?_
  refine rcons (ro_iload_n (k := 2) rfl (by decide +kernel) rfl) ?_
  refine rcons (ro_iload_n (k := 3) rfl (by decide +kernel) rfl) ?_
  refine rcons (ro_callS okS_d_amount (by decide +kernel) rfl (fun s args ht => va_cwS 2 ht (rgoodS (fun w h => List.mem_cons_of_mem _ h) q_1058 q_1059 q_14 q_1060) rfl rfl rfl hy_d_amount ⟨Nat.le_of_ble_eq_true rfl, Nat.le_of_ble_eq_true rfl⟩) rfl) ?_
  refine rcons (ro_callS okS_d_ahead (by decide +kernel) rfl (fun s args ht => va_cwS 3 ht (rgoodS (fun w h => List.mem_cons_of_mem _ h) q_1051 q_1052 q_14 q_1053) rfl rfl rfl hy_d_ahead ⟨Nat.le_of_ble_eq_true rfl, Nat.le_of_ble_eq_true rfl⟩) rfl) ?_
  refine rcons (ro_callV (C := rN1) (T := rF1) (N := 7) rfl ok_d_monthBecomes (by decide +kernel) rfl (fun s args ht => cwV (C := rN1) 2 ht (rgoodV (C := rN1) (fun w h => List.mem_cons_of_mem _ h) q_1127 q_1129 q_11 q_14 q_1130) rfl rfl rfl hv_d_monthBecomes ⟨Nat.le_of_ble_eq_true rfl, Nat.le_of_ble_eq_true rfl⟩) rfl) ?_
  refine rcons (ro_iret (by decide +kernel)) ?_
  exact rnil
def ps_d_monthAt : List Nat := [0, 1, 2, 5, 6, 9, 12, 13, 16, 17, 20, 21, 22, 24, 25, 26, 29]
def tb_d_monthAt : List RT := [tq_al 0, tq_il 1, tq_call s_d_isNoCell 1 0 0, tq_ic 1, tq_call (rV 1 m_d_start) 3 0 0, tq_if1 (fun x => decide (x = 0)) 8, tq_ic 0, tq_go 16, tq_al 0, tq_getf 1 2, tq_il 1, tq_iald 0, tq_ic 12, tq_il 2, tq_i2l, tq_call s_d_on 3 0 0, tq_iret 0]
def m_d_monthAt : RM := rMeth tb_d_monthAt 400 3
abbrev rm_d_monthAt : Room := { frames := 2, cells := 0, slots := 0, locals := 44 }
set_option maxHeartbeats 4000000 in
set_option maxRecDepth 20000 in
theorem ok_d_monthAt : rMet y_d_monthAt (Cond.code y_d_monthAt prog_4_method_40_code 3 (some .int) :: rT) rm_d_monthAt 0 m_d_monthAt := by
  refine rMeth_ok (ps := ps_d_monthAt) (tab := tb_d_monthAt) (by decide +kernel) rfl rfl rfl rfl ?_
  refine rcons (ro_aload_n (k := 0) rfl (by decide +kernel) rfl) ?_
  refine rcons (ro_iload_n (k := 1) rfl (by decide +kernel) rfl) ?_
  refine rcons (ro_callS okS_d_isNoCell (by decide +kernel) rfl (fun s args ht => va_cwS 1 ht (rgoodS (fun w h => List.mem_cons_of_mem _ h) q_1010 q_1011 q_14 q_1012) rfl rfl rfl hy_d_isNoCell ⟨Nat.le_of_ble_eq_true rfl, Nat.le_of_ble_eq_true rfl⟩) rfl) ?_
  refine rcons (ro_iconst (n := 1) (by decide +kernel) rfl rfl) ?_
  refine rcons (ro_callV (C := rN1) (T := rF1) (N := 7) rfl ok_d_start (by decide +kernel) rfl (fun s args ht => cwV (C := rN1) 2 ht (rgoodV (C := rN1) (fun w h => List.mem_cons_of_mem _ h) q_1013 q_1015 q_8 q_14 q_1016) rfl rfl rfl hv_d_start ⟨Nat.le_of_ble_eq_true rfl, Nat.le_of_ble_eq_true rfl⟩) rfl) ?_
  refine rcons (ro_if_eq (off := 7) (by decide +kernel) rfl rfl) ?_
  refine rcons (ro_iconst (n := 0) (by decide +kernel) rfl rfl) ?_
  refine rcons (ro_goto (off := 16) (by decide +kernel) rfl) ?_
  refine rcons (ro_aload_n (k := 0) rfl (by decide +kernel) rfl) ?_
  refine rcons (ro_getf (C := rN1) (T := rF1) (N := 7) (k := 2) (by decide +kernel) rfl (rU1c _) (by decide) (List.mem_cons_of_mem _ q_986) rfl) ?_
  refine rcons (ro_iload_n (k := 1) rfl (by decide +kernel) rfl) ?_
  refine rcons (ro_iald (by decide +kernel) rfl) ?_
  refine rcons (ro_bipush (n := 12) (by decide +kernel) rfl rfl) ?_
  refine rcons (ro_iload_n (k := 2) rfl (by decide +kernel) rfl) ?_
  refine rcons (ro_i2l (by decide +kernel) rfl) ?_
  refine rcons (ro_callS okS_d_on (by decide +kernel) rfl (fun s args ht => va_cwS 3 ht (rgoodS (fun w h => List.mem_cons_of_mem _ h) q_1040 q_1041 q_14 q_1042) rfl rfl rfl hy_d_on ⟨Nat.le_of_ble_eq_true rfl, Nat.le_of_ble_eq_true rfl⟩) rfl) ?_
  refine rcons (ro_iret (by decide +kernel)) ?_
  exact rnil
def ps_d_monthAhead : List Nat := [0, 1, 2, 5, 6, 9, 12, 13, 16, 17, 20, 21, 22, 24, 25, 26, 29]
def tb_d_monthAhead : List RT := [tq_al 0, tq_il 1, tq_call s_d_isNoCell 1 0 0, tq_ic 1, tq_call (rV 1 m_d_start) 3 0 0, tq_if1 (fun x => decide (x = 0)) 8, tq_ic 0, tq_go 16, tq_al 0, tq_getf 1 2, tq_il 1, tq_iald 0, tq_ic 12, tq_il 2, tq_i2l, tq_call s_d_ahead 3 0 0, tq_iret 0]
def m_d_monthAhead : RM := rMeth tb_d_monthAhead 400 3
abbrev rm_d_monthAhead : Room := { frames := 2, cells := 0, slots := 0, locals := 44 }
set_option maxHeartbeats 4000000 in
set_option maxRecDepth 20000 in
theorem ok_d_monthAhead : rMet y_d_monthAhead (Cond.code y_d_monthAhead prog_4_method_41_code 3 (some .int) :: rT) rm_d_monthAhead 0 m_d_monthAhead := by
  refine rMeth_ok (ps := ps_d_monthAhead) (tab := tb_d_monthAhead) (by decide +kernel) rfl rfl rfl rfl ?_
  refine rcons (ro_aload_n (k := 0) rfl (by decide +kernel) rfl) ?_
  refine rcons (ro_iload_n (k := 1) rfl (by decide +kernel) rfl) ?_
  refine rcons (ro_callS okS_d_isNoCell (by decide +kernel) rfl (fun s args ht => va_cwS 1 ht (rgoodS (fun w h => List.mem_cons_of_mem _ h) q_1010 q_1011 q_14 q_1012) rfl rfl rfl hy_d_isNoCell ⟨Nat.le_of_ble_eq_true rfl, Nat.le_of_ble_eq_true rfl⟩) rfl) ?_
  refine rcons (ro_iconst (n := 1) (by decide +kernel) rfl rfl) ?_
  refine rcons (ro_callV (C := rN1) (T := rF1) (N := 7) rfl ok_d_start (by decide +kernel) rfl (fun s args ht => cwV (C := rN1) 2 ht (rgoodV (C := rN1) (fun w h => List.mem_cons_of_mem _ h) q_1013 q_1015 q_8 q_14 q_1016) rfl rfl rfl hv_d_start ⟨Nat.le_of_ble_eq_true rfl, Nat.le_of_ble_eq_true rfl⟩) rfl) ?_
  refine rcons (ro_if_eq (off := 7) (by decide +kernel) rfl rfl) ?_
  refine rcons (ro_iconst (n := 0) (by decide +kernel) rfl rfl) ?_
  refine rcons (ro_goto (off := 16) (by decide +kernel) rfl) ?_
  refine rcons (ro_aload_n (k := 0) rfl (by decide +kernel) rfl) ?_
  refine rcons (ro_getf (C := rN1) (T := rF1) (N := 7) (k := 2) (by decide +kernel) rfl (rU1c _) (by decide) (List.mem_cons_of_mem _ q_986) rfl) ?_
  refine rcons (ro_iload_n (k := 1) rfl (by decide +kernel) rfl) ?_
  refine rcons (ro_iald (by decide +kernel) rfl) ?_
  refine rcons (ro_bipush (n := 12) (by decide +kernel) rfl rfl) ?_
  refine rcons (ro_iload_n (k := 2) rfl (by decide +kernel) rfl) ?_
  refine rcons (ro_i2l (by decide +kernel) rfl) ?_
  refine rcons (ro_callS okS_d_ahead (by decide +kernel) rfl (fun s args ht => va_cwS 3 ht (rgoodS (fun w h => List.mem_cons_of_mem _ h) q_1051 q_1052 q_14 q_1053) rfl rfl rfl hy_d_ahead ⟨Nat.le_of_ble_eq_true rfl, Nat.le_of_ble_eq_true rfl⟩) rfl) ?_
  refine rcons (ro_iret (by decide +kernel)) ?_
  exact rnil
def ps_d_monthAtFar : List Nat := [0, 1, 2, 5, 6, 9, 12, 13, 14, 16, 19, 20, 23, 24, 25, 27, 28, 29, 32, 35, 38, 39, 42, 43, 44, 46, 47, 48, 51, 54]
def tb_d_monthAtFar : List RT := [tq_al 0, tq_il 1, tq_call s_d_isNoCell 1 0 0, tq_ic 1, tq_call (rV 1 m_d_start) 3 0 0, tq_if1 (fun x => decide (x = 0)) 8, tq_ic 0, tq_iret 0, tq_il 4, tq_if1 (fun x => decide (x = 0)) 20, tq_al 0, tq_getf 1 2, tq_il 1, tq_iald 0, tq_ic 12, tq_il 2, tq_il 3, tq_call s_d_amount 2 0 0, tq_call s_d_ahead 3 0 0, tq_go 29, tq_al 0, tq_getf 1 2, tq_il 1, tq_iald 0, tq_ic 12, tq_il 2, tq_il 3, tq_call s_d_amount 2 0 0, tq_call s_d_on 3 0 0, tq_iret 0]
def m_d_monthAtFar : RM := rMeth tb_d_monthAtFar 400 5
abbrev rm_d_monthAtFar : Room := { frames := 2, cells := 0, slots := 0, locals := 44 }
set_option maxHeartbeats 4000000 in
set_option maxRecDepth 20000 in
theorem ok_d_monthAtFar : rMet y_d_monthAtFar (Cond.code y_d_monthAtFar prog_4_method_42_code 5 (some .int) :: rT) rm_d_monthAtFar 0 m_d_monthAtFar := by
  refine rMeth_ok (ps := ps_d_monthAtFar) (tab := tb_d_monthAtFar) (by decide +kernel) rfl rfl rfl rfl ?_
  refine rcons (ro_aload_n (k := 0) rfl (by decide +kernel) rfl) ?_
  refine rcons (ro_iload_n (k := 1) rfl (by decide +kernel) rfl) ?_
  refine rcons (ro_callS okS_d_isNoCell (by decide +kernel) rfl (fun s args ht => va_cwS 1 ht (rgoodS (fun w h => List.mem_cons_of_mem _ h) q_1010 q_1011 q_14 q_1012) rfl rfl rfl hy_d_isNoCell ⟨Nat.le_of_ble_eq_true rfl, Nat.le_of_ble_eq_true rfl⟩) rfl) ?_
  refine rcons (ro_iconst (n := 1) (by decide +kernel) rfl rfl) ?_
  refine rcons (ro_callV (C := rN1) (T := rF1) (N := 7) rfl ok_d_start (by decide +kernel) rfl (fun s args ht => cwV (C := rN1) 2 ht (rgoodV (C := rN1) (fun w h => List.mem_cons_of_mem _ h) q_1013 q_1015 q_8 q_14 q_1016) rfl rfl rfl hv_d_start ⟨Nat.le_of_ble_eq_true rfl, Nat.le_of_ble_eq_true rfl⟩) rfl) ?_
  refine rcons (ro_if_eq (off := 5) (by decide +kernel) rfl rfl) ?_
  refine rcons (ro_iconst (n := 0) (by decide +kernel) rfl rfl) ?_
  refine rcons (ro_iret (by decide +kernel)) ?_
  refine rcons (ro_iload (by decide +kernel) rfl) ?_
  refine rcons (ro_if_eq (off := 22) (by decide +kernel) rfl rfl) ?_
  refine rcons (ro_aload_n (k := 0) rfl (by decide +kernel) rfl) ?_
  refine rcons (ro_getf (C := rN1) (T := rF1) (N := 7) (k := 2) (by decide +kernel) rfl (rU1c _) (by decide) (List.mem_cons_of_mem _ q_986) rfl) ?_
  refine rcons (ro_iload_n (k := 1) rfl (by decide +kernel) rfl) ?_
  refine rcons (ro_iald (by decide +kernel) rfl) ?_
  refine rcons (ro_bipush (n := 12) (by decide +kernel) rfl rfl) ?_
  refine rcons (ro_iload_n (k := 2) rfl (by decide +kernel) rfl) ?_
  refine rcons (ro_iload_n (k := 3) rfl (by decide +kernel) rfl) ?_
  refine rcons (ro_callS okS_d_amount (by decide +kernel) rfl (fun s args ht => va_cwS 2 ht (rgoodS (fun w h => List.mem_cons_of_mem _ h) q_1058 q_1059 q_14 q_1060) rfl rfl rfl hy_d_amount ⟨Nat.le_of_ble_eq_true rfl, Nat.le_of_ble_eq_true rfl⟩) rfl) ?_
  refine rcons (ro_callS okS_d_ahead (by decide +kernel) rfl (fun s args ht => va_cwS 3 ht (rgoodS (fun w h => List.mem_cons_of_mem _ h) q_1051 q_1052 q_14 q_1053) rfl rfl rfl hy_d_ahead ⟨Nat.le_of_ble_eq_true rfl, Nat.le_of_ble_eq_true rfl⟩) rfl) ?_
  refine rcons (ro_goto (off := 19) (by decide +kernel) rfl) ?_
  refine rcons (ro_aload_n (k := 0) rfl (by decide +kernel) rfl) ?_
  refine rcons (ro_getf (C := rN1) (T := rF1) (N := 7) (k := 2) (by decide +kernel) rfl (rU1c _) (by decide) (List.mem_cons_of_mem _ q_986) rfl) ?_
  refine rcons (ro_iload_n (k := 1) rfl (by decide +kernel) rfl) ?_
  refine rcons (ro_iald (by decide +kernel) rfl) ?_
  refine rcons (ro_bipush (n := 12) (by decide +kernel) rfl rfl) ?_
  refine rcons (ro_iload_n (k := 2) rfl (by decide +kernel) rfl) ?_
  refine rcons (ro_iload_n (k := 3) rfl (by decide +kernel) rfl) ?_
  refine rcons (ro_callS okS_d_amount (by decide +kernel) rfl (fun s args ht => va_cwS 2 ht (rgoodS (fun w h => List.mem_cons_of_mem _ h) q_1058 q_1059 q_14 q_1060) rfl rfl rfl hy_d_amount ⟨Nat.le_of_ble_eq_true rfl, Nat.le_of_ble_eq_true rfl⟩) rfl) ?_
  refine rcons (ro_callS okS_d_on (by decide +kernel) rfl (fun s args ht => va_cwS 3 ht (rgoodS (fun w h => List.mem_cons_of_mem _ h) q_1040 q_1041 q_14 q_1042) rfl rfl rfl hy_d_on ⟨Nat.le_of_ble_eq_true rfl, Nat.le_of_ble_eq_true rfl⟩) rfl) ?_
  refine rcons (ro_iret (by decide +kernel)) ?_
  exact rnil
def ps_d_monthTwice : List Nat := [0, 1, 2, 5, 6, 9, 12, 13, 16, 17, 20, 21, 22, 24, 25, 26, 29, 31, 32, 33, 36]
def tb_d_monthTwice : List RT := [tq_al 0, tq_il 1, tq_call s_d_isNoCell 1 0 0, tq_ic 1, tq_call (rV 1 m_d_start) 3 0 0, tq_if1 (fun x => decide (x = 0)) 8, tq_ic 0, tq_go 20, tq_al 0, tq_getf 1 2, tq_il 1, tq_iald 0, tq_ic 12, tq_il 2, tq_i2l, tq_call s_d_on 3 0 0, tq_ic 12, tq_il 3, tq_i2l, tq_call s_d_on 3 0 0, tq_iret 0]
def m_d_monthTwice : RM := rMeth tb_d_monthTwice 400 4
abbrev rm_d_monthTwice : Room := { frames := 2, cells := 0, slots := 0, locals := 44 }
set_option maxHeartbeats 4000000 in
set_option maxRecDepth 20000 in
theorem ok_d_monthTwice : rMet y_d_monthTwice (Cond.code y_d_monthTwice prog_4_method_43_code 4 (some .int) :: rT) rm_d_monthTwice 0 m_d_monthTwice := by
  refine rMeth_ok (ps := ps_d_monthTwice) (tab := tb_d_monthTwice) (by decide +kernel) rfl rfl rfl rfl ?_
  refine rcons (ro_aload_n (k := 0) rfl (by decide +kernel) rfl) ?_
  refine rcons (ro_iload_n (k := 1) rfl (by decide +kernel) rfl) ?_
  refine rcons (ro_callS okS_d_isNoCell (by decide +kernel) rfl (fun s args ht => va_cwS 1 ht (rgoodS (fun w h => List.mem_cons_of_mem _ h) q_1010 q_1011 q_14 q_1012) rfl rfl rfl hy_d_isNoCell ⟨Nat.le_of_ble_eq_true rfl, Nat.le_of_ble_eq_true rfl⟩) rfl) ?_
  refine rcons (ro_iconst (n := 1) (by decide +kernel) rfl rfl) ?_
  refine rcons (ro_callV (C := rN1) (T := rF1) (N := 7) rfl ok_d_start (by decide +kernel) rfl (fun s args ht => cwV (C := rN1) 2 ht (rgoodV (C := rN1) (fun w h => List.mem_cons_of_mem _ h) q_1013 q_1015 q_8 q_14 q_1016) rfl rfl rfl hv_d_start ⟨Nat.le_of_ble_eq_true rfl, Nat.le_of_ble_eq_true rfl⟩) rfl) ?_
  refine rcons (ro_if_eq (off := 7) (by decide +kernel) rfl rfl) ?_
  refine rcons (ro_iconst (n := 0) (by decide +kernel) rfl rfl) ?_
  refine rcons (ro_goto (off := 23) (by decide +kernel) rfl) ?_
  refine rcons (ro_aload_n (k := 0) rfl (by decide +kernel) rfl) ?_
  refine rcons (ro_getf (C := rN1) (T := rF1) (N := 7) (k := 2) (by decide +kernel) rfl (rU1c _) (by decide) (List.mem_cons_of_mem _ q_986) rfl) ?_
  refine rcons (ro_iload_n (k := 1) rfl (by decide +kernel) rfl) ?_
  refine rcons (ro_iald (by decide +kernel) rfl) ?_
  refine rcons (ro_bipush (n := 12) (by decide +kernel) rfl rfl) ?_
  refine rcons (ro_iload_n (k := 2) rfl (by decide +kernel) rfl) ?_
  refine rcons (ro_i2l (by decide +kernel) rfl) ?_
  refine rcons (ro_callS okS_d_on (by decide +kernel) rfl (fun s args ht => va_cwS 3 ht (rgoodS (fun w h => List.mem_cons_of_mem _ h) q_1040 q_1041 q_14 q_1042) rfl rfl rfl hy_d_on ⟨Nat.le_of_ble_eq_true rfl, Nat.le_of_ble_eq_true rfl⟩) rfl) ?_
  refine rcons (ro_bipush (n := 12) (by decide +kernel) rfl rfl) ?_
  refine rcons (ro_iload_n (k := 3) rfl (by decide +kernel) rfl) ?_
  refine rcons (ro_i2l (by decide +kernel) rfl) ?_
  refine rcons (ro_callS okS_d_on (by decide +kernel) rfl (fun s args ht => va_cwS 3 ht (rgoodS (fun w h => List.mem_cons_of_mem _ h) q_1040 q_1041 q_14 q_1042) rfl rfl rfl hy_d_on ⟨Nat.le_of_ble_eq_true rfl, Nat.le_of_ble_eq_true rfl⟩) rfl) ?_
  refine rcons (ro_iret (by decide +kernel)) ?_
  exact rnil
def ps_d_monthCopy : List Nat := [0, 1, 2, 5, 8, 9, 12, 15, 16, 19, 20, 21, 24, 27, 28, 31, 32, 33, 34, 37, 38, 39, 42]
def tb_d_monthCopy : List RT := [tq_al 0, tq_il 1, tq_call s_d_isNoCell 1 0 0, tq_if1 (fun x => !decide (x = 0)) 7, tq_il 2, tq_call s_d_isNoCell 1 0 0, tq_s1 (fun x => decide (x = 0)) 1 0 10, tq_ic 1, tq_go 10, tq_ic 0, tq_ic 1, tq_call (rV 1 m_d_start) 3 0 0, tq_if1 (fun x => decide (x = 0)) 15, tq_ic 0, tq_go 22, tq_al 0, tq_il 1, tq_al 0, tq_getf 1 2, tq_il 2, tq_iald 0, tq_call (rV 1 m_d_monthBecomes) 3 0 0, tq_iret 0]
def m_d_monthCopy : RM := rMeth tb_d_monthCopy 400 3
abbrev rm_d_monthCopy : Room := { frames := 2, cells := 0, slots := 0, locals := 44 }
set_option maxHeartbeats 4000000 in
set_option maxRecDepth 20000 in
theorem ok_d_monthCopy : rMet y_d_monthCopy (Cond.code y_d_monthCopy prog_4_method_44_code 3 (some .int) :: rT) rm_d_monthCopy 0 m_d_monthCopy := by
  refine rMeth_ok (ps := ps_d_monthCopy) (tab := tb_d_monthCopy) (by decide +kernel) rfl rfl rfl rfl ?_
  refine rcons (ro_aload_n (k := 0) rfl (by decide +kernel) rfl) ?_
  refine rcons (ro_iload_n (k := 1) rfl (by decide +kernel) rfl) ?_
  refine rcons (ro_callS okS_d_isNoCell (by decide +kernel) rfl (fun s args ht => va_cwS 1 ht (rgoodS (fun w h => List.mem_cons_of_mem _ h) q_1010 q_1011 q_14 q_1012) rfl rfl rfl hy_d_isNoCell ⟨Nat.le_of_ble_eq_true rfl, Nat.le_of_ble_eq_true rfl⟩) rfl) ?_
  refine rcons (ro_if_ne (off := 10) (by decide +kernel) rfl rfl) ?_
  refine rcons (ro_iload_n (k := 2) rfl (by decide +kernel) rfl) ?_
  refine rcons (ro_callS okS_d_isNoCell (by decide +kernel) rfl (fun s args ht => va_cwS 1 ht (rgoodS (fun w h => List.mem_cons_of_mem _ h) q_1010 q_1011 q_14 q_1012) rfl rfl rfl hy_d_isNoCell ⟨Nat.le_of_ble_eq_true rfl, Nat.le_of_ble_eq_true rfl⟩) rfl) ?_
  refine rcons (ro_s1_eq (off := 7) (off2 := 4) (n1 := 1) (n2 := 0) (by decide +kernel) (by decide +kernel) rfl (by decide +kernel) (by decide +kernel) rfl rfl rfl rfl) ?_
  refine rcons (ro_iconst (n := 1) (by decide +kernel) rfl rfl) ?_
  refine rcons (ro_goto (off := 4) (by decide +kernel) rfl) ?_
  refine rcons (ro_iconst (n := 0) (by decide +kernel) rfl rfl) ?_
  refine rcons (ro_iconst (n := 1) (by decide +kernel) rfl rfl) ?_
  refine rcons (ro_callV (C := rN1) (T := rF1) (N := 7) rfl ok_d_start (by decide +kernel) rfl (fun s args ht => cwV (C := rN1) 2 ht (rgoodV (C := rN1) (fun w h => List.mem_cons_of_mem _ h) q_1013 q_1015 q_8 q_14 q_1016) rfl rfl rfl hv_d_start ⟨Nat.le_of_ble_eq_true rfl, Nat.le_of_ble_eq_true rfl⟩) rfl) ?_
  refine rcons (ro_if_eq (off := 7) (by decide +kernel) rfl rfl) ?_
  refine rcons (ro_iconst (n := 0) (by decide +kernel) rfl rfl) ?_
  refine rcons (ro_goto (off := 14) (by decide +kernel) rfl) ?_
  refine rcons (ro_aload_n (k := 0) rfl (by decide +kernel) rfl) ?_
  refine rcons (ro_iload_n (k := 1) rfl (by decide +kernel) rfl) ?_
  refine rcons (ro_aload_n (k := 0) rfl (by decide +kernel) rfl) ?_
  refine rcons (ro_getf (C := rN1) (T := rF1) (N := 7) (k := 2) (by decide +kernel) rfl (rU1c _) (by decide) (List.mem_cons_of_mem _ q_986) rfl) ?_
  refine rcons (ro_iload_n (k := 2) rfl (by decide +kernel) rfl) ?_
  refine rcons (ro_iald (by decide +kernel) rfl) ?_
  refine rcons (ro_callV (C := rN1) (T := rF1) (N := 7) rfl ok_d_monthBecomes (by decide +kernel) rfl (fun s args ht => cwV (C := rN1) 2 ht (rgoodV (C := rN1) (fun w h => List.mem_cons_of_mem _ h) q_1127 q_1129 q_11 q_14 q_1130) rfl rfl rfl hv_d_monthBecomes ⟨Nat.le_of_ble_eq_true rfl, Nat.le_of_ble_eq_true rfl⟩) rfl) ?_
  refine rcons (ro_iret (by decide +kernel)) ?_
  exact rnil
def ps_d_monthSwap : List Nat := [0, 1, 2, 5, 8, 9, 12, 15, 16, 19, 20, 21, 24, 27, 28, 29, 30, 33, 34, 35, 36, 37, 40, 41, 42, 45, 46, 47, 48, 49, 52, 53, 54, 55, 56, 57, 60, 61, 62, 65, 66, 69, 70, 71]
def tb_d_monthSwap : List RT := [tq_al 0, tq_il 1, tq_call s_d_isNoCell 1 0 0, tq_if1 (fun x => !decide (x = 0)) 7, tq_il 2, tq_call s_d_isNoCell 1 0 0, tq_s1 (fun x => decide (x = 0)) 1 0 10, tq_ic 1, tq_go 10, tq_ic 0, tq_ic 1, tq_call (rV 1 m_d_start) 3 0 0, tq_if1 (fun x => decide (x = 0)) 15, tq_ic 0, tq_iret 0, tq_al 0, tq_getf 1 2, tq_il 1, tq_iald 0, tq_is 4 3, tq_al 0, tq_getf 1 2, tq_il 1, tq_al 0, tq_getf 1 2, tq_il 2, tq_iald 0, tq_iast 0, tq_al 0, tq_getf 1 2, tq_il 2, tq_il 3, tq_iast 0, tq_al 0, tq_dup, tq_getf 1 5, tq_ic 1, tq_i2 (fun x y => x + y), tq_putf 1 5 0, tq_al 0, tq_getf 1 2, tq_il 1, tq_iald 0, tq_iret 0]
def m_d_monthSwap : RM := rMeth tb_d_monthSwap 400 4
abbrev rm_d_monthSwap : Room := { frames := 2, cells := 0, slots := 0, locals := 44 }
set_option maxHeartbeats 4000000 in
set_option maxRecDepth 20000 in
theorem ok_d_monthSwap : rMet y_d_monthSwap (Cond.code y_d_monthSwap prog_4_method_45_code 4 (some .int) :: rT) rm_d_monthSwap 0 m_d_monthSwap := by
  refine rMeth_ok (ps := ps_d_monthSwap) (tab := tb_d_monthSwap) (by decide +kernel) rfl rfl rfl rfl ?_
  refine rcons (ro_aload_n (k := 0) rfl (by decide +kernel) rfl) ?_
  refine rcons (ro_iload_n (k := 1) rfl (by decide +kernel) rfl) ?_
  refine rcons (ro_callS okS_d_isNoCell (by decide +kernel) rfl (fun s args ht => va_cwS 1 ht (rgoodS (fun w h => List.mem_cons_of_mem _ h) q_1010 q_1011 q_14 q_1012) rfl rfl rfl hy_d_isNoCell ⟨Nat.le_of_ble_eq_true rfl, Nat.le_of_ble_eq_true rfl⟩) rfl) ?_
  refine rcons (ro_if_ne (off := 10) (by decide +kernel) rfl rfl) ?_
  refine rcons (ro_iload_n (k := 2) rfl (by decide +kernel) rfl) ?_
  refine rcons (ro_callS okS_d_isNoCell (by decide +kernel) rfl (fun s args ht => va_cwS 1 ht (rgoodS (fun w h => List.mem_cons_of_mem _ h) q_1010 q_1011 q_14 q_1012) rfl rfl rfl hy_d_isNoCell ⟨Nat.le_of_ble_eq_true rfl, Nat.le_of_ble_eq_true rfl⟩) rfl) ?_
  refine rcons (ro_s1_eq (off := 7) (off2 := 4) (n1 := 1) (n2 := 0) (by decide +kernel) (by decide +kernel) rfl (by decide +kernel) (by decide +kernel) rfl rfl rfl rfl) ?_
  refine rcons (ro_iconst (n := 1) (by decide +kernel) rfl rfl) ?_
  refine rcons (ro_goto (off := 4) (by decide +kernel) rfl) ?_
  refine rcons (ro_iconst (n := 0) (by decide +kernel) rfl rfl) ?_
  refine rcons (ro_iconst (n := 1) (by decide +kernel) rfl rfl) ?_
  refine rcons (ro_callV (C := rN1) (T := rF1) (N := 7) rfl ok_d_start (by decide +kernel) rfl (fun s args ht => cwV (C := rN1) 2 ht (rgoodV (C := rN1) (fun w h => List.mem_cons_of_mem _ h) q_1013 q_1015 q_8 q_14 q_1016) rfl rfl rfl hv_d_start ⟨Nat.le_of_ble_eq_true rfl, Nat.le_of_ble_eq_true rfl⟩) rfl) ?_
  refine rcons (ro_if_eq (off := 5) (by decide +kernel) rfl rfl) ?_
  refine rcons (ro_iconst (n := 0) (by decide +kernel) rfl rfl) ?_
  refine rcons (ro_iret (by decide +kernel)) ?_
  refine rcons (ro_aload_n (k := 0) rfl (by decide +kernel) rfl) ?_
  refine rcons (ro_getf (C := rN1) (T := rF1) (N := 7) (k := 2) (by decide +kernel) rfl (rU1c _) (by decide) (List.mem_cons_of_mem _ q_986) rfl) ?_
  refine rcons (ro_iload_n (k := 1) rfl (by decide +kernel) rfl) ?_
  refine rcons (ro_iald (by decide +kernel) rfl) ?_
  refine rcons (ro_istore_n (k := 3) rfl (by decide +kernel) rfl) ?_
  refine rcons (ro_aload_n (k := 0) rfl (by decide +kernel) rfl) ?_
  refine rcons (ro_getf (C := rN1) (T := rF1) (N := 7) (k := 2) (by decide +kernel) rfl (rU1c _) (by decide) (List.mem_cons_of_mem _ q_986) rfl) ?_
  refine rcons (ro_iload_n (k := 1) rfl (by decide +kernel) rfl) ?_
  refine rcons (ro_aload_n (k := 0) rfl (by decide +kernel) rfl) ?_
  refine rcons (ro_getf (C := rN1) (T := rF1) (N := 7) (k := 2) (by decide +kernel) rfl (rU1c _) (by decide) (List.mem_cons_of_mem _ q_986) rfl) ?_
  refine rcons (ro_iload_n (k := 2) rfl (by decide +kernel) rfl) ?_
  refine rcons (ro_iald (by decide +kernel) rfl) ?_
  refine rcons (ro_iast (by decide +kernel) rfl) ?_
  refine rcons (ro_aload_n (k := 0) rfl (by decide +kernel) rfl) ?_
  refine rcons (ro_getf (C := rN1) (T := rF1) (N := 7) (k := 2) (by decide +kernel) rfl (rU1c _) (by decide) (List.mem_cons_of_mem _ q_986) rfl) ?_
  refine rcons (ro_iload_n (k := 2) rfl (by decide +kernel) rfl) ?_
  refine rcons (ro_iload_n (k := 3) rfl (by decide +kernel) rfl) ?_
  refine rcons (ro_iast (by decide +kernel) rfl) ?_
  refine rcons (ro_aload_n (k := 0) rfl (by decide +kernel) rfl) ?_
  refine rcons (ro_dup (by decide +kernel) rfl) ?_
  refine rcons (ro_getf (C := rN1) (T := rF1) (N := 7) (k := 5) (by decide +kernel) rfl (rU1c _) (by decide) (List.mem_cons_of_mem _ q_989) rfl) ?_
  refine rcons (ro_iconst (n := 1) (by decide +kernel) rfl rfl) ?_
  refine rcons (ro_iadd (by decide +kernel) rfl) ?_
  refine rcons (ro_putf (C := rN1) (T := rF1) (N := 7) (k := 5) (Y := rY1) (by decide +kernel) rfl (rU1c _) rY1_ok rD1 (by decide) (List.mem_cons_of_mem _ q_989) rfl (Or.inl ⟨rfl, rfl⟩) rfl) ?_
  refine rcons (ro_aload_n (k := 0) rfl (by decide +kernel) rfl) ?_
  refine rcons (ro_getf (C := rN1) (T := rF1) (N := 7) (k := 2) (by decide +kernel) rfl (rU1c _) (by decide) (List.mem_cons_of_mem _ q_986) rfl) ?_
  refine rcons (ro_iload_n (k := 1) rfl (by decide +kernel) rfl) ?_
  refine rcons (ro_iald (by decide +kernel) rfl) ?_
  refine rcons (ro_iret (by decide +kernel)) ?_
  exact rnil
def ps_d_monthOrder : List Nat := [0, 1, 2, 5, 8, 9, 12, 15, 16, 19, 20, 21, 24, 27, 28, 31, 32, 35, 36, 37, 38, 41, 42, 43, 46]
def tb_d_monthOrder : List RT := [tq_al 0, tq_il 1, tq_call s_d_isNoCell 1 0 0, tq_if1 (fun x => !decide (x = 0)) 7, tq_il 2, tq_call s_d_isNoCell 1 0 0, tq_s1 (fun x => decide (x = 0)) 1 0 10, tq_ic 1, tq_go 10, tq_ic 0, tq_ic 1, tq_call (rV 1 m_d_start) 3 0 0, tq_if1 (fun x => decide (x = 0)) 15, tq_ic 0, tq_go 24, tq_al 0, tq_getf 1 2, tq_il 1, tq_iald 0, tq_al 0, tq_getf 1 2, tq_il 2, tq_iald 0, tq_call s_d_order 2 0 0, tq_iret 0]
def m_d_monthOrder : RM := rMeth tb_d_monthOrder 400 3
abbrev rm_d_monthOrder : Room := { frames := 2, cells := 0, slots := 0, locals := 44 }
set_option maxHeartbeats 4000000 in
set_option maxRecDepth 20000 in
theorem ok_d_monthOrder : rMet y_d_monthOrder (Cond.code y_d_monthOrder prog_4_method_46_code 3 (some .int) :: rT) rm_d_monthOrder 0 m_d_monthOrder := by
  refine rMeth_ok (ps := ps_d_monthOrder) (tab := tb_d_monthOrder) (by decide +kernel) rfl rfl rfl rfl ?_
  refine rcons (ro_aload_n (k := 0) rfl (by decide +kernel) rfl) ?_
  refine rcons (ro_iload_n (k := 1) rfl (by decide +kernel) rfl) ?_
  refine rcons (ro_callS okS_d_isNoCell (by decide +kernel) rfl (fun s args ht => va_cwS 1 ht (rgoodS (fun w h => List.mem_cons_of_mem _ h) q_1010 q_1011 q_14 q_1012) rfl rfl rfl hy_d_isNoCell ⟨Nat.le_of_ble_eq_true rfl, Nat.le_of_ble_eq_true rfl⟩) rfl) ?_
  refine rcons (ro_if_ne (off := 10) (by decide +kernel) rfl rfl) ?_
  refine rcons (ro_iload_n (k := 2) rfl (by decide +kernel) rfl) ?_
  refine rcons (ro_callS okS_d_isNoCell (by decide +kernel) rfl (fun s args ht => va_cwS 1 ht (rgoodS (fun w h => List.mem_cons_of_mem _ h) q_1010 q_1011 q_14 q_1012) rfl rfl rfl hy_d_isNoCell ⟨Nat.le_of_ble_eq_true rfl, Nat.le_of_ble_eq_true rfl⟩) rfl) ?_
  refine rcons (ro_s1_eq (off := 7) (off2 := 4) (n1 := 1) (n2 := 0) (by decide +kernel) (by decide +kernel) rfl (by decide +kernel) (by decide +kernel) rfl rfl rfl rfl) ?_
  refine rcons (ro_iconst (n := 1) (by decide +kernel) rfl rfl) ?_
  refine rcons (ro_goto (off := 4) (by decide +kernel) rfl) ?_
  refine rcons (ro_iconst (n := 0) (by decide +kernel) rfl rfl) ?_
  refine rcons (ro_iconst (n := 1) (by decide +kernel) rfl rfl) ?_
  refine rcons (ro_callV (C := rN1) (T := rF1) (N := 7) rfl ok_d_start (by decide +kernel) rfl (fun s args ht => cwV (C := rN1) 2 ht (rgoodV (C := rN1) (fun w h => List.mem_cons_of_mem _ h) q_1013 q_1015 q_8 q_14 q_1016) rfl rfl rfl hv_d_start ⟨Nat.le_of_ble_eq_true rfl, Nat.le_of_ble_eq_true rfl⟩) rfl) ?_
  refine rcons (ro_if_eq (off := 7) (by decide +kernel) rfl rfl) ?_
  refine rcons (ro_iconst (n := 0) (by decide +kernel) rfl rfl) ?_
  refine rcons (ro_goto (off := 18) (by decide +kernel) rfl) ?_
  refine rcons (ro_aload_n (k := 0) rfl (by decide +kernel) rfl) ?_
  refine rcons (ro_getf (C := rN1) (T := rF1) (N := 7) (k := 2) (by decide +kernel) rfl (rU1c _) (by decide) (List.mem_cons_of_mem _ q_986) rfl) ?_
  refine rcons (ro_iload_n (k := 1) rfl (by decide +kernel) rfl) ?_
  refine rcons (ro_iald (by decide +kernel) rfl) ?_
  refine rcons (ro_aload_n (k := 0) rfl (by decide +kernel) rfl) ?_
  refine rcons (ro_getf (C := rN1) (T := rF1) (N := 7) (k := 2) (by decide +kernel) rfl (rU1c _) (by decide) (List.mem_cons_of_mem _ q_986) rfl) ?_
  refine rcons (ro_iload_n (k := 2) rfl (by decide +kernel) rfl) ?_
  refine rcons (ro_iald (by decide +kernel) rfl) ?_
  refine rcons (ro_callS okS_d_order (by decide +kernel) rfl (fun s args ht => va_cwS 2 ht (rgoodS (fun w h => List.mem_cons_of_mem _ h) q_1094 q_1095 q_14 q_1096) rfl rfl rfl hy_d_order ⟨Nat.le_of_ble_eq_true rfl, Nat.le_of_ble_eq_true rfl⟩) rfl) ?_
  refine rcons (ro_iret (by decide +kernel)) ?_
  exact rnil
def ps_d_isSameMonth : List Nat := [0, 1, 2, 5, 8, 9, 12, 15, 16, 19, 20, 21, 24, 27, 28, 31, 32, 33, 34, 37, 38, 39, 42, 43, 46, 47]
def tb_d_isSameMonth : List RT := [tq_al 0, tq_il 1, tq_call s_d_isNoCell 1 0 0, tq_if1 (fun x => !decide (x = 0)) 7, tq_il 2, tq_call s_d_isNoCell 1 0 0, tq_s1 (fun x => decide (x = 0)) 1 0 10, tq_ic 1, tq_go 10, tq_ic 0, tq_ic 1, tq_call (rV 1 m_d_start) 3 0 0, tq_if1 (fun x => !decide (x = 0)) 24, tq_al 0, tq_getf 1 2, tq_il 1, tq_iald 0, tq_al 0, tq_getf 1 2, tq_il 2, tq_iald 0, tq_s2 (fun x y => !decide (x = y)) 1 0 25, tq_ic 1, tq_go 25, tq_ic 0, tq_zret 0]
def m_d_isSameMonth : RM := rMeth tb_d_isSameMonth 400 3
abbrev rm_d_isSameMonth : Room := { frames := 2, cells := 0, slots := 0, locals := 44 }
set_option maxHeartbeats 4000000 in
set_option maxRecDepth 20000 in
theorem ok_d_isSameMonth : rMet y_d_isSameMonth (Cond.code y_d_isSameMonth prog_4_method_47_code 3 (some .boolean) :: rT) rm_d_isSameMonth 0 m_d_isSameMonth := by
  refine rMeth_ok (ps := ps_d_isSameMonth) (tab := tb_d_isSameMonth) (by decide +kernel) rfl rfl rfl rfl ?_
  refine rcons (ro_aload_n (k := 0) rfl (by decide +kernel) rfl) ?_
  refine rcons (ro_iload_n (k := 1) rfl (by decide +kernel) rfl) ?_
  refine rcons (ro_callS okS_d_isNoCell (by decide +kernel) rfl (fun s args ht => va_cwS 1 ht (rgoodS (fun w h => List.mem_cons_of_mem _ h) q_1010 q_1011 q_14 q_1012) rfl rfl rfl hy_d_isNoCell ⟨Nat.le_of_ble_eq_true rfl, Nat.le_of_ble_eq_true rfl⟩) rfl) ?_
  refine rcons (ro_if_ne (off := 10) (by decide +kernel) rfl rfl) ?_
  refine rcons (ro_iload_n (k := 2) rfl (by decide +kernel) rfl) ?_
  refine rcons (ro_callS okS_d_isNoCell (by decide +kernel) rfl (fun s args ht => va_cwS 1 ht (rgoodS (fun w h => List.mem_cons_of_mem _ h) q_1010 q_1011 q_14 q_1012) rfl rfl rfl hy_d_isNoCell ⟨Nat.le_of_ble_eq_true rfl, Nat.le_of_ble_eq_true rfl⟩) rfl) ?_
  refine rcons (ro_s1_eq (off := 7) (off2 := 4) (n1 := 1) (n2 := 0) (by decide +kernel) (by decide +kernel) rfl (by decide +kernel) (by decide +kernel) rfl rfl rfl rfl) ?_
  refine rcons (ro_iconst (n := 1) (by decide +kernel) rfl rfl) ?_
  refine rcons (ro_goto (off := 4) (by decide +kernel) rfl) ?_
  refine rcons (ro_iconst (n := 0) (by decide +kernel) rfl rfl) ?_
  refine rcons (ro_iconst (n := 1) (by decide +kernel) rfl rfl) ?_
  refine rcons (ro_callV (C := rN1) (T := rF1) (N := 7) rfl ok_d_start (by decide +kernel) rfl (fun s args ht => cwV (C := rN1) 2 ht (rgoodV (C := rN1) (fun w h => List.mem_cons_of_mem _ h) q_1013 q_1015 q_8 q_14 q_1016) rfl rfl rfl hv_d_start ⟨Nat.le_of_ble_eq_true rfl, Nat.le_of_ble_eq_true rfl⟩) rfl) ?_
  refine rcons (ro_if_ne (off := 22) (by decide +kernel) rfl rfl) ?_
  refine rcons (ro_aload_n (k := 0) rfl (by decide +kernel) rfl) ?_
  refine rcons (ro_getf (C := rN1) (T := rF1) (N := 7) (k := 2) (by decide +kernel) rfl (rU1c _) (by decide) (List.mem_cons_of_mem _ q_986) rfl) ?_
  refine rcons (ro_iload_n (k := 1) rfl (by decide +kernel) rfl) ?_
  refine rcons (ro_iald (by decide +kernel) rfl) ?_
  refine rcons (ro_aload_n (k := 0) rfl (by decide +kernel) rfl) ?_
  refine rcons (ro_getf (C := rN1) (T := rF1) (N := 7) (k := 2) (by decide +kernel) rfl (rU1c _) (by decide) (List.mem_cons_of_mem _ q_986) rfl) ?_
  refine rcons (ro_iload_n (k := 2) rfl (by decide +kernel) rfl) ?_
  refine rcons (ro_iald (by decide +kernel) rfl) ?_
  refine rcons (ro_s2_ne (off := 7) (off2 := 4) (n1 := 1) (n2 := 0) (by decide +kernel) (by decide +kernel) rfl (by decide +kernel) (by decide +kernel) rfl rfl rfl rfl) ?_
  refine rcons (ro_iconst (n := 1) (by decide +kernel) rfl rfl) ?_
  refine rcons (ro_goto (off := 4) (by decide +kernel) rfl) ?_
  refine rcons (ro_iconst (n := 0) (by decide +kernel) rfl rfl) ?_
  refine rcons (ro_zret (by decide +kernel)) ?_
  exact rnil
def ps_d_isMonth : List Nat := [0, 1, 2, 5, 6, 9, 12, 13, 14, 15, 18, 19, 21, 24, 25, 28, 29, 30, 33, 36, 37, 40, 41, 42, 43, 46, 47, 50, 51]
def tb_d_isMonth : List RT := [tq_al 0, tq_il 1, tq_call s_d_isNoCell 1 0 0, tq_ic 1, tq_call (rV 1 m_d_start) 3 0 0, tq_if1 (fun x => !decide (x = 0)) 27, tq_al 0, tq_il 2, tq_ic 1, tq_if2 (fun x y => decide (x < y)) 13, tq_il 2, tq_ic 12, tq_s2 (fun x y => decide (x ≤ y)) 1 0 16, tq_ic 1, tq_go 16, tq_ic 0, tq_ic 2, tq_call (rV 1 m_d_refuse) 3 0 0, tq_if1 (fun x => !decide (x = 0)) 27, tq_al 0, tq_getf 1 2, tq_il 1, tq_iald 0, tq_il 2, tq_s2 (fun x y => !decide (x = y)) 1 0 28, tq_ic 1, tq_go 28, tq_ic 0, tq_zret 0]
def m_d_isMonth : RM := rMeth tb_d_isMonth 400 3
abbrev rm_d_isMonth : Room := { frames := 2, cells := 0, slots := 0, locals := 44 }
set_option maxHeartbeats 4000000 in
set_option maxRecDepth 20000 in
theorem ok_d_isMonth : rMet y_d_isMonth (Cond.code y_d_isMonth prog_4_method_48_code 3 (some .boolean) :: rT) rm_d_isMonth 0 m_d_isMonth := by
  refine rMeth_ok (ps := ps_d_isMonth) (tab := tb_d_isMonth) (by decide +kernel) rfl rfl rfl rfl ?_
  refine rcons (ro_aload_n (k := 0) rfl (by decide +kernel) rfl) ?_
  refine rcons (ro_iload_n (k := 1) rfl (by decide +kernel) rfl) ?_
  refine rcons (ro_callS okS_d_isNoCell (by decide +kernel) rfl (fun s args ht => va_cwS 1 ht (rgoodS (fun w h => List.mem_cons_of_mem _ h) q_1010 q_1011 q_14 q_1012) rfl rfl rfl hy_d_isNoCell ⟨Nat.le_of_ble_eq_true rfl, Nat.le_of_ble_eq_true rfl⟩) rfl) ?_
  refine rcons (ro_iconst (n := 1) (by decide +kernel) rfl rfl) ?_
  refine rcons (ro_callV (C := rN1) (T := rF1) (N := 7) rfl ok_d_start (by decide +kernel) rfl (fun s args ht => cwV (C := rN1) 2 ht (rgoodV (C := rN1) (fun w h => List.mem_cons_of_mem _ h) q_1013 q_1015 q_8 q_14 q_1016) rfl rfl rfl hv_d_start ⟨Nat.le_of_ble_eq_true rfl, Nat.le_of_ble_eq_true rfl⟩) rfl) ?_
  refine rcons (ro_if_ne (off := 41) (by decide +kernel) rfl rfl) ?_
  refine rcons (ro_aload_n (k := 0) rfl (by decide +kernel) rfl) ?_
  refine rcons (ro_iload_n (k := 2) rfl (by decide +kernel) rfl) ?_
  refine rcons (ro_iconst (n := 1) (by decide +kernel) rfl rfl) ?_
  refine rcons (ro_icmp_lt (off := 9) (by decide +kernel) rfl rfl) ?_
  refine rcons (ro_iload_n (k := 2) rfl (by decide +kernel) rfl) ?_
  refine rcons (ro_bipush (n := 12) (by decide +kernel) rfl rfl) ?_
  refine rcons (ro_s2_le (off := 7) (off2 := 4) (n1 := 1) (n2 := 0) (by decide +kernel) (by decide +kernel) rfl (by decide +kernel) (by decide +kernel) rfl rfl rfl rfl) ?_
  refine rcons (ro_iconst (n := 1) (by decide +kernel) rfl rfl) ?_
  refine rcons (ro_goto (off := 4) (by decide +kernel) rfl) ?_
  refine rcons (ro_iconst (n := 0) (by decide +kernel) rfl rfl) ?_
  refine rcons (ro_iconst (n := 2) (by decide +kernel) rfl rfl) ?_
  refine rcons (ro_callV (C := rN1) (T := rF1) (N := 7) rfl ok_d_refuse (by decide +kernel) rfl (fun s args ht => cwV (C := rN1) 2 ht (rgoodV (C := rN1) (fun w h => List.mem_cons_of_mem _ h) q_1017 q_1019 q_9 q_14 q_1020) rfl rfl rfl hv_d_refuse ⟨Nat.le_of_ble_eq_true rfl, Nat.le_of_ble_eq_true rfl⟩) rfl) ?_
  refine rcons (ro_if_ne (off := 17) (by decide +kernel) rfl rfl) ?_
  refine rcons (ro_aload_n (k := 0) rfl (by decide +kernel) rfl) ?_
  refine rcons (ro_getf (C := rN1) (T := rF1) (N := 7) (k := 2) (by decide +kernel) rfl (rU1c _) (by decide) (List.mem_cons_of_mem _ q_986) rfl) ?_
  refine rcons (ro_iload_n (k := 1) rfl (by decide +kernel) rfl) ?_
  refine rcons (ro_iald (by decide +kernel) rfl) ?_
  refine rcons (ro_iload_n (k := 2) rfl (by decide +kernel) rfl) ?_
  refine rcons (ro_s2_ne (off := 7) (off2 := 4) (n1 := 1) (n2 := 0) (by decide +kernel) (by decide +kernel) rfl (by decide +kernel) (by decide +kernel) rfl rfl rfl rfl) ?_
  refine rcons (ro_iconst (n := 1) (by decide +kernel) rfl rfl) ?_
  refine rcons (ro_goto (off := 4) (by decide +kernel) rfl) ?_
  refine rcons (ro_iconst (n := 0) (by decide +kernel) rfl rfl) ?_
  refine rcons (ro_zret (by decide +kernel)) ?_
  exact rnil
def ps_d_length : List Nat := [0, 1, 2, 5, 6, 9, 12, 13, 16, 17, 20, 21, 22, 23, 26]
def tb_d_length : List RT := [tq_al 0, tq_il 1, tq_call s_d_isNoCell 1 0 0, tq_ic 1, tq_call (rV 1 m_d_start) 3 0 0, tq_if1 (fun x => decide (x = 0)) 8, tq_ic 0, tq_go 14, tq_al 0, tq_getf 1 2, tq_il 1, tq_iald 0, tq_il 2, tq_call s_d_lengthOf 2 0 0, tq_iret 0]
def m_d_length : RM := rMeth tb_d_length 400 3
abbrev rm_d_length : Room := { frames := 2, cells := 0, slots := 0, locals := 44 }
set_option maxHeartbeats 4000000 in
set_option maxRecDepth 20000 in
theorem ok_d_length : rMet y_d_length (Cond.code y_d_length prog_4_method_49_code 3 (some .int) :: rT) rm_d_length 0 m_d_length := by
  refine rMeth_ok (ps := ps_d_length) (tab := tb_d_length) (by decide +kernel) rfl rfl rfl rfl ?_
  refine rcons (ro_aload_n (k := 0) rfl (by decide +kernel) rfl) ?_
  refine rcons (ro_iload_n (k := 1) rfl (by decide +kernel) rfl) ?_
  refine rcons (ro_callS okS_d_isNoCell (by decide +kernel) rfl (fun s args ht => va_cwS 1 ht (rgoodS (fun w h => List.mem_cons_of_mem _ h) q_1010 q_1011 q_14 q_1012) rfl rfl rfl hy_d_isNoCell ⟨Nat.le_of_ble_eq_true rfl, Nat.le_of_ble_eq_true rfl⟩) rfl) ?_
  refine rcons (ro_iconst (n := 1) (by decide +kernel) rfl rfl) ?_
  refine rcons (ro_callV (C := rN1) (T := rF1) (N := 7) rfl ok_d_start (by decide +kernel) rfl (fun s args ht => cwV (C := rN1) 2 ht (rgoodV (C := rN1) (fun w h => List.mem_cons_of_mem _ h) q_1013 q_1015 q_8 q_14 q_1016) rfl rfl rfl hv_d_start ⟨Nat.le_of_ble_eq_true rfl, Nat.le_of_ble_eq_true rfl⟩) rfl) ?_
  refine rcons (ro_if_eq (off := 7) (by decide +kernel) rfl rfl) ?_
  refine rcons (ro_iconst (n := 0) (by decide +kernel) rfl rfl) ?_
  refine rcons (ro_goto (off := 13) (by decide +kernel) rfl) ?_
  refine rcons (ro_aload_n (k := 0) rfl (by decide +kernel) rfl) ?_
  refine rcons (ro_getf (C := rN1) (T := rF1) (N := 7) (k := 2) (by decide +kernel) rfl (rU1c _) (by decide) (List.mem_cons_of_mem _ q_986) rfl) ?_
  refine rcons (ro_iload_n (k := 1) rfl (by decide +kernel) rfl) ?_
  refine rcons (ro_iald (by decide +kernel) rfl) ?_
  refine rcons (ro_iload_n (k := 2) rfl (by decide +kernel) rfl) ?_
  refine rcons (ro_callS okS_d_lengthOf (by decide +kernel) rfl (fun s args ht => va_cwS 2 ht (rgoodS (fun w h => List.mem_cons_of_mem _ h) q_1183 q_1184 q_14 q_1185) rfl rfl rfl hy_d_lengthOf ⟨Nat.le_of_ble_eq_true rfl, Nat.le_of_ble_eq_true rfl⟩) rfl) ?_
  refine rcons (ro_iret (by decide +kernel)) ?_
  exact rnil
def ps_d_least : List Nat := [0, 1, 2, 5, 6, 9, 12, 13, 16, 17, 20, 21, 22, 23, 26]
def tb_d_least : List RT := [tq_al 0, tq_il 1, tq_call s_d_isNoCell 1 0 0, tq_ic 1, tq_call (rV 1 m_d_start) 3 0 0, tq_if1 (fun x => decide (x = 0)) 8, tq_ic 0, tq_go 14, tq_al 0, tq_getf 1 2, tq_il 1, tq_iald 0, tq_ic 0, tq_call s_d_lengthOf 2 0 0, tq_iret 0]
def m_d_least : RM := rMeth tb_d_least 400 2
abbrev rm_d_least : Room := { frames := 2, cells := 0, slots := 0, locals := 44 }
set_option maxHeartbeats 4000000 in
set_option maxRecDepth 20000 in
theorem ok_d_least : rMet y_d_least (Cond.code y_d_least prog_4_method_50_code 2 (some .int) :: rT) rm_d_least 0 m_d_least := by
  refine rMeth_ok (ps := ps_d_least) (tab := tb_d_least) (by decide +kernel) rfl rfl rfl rfl ?_
  refine rcons (ro_aload_n (k := 0) rfl (by decide +kernel) rfl) ?_
  refine rcons (ro_iload_n (k := 1) rfl (by decide +kernel) rfl) ?_
  refine rcons (ro_callS okS_d_isNoCell (by decide +kernel) rfl (fun s args ht => va_cwS 1 ht (rgoodS (fun w h => List.mem_cons_of_mem _ h) q_1010 q_1011 q_14 q_1012) rfl rfl rfl hy_d_isNoCell ⟨Nat.le_of_ble_eq_true rfl, Nat.le_of_ble_eq_true rfl⟩) rfl) ?_
  refine rcons (ro_iconst (n := 1) (by decide +kernel) rfl rfl) ?_
  refine rcons (ro_callV (C := rN1) (T := rF1) (N := 7) rfl ok_d_start (by decide +kernel) rfl (fun s args ht => cwV (C := rN1) 2 ht (rgoodV (C := rN1) (fun w h => List.mem_cons_of_mem _ h) q_1013 q_1015 q_8 q_14 q_1016) rfl rfl rfl hv_d_start ⟨Nat.le_of_ble_eq_true rfl, Nat.le_of_ble_eq_true rfl⟩) rfl) ?_
  refine rcons (ro_if_eq (off := 7) (by decide +kernel) rfl rfl) ?_
  refine rcons (ro_iconst (n := 0) (by decide +kernel) rfl rfl) ?_
  refine rcons (ro_goto (off := 13) (by decide +kernel) rfl) ?_
  refine rcons (ro_aload_n (k := 0) rfl (by decide +kernel) rfl) ?_
  refine rcons (ro_getf (C := rN1) (T := rF1) (N := 7) (k := 2) (by decide +kernel) rfl (rU1c _) (by decide) (List.mem_cons_of_mem _ q_986) rfl) ?_
  refine rcons (ro_iload_n (k := 1) rfl (by decide +kernel) rfl) ?_
  refine rcons (ro_iald (by decide +kernel) rfl) ?_
  refine rcons (ro_iconst (n := 0) (by decide +kernel) rfl rfl) ?_
  refine rcons (ro_callS okS_d_lengthOf (by decide +kernel) rfl (fun s args ht => va_cwS 2 ht (rgoodS (fun w h => List.mem_cons_of_mem _ h) q_1183 q_1184 q_14 q_1185) rfl rfl rfl hy_d_lengthOf ⟨Nat.le_of_ble_eq_true rfl, Nat.le_of_ble_eq_true rfl⟩) rfl) ?_
  refine rcons (ro_iret (by decide +kernel)) ?_
  exact rnil
def ps_d_greatest : List Nat := [0, 1, 2, 5, 6, 9, 12, 13, 16, 17, 20, 21, 22, 23, 26]
def tb_d_greatest : List RT := [tq_al 0, tq_il 1, tq_call s_d_isNoCell 1 0 0, tq_ic 1, tq_call (rV 1 m_d_start) 3 0 0, tq_if1 (fun x => decide (x = 0)) 8, tq_ic 0, tq_go 14, tq_al 0, tq_getf 1 2, tq_il 1, tq_iald 0, tq_ic 1, tq_call s_d_lengthOf 2 0 0, tq_iret 0]
def m_d_greatest : RM := rMeth tb_d_greatest 400 2
abbrev rm_d_greatest : Room := { frames := 2, cells := 0, slots := 0, locals := 44 }
set_option maxHeartbeats 4000000 in
set_option maxRecDepth 20000 in
theorem ok_d_greatest : rMet y_d_greatest (Cond.code y_d_greatest prog_4_method_51_code 2 (some .int) :: rT) rm_d_greatest 0 m_d_greatest := by
  refine rMeth_ok (ps := ps_d_greatest) (tab := tb_d_greatest) (by decide +kernel) rfl rfl rfl rfl ?_
  refine rcons (ro_aload_n (k := 0) rfl (by decide +kernel) rfl) ?_
  refine rcons (ro_iload_n (k := 1) rfl (by decide +kernel) rfl) ?_
  refine rcons (ro_callS okS_d_isNoCell (by decide +kernel) rfl (fun s args ht => va_cwS 1 ht (rgoodS (fun w h => List.mem_cons_of_mem _ h) q_1010 q_1011 q_14 q_1012) rfl rfl rfl hy_d_isNoCell ⟨Nat.le_of_ble_eq_true rfl, Nat.le_of_ble_eq_true rfl⟩) rfl) ?_
  refine rcons (ro_iconst (n := 1) (by decide +kernel) rfl rfl) ?_
  refine rcons (ro_callV (C := rN1) (T := rF1) (N := 7) rfl ok_d_start (by decide +kernel) rfl (fun s args ht => cwV (C := rN1) 2 ht (rgoodV (C := rN1) (fun w h => List.mem_cons_of_mem _ h) q_1013 q_1015 q_8 q_14 q_1016) rfl rfl rfl hv_d_start ⟨Nat.le_of_ble_eq_true rfl, Nat.le_of_ble_eq_true rfl⟩) rfl) ?_
  refine rcons (ro_if_eq (off := 7) (by decide +kernel) rfl rfl) ?_
  refine rcons (ro_iconst (n := 0) (by decide +kernel) rfl rfl) ?_
  refine rcons (ro_goto (off := 13) (by decide +kernel) rfl) ?_
  refine rcons (ro_aload_n (k := 0) rfl (by decide +kernel) rfl) ?_
  refine rcons (ro_getf (C := rN1) (T := rF1) (N := 7) (k := 2) (by decide +kernel) rfl (rU1c _) (by decide) (List.mem_cons_of_mem _ q_986) rfl) ?_
  refine rcons (ro_iload_n (k := 1) rfl (by decide +kernel) rfl) ?_
  refine rcons (ro_iald (by decide +kernel) rfl) ?_
  refine rcons (ro_iconst (n := 1) (by decide +kernel) rfl rfl) ?_
  refine rcons (ro_callS okS_d_lengthOf (by decide +kernel) rfl (fun s args ht => va_cwS 2 ht (rgoodS (fun w h => List.mem_cons_of_mem _ h) q_1183 q_1184 q_14 q_1185) rfl rfl rfl hy_d_lengthOf ⟨Nat.le_of_ble_eq_true rfl, Nat.le_of_ble_eq_true rfl⟩) rfl) ?_
  refine rcons (ro_iret (by decide +kernel)) ?_
  exact rnil
def ps_d_first : List Nat := [0, 1, 2, 5, 6, 9, 12, 13, 16, 17, 20, 21, 22, 23, 26]
def tb_d_first : List RT := [tq_al 0, tq_il 1, tq_call s_d_isNoCell 1 0 0, tq_ic 1, tq_call (rV 1 m_d_start) 3 0 0, tq_if1 (fun x => decide (x = 0)) 8, tq_ic 0, tq_go 14, tq_al 0, tq_getf 1 2, tq_il 1, tq_iald 0, tq_il 2, tq_call s_d_firstOf 2 0 0, tq_iret 0]
def m_d_first : RM := rMeth tb_d_first 400 3
abbrev rm_d_first : Room := { frames := 2, cells := 0, slots := 0, locals := 44 }
set_option maxHeartbeats 4000000 in
set_option maxRecDepth 20000 in
theorem ok_d_first : rMet y_d_first (Cond.code y_d_first prog_4_method_52_code 3 (some .int) :: rT) rm_d_first 0 m_d_first := by
  refine rMeth_ok (ps := ps_d_first) (tab := tb_d_first) (by decide +kernel) rfl rfl rfl rfl ?_
  refine rcons (ro_aload_n (k := 0) rfl (by decide +kernel) rfl) ?_
  refine rcons (ro_iload_n (k := 1) rfl (by decide +kernel) rfl) ?_
  refine rcons (ro_callS okS_d_isNoCell (by decide +kernel) rfl (fun s args ht => va_cwS 1 ht (rgoodS (fun w h => List.mem_cons_of_mem _ h) q_1010 q_1011 q_14 q_1012) rfl rfl rfl hy_d_isNoCell ⟨Nat.le_of_ble_eq_true rfl, Nat.le_of_ble_eq_true rfl⟩) rfl) ?_
  refine rcons (ro_iconst (n := 1) (by decide +kernel) rfl rfl) ?_
  refine rcons (ro_callV (C := rN1) (T := rF1) (N := 7) rfl ok_d_start (by decide +kernel) rfl (fun s args ht => cwV (C := rN1) 2 ht (rgoodV (C := rN1) (fun w h => List.mem_cons_of_mem _ h) q_1013 q_1015 q_8 q_14 q_1016) rfl rfl rfl hv_d_start ⟨Nat.le_of_ble_eq_true rfl, Nat.le_of_ble_eq_true rfl⟩) rfl) ?_
  refine rcons (ro_if_eq (off := 7) (by decide +kernel) rfl rfl) ?_
  refine rcons (ro_iconst (n := 0) (by decide +kernel) rfl rfl) ?_
  refine rcons (ro_goto (off := 13) (by decide +kernel) rfl) ?_
  refine rcons (ro_aload_n (k := 0) rfl (by decide +kernel) rfl) ?_
  refine rcons (ro_getf (C := rN1) (T := rF1) (N := 7) (k := 2) (by decide +kernel) rfl (rU1c _) (by decide) (List.mem_cons_of_mem _ q_986) rfl) ?_
  refine rcons (ro_iload_n (k := 1) rfl (by decide +kernel) rfl) ?_
  refine rcons (ro_iald (by decide +kernel) rfl) ?_
  refine rcons (ro_iload_n (k := 2) rfl (by decide +kernel) rfl) ?_
  refine rcons (ro_callS okS_d_firstOf (by decide +kernel) rfl (fun s args ht => va_cwS 2 ht (rgoodS (fun w h => List.mem_cons_of_mem _ h) q_1200 q_1201 q_14 q_1202) rfl rfl rfl hy_d_firstOf ⟨Nat.le_of_ble_eq_true rfl, Nat.le_of_ble_eq_true rfl⟩) rfl) ?_
  refine rcons (ro_iret (by decide +kernel)) ?_
  exact rnil
def ps_d_quarter : List Nat := [0, 1, 2, 5, 6, 9, 12, 13, 16, 17, 20, 21, 22, 25]
def tb_d_quarter : List RT := [tq_al 0, tq_il 1, tq_call s_d_isNoCell 1 0 0, tq_ic 1, tq_call (rV 1 m_d_start) 3 0 0, tq_if1 (fun x => decide (x = 0)) 8, tq_ic 0, tq_go 13, tq_al 0, tq_getf 1 2, tq_il 1, tq_iald 0, tq_call s_d_quarterOf 1 0 0, tq_iret 0]
def m_d_quarter : RM := rMeth tb_d_quarter 400 2
abbrev rm_d_quarter : Room := { frames := 2, cells := 0, slots := 0, locals := 44 }
set_option maxHeartbeats 4000000 in
set_option maxRecDepth 20000 in
theorem ok_d_quarter : rMet y_d_quarter (Cond.code y_d_quarter prog_4_method_53_code 2 (some .int) :: rT) rm_d_quarter 0 m_d_quarter := by
  refine rMeth_ok (ps := ps_d_quarter) (tab := tb_d_quarter) (by decide +kernel) rfl rfl rfl rfl ?_
  refine rcons (ro_aload_n (k := 0) rfl (by decide +kernel) rfl) ?_
  refine rcons (ro_iload_n (k := 1) rfl (by decide +kernel) rfl) ?_
  refine rcons (ro_callS okS_d_isNoCell (by decide +kernel) rfl (fun s args ht => va_cwS 1 ht (rgoodS (fun w h => List.mem_cons_of_mem _ h) q_1010 q_1011 q_14 q_1012) rfl rfl rfl hy_d_isNoCell ⟨Nat.le_of_ble_eq_true rfl, Nat.le_of_ble_eq_true rfl⟩) rfl) ?_
  refine rcons (ro_iconst (n := 1) (by decide +kernel) rfl rfl) ?_
  refine rcons (ro_callV (C := rN1) (T := rF1) (N := 7) rfl ok_d_start (by decide +kernel) rfl (fun s args ht => cwV (C := rN1) 2 ht (rgoodV (C := rN1) (fun w h => List.mem_cons_of_mem _ h) q_1013 q_1015 q_8 q_14 q_1016) rfl rfl rfl hv_d_start ⟨Nat.le_of_ble_eq_true rfl, Nat.le_of_ble_eq_true rfl⟩) rfl) ?_
  refine rcons (ro_if_eq (off := 7) (by decide +kernel) rfl rfl) ?_
  refine rcons (ro_iconst (n := 0) (by decide +kernel) rfl rfl) ?_
  refine rcons (ro_goto (off := 12) (by decide +kernel) rfl) ?_
  refine rcons (ro_aload_n (k := 0) rfl (by decide +kernel) rfl) ?_
  refine rcons (ro_getf (C := rN1) (T := rF1) (N := 7) (k := 2) (by decide +kernel) rfl (rU1c _) (by decide) (List.mem_cons_of_mem _ q_986) rfl) ?_
  refine rcons (ro_iload_n (k := 1) rfl (by decide +kernel) rfl) ?_
  refine rcons (ro_iald (by decide +kernel) rfl) ?_
  refine rcons (ro_callS okS_d_quarterOf (by decide +kernel) rfl (fun s args ht => va_cwS 1 ht (rgoodS (fun w h => List.mem_cons_of_mem _ h) q_1207 q_1208 q_14 q_1209) rfl rfl rfl hy_d_quarterOf ⟨Nat.le_of_ble_eq_true rfl, Nat.le_of_ble_eq_true rfl⟩) rfl) ?_
  refine rcons (ro_iret (by decide +kernel)) ?_
  exact rnil
def ps_d_toQuarter : List Nat := [0, 1, 2, 5, 6, 9, 12, 13, 14, 15, 18, 19, 20, 21, 22, 25, 26, 27, 30, 31, 32, 33, 36, 37, 38, 41, 42, 43, 46, 47, 48, 49]
def tb_d_toQuarter : List RT := [tq_al 0, tq_il 1, tq_call s_d_isNoCell 1 0 0, tq_ic 1, tq_call (rV 1 m_d_start) 3 0 0, tq_if1 (fun x => decide (x = 0)) 8, tq_ic 0, tq_iret 0, tq_al 0, tq_getf 1 2, tq_il 1, tq_iald 0, tq_is 3 2, tq_al 0, tq_getf 1 2, tq_il 1, tq_il 2, tq_call s_d_quarterOf 1 0 0, tq_iast 0, tq_al 0, tq_dup, tq_getf 1 5, tq_ic 1, tq_i2 (fun x y => x + y), tq_putf 1 5 0, tq_il 2, tq_al 0, tq_getf 1 2, tq_il 1, tq_iald 0, tq_i2 (fun x y => x - y), tq_iret 0]
def m_d_toQuarter : RM := rMeth tb_d_toQuarter 400 3
abbrev rm_d_toQuarter : Room := { frames := 2, cells := 0, slots := 0, locals := 44 }
set_option maxHeartbeats 4000000 in
set_option maxRecDepth 20000 in
theorem ok_d_toQuarter : rMet y_d_toQuarter (Cond.code y_d_toQuarter prog_4_method_54_code 3 (some .int) :: rT) rm_d_toQuarter 0 m_d_toQuarter := by
  refine rMeth_ok (ps := ps_d_toQuarter) (tab := tb_d_toQuarter) (by decide +kernel) rfl rfl rfl rfl ?_
  refine rcons (ro_aload_n (k := 0) rfl (by decide +kernel) rfl) ?_
  refine rcons (ro_iload_n (k := 1) rfl (by decide +kernel) rfl) ?_
  refine rcons (ro_callS okS_d_isNoCell (by decide +kernel) rfl (fun s args ht => va_cwS 1 ht (rgoodS (fun w h => List.mem_cons_of_mem _ h) q_1010 q_1011 q_14 q_1012) rfl rfl rfl hy_d_isNoCell ⟨Nat.le_of_ble_eq_true rfl, Nat.le_of_ble_eq_true rfl⟩) rfl) ?_
  refine rcons (ro_iconst (n := 1) (by decide +kernel) rfl rfl) ?_
  refine rcons (ro_callV (C := rN1) (T := rF1) (N := 7) rfl ok_d_start (by decide +kernel) rfl (fun s args ht => cwV (C := rN1) 2 ht (rgoodV (C := rN1) (fun w h => List.mem_cons_of_mem _ h) q_1013 q_1015 q_8 q_14 q_1016) rfl rfl rfl hv_d_start ⟨Nat.le_of_ble_eq_true rfl, Nat.le_of_ble_eq_true rfl⟩) rfl) ?_
  refine rcons (ro_if_eq (off := 5) (by decide +kernel) rfl rfl) ?_
  refine rcons (ro_iconst (n := 0) (by decide +kernel) rfl rfl) ?_
  refine rcons (ro_iret (by decide +kernel)) ?_
  refine rcons (ro_aload_n (k := 0) rfl (by decide +kernel) rfl) ?_
  refine rcons (ro_getf (C := rN1) (T := rF1) (N := 7) (k := 2) (by decide +kernel) rfl (rU1c _) (by decide) (List.mem_cons_of_mem _ q_986) rfl) ?_
  refine rcons (ro_iload_n (k := 1) rfl (by decide +kernel) rfl) ?_
  refine rcons (ro_iald (by decide +kernel) rfl) ?_
  refine rcons (ro_istore_n (k := 2) rfl (by decide +kernel) rfl) ?_
  refine rcons (ro_aload_n (k := 0) rfl (by decide +kernel) rfl) ?_
  refine rcons (ro_getf (C := rN1) (T := rF1) (N := 7) (k := 2) (by decide +kernel) rfl (rU1c _) (by decide) (List.mem_cons_of_mem _ q_986) rfl) ?_
  refine rcons (ro_iload_n (k := 1) rfl (by decide +kernel) rfl) ?_
  refine rcons (ro_iload_n (k := 2) rfl (by decide +kernel) rfl) ?_
  refine rcons (ro_callS okS_d_quarterOf (by decide +kernel) rfl (fun s args ht => va_cwS 1 ht (rgoodS (fun w h => List.mem_cons_of_mem _ h) q_1207 q_1208 q_14 q_1209) rfl rfl rfl hy_d_quarterOf ⟨Nat.le_of_ble_eq_true rfl, Nat.le_of_ble_eq_true rfl⟩) rfl) ?_
  refine rcons (ro_iast (by decide +kernel) rfl) ?_
  refine rcons (ro_aload_n (k := 0) rfl (by decide +kernel) rfl) ?_
  refine rcons (ro_dup (by decide +kernel) rfl) ?_
  refine rcons (ro_getf (C := rN1) (T := rF1) (N := 7) (k := 5) (by decide +kernel) rfl (rU1c _) (by decide) (List.mem_cons_of_mem _ q_989) rfl) ?_
  refine rcons (ro_iconst (n := 1) (by decide +kernel) rfl rfl) ?_
  refine rcons (ro_iadd (by decide +kernel) rfl) ?_
  refine rcons (ro_putf (C := rN1) (T := rF1) (N := 7) (k := 5) (Y := rY1) (by decide +kernel) rfl (rU1c _) rY1_ok rD1 (by decide) (List.mem_cons_of_mem _ q_989) rfl (Or.inl ⟨rfl, rfl⟩) rfl) ?_
  refine rcons (ro_iload_n (k := 2) rfl (by decide +kernel) rfl) ?_
  refine rcons (ro_aload_n (k := 0) rfl (by decide +kernel) rfl) ?_
  refine rcons (ro_getf (C := rN1) (T := rF1) (N := 7) (k := 2) (by decide +kernel) rfl (rU1c _) (by decide) (List.mem_cons_of_mem _ q_986) rfl) ?_
  refine rcons (ro_iload_n (k := 1) rfl (by decide +kernel) rfl) ?_
  refine rcons (ro_iald (by decide +kernel) rfl) ?_
  refine rcons (ro_isub (by decide +kernel) rfl) ?_
  refine rcons (ro_iret (by decide +kernel)) ?_
  exact rnil
def ps_d_step : List Nat := [0, 1, 2, 5, 8, 9, 12, 15, 16, 19, 20, 21, 24, 27, 28, 29, 30, 33, 34, 35, 38, 39, 40, 42, 43, 46, 47, 48, 49, 52, 53, 56, 57, 58, 61, 62, 63, 66, 67, 68, 70, 71, 74, 75, 76, 77, 80, 81, 82, 85, 87, 88, 91, 92, 93, 94, 95, 98, 99, 100, 101]
def tb_d_step : List RT := [tq_al 0, tq_il 1, tq_call s_d_isNoCell 1 0 0, tq_if1 (fun x => !decide (x = 0)) 7, tq_il 2, tq_call s_d_isNoCell 1 0 0, tq_s1 (fun x => decide (x = 0)) 1 0 10, tq_ic 1, tq_go 10, tq_ic 0, tq_ic 1, tq_call (rV 1 m_d_start) 3 0 0, tq_if1 (fun x => decide (x = 0)) 15, tq_ic 0, tq_iret 0, tq_al 0, tq_getf 1 1, tq_il 2, tq_al 0, tq_getf 1 1, tq_il 2, tq_iald 0, tq_ic 7, tq_al 0, tq_getf 1 2, tq_il 1, tq_iald 0, tq_il 3, tq_call s_d_lengthOf 2 0 0, tq_i2l, tq_call s_d_on 3 0 0, tq_iast 0, tq_al 0, tq_getf 1 2, tq_il 1, tq_al 0, tq_getf 1 2, tq_il 1, tq_iald 0, tq_ic 12, tq_lc 1, tq_call s_d_on 3 0 0, tq_iast 0, tq_al 0, tq_dup, tq_getf 1 5, tq_ic 1, tq_i2 (fun x y => x + y), tq_putf 1 5 0, tq_ic 100, tq_al 0, tq_getf 1 1, tq_il 2, tq_iald 0, tq_i2 (fun x y => x * y), tq_al 0, tq_getf 1 2, tq_il 1, tq_iald 0, tq_i2 (fun x y => x + y), tq_iret 0]
def m_d_step : RM := rMeth tb_d_step 400 4
abbrev rm_d_step : Room := { frames := 2, cells := 0, slots := 0, locals := 44 }
set_option maxHeartbeats 4000000 in
set_option maxRecDepth 20000 in
theorem ok_d_step : rMet y_d_step (Cond.code y_d_step prog_4_method_55_code 4 (some .int) :: rT) rm_d_step 0 m_d_step := by
  refine rMeth_ok (ps := ps_d_step) (tab := tb_d_step) (by decide +kernel) rfl rfl rfl rfl ?_
  refine rcons (ro_aload_n (k := 0) rfl (by decide +kernel) rfl) ?_
  refine rcons (ro_iload_n (k := 1) rfl (by decide +kernel) rfl) ?_
  refine rcons (ro_callS okS_d_isNoCell (by decide +kernel) rfl (fun s args ht => va_cwS 1 ht (rgoodS (fun w h => List.mem_cons_of_mem _ h) q_1010 q_1011 q_14 q_1012) rfl rfl rfl hy_d_isNoCell ⟨Nat.le_of_ble_eq_true rfl, Nat.le_of_ble_eq_true rfl⟩) rfl) ?_
  refine rcons (ro_if_ne (off := 10) (by decide +kernel) rfl rfl) ?_
  refine rcons (ro_iload_n (k := 2) rfl (by decide +kernel) rfl) ?_
  refine rcons (ro_callS okS_d_isNoCell (by decide +kernel) rfl (fun s args ht => va_cwS 1 ht (rgoodS (fun w h => List.mem_cons_of_mem _ h) q_1010 q_1011 q_14 q_1012) rfl rfl rfl hy_d_isNoCell ⟨Nat.le_of_ble_eq_true rfl, Nat.le_of_ble_eq_true rfl⟩) rfl) ?_
  refine rcons (ro_s1_eq (off := 7) (off2 := 4) (n1 := 1) (n2 := 0) (by decide +kernel) (by decide +kernel) rfl (by decide +kernel) (by decide +kernel) rfl rfl rfl rfl) ?_
  refine rcons (ro_iconst (n := 1) (by decide +kernel) rfl rfl) ?_
  refine rcons (ro_goto (off := 4) (by decide +kernel) rfl) ?_
  refine rcons (ro_iconst (n := 0) (by decide +kernel) rfl rfl) ?_
  refine rcons (ro_iconst (n := 1) (by decide +kernel) rfl rfl) ?_
  refine rcons (ro_callV (C := rN1) (T := rF1) (N := 7) rfl ok_d_start (by decide +kernel) rfl (fun s args ht => cwV (C := rN1) 2 ht (rgoodV (C := rN1) (fun w h => List.mem_cons_of_mem _ h) q_1013 q_1015 q_8 q_14 q_1016) rfl rfl rfl hv_d_start ⟨Nat.le_of_ble_eq_true rfl, Nat.le_of_ble_eq_true rfl⟩) rfl) ?_
  refine rcons (ro_if_eq (off := 5) (by decide +kernel) rfl rfl) ?_
  refine rcons (ro_iconst (n := 0) (by decide +kernel) rfl rfl) ?_
  refine rcons (ro_iret (by decide +kernel)) ?_
  refine rcons (ro_aload_n (k := 0) rfl (by decide +kernel) rfl) ?_
  refine rcons (ro_getf (C := rN1) (T := rF1) (N := 7) (k := 1) (by decide +kernel) rfl (rU1c _) (by decide) (List.mem_cons_of_mem _ q_985) rfl) ?_
  refine rcons (ro_iload_n (k := 2) rfl (by decide +kernel) rfl) ?_
  refine rcons (ro_aload_n (k := 0) rfl (by decide +kernel) rfl) ?_
  refine rcons (ro_getf (C := rN1) (T := rF1) (N := 7) (k := 1) (by decide +kernel) rfl (rU1c _) (by decide) (List.mem_cons_of_mem _ q_985) rfl) ?_
  refine rcons (ro_iload_n (k := 2) rfl (by decide +kernel) rfl) ?_
  refine rcons (ro_iald (by decide +kernel) rfl) ?_
  refine rcons (ro_bipush (n := 7) (by decide +kernel) rfl rfl) ?_
  refine rcons (ro_aload_n (k := 0) rfl (by decide +kernel) rfl) ?_
  refine rcons (ro_getf (C := rN1) (T := rF1) (N := 7) (k := 2) (by decide +kernel) rfl (rU1c _) (by decide) (List.mem_cons_of_mem _ q_986) rfl) ?_
  refine rcons (ro_iload_n (k := 1) rfl (by decide +kernel) rfl) ?_
  refine rcons (ro_iald (by decide +kernel) rfl) ?_
  refine rcons (ro_iload_n (k := 3) rfl (by decide +kernel) rfl) ?_
  refine rcons (ro_callS okS_d_lengthOf (by decide +kernel) rfl (fun s args ht => va_cwS 2 ht (rgoodS (fun w h => List.mem_cons_of_mem _ h) q_1183 q_1184 q_14 q_1185) rfl rfl rfl hy_d_lengthOf ⟨Nat.le_of_ble_eq_true rfl, Nat.le_of_ble_eq_true rfl⟩) rfl) ?_
  refine rcons (ro_i2l (by decide +kernel) rfl) ?_
  refine rcons (ro_callS okS_d_on (by decide +kernel) rfl (fun s args ht => va_cwS 3 ht (rgoodS (fun w h => List.mem_cons_of_mem _ h) q_1040 q_1041 q_14 q_1042) rfl rfl rfl hy_d_on ⟨Nat.le_of_ble_eq_true rfl, Nat.le_of_ble_eq_true rfl⟩) rfl) ?_
  refine rcons (ro_iast (by decide +kernel) rfl) ?_
  refine rcons (ro_aload_n (k := 0) rfl (by decide +kernel) rfl) ?_
  refine rcons (ro_getf (C := rN1) (T := rF1) (N := 7) (k := 2) (by decide +kernel) rfl (rU1c _) (by decide) (List.mem_cons_of_mem _ q_986) rfl) ?_
  refine rcons (ro_iload_n (k := 1) rfl (by decide +kernel) rfl) ?_
  refine rcons (ro_aload_n (k := 0) rfl (by decide +kernel) rfl) ?_
  refine rcons (ro_getf (C := rN1) (T := rF1) (N := 7) (k := 2) (by decide +kernel) rfl (rU1c _) (by decide) (List.mem_cons_of_mem _ q_986) rfl) ?_
  refine rcons (ro_iload_n (k := 1) rfl (by decide +kernel) rfl) ?_
  refine rcons (ro_iald (by decide +kernel) rfl) ?_
  refine rcons (ro_bipush (n := 12) (by decide +kernel) rfl rfl) ?_
  refine rcons (ro_lconst (n := 1) (by decide +kernel) rfl rfl) ?_
  refine rcons (ro_callS okS_d_on (by decide +kernel) rfl (fun s args ht => va_cwS 3 ht (rgoodS (fun w h => List.mem_cons_of_mem _ h) q_1040 q_1041 q_14 q_1042) rfl rfl rfl hy_d_on ⟨Nat.le_of_ble_eq_true rfl, Nat.le_of_ble_eq_true rfl⟩) rfl) ?_
  refine rcons (ro_iast (by decide +kernel) rfl) ?_
  refine rcons (ro_aload_n (k := 0) rfl (by decide +kernel) rfl) ?_
  refine rcons (ro_dup (by decide +kernel) rfl) ?_
  refine rcons (ro_getf (C := rN1) (T := rF1) (N := 7) (k := 5) (by decide +kernel) rfl (rU1c _) (by decide) (List.mem_cons_of_mem _ q_989) rfl) ?_
  refine rcons (ro_iconst (n := 1) (by decide +kernel) rfl rfl) ?_
  refine rcons (ro_iadd (by decide +kernel) rfl) ?_
  refine rcons (ro_putf (C := rN1) (T := rF1) (N := 7) (k := 5) (Y := rY1) (by decide +kernel) rfl (rU1c _) rY1_ok rD1 (by decide) (List.mem_cons_of_mem _ q_989) rfl (Or.inl ⟨rfl, rfl⟩) rfl) ?_
  refine rcons (ro_bipush (n := 100) (by decide +kernel) rfl rfl) ?_
  refine rcons (ro_aload_n (k := 0) rfl (by decide +kernel) rfl) ?_
  refine rcons (ro_getf (C := rN1) (T := rF1) (N := 7) (k := 1) (by decide +kernel) rfl (rU1c _) (by decide) (List.mem_cons_of_mem _ q_985) rfl) ?_
  refine rcons (ro_iload_n (k := 2) rfl (by decide +kernel) rfl) ?_
  refine rcons (ro_iald (by decide +kernel) rfl) ?_
  refine rcons (ro_imul (by decide +kernel) rfl) ?_
  refine rcons (ro_aload_n (k := 0) rfl (by decide +kernel) rfl) ?_
  refine rcons (ro_getf (C := rN1) (T := rF1) (N := 7) (k := 2) (by decide +kernel) rfl (rU1c _) (by decide) (List.mem_cons_of_mem _ q_986) rfl) ?_
  refine rcons (ro_iload_n (k := 1) rfl (by decide +kernel) rfl) ?_
  refine rcons (ro_iald (by decide +kernel) rfl) ?_
  refine rcons (ro_iadd (by decide +kernel) rfl) ?_
  refine rcons (ro_iret (by decide +kernel)) ?_
  exact rnil
def ps_d_stepBack : List Nat := [0, 1, 2, 5, 8, 9, 12, 15, 16, 19, 20, 21, 24, 27, 28, 29, 30, 33, 34, 35, 38, 39, 40, 42, 43, 46, 47, 48, 51, 52, 53, 56, 57, 58, 60, 61, 64, 65, 66, 67, 70, 71, 74, 75, 76, 77, 80, 81, 82, 85, 87, 88, 91, 92, 93, 94, 95, 98, 99, 100, 101]
def tb_d_stepBack : List RT := [tq_al 0, tq_il 1, tq_call s_d_isNoCell 1 0 0, tq_if1 (fun x => !decide (x = 0)) 7, tq_il 2, tq_call s_d_isNoCell 1 0 0, tq_s1 (fun x => decide (x = 0)) 1 0 10, tq_ic 1, tq_go 10, tq_ic 0, tq_ic 1, tq_call (rV 1 m_d_start) 3 0 0, tq_if1 (fun x => decide (x = 0)) 15, tq_ic 0, tq_iret 0, tq_al 0, tq_getf 1 2, tq_il 1, tq_al 0, tq_getf 1 2, tq_il 1, tq_iald 0, tq_ic 12, tq_lc 1, tq_call s_d_ahead 3 0 0, tq_iast 0, tq_al 0, tq_getf 1 1, tq_il 2, tq_al 0, tq_getf 1 1, tq_il 2, tq_iald 0, tq_ic 7, tq_al 0, tq_getf 1 2, tq_il 1, tq_iald 0, tq_il 3, tq_call s_d_lengthOf 2 0 0, tq_i2l, tq_call s_d_ahead 3 0 0, tq_iast 0, tq_al 0, tq_dup, tq_getf 1 5, tq_ic 1, tq_i2 (fun x y => x + y), tq_putf 1 5 0, tq_ic 100, tq_al 0, tq_getf 1 1, tq_il 2, tq_iald 0, tq_i2 (fun x y => x * y), tq_al 0, tq_getf 1 2, tq_il 1, tq_iald 0, tq_i2 (fun x y => x + y), tq_iret 0]
def m_d_stepBack : RM := rMeth tb_d_stepBack 400 4
abbrev rm_d_stepBack : Room := { frames := 2, cells := 0, slots := 0, locals := 44 }
set_option maxHeartbeats 4000000 in
set_option maxRecDepth 20000 in
theorem ok_d_stepBack : rMet y_d_stepBack (Cond.code y_d_stepBack prog_4_method_56_code 4 (some .int) :: rT) rm_d_stepBack 0 m_d_stepBack := by
  refine rMeth_ok (ps := ps_d_stepBack) (tab := tb_d_stepBack) (by decide +kernel) rfl rfl rfl rfl ?_
  refine rcons (ro_aload_n (k := 0) rfl (by decide +kernel) rfl) ?_
  refine rcons (ro_iload_n (k := 1) rfl (by decide +kernel) rfl) ?_
  refine rcons (ro_callS okS_d_isNoCell (by decide +kernel) rfl (fun s args ht => va_cwS 1 ht (rgoodS (fun w h => List.mem_cons_of_mem _ h) q_1010 q_1011 q_14 q_1012) rfl rfl rfl hy_d_isNoCell ⟨Nat.le_of_ble_eq_true rfl, Nat.le_of_ble_eq_true rfl⟩) rfl) ?_
  refine rcons (ro_if_ne (off := 10) (by decide +kernel) rfl rfl) ?_
  refine rcons (ro_iload_n (k := 2) rfl (by decide +kernel) rfl) ?_
  refine rcons (ro_callS okS_d_isNoCell (by decide +kernel) rfl (fun s args ht => va_cwS 1 ht (rgoodS (fun w h => List.mem_cons_of_mem _ h) q_1010 q_1011 q_14 q_1012) rfl rfl rfl hy_d_isNoCell ⟨Nat.le_of_ble_eq_true rfl, Nat.le_of_ble_eq_true rfl⟩) rfl) ?_
  refine rcons (ro_s1_eq (off := 7) (off2 := 4) (n1 := 1) (n2 := 0) (by decide +kernel) (by decide +kernel) rfl (by decide +kernel) (by decide +kernel) rfl rfl rfl rfl) ?_
  refine rcons (ro_iconst (n := 1) (by decide +kernel) rfl rfl) ?_
  refine rcons (ro_goto (off := 4) (by decide +kernel) rfl) ?_
  refine rcons (ro_iconst (n := 0) (by decide +kernel) rfl rfl) ?_
  refine rcons (ro_iconst (n := 1) (by decide +kernel) rfl rfl) ?_
  refine rcons (ro_callV (C := rN1) (T := rF1) (N := 7) rfl ok_d_start (by decide +kernel) rfl (fun s args ht => cwV (C := rN1) 2 ht (rgoodV (C := rN1) (fun w h => List.mem_cons_of_mem _ h) q_1013 q_1015 q_8 q_14 q_1016) rfl rfl rfl hv_d_start ⟨Nat.le_of_ble_eq_true rfl, Nat.le_of_ble_eq_true rfl⟩) rfl) ?_
  refine rcons (ro_if_eq (off := 5) (by decide +kernel) rfl rfl) ?_
  refine rcons (ro_iconst (n := 0) (by decide +kernel) rfl rfl) ?_
  refine rcons (ro_iret (by decide +kernel)) ?_
  refine rcons (ro_aload_n (k := 0) rfl (by decide +kernel) rfl) ?_
  refine rcons (ro_getf (C := rN1) (T := rF1) (N := 7) (k := 2) (by decide +kernel) rfl (rU1c _) (by decide) (List.mem_cons_of_mem _ q_986) rfl) ?_
  refine rcons (ro_iload_n (k := 1) rfl (by decide +kernel) rfl) ?_
  refine rcons (ro_aload_n (k := 0) rfl (by decide +kernel) rfl) ?_
  refine rcons (ro_getf (C := rN1) (T := rF1) (N := 7) (k := 2) (by decide +kernel) rfl (rU1c _) (by decide) (List.mem_cons_of_mem _ q_986) rfl) ?_
  refine rcons (ro_iload_n (k := 1) rfl (by decide +kernel) rfl) ?_
  refine rcons (ro_iald (by decide +kernel) rfl) ?_
  refine rcons (ro_bipush (n := 12) (by decide +kernel) rfl rfl) ?_
  refine rcons (ro_lconst (n := 1) (by decide +kernel) rfl rfl) ?_
  refine rcons (ro_callS okS_d_ahead (by decide +kernel) rfl (fun s args ht => va_cwS 3 ht (rgoodS (fun w h => List.mem_cons_of_mem _ h) q_1051 q_1052 q_14 q_1053) rfl rfl rfl hy_d_ahead ⟨Nat.le_of_ble_eq_true rfl, Nat.le_of_ble_eq_true rfl⟩) rfl) ?_
  refine rcons (ro_iast (by decide +kernel) rfl) ?_
  refine rcons (ro_aload_n (k := 0) rfl (by decide +kernel) rfl) ?_
  refine rcons (ro_getf (C := rN1) (T := rF1) (N := 7) (k := 1) (by decide +kernel) rfl (rU1c _) (by decide) (List.mem_cons_of_mem _ q_985) rfl) ?_
  refine rcons (ro_iload_n (k := 2) rfl (by decide +kernel) rfl) ?_
  refine rcons (ro_aload_n (k := 0) rfl (by decide +kernel) rfl) ?_
  refine rcons (ro_getf (C := rN1) (T := rF1) (N := 7) (k := 1) (by decide +kernel) rfl (rU1c _) (by decide) (List.mem_cons_of_mem _ q_985) rfl) ?_
  refine rcons (ro_iload_n (k := 2) rfl (by decide +kernel) rfl) ?_
  refine rcons (ro_iald (by decide +kernel) rfl) ?_
  refine rcons (ro_bipush (n := 7) (by decide +kernel) rfl rfl) ?_
  refine rcons (ro_aload_n (k := 0) rfl (by decide +kernel) rfl) ?_
  refine rcons (ro_getf (C := rN1) (T := rF1) (N := 7) (k := 2) (by decide +kernel) rfl (rU1c _) (by decide) (List.mem_cons_of_mem _ q_986) rfl) ?_
  refine rcons (ro_iload_n (k := 1) rfl (by decide +kernel) rfl) ?_
  refine rcons (ro_iald (by decide +kernel) rfl) ?_
  refine rcons (ro_iload_n (k := 3) rfl (by decide +kernel) rfl) ?_
  refine rcons (ro_callS okS_d_lengthOf (by decide +kernel) rfl (fun s args ht => va_cwS 2 ht (rgoodS (fun w h => List.mem_cons_of_mem _ h) q_1183 q_1184 q_14 q_1185) rfl rfl rfl hy_d_lengthOf ⟨Nat.le_of_ble_eq_true rfl, Nat.le_of_ble_eq_true rfl⟩) rfl) ?_
  refine rcons (ro_i2l (by decide +kernel) rfl) ?_
  refine rcons (ro_callS okS_d_ahead (by decide +kernel) rfl (fun s args ht => va_cwS 3 ht (rgoodS (fun w h => List.mem_cons_of_mem _ h) q_1051 q_1052 q_14 q_1053) rfl rfl rfl hy_d_ahead ⟨Nat.le_of_ble_eq_true rfl, Nat.le_of_ble_eq_true rfl⟩) rfl) ?_
  refine rcons (ro_iast (by decide +kernel) rfl) ?_
  refine rcons (ro_aload_n (k := 0) rfl (by decide +kernel) rfl) ?_
  refine rcons (ro_dup (by decide +kernel) rfl) ?_
  refine rcons (ro_getf (C := rN1) (T := rF1) (N := 7) (k := 5) (by decide +kernel) rfl (rU1c _) (by decide) (List.mem_cons_of_mem _ q_989) rfl) ?_
  refine rcons (ro_iconst (n := 1) (by decide +kernel) rfl rfl) ?_
  refine rcons (ro_iadd (by decide +kernel) rfl) ?_
  refine rcons (ro_putf (C := rN1) (T := rF1) (N := 7) (k := 5) (Y := rY1) (by decide +kernel) rfl (rU1c _) rY1_ok rD1 (by decide) (List.mem_cons_of_mem _ q_989) rfl (Or.inl ⟨rfl, rfl⟩) rfl) ?_
  refine rcons (ro_bipush (n := 100) (by decide +kernel) rfl rfl) ?_
  refine rcons (ro_aload_n (k := 0) rfl (by decide +kernel) rfl) ?_
  refine rcons (ro_getf (C := rN1) (T := rF1) (N := 7) (k := 1) (by decide +kernel) rfl (rU1c _) (by decide) (List.mem_cons_of_mem _ q_985) rfl) ?_
  refine rcons (ro_iload_n (k := 2) rfl (by decide +kernel) rfl) ?_
  refine rcons (ro_iald (by decide +kernel) rfl) ?_
  refine rcons (ro_imul (by decide +kernel) rfl) ?_
  refine rcons (ro_aload_n (k := 0) rfl (by decide +kernel) rfl) ?_
  refine rcons (ro_getf (C := rN1) (T := rF1) (N := 7) (k := 2) (by decide +kernel) rfl (rU1c _) (by decide) (List.mem_cons_of_mem _ q_986) rfl) ?_
  refine rcons (ro_iload_n (k := 1) rfl (by decide +kernel) rfl) ?_
  refine rcons (ro_iald (by decide +kernel) rfl) ?_
  refine rcons (ro_iadd (by decide +kernel) rfl) ?_
  refine rcons (ro_iret (by decide +kernel)) ?_
  exact rnil
def ps_d_begins : List Nat := [0, 1, 2, 5, 8, 9, 12, 15, 16, 19, 20, 21, 24, 27, 28, 31, 32, 35, 36, 37, 39, 40, 43, 44, 45, 46, 49, 50, 51, 52, 55]
def tb_d_begins : List RT := [tq_al 0, tq_il 1, tq_call s_d_isNoCell 1 0 0, tq_if1 (fun x => !decide (x = 0)) 7, tq_il 2, tq_call s_d_isNoCell 1 0 0, tq_s1 (fun x => decide (x = 0)) 1 0 10, tq_ic 1, tq_go 10, tq_ic 0, tq_ic 1, tq_call (rV 1 m_d_start) 3 0 0, tq_if1 (fun x => decide (x = 0)) 15, tq_ic 0, tq_go 30, tq_al 0, tq_getf 1 1, tq_il 2, tq_iald 0, tq_ic 7, tq_al 0, tq_getf 1 2, tq_il 1, tq_iald 0, tq_il 3, tq_call s_d_firstOf 2 0 0, tq_ic 1, tq_i2 (fun x y => x - y), tq_i2l, tq_call s_d_on 3 0 0, tq_iret 0]
def m_d_begins : RM := rMeth tb_d_begins 400 4
abbrev rm_d_begins : Room := { frames := 2, cells := 0, slots := 0, locals := 44 }
set_option maxHeartbeats 4000000 in
set_option maxRecDepth 20000 in
theorem ok_d_begins : rMet y_d_begins (Cond.code y_d_begins prog_4_method_57_code 4 (some .int) :: rT) rm_d_begins 0 m_d_begins := by
  refine rMeth_ok (ps := ps_d_begins) (tab := tb_d_begins) (by decide +kernel) rfl rfl rfl rfl ?_
  refine rcons (ro_aload_n (k := 0) rfl (by decide +kernel) rfl) ?_
  refine rcons (ro_iload_n (k := 1) rfl (by decide +kernel) rfl) ?_
  refine rcons (ro_callS okS_d_isNoCell (by decide +kernel) rfl (fun s args ht => va_cwS 1 ht (rgoodS (fun w h => List.mem_cons_of_mem _ h) q_1010 q_1011 q_14 q_1012) rfl rfl rfl hy_d_isNoCell ⟨Nat.le_of_ble_eq_true rfl, Nat.le_of_ble_eq_true rfl⟩) rfl) ?_
  refine rcons (ro_if_ne (off := 10) (by decide +kernel) rfl rfl) ?_
  refine rcons (ro_iload_n (k := 2) rfl (by decide +kernel) rfl) ?_
  refine rcons (ro_callS okS_d_isNoCell (by decide +kernel) rfl (fun s args ht => va_cwS 1 ht (rgoodS (fun w h => List.mem_cons_of_mem _ h) q_1010 q_1011 q_14 q_1012) rfl rfl rfl hy_d_isNoCell ⟨Nat.le_of_ble_eq_true rfl, Nat.le_of_ble_eq_true rfl⟩) rfl) ?_
  refine rcons (ro_s1_eq (off := 7) (off2 := 4) (n1 := 1) (n2 := 0) (by decide +kernel) (by decide +kernel) rfl (by decide +kernel) (by decide +kernel) rfl rfl rfl rfl) ?_
  refine rcons (ro_iconst (n := 1) (by decide +kernel) rfl rfl) ?_
  refine rcons (ro_goto (off := 4) (by decide +kernel) rfl) ?_
  refine rcons (ro_iconst (n := 0) (by decide +kernel) rfl rfl) ?_
  refine rcons (ro_iconst (n := 1) (by decide +kernel) rfl rfl) ?_
  refine rcons (ro_callV (C := rN1) (T := rF1) (N := 7) rfl ok_d_start (by decide +kernel) rfl (fun s args ht => cwV (C := rN1) 2 ht (rgoodV (C := rN1) (fun w h => List.mem_cons_of_mem _ h) q_1013 q_1015 q_8 q_14 q_1016) rfl rfl rfl hv_d_start ⟨Nat.le_of_ble_eq_true rfl, Nat.le_of_ble_eq_true rfl⟩) rfl) ?_
  refine rcons (ro_if_eq (off := 7) (by decide +kernel) rfl rfl) ?_
  refine rcons (ro_iconst (n := 0) (by decide +kernel) rfl rfl) ?_
  refine rcons (ro_goto (off := 27) (by decide +kernel) rfl) ?_
  refine rcons (ro_aload_n (k := 0) rfl (by decide +kernel) rfl) ?_
  refine rcons (ro_getf (C := rN1) (T := rF1) (N := 7) (k := 1) (by decide +kernel) rfl (rU1c _) (by decide) (List.mem_cons_of_mem _ q_985) rfl) ?_
  refine rcons (ro_iload_n (k := 2) rfl (by decide +kernel) rfl) ?_
  refine rcons (ro_iald (by decide +kernel) rfl) ?_
  refine rcons (ro_bipush (n := 7) (by decide +kernel) rfl rfl) ?_
  refine rcons (ro_aload_n (k := 0) rfl (by decide +kernel) rfl) ?_
  refine rcons (ro_getf (C := rN1) (T := rF1) (N := 7) (k := 2) (by decide +kernel) rfl (rU1c _) (by decide) (List.mem_cons_of_mem _ q_986) rfl) ?_
  refine rcons (ro_iload_n (k := 1) rfl (by decide +kernel) rfl) ?_
  refine rcons (ro_iald (by decide +kernel) rfl) ?_
  refine rcons (ro_iload_n (k := 3) rfl (by decide +kernel) rfl) ?_
  refine rcons (ro_callS okS_d_firstOf (by decide +kernel) rfl (fun s args ht => va_cwS 2 ht (rgoodS (fun w h => List.mem_cons_of_mem _ h) q_1200 q_1201 q_14 q_1202) rfl rfl rfl hy_d_firstOf ⟨Nat.le_of_ble_eq_true rfl, Nat.le_of_ble_eq_true rfl⟩) rfl) ?_
  refine rcons (ro_iconst (n := 1) (by decide +kernel) rfl rfl) ?_
  refine rcons (ro_isub (by decide +kernel) rfl) ?_
  refine rcons (ro_i2l (by decide +kernel) rfl) ?_
  refine rcons (ro_callS okS_d_on (by decide +kernel) rfl (fun s args ht => va_cwS 3 ht (rgoodS (fun w h => List.mem_cons_of_mem _ h) q_1040 q_1041 q_14 q_1042) rfl rfl rfl hy_d_on ⟨Nat.le_of_ble_eq_true rfl, Nat.le_of_ble_eq_true rfl⟩) rfl) ?_
  refine rcons (ro_iret (by decide +kernel)) ?_
  exact rnil
def ps_d_date : List Nat := [0, 1, 2, 5, 8, 9, 12, 15, 16, 19, 20, 21, 24, 27, 28, 30, 31, 34, 36, 37, 40, 41, 42, 43, 46, 49, 50, 53, 54, 55, 58, 61, 62, 63, 64, 67, 68, 69, 71, 72, 75, 76, 77, 78, 81, 82, 83, 85, 86, 87, 88, 89, 92]
def tb_d_date : List RT := [tq_al 0, tq_il 1, tq_call s_d_isNoCell 1 0 0, tq_if1 (fun x => !decide (x = 0)) 7, tq_il 2, tq_call s_d_isNoCell 1 0 0, tq_s1 (fun x => decide (x = 0)) 1 0 10, tq_ic 1, tq_go 10, tq_ic 0, tq_ic 1, tq_call (rV 1 m_d_start) 3 0 0, tq_if1 (fun x => !decide (x = 0)) 31, tq_al 0, tq_il 4, tq_ic 1, tq_if2 (fun x y => decide (x < y)) 25, tq_il 4, tq_al 0, tq_getf 1 2, tq_il 1, tq_iald 0, tq_il 3, tq_call s_d_lengthOf 2 0 0, tq_s2 (fun x y => decide (x ≤ y)) 1 0 28, tq_ic 1, tq_go 28, tq_ic 0, tq_ic 2, tq_call (rV 1 m_d_refuse) 3 0 0, tq_if1 (fun x => decide (x = 0)) 33, tq_ic 0, tq_iret 0, tq_al 0, tq_getf 1 1, tq_il 2, tq_iald 0, tq_ic 7, tq_al 0, tq_getf 1 2, tq_il 1, tq_iald 0, tq_il 3, tq_call s_d_firstOf 2 0 0, tq_ic 1, tq_i2 (fun x y => x - y), tq_il 4, tq_i2 (fun x y => x + y), tq_ic 1, tq_i2 (fun x y => x - y), tq_i2l, tq_call s_d_on 3 0 0, tq_iret 0]
def m_d_date : RM := rMeth tb_d_date 400 5
abbrev rm_d_date : Room := { frames := 2, cells := 0, slots := 0, locals := 44 }
set_option maxHeartbeats 4000000 in
set_option maxRecDepth 20000 in
theorem ok_d_date : rMet y_d_date (Cond.code y_d_date prog_4_method_58_code 5 (some .int) :: rT) rm_d_date 0 m_d_date := by
  refine rMeth_ok (ps := ps_d_date) (tab := tb_d_date) (by decide +kernel) rfl rfl rfl rfl ?_
  refine rcons (ro_aload_n (k := 0) rfl (by decide +kernel) rfl) ?_
  refine rcons (ro_iload_n (k := 1) rfl (by decide +kernel) rfl) ?_
  refine rcons (ro_callS okS_d_isNoCell (by decide +kernel) rfl (fun s args ht => va_cwS 1 ht (rgoodS (fun w h => List.mem_cons_of_mem _ h) q_1010 q_1011 q_14 q_1012) rfl rfl rfl hy_d_isNoCell ⟨Nat.le_of_ble_eq_true rfl, Nat.le_of_ble_eq_true rfl⟩) rfl) ?_
  refine rcons (ro_if_ne (off := 10) (by decide +kernel) rfl rfl) ?_
  refine rcons (ro_iload_n (k := 2) rfl (by decide +kernel) rfl) ?_
  refine rcons (ro_callS okS_d_isNoCell (by decide +kernel) rfl (fun s args ht => va_cwS 1 ht (rgoodS (fun w h => List.mem_cons_of_mem _ h) q_1010 q_1011 q_14 q_1012) rfl rfl rfl hy_d_isNoCell ⟨Nat.le_of_ble_eq_true rfl, Nat.le_of_ble_eq_true rfl⟩) rfl) ?_
  refine rcons (ro_s1_eq (off := 7) (off2 := 4) (n1 := 1) (n2 := 0) (by decide +kernel) (by decide +kernel) rfl (by decide +kernel) (by decide +kernel) rfl rfl rfl rfl) ?_
  refine rcons (ro_iconst (n := 1) (by decide +kernel) rfl rfl) ?_
  refine rcons (ro_goto (off := 4) (by decide +kernel) rfl) ?_
  refine rcons (ro_iconst (n := 0) (by decide +kernel) rfl rfl) ?_
  refine rcons (ro_iconst (n := 1) (by decide +kernel) rfl rfl) ?_
  refine rcons (ro_callV (C := rN1) (T := rF1) (N := 7) rfl ok_d_start (by decide +kernel) rfl (fun s args ht => cwV (C := rN1) 2 ht (rgoodV (C := rN1) (fun w h => List.mem_cons_of_mem _ h) q_1013 q_1015 q_8 q_14 q_1016) rfl rfl rfl hv_d_start ⟨Nat.le_of_ble_eq_true rfl, Nat.le_of_ble_eq_true rfl⟩) rfl) ?_
  refine rcons (ro_if_ne (off := 37) (by decide +kernel) rfl rfl) ?_
  refine rcons (ro_aload_n (k := 0) rfl (by decide +kernel) rfl) ?_
  refine rcons (ro_iload (by decide +kernel) rfl) ?_
  refine rcons (ro_iconst (n := 1) (by decide +kernel) rfl rfl) ?_
  refine rcons (ro_icmp_lt (off := 18) (by decide +kernel) rfl rfl) ?_
  refine rcons (ro_iload (by decide +kernel) rfl) ?_
  refine rcons (ro_aload_n (k := 0) rfl (by decide +kernel) rfl) ?_
  refine rcons (ro_getf (C := rN1) (T := rF1) (N := 7) (k := 2) (by decide +kernel) rfl (rU1c _) (by decide) (List.mem_cons_of_mem _ q_986) rfl) ?_
  refine rcons (ro_iload_n (k := 1) rfl (by decide +kernel) rfl) ?_
  refine rcons (ro_iald (by decide +kernel) rfl) ?_
  refine rcons (ro_iload_n (k := 3) rfl (by decide +kernel) rfl) ?_
  refine rcons (ro_callS okS_d_lengthOf (by decide +kernel) rfl (fun s args ht => va_cwS 2 ht (rgoodS (fun w h => List.mem_cons_of_mem _ h) q_1183 q_1184 q_14 q_1185) rfl rfl rfl hy_d_lengthOf ⟨Nat.le_of_ble_eq_true rfl, Nat.le_of_ble_eq_true rfl⟩) rfl) ?_
  refine rcons (ro_s2_le (off := 7) (off2 := 4) (n1 := 1) (n2 := 0) (by decide +kernel) (by decide +kernel) rfl (by decide +kernel) (by decide +kernel) rfl rfl rfl rfl) ?_
  refine rcons (ro_iconst (n := 1) (by decide +kernel) rfl rfl) ?_
  refine rcons (ro_goto (off := 4) (by decide +kernel) rfl) ?_
  refine rcons (ro_iconst (n := 0) (by decide +kernel) rfl rfl) ?_
  refine rcons (ro_iconst (n := 2) (by decide +kernel) rfl rfl) ?_
  refine rcons (ro_callV (C := rN1) (T := rF1) (N := 7) rfl ok_d_refuse (by decide +kernel) rfl (fun s args ht => cwV (C := rN1) 2 ht (rgoodV (C := rN1) (fun w h => List.mem_cons_of_mem _ h) q_1017 q_1019 q_9 q_14 q_1020) rfl rfl rfl hv_d_refuse ⟨Nat.le_of_ble_eq_true rfl, Nat.le_of_ble_eq_true rfl⟩) rfl) ?_
  refine rcons (ro_if_eq (off := 5) (by decide +kernel) rfl rfl) ?_
  refine rcons (ro_iconst (n := 0) (by decide +kernel) rfl rfl) ?_
  refine rcons (ro_iret (by decide +kernel)) ?_
  refine rcons (ro_aload_n (k := 0) rfl (by decide +kernel) rfl) ?_
  refine rcons (ro_getf (C := rN1) (T := rF1) (N := 7) (k := 1) (by decide +kernel) rfl (rU1c _) (by decide) (List.mem_cons_of_mem _ q_985) rfl) ?_
  refine rcons (ro_iload_n (k := 2) rfl (by decide +kernel) rfl) ?_
  refine rcons (ro_iald (by decide +kernel) rfl) ?_
  refine rcons (ro_bipush (n := 7) (by decide +kernel) rfl rfl) ?_
  refine rcons (ro_aload_n (k := 0) rfl (by decide +kernel) rfl) ?_
  refine rcons (ro_getf (C := rN1) (T := rF1) (N := 7) (k := 2) (by decide +kernel) rfl (rU1c _) (by decide) (List.mem_cons_of_mem _ q_986) rfl) ?_
  refine rcons (ro_iload_n (k := 1) rfl (by decide +kernel) rfl) ?_
  refine rcons (ro_iald (by decide +kernel) rfl) ?_
  refine rcons (ro_iload_n (k := 3) rfl (by decide +kernel) rfl) ?_
  refine rcons (ro_callS okS_d_firstOf (by decide +kernel) rfl (fun s args ht => va_cwS 2 ht (rgoodS (fun w h => List.mem_cons_of_mem _ h) q_1200 q_1201 q_14 q_1202) rfl rfl rfl hy_d_firstOf ⟨Nat.le_of_ble_eq_true rfl, Nat.le_of_ble_eq_true rfl⟩) rfl) ?_
  refine rcons (ro_iconst (n := 1) (by decide +kernel) rfl rfl) ?_
  refine rcons (ro_isub (by decide +kernel) rfl) ?_
  refine rcons (ro_iload (by decide +kernel) rfl) ?_
  refine rcons (ro_iadd (by decide +kernel) rfl) ?_
  refine rcons (ro_iconst (n := 1) (by decide +kernel) rfl rfl) ?_
  refine rcons (ro_isub (by decide +kernel) rfl) ?_
  refine rcons (ro_i2l (by decide +kernel) rfl) ?_
  refine rcons (ro_callS okS_d_on (by decide +kernel) rfl (fun s args ht => va_cwS 3 ht (rgoodS (fun w h => List.mem_cons_of_mem _ h) q_1040 q_1041 q_14 q_1042) rfl rfl rfl hy_d_on ⟨Nat.le_of_ble_eq_true rfl, Nat.le_of_ble_eq_true rfl⟩) rfl) ?_
  refine rcons (ro_iret (by decide +kernel)) ?_
  exact rnil
def ps_d_areOfOneDay : List Nat := [0, 1, 2, 5, 7, 8, 9, 10, 13, 15, 16, 19, 20, 23, 24]
def tb_d_areOfOneDay : List RT := [tq_il 0, tq_il 2, tq_call s_d_firstOf 2 0 0, tq_ic 7, tq_irem, tq_il 1, tq_il 2, tq_call s_d_firstOf 2 0 0, tq_ic 7, tq_irem, tq_s2 (fun x y => !decide (x = y)) 1 0 14, tq_ic 1, tq_go 14, tq_ic 0, tq_zret 0]
def m_d_areOfOneDay : RM := rMeth tb_d_areOfOneDay 400 3
abbrev rm_d_areOfOneDay : Room := { frames := 2, cells := 0, slots := 0, locals := 44 }
set_option maxHeartbeats 4000000 in
set_option maxRecDepth 20000 in
theorem ok_d_areOfOneDay : rMet y_d_areOfOneDay (Cond.code y_d_areOfOneDay prog_4_method_59_code 3 (some .boolean) :: rT) rm_d_areOfOneDay 0 m_d_areOfOneDay := by
  refine rMeth_ok (ps := ps_d_areOfOneDay) (tab := tb_d_areOfOneDay) (by decide +kernel) rfl rfl rfl rfl ?_
  refine rcons (ro_iload_n (k := 0) rfl (by decide +kernel) rfl) ?_
  refine rcons (ro_iload_n (k := 2) rfl (by decide +kernel) rfl) ?_
  refine rcons (ro_callS okS_d_firstOf (by decide +kernel) rfl (fun s args ht => va_cwS 2 ht (rgoodS (fun w h => List.mem_cons_of_mem _ h) q_1200 q_1201 q_14 q_1202) rfl rfl rfl hy_d_firstOf ⟨Nat.le_of_ble_eq_true rfl, Nat.le_of_ble_eq_true rfl⟩) rfl) ?_
  refine rcons (ro_bipush (n := 7) (by decide +kernel) rfl rfl) ?_
  refine rcons (ro_irem (by decide +kernel) rfl) ?_
  refine rcons (ro_iload_n (k := 1) rfl (by decide +kernel) rfl) ?_
  refine rcons (ro_iload_n (k := 2) rfl (by decide +kernel) rfl) ?_
  refine rcons (ro_callS okS_d_firstOf (by decide +kernel) rfl (fun s args ht => va_cwS 2 ht (rgoodS (fun w h => List.mem_cons_of_mem _ h) q_1200 q_1201 q_14 q_1202) rfl rfl rfl hy_d_firstOf ⟨Nat.le_of_ble_eq_true rfl, Nat.le_of_ble_eq_true rfl⟩) rfl) ?_
  refine rcons (ro_bipush (n := 7) (by decide +kernel) rfl rfl) ?_
  refine rcons (ro_irem (by decide +kernel) rfl) ?_
  refine rcons (ro_s2_ne (off := 7) (off2 := 4) (n1 := 1) (n2 := 0) (by decide +kernel) (by decide +kernel) rfl (by decide +kernel) (by decide +kernel) rfl rfl rfl rfl) ?_
  refine rcons (ro_iconst (n := 1) (by decide +kernel) rfl rfl) ?_
  refine rcons (ro_goto (off := 4) (by decide +kernel) rfl) ?_
  refine rcons (ro_iconst (n := 0) (by decide +kernel) rfl rfl) ?_
  refine rcons (ro_zret (by decide +kernel)) ?_
  exact rnil
def ps_d_areAlike : List Nat := [0, 1, 2, 5, 8, 9, 12, 15, 16, 19, 20, 21, 24, 27, 28, 31, 32, 33, 34, 37, 38, 39, 40, 43, 46, 47, 50, 51]
def tb_d_areAlike : List RT := [tq_al 0, tq_il 1, tq_call s_d_isNoCell 1 0 0, tq_if1 (fun x => !decide (x = 0)) 7, tq_il 2, tq_call s_d_isNoCell 1 0 0, tq_s1 (fun x => decide (x = 0)) 1 0 10, tq_ic 1, tq_go 10, tq_ic 0, tq_ic 1, tq_call (rV 1 m_d_start) 3 0 0, tq_if1 (fun x => !decide (x = 0)) 26, tq_al 0, tq_getf 1 2, tq_il 1, tq_iald 0, tq_al 0, tq_getf 1 2, tq_il 2, tq_iald 0, tq_il 3, tq_call m_d_areOfOneDay 3 0 0, tq_s1 (fun x => decide (x = 0)) 1 0 27, tq_ic 1, tq_go 27, tq_ic 0, tq_zret 0]
def m_d_areAlike : RM := rMeth tb_d_areAlike 400 4
abbrev rm_d_areAlike : Room := { frames := 3, cells := 0, slots := 0, locals := 66 }
set_option maxHeartbeats 4000000 in
set_option maxRecDepth 20000 in
theorem ok_d_areAlike : rMet y_d_areAlike (Cond.code y_d_areAlike prog_4_method_60_code 4 (some .boolean) :: rT) rm_d_areAlike 0 m_d_areAlike := by
  refine rMeth_ok (ps := ps_d_areAlike) (tab := tb_d_areAlike) (by decide +kernel) rfl rfl rfl rfl ?_
  refine rcons (ro_aload_n (k := 0) rfl (by decide +kernel) rfl) ?_
  refine rcons (ro_iload_n (k := 1) rfl (by decide +kernel) rfl) ?_
  refine rcons (ro_callS okS_d_isNoCell (by decide +kernel) rfl (fun s args ht => va_cwS 1 ht (rgoodS (fun w h => List.mem_cons_of_mem _ h) q_1010 q_1011 q_14 q_1012) rfl rfl rfl hy_d_isNoCell ⟨Nat.le_of_ble_eq_true rfl, Nat.le_of_ble_eq_true rfl⟩) rfl) ?_
  refine rcons (ro_if_ne (off := 10) (by decide +kernel) rfl rfl) ?_
  refine rcons (ro_iload_n (k := 2) rfl (by decide +kernel) rfl) ?_
  refine rcons (ro_callS okS_d_isNoCell (by decide +kernel) rfl (fun s args ht => va_cwS 1 ht (rgoodS (fun w h => List.mem_cons_of_mem _ h) q_1010 q_1011 q_14 q_1012) rfl rfl rfl hy_d_isNoCell ⟨Nat.le_of_ble_eq_true rfl, Nat.le_of_ble_eq_true rfl⟩) rfl) ?_
  refine rcons (ro_s1_eq (off := 7) (off2 := 4) (n1 := 1) (n2 := 0) (by decide +kernel) (by decide +kernel) rfl (by decide +kernel) (by decide +kernel) rfl rfl rfl rfl) ?_
  refine rcons (ro_iconst (n := 1) (by decide +kernel) rfl rfl) ?_
  refine rcons (ro_goto (off := 4) (by decide +kernel) rfl) ?_
  refine rcons (ro_iconst (n := 0) (by decide +kernel) rfl rfl) ?_
  refine rcons (ro_iconst (n := 1) (by decide +kernel) rfl rfl) ?_
  refine rcons (ro_callV (C := rN1) (T := rF1) (N := 7) rfl ok_d_start (by decide +kernel) rfl (fun s args ht => cwV (C := rN1) 2 ht (rgoodV (C := rN1) (fun w h => List.mem_cons_of_mem _ h) q_1013 q_1015 q_8 q_14 q_1016) rfl rfl rfl hv_d_start ⟨Nat.le_of_ble_eq_true rfl, Nat.le_of_ble_eq_true rfl⟩) rfl) ?_
  refine rcons (ro_if_ne (off := 26) (by decide +kernel) rfl rfl) ?_
  refine rcons (ro_aload_n (k := 0) rfl (by decide +kernel) rfl) ?_
  refine rcons (ro_getf (C := rN1) (T := rF1) (N := 7) (k := 2) (by decide +kernel) rfl (rU1c _) (by decide) (List.mem_cons_of_mem _ q_986) rfl) ?_
  refine rcons (ro_iload_n (k := 1) rfl (by decide +kernel) rfl) ?_
  refine rcons (ro_iald (by decide +kernel) rfl) ?_
  refine rcons (ro_aload_n (k := 0) rfl (by decide +kernel) rfl) ?_
  refine rcons (ro_getf (C := rN1) (T := rF1) (N := 7) (k := 2) (by decide +kernel) rfl (rU1c _) (by decide) (List.mem_cons_of_mem _ q_986) rfl) ?_
  refine rcons (ro_iload_n (k := 2) rfl (by decide +kernel) rfl) ?_
  refine rcons (ro_iald (by decide +kernel) rfl) ?_
  refine rcons (ro_iload_n (k := 3) rfl (by decide +kernel) rfl) ?_
  refine rcons (ro_callS ok_d_areOfOneDay (by decide +kernel) rfl (fun s args ht => va_cwS 3 ht (rgoodS (fun w h => List.mem_cons_of_mem _ h) q_1234 q_1235 q_14 q_1236) rfl rfl rfl hy_d_areOfOneDay ⟨Nat.le_of_ble_eq_true rfl, Nat.le_of_ble_eq_true rfl⟩) rfl) ?_
  refine rcons (ro_s1_eq (off := 7) (off2 := 4) (n1 := 1) (n2 := 0) (by decide +kernel) (by decide +kernel) rfl (by decide +kernel) (by decide +kernel) rfl rfl rfl rfl) ?_
  refine rcons (ro_iconst (n := 1) (by decide +kernel) rfl rfl) ?_
  refine rcons (ro_goto (off := 4) (by decide +kernel) rfl) ?_
  refine rcons (ro_iconst (n := 0) (by decide +kernel) rfl rfl) ?_
  refine rcons (ro_zret (by decide +kernel)) ?_
  exact rnil
def ps_d_isNoMark : List Nat := [0, 1, 4, 5, 6, 9, 10, 13, 14]
def tb_d_isNoMark : List RT := [tq_il 0, tq_if1 (fun x => decide (x < 0)) 5, tq_il 0, tq_ic 1, tq_s2 (fun x y => decide (x ≤ y)) 1 0 8, tq_ic 1, tq_go 8, tq_ic 0, tq_zret 0]
def m_d_isNoMark : RM := rMeth tb_d_isNoMark 400 1
abbrev rm_d_isNoMark : Room := { frames := 0, cells := 0, slots := 0, locals := 0 }
set_option maxHeartbeats 4000000 in
set_option maxRecDepth 20000 in
theorem ok_d_isNoMark : rMet y_d_isNoMark (Cond.code y_d_isNoMark prog_4_method_61_code 1 (some .boolean) :: rT) rm_d_isNoMark 0 m_d_isNoMark := by
  refine rMeth_ok (ps := ps_d_isNoMark) (tab := tb_d_isNoMark) (by decide +kernel) rfl rfl rfl rfl ?_
  refine rcons (ro_iload_n (k := 0) rfl (by decide +kernel) rfl) ?_
  refine rcons (ro_if_lt (off := 8) (by decide +kernel) rfl rfl) ?_
  refine rcons (ro_iload_n (k := 0) rfl (by decide +kernel) rfl) ?_
  refine rcons (ro_iconst (n := 1) (by decide +kernel) rfl rfl) ?_
  refine rcons (ro_s2_le (off := 7) (off2 := 4) (n1 := 1) (n2 := 0) (by decide +kernel) (by decide +kernel) rfl (by decide +kernel) (by decide +kernel) rfl rfl rfl rfl) ?_
  refine rcons (ro_iconst (n := 1) (by decide +kernel) rfl rfl) ?_
  refine rcons (ro_goto (off := 4) (by decide +kernel) rfl) ?_
  refine rcons (ro_iconst (n := 0) (by decide +kernel) rfl rfl) ?_
  refine rcons (ro_zret (by decide +kernel)) ?_
  exact rnil
def noK (x : Int32) : Bool := decide (x < 0) || !decide (x ≤ 1)
theorem noK_f {x : Int32} (h : noK x = false) : decide (x < 0) = false ∧ decide (x ≤ 1) = true := by
  unfold noK at h
  cases h1 : decide (x < 0) <;> cases h2 : decide (x ≤ 1) <;> simp [h1, h2] at h ⊢
theorem noK_t {x : Int32} (h : noK x = true) (h1 : decide (x < 0) = false) : decide (x ≤ 1) = false := by
  unfold noK at h
  cases h2 : decide (x ≤ 1) <;> simp [h1, h2] at h ⊢
theorem noK_01 (c : Bool) : (decide ((bif c then (0 : Int32) else 1) = 0) || decide ((bif c then (0 : Int32) else 1) = 1)) = true := by cases c <;> rfl
theorem noK_no {b : Bool} {T : Prop} (h1 : b = true) (h2 : b = false) : T := Bool.noConfusion (h1.symm.trans h2)
theorem noK_b0 {c : Bool} (h : c = true) : (bif c then (0 : Int32) else 1) = 0 := by rw [h]; rfl
theorem noK_b1 {c : Bool} (h : c = false) : (bif c then (0 : Int32) else 1) = 1 := by rw [h]; rfl
def s_d_isNoMark : RM := fun as σ Q => match as with
  | [.inl x] => rbr x.1 (noK x.2) (Q (.inl (some (rI true 1))) σ) (Q (.inl (some (rI true 0))) σ)
  | _ => False
set_option maxHeartbeats 4000000 in
set_option maxRecDepth 20000 in
theorem okS_d_isNoMark : rMet y_d_isNoMark (Cond.code y_d_isNoMark prog_4_method_61_code 1 (some .boolean) :: rT) rm_d_isNoMark 0 s_d_isNoMark := by
  refine rMet_int ok_d_isNoMark (fun as σ Q h => ?_)
  unfold s_d_isNoMark at h
  split at h
  · next x =>
    cases hc : noK x.2
    · have hq := rbr_f h hc
      obtain ⟨c1, c2⟩ := noK_f hc
      refine ⟨[rI false x.2], 0, true, fun _ => rfl, ?_, hq⟩
      apply And.intro
      · intro h1
        exact noK_no h1 c1
      · intro h1
        apply And.intro
        · intro h2
          exact And.intro ⟨false, congrArg (fun z => Sum.inl (some (rI false z))) (noK_b0 c2)⟩ rfl
        · intro h2
          exact noK_no (noK_01 _) h2
    · have hq := rbr_t h hc
      refine ⟨[rI false x.2], 1, true, fun _ => rfl, ?_, hq⟩
      apply And.intro
      · intro h1
        exact And.intro ⟨true, rfl⟩ rfl
      · intro h1
        have c2 := noK_t hc h1
        apply And.intro
        · intro h2
          exact And.intro ⟨false, congrArg (fun z => Sum.inl (some (rI false z))) (noK_b1 c2)⟩ rfl
        · intro h2
          exact noK_no (noK_01 _) h2
  · exact h.elim
def ps_d_keep : List Nat := [0, 1, 2, 5, 6, 9, 12, 13, 14, 15, 18, 19, 20, 23, 24, 27, 28, 29, 30, 31, 32, 33, 36, 37, 40, 41, 42, 43, 44, 47, 48, 49, 50, 51, 54, 55, 56, 57, 58, 59, 60, 63, 64, 65, 66, 69, 72, 73, 76, 77, 78, 79, 80]
def tb_d_keep : List RT := [tq_al 0, tq_il 1, tq_call s_d_isNoMark 1 0 0, tq_ic 1, tq_call (rV 1 m_d_start) 3 0 0, tq_if1 (fun x => decide (x = 0)) 8, tq_ic 0, tq_iret 0, tq_al 0, tq_getf 1 4, tq_il 1, tq_iald 1, tq_s1 (fun x => decide (x = 0)) 1 0 16, tq_ic 1, tq_go 16, tq_ic 0, tq_is 4 2, tq_ic 0, tq_is 4 3, tq_il 3, tq_ic 4, tq_if2 (fun x y => decide (y ≤ x)) 46, tq_al 0, tq_getf 1 3, tq_il 1, tq_aald 2, tq_il 3, tq_al 0, tq_getf 1 1, tq_il 3, tq_iald 0, tq_iast 0, tq_al 0, tq_getf 1 3, tq_il 1, tq_aald 2, tq_ic 4, tq_il 3, tq_i2 (fun x y => x + y), tq_al 0, tq_getf 1 2, tq_il 3, tq_iald 0, tq_iast 0, tq_inc 4 3 1, tq_go 19, tq_al 0, tq_getf 1 4, tq_il 1, tq_ic 1, tq_zast 1, tq_il 2, tq_iret 0]
def m_d_keep : RM := rMeth tb_d_keep 400 4
abbrev rm_d_keep : Room := { frames := 2, cells := 0, slots := 0, locals := 44 }
set_option maxHeartbeats 4000000 in
set_option maxRecDepth 20000 in
theorem ok_d_keep : rMet y_d_keep (Cond.code y_d_keep prog_4_method_62_code 4 (some .int) :: rT) rm_d_keep 0 m_d_keep := by
  refine rMeth_ok (ps := ps_d_keep) (tab := tb_d_keep) (by decide +kernel) rfl rfl rfl rfl ?_
  refine rcons (ro_aload_n (k := 0) rfl (by decide +kernel) rfl) ?_
  refine rcons (ro_iload_n (k := 1) rfl (by decide +kernel) rfl) ?_
  refine rcons (ro_callS okS_d_isNoMark (by decide +kernel) rfl (fun s args ht => va_cwS 1 ht (rgoodS (fun w h => List.mem_cons_of_mem _ h) q_1241 q_1242 q_14 q_1243) rfl rfl rfl hy_d_isNoMark ⟨Nat.le_of_ble_eq_true rfl, Nat.le_of_ble_eq_true rfl⟩) rfl) ?_
  refine rcons (ro_iconst (n := 1) (by decide +kernel) rfl rfl) ?_
  refine rcons (ro_callV (C := rN1) (T := rF1) (N := 7) rfl ok_d_start (by decide +kernel) rfl (fun s args ht => cwV (C := rN1) 2 ht (rgoodV (C := rN1) (fun w h => List.mem_cons_of_mem _ h) q_1013 q_1015 q_8 q_14 q_1016) rfl rfl rfl hv_d_start ⟨Nat.le_of_ble_eq_true rfl, Nat.le_of_ble_eq_true rfl⟩) rfl) ?_
  refine rcons (ro_if_eq (off := 5) (by decide +kernel) rfl rfl) ?_
  refine rcons (ro_iconst (n := 0) (by decide +kernel) rfl rfl) ?_
  refine rcons (ro_iret (by decide +kernel)) ?_
  refine rcons (ro_aload_n (k := 0) rfl (by decide +kernel) rfl) ?_
  refine rcons (ro_getf (C := rN1) (T := rF1) (N := 7) (k := 4) (by decide +kernel) rfl (rU1c _) (by decide) (List.mem_cons_of_mem _ q_988) rfl) ?_
  refine rcons (ro_iload_n (k := 1) rfl (by decide +kernel) rfl) ?_
  refine rcons (ro_zald (by decide +kernel) rfl) ?_
  refine rcons (ro_s1_eq (off := 7) (off2 := 4) (n1 := 1) (n2 := 0) (by decide +kernel) (by decide +kernel) rfl (by decide +kernel) (by decide +kernel) rfl rfl rfl rfl) ?_
  refine rcons (ro_iconst (n := 1) (by decide +kernel) rfl rfl) ?_
  refine rcons (ro_goto (off := 4) (by decide +kernel) rfl) ?_
  refine rcons (ro_iconst (n := 0) (by decide +kernel) rfl rfl) ?_
  refine rcons (ro_istore_n (k := 2) rfl (by decide +kernel) rfl) ?_
  refine rcons (ro_iconst (n := 0) (by decide +kernel) rfl rfl) ?_
  refine rcons (ro_istore_n (k := 3) rfl (by decide +kernel) rfl) ?_
  refine rcons (ro_iload_n (k := 3) rfl (by decide +kernel) rfl) ?_
  refine rcons (ro_iconst (n := 4) (by decide +kernel) rfl rfl) ?_
  refine rcons (ro_icmp_ge (off := 39) (by decide +kernel) rfl rfl) ?_
  refine rcons (ro_aload_n (k := 0) rfl (by decide +kernel) rfl) ?_
  refine rcons (ro_getf (C := rN1) (T := rF1) (N := 7) (k := 3) (by decide +kernel) rfl (rU1c _) (by decide) (List.mem_cons_of_mem _ q_987) rfl) ?_
  refine rcons (ro_iload_n (k := 1) rfl (by decide +kernel) rfl) ?_
  refine rcons (ro_aald (by decide +kernel) rfl) ?_
  refine rcons (ro_iload_n (k := 3) rfl (by decide +kernel) rfl) ?_
  refine rcons (ro_aload_n (k := 0) rfl (by decide +kernel) rfl) ?_
  refine rcons (ro_getf (C := rN1) (T := rF1) (N := 7) (k := 1) (by decide +kernel) rfl (rU1c _) (by decide) (List.mem_cons_of_mem _ q_985) rfl) ?_
  refine rcons (ro_iload_n (k := 3) rfl (by decide +kernel) rfl) ?_
  refine rcons (ro_iald (by decide +kernel) rfl) ?_
  refine rcons (ro_iast (by decide +kernel) rfl) ?_
  refine rcons (ro_aload_n (k := 0) rfl (by decide +kernel) rfl) ?_
  refine rcons (ro_getf (C := rN1) (T := rF1) (N := 7) (k := 3) (by decide +kernel) rfl (rU1c _) (by decide) (List.mem_cons_of_mem _ q_987) rfl) ?_
  refine rcons (ro_iload_n (k := 1) rfl (by decide +kernel) rfl) ?_
  refine rcons (ro_aald (by decide +kernel) rfl) ?_
  refine rcons (ro_iconst (n := 4) (by decide +kernel) rfl rfl) ?_
  refine rcons (ro_iload_n (k := 3) rfl (by decide +kernel) rfl) ?_
  refine rcons (ro_iadd (by decide +kernel) rfl) ?_
  refine rcons (ro_aload_n (k := 0) rfl (by decide +kernel) rfl) ?_
  refine rcons (ro_getf (C := rN1) (T := rF1) (N := 7) (k := 2) (by decide +kernel) rfl (rU1c _) (by decide) (List.mem_cons_of_mem _ q_986) rfl) ?_
  refine rcons (ro_iload_n (k := 3) rfl (by decide +kernel) rfl) ?_
  refine rcons (ro_iald (by decide +kernel) rfl) ?_
  refine rcons (ro_iast (by decide +kernel) rfl) ?_
  refine rcons (ro_iinc (by decide +kernel) rfl) ?_
  refine rcons (ro_goto (off := (-38)) (by decide +kernel) rfl) ?_
  refine rcons (ro_aload_n (k := 0) rfl (by decide +kernel) rfl) ?_
  refine rcons (ro_getf (C := rN1) (T := rF1) (N := 7) (k := 4) (by decide +kernel) rfl (rU1c _) (by decide) (List.mem_cons_of_mem _ q_988) rfl) ?_
  refine rcons (ro_iload_n (k := 1) rfl (by decide +kernel) rfl) ?_
  refine rcons (ro_iconst (n := 1) (by decide +kernel) rfl rfl) ?_
  refine rcons (ro_zast (by decide +kernel) rfl) ?_
  refine rcons (ro_iload_n (k := 2) rfl (by decide +kernel) rfl) ?_
  refine rcons (ro_iret (by decide +kernel)) ?_
  exact rnil
end RKM
