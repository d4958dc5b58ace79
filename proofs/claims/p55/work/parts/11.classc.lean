section RKM
def ps_c_toQuarter : List Nat := [0, 1, 4, 5, 8, 9, 10, 11, 12, 15, 16, 17, 20, 23, 24]
def tb_c_toQuarter : List RT := [tq_al 0, tq_getf 0 1, tq_il 1, tq_call m_c_numberIn 2 1 2, tq_is 3 2, tq_il 2, tq_al 0, tq_al 0, tq_getf 0 1, tq_il 1, tq_il 2, tq_call m_c_quarterOf 1 0 2, tq_call (rV 0 m_c_become) 4 1 2, tq_i2 (fun x y => x - y), tq_iret 2]
def m_c_toQuarter : RM := rMeth tb_c_toQuarter 400 3
abbrev rm_c_toQuarter : Room := { frames := 8, cells := 2, slots := 24, locals := 135 }
set_option maxHeartbeats 4000000 in
set_option maxRecDepth 20000 in
theorem ok_c_toQuarter : rMet y_c_toQuarter (Cond.code y_c_toQuarter prog_1_method_41_code 3 (some .int) :: rT) rm_c_toQuarter 2 m_c_toQuarter := by
  refine rMeth_ok (ps := ps_c_toQuarter) (tab := tb_c_toQuarter) (by decide +kernel) rfl rfl rfl rfl ?_
  refine rcons (ro_aload_n (k := 0) rfl (by decide +kernel) rfl) ?_
  refine rcons (ro_getf (C := rN0) (T := rF0) (N := 7) (k := 1) (by decide +kernel) rfl (rU0c _) (by decide) (List.mem_cons_of_mem _ q_44) rfl) ?_
  refine rcons (ro_iload_n (k := 1) rfl (by decide +kernel) rfl) ?_
  refine rcons (ro_callS ok_c_numberIn (by decide +kernel) rfl (fun s args ht => va_cwS 2 ht (rgoodS (fun w h => List.mem_cons_of_mem _ h) q_498 q_499 q_13 q_500) rfl rfl rfl hy_c_numberIn ⟨Nat.le_of_ble_eq_true rfl, Nat.le_of_ble_eq_true rfl⟩) rfl) ?_
  refine rcons (ro_istore_n (k := 2) rfl (by decide +kernel) rfl) ?_
  refine rcons (ro_iload_n (k := 2) rfl (by decide +kernel) rfl) ?_
  refine rcons (ro_aload_n (k := 0) rfl (by decide +kernel) rfl) ?_
  refine rcons (ro_aload_n (k := 0) rfl (by decide +kernel) rfl) ?_
  refine rcons (ro_getf (C := rN0) (T := rF0) (N := 7) (k := 1) (by decide +kernel) rfl (rU0c _) (by decide) (List.mem_cons_of_mem _ q_44) rfl) ?_
  refine rcons (ro_iload_n (k := 1) rfl (by decide +kernel) rfl) ?_
  refine rcons (ro_iload_n (k := 2) rfl (by decide +kernel) rfl) ?_
  refine rcons (ro_callS ok_c_quarterOf (by decide +kernel) rfl (fun s args ht => va_cwS 1 ht (rgoodS (fun w h => List.mem_cons_of_mem _ h) q_486 q_487 q_13 q_488) rfl rfl rfl hy_c_quarterOf ⟨Nat.le_of_ble_eq_true rfl, Nat.le_of_ble_eq_true rfl⟩) rfl) ?_
  refine rcons (ro_callV (C := rN0) (T := rF0) (N := 7) rfl ok_c_become (by decide +kernel) rfl (fun s args ht => cwV (C := rN0) 3 ht (rgoodV (C := rN0) (fun w h => List.mem_cons_of_mem _ h) q_602 q_604 q_4 q_13 q_605) rfl rfl rfl hv_c_become ⟨Nat.le_of_ble_eq_true rfl, Nat.le_of_ble_eq_true rfl⟩) rfl) ?_
  refine rcons (ro_isub (by decide +kernel) rfl) ?_
  refine rcons (ro_iret (by decide +kernel)) ?_
  exact rnil
def ps_c_becomeBoth : List Nat := [0, 1, 4, 5, 7, 10, 12, 14, 15, 16, 17, 20, 21, 22, 25, 26]
def tb_c_becomeBoth : List RT := [tq_al 0, tq_getf 0 0, tq_il 3, tq_il 4, tq_call m_c_write 3 1 2, tq_ic 100, tq_il 4, tq_i2 (fun x y => x * y), tq_al 0, tq_al 0, tq_getf 0 1, tq_il 1, tq_il 2, tq_call (rV 0 m_c_become) 4 1 2, tq_i2 (fun x y => x + y), tq_iret 2]
def m_c_becomeBoth : RM := rMeth tb_c_becomeBoth 400 5
abbrev rm_c_becomeBoth : Room := { frames := 8, cells := 2, slots := 24, locals := 135 }
set_option maxHeartbeats 4000000 in
set_option maxRecDepth 20000 in
theorem ok_c_becomeBoth : rMet y_c_becomeBoth (Cond.code y_c_becomeBoth prog_1_method_59_code 5 (some .int) :: rT) rm_c_becomeBoth 2 m_c_becomeBoth := by
  refine rMeth_ok (ps := ps_c_becomeBoth) (tab := tb_c_becomeBoth) (by decide +kernel) rfl rfl rfl rfl ?_
  refine rcons (ro_aload_n (k := 0) rfl (by decide +kernel) rfl) ?_
  refine rcons (ro_getf (C := rN0) (T := rF0) (N := 7) (k := 0) (by decide +kernel) rfl (rU0c _) (by decide) (List.mem_cons_of_mem _ q_43) rfl) ?_
  refine rcons (ro_iload_n (k := 3) rfl (by decide +kernel) rfl) ?_
  refine rcons (ro_iload (by decide +kernel) rfl) ?_
  refine rcons (ro_callS ok_c_write (by decide +kernel) rfl (fun s args ht => va_cwS 3 ht (rgoodS (fun w h => List.mem_cons_of_mem _ h) q_606 q_607 q_13 q_608) rfl rfl rfl hy_c_write ⟨Nat.le_of_ble_eq_true rfl, Nat.le_of_ble_eq_true rfl⟩) rfl) ?_
  refine rcons (ro_bipush (n := 100) (by decide +kernel) rfl rfl) ?_
  refine rcons (ro_iload (by decide +kernel) rfl) ?_
  refine rcons (ro_imul (by decide +kernel) rfl) ?_
  refine rcons (ro_aload_n (k := 0) rfl (by decide +kernel) rfl) ?_
  refine rcons (ro_aload_n (k := 0) rfl (by decide +kernel) rfl) ?_
  refine rcons (ro_getf (C := rN0) (T := rF0) (N := 7) (k := 1) (by decide +kernel) rfl (rU0c _) (by decide) (List.mem_cons_of_mem _ q_44) rfl) ?_
  refine rcons (ro_iload_n (k := 1) rfl (by decide +kernel) rfl) ?_
  refine rcons (ro_iload_n (k := 2) rfl (by decide +kernel) rfl) ?_
  refine rcons (ro_callV (C := rN0) (T := rF0) (N := 7) rfl ok_c_become (by decide +kernel) rfl (fun s args ht => cwV (C := rN0) 3 ht (rgoodV (C := rN0) (fun w h => List.mem_cons_of_mem _ h) q_602 q_604 q_4 q_13 q_605) rfl rfl rfl hv_c_become ⟨Nat.le_of_ble_eq_true rfl, Nat.le_of_ble_eq_true rfl⟩) rfl) ?_
  refine rcons (ro_iadd (by decide +kernel) rfl) ?_
  refine rcons (ro_iret (by decide +kernel)) ?_
  exact rnil
def ps_c_step : List Nat := [0, 1, 4, 5, 8, 10, 11, 14, 15, 18, 20, 21, 24, 25, 27, 30, 32, 33, 34, 36, 37, 39, 42, 43, 45, 48]
def tb_c_step : List RT := [tq_al 0, tq_getf 0 1, tq_il 1, tq_call m_c_numberIn 2 1 4, tq_is 6 4, tq_al 0, tq_getf 0 0, tq_il 2, tq_call m_c_numberIn 2 1 4, tq_il 4, tq_il 3, tq_call s_c_lengthOf 2 0 4, tq_i2l, tq_ic 7, tq_call s_c_numberOn 3 0 4, tq_is 6 5, tq_al 0, tq_il 1, tq_il 4, tq_lc 1, tq_ic 12, tq_call s_c_numberOn 3 0 4, tq_il 2, tq_il 5, tq_call (rV 0 m_c_becomeBoth) 5 2 4, tq_iret 4]
def m_c_step : RM := rMeth tb_c_step 400 6
abbrev rm_c_step : Room := { frames := 9, cells := 4, slots := 48, locals := 159 }
set_option maxHeartbeats 4000000 in
set_option maxRecDepth 20000 in
theorem ok_c_step : rMet y_c_step (Cond.code y_c_step prog_1_method_42_code 6 (some .int) :: rT) rm_c_step 4 m_c_step := by
  refine rMeth_ok (ps := ps_c_step) (tab := tb_c_step) (by decide +kernel) rfl rfl rfl rfl ?_
  refine rcons (ro_aload_n (k := 0) rfl (by decide +kernel) rfl) ?_
  refine rcons (ro_getf (C := rN0) (T := rF0) (N := 7) (k := 1) (by decide +kernel) rfl (rU0c _) (by decide) (List.mem_cons_of_mem _ q_44) rfl) ?_
  refine rcons (ro_iload_n (k := 1) rfl (by decide +kernel) rfl) ?_
  refine rcons (ro_callS ok_c_numberIn (by decide +kernel) rfl (fun s args ht => va_cwS 2 ht (rgoodS (fun w h => List.mem_cons_of_mem _ h) q_498 q_499 q_13 q_500) rfl rfl rfl hy_c_numberIn ⟨Nat.le_of_ble_eq_true rfl, Nat.le_of_ble_eq_true rfl⟩) rfl) ?_
  refine rcons (ro_istore (by decide +kernel) rfl) ?_
  refine rcons (ro_aload_n (k := 0) rfl (by decide +kernel) rfl) ?_
  refine rcons (ro_getf (C := rN0) (T := rF0) (N := 7) (k := 0) (by decide +kernel) rfl (rU0c _) (by decide) (List.mem_cons_of_mem _ q_43) rfl) ?_
  refine rcons (ro_iload_n (k := 2) rfl (by decide +kernel) rfl) ?_
  refine rcons (ro_callS ok_c_numberIn (by decide +kernel) rfl (fun s args ht => va_cwS 2 ht (rgoodS (fun w h => List.mem_cons_of_mem _ h) q_498 q_499 q_13 q_500) rfl rfl rfl hy_c_numberIn ⟨Nat.le_of_ble_eq_true rfl, Nat.le_of_ble_eq_true rfl⟩) rfl) ?_
  refine rcons (ro_iload (by decide +kernel) rfl) ?_
  refine rcons (ro_iload_n (k := 3) rfl (by decide +kernel) rfl) ?_
  refine rcons (ro_callS okS_c_lengthOf (by decide +kernel) rfl (fun s args ht => va_cwS 2 ht (rgoodS (fun w h => List.mem_cons_of_mem _ h) q_466 q_467 q_13 q_468) rfl rfl rfl hy_c_lengthOf ⟨Nat.le_of_ble_eq_true rfl, Nat.le_of_ble_eq_true rfl⟩) rfl) ?_
  refine rcons (ro_i2l (by decide +kernel) rfl) ?_
  refine rcons (ro_bipush (n := 7) (by decide +kernel) rfl rfl) ?_
  refine rcons (ro_callS okS_c_numberOn (by decide +kernel) rfl (fun s args ht => va_cwS 3 ht (rgoodS (fun w h => List.mem_cons_of_mem _ h) q_445 q_446 q_13 q_447) rfl rfl rfl hy_c_numberOn ⟨Nat.le_of_ble_eq_true rfl, Nat.le_of_ble_eq_true rfl⟩) rfl) ?_
  refine rcons (ro_istore (by decide +kernel) rfl) ?_
  refine rcons (ro_aload_n (k := 0) rfl (by decide +kernel) rfl) ?_
  refine rcons (ro_iload_n (k := 1) rfl (by decide +kernel) rfl) ?_
  refine rcons (ro_iload (by decide +kernel) rfl) ?_
  refine rcons (ro_lconst (n := 1) (by decide +kernel) rfl rfl) ?_
  refine rcons (ro_bipush (n := 12) (by decide +kernel) rfl rfl) ?_
  refine rcons (ro_callS okS_c_numberOn (by decide +kernel) rfl (fun s args ht => va_cwS 3 ht (rgoodS (fun w h => List.mem_cons_of_mem _ h) q_445 q_446 q_13 q_447) rfl rfl rfl hy_c_numberOn ⟨Nat.le_of_ble_eq_true rfl, Nat.le_of_ble_eq_true rfl⟩) rfl) ?_
  refine rcons (ro_iload_n (k := 2) rfl (by decide +kernel) rfl) ?_
  refine rcons (ro_iload (by decide +kernel) rfl) ?_
  refine rcons (ro_callV (C := rN0) (T := rF0) (N := 7) rfl ok_c_becomeBoth (by decide +kernel) rfl (fun s args ht => cwV (C := rN0) 4 ht (rgoodV (C := rN0) (fun w h => List.mem_cons_of_mem _ h) q_904 q_906 q_7 q_13 q_907) rfl rfl rfl hv_c_becomeBoth ⟨Nat.le_of_ble_eq_true rfl, Nat.le_of_ble_eq_true rfl⟩) rfl) ?_
  refine rcons (ro_iret (by decide +kernel)) ?_
  exact rnil
def ps_c_stepBack : List Nat := [0, 1, 4, 5, 8, 9, 11, 14, 16, 17, 20, 21, 24, 26, 27, 30, 31, 33, 36, 38, 39, 40, 42, 43, 45, 48]
def tb_c_stepBack : List RT := [tq_al 0, tq_getf 0 1, tq_il 1, tq_call m_c_numberIn 2 1 4, tq_lc 1, tq_ic 12, tq_call s_c_numberBack 3 0 4, tq_is 6 4, tq_al 0, tq_getf 0 0, tq_il 2, tq_call m_c_numberIn 2 1 4, tq_il 4, tq_il 3, tq_call s_c_lengthOf 2 0 4, tq_i2l, tq_ic 7, tq_call s_c_numberBack 3 0 4, tq_is 6 5, tq_al 0, tq_il 1, tq_il 4, tq_il 2, tq_il 5, tq_call (rV 0 m_c_becomeBoth) 5 2 4, tq_iret 4]
def m_c_stepBack : RM := rMeth tb_c_stepBack 400 6
abbrev rm_c_stepBack : Room := { frames := 9, cells := 4, slots := 48, locals := 159 }
set_option maxHeartbeats 4000000 in
set_option maxRecDepth 20000 in
theorem ok_c_stepBack : rMet y_c_stepBack (Cond.code y_c_stepBack prog_1_method_43_code 6 (some .int) :: rT) rm_c_stepBack 4 m_c_stepBack := by
  refine rMeth_ok (ps := ps_c_stepBack) (tab := tb_c_stepBack) (by decide +kernel) rfl rfl rfl rfl ?_
  refine rcons (ro_aload_n (k := 0) rfl (by decide +kernel) rfl) ?_
  refine rcons (ro_getf (C := rN0) (T := rF0) (N := 7) (k := 1) (by decide +kernel) rfl (rU0c _) (by decide) (List.mem_cons_of_mem _ q_44) rfl) ?_
  refine rcons (ro_iload_n (k := 1) rfl (by decide +kernel) rfl) ?_
  refine rcons (ro_callS ok_c_numberIn (by decide +kernel) rfl (fun s args ht => va_cwS 2 ht (rgoodS (fun w h => List.mem_cons_of_mem _ h) q_498 q_499 q_13 q_500) rfl rfl rfl hy_c_numberIn ⟨Nat.le_of_ble_eq_true rfl, Nat.le_of_ble_eq_true rfl⟩) rfl) ?_
  refine rcons (ro_lconst (n := 1) (by decide +kernel) rfl rfl) ?_
  refine rcons (ro_bipush (n := 12) (by decide +kernel) rfl rfl) ?_
  refine rcons (ro_callS okS_c_numberBack (by decide +kernel) rfl (fun s args ht => va_cwS 3 ht (rgoodS (fun w h => List.mem_cons_of_mem _ h) q_457 q_458 q_13 q_459) rfl rfl rfl hy_c_numberBack ⟨Nat.le_of_ble_eq_true rfl, Nat.le_of_ble_eq_true rfl⟩) rfl) ?_
  refine rcons (ro_istore (by decide +kernel) rfl) ?_
  refine rcons (ro_aload_n (k := 0) rfl (by decide +kernel) rfl) ?_
  refine rcons (ro_getf (C := rN0) (T := rF0) (N := 7) (k := 0) (by decide +kernel) rfl (rU0c _) (by decide) (List.mem_cons_of_mem _ q_43) rfl) ?_
  refine rcons (ro_iload_n (k := 2) rfl (by decide +kernel) rfl) ?_
  refine rcons (ro_callS ok_c_numberIn (by decide +kernel) rfl (fun s args ht => va_cwS 2 ht (rgoodS (fun w h => List.mem_cons_of_mem _ h) q_498 q_499 q_13 q_500) rfl rfl rfl hy_c_numberIn ⟨Nat.le_of_ble_eq_true rfl, Nat.le_of_ble_eq_true rfl⟩) rfl) ?_
  refine rcons (ro_iload (by decide +kernel) rfl) ?_
  refine rcons (ro_iload_n (k := 3) rfl (by decide +kernel) rfl) ?_
  refine rcons (ro_callS okS_c_lengthOf (by decide +kernel) rfl (fun s args ht => va_cwS 2 ht (rgoodS (fun w h => List.mem_cons_of_mem _ h) q_466 q_467 q_13 q_468) rfl rfl rfl hy_c_lengthOf ⟨Nat.le_of_ble_eq_true rfl, Nat.le_of_ble_eq_true rfl⟩) rfl) ?_
  refine rcons (ro_i2l (by decide +kernel) rfl) ?_
  refine rcons (ro_bipush (n := 7) (by decide +kernel) rfl rfl) ?_
  refine rcons (ro_callS okS_c_numberBack (by decide +kernel) rfl (fun s args ht => va_cwS 3 ht (rgoodS (fun w h => List.mem_cons_of_mem _ h) q_457 q_458 q_13 q_459) rfl rfl rfl hy_c_numberBack ⟨Nat.le_of_ble_eq_true rfl, Nat.le_of_ble_eq_true rfl⟩) rfl) ?_
  refine rcons (ro_istore (by decide +kernel) rfl) ?_
  refine rcons (ro_aload_n (k := 0) rfl (by decide +kernel) rfl) ?_
  refine rcons (ro_iload_n (k := 1) rfl (by decide +kernel) rfl) ?_
  refine rcons (ro_iload (by decide +kernel) rfl) ?_
  refine rcons (ro_iload_n (k := 2) rfl (by decide +kernel) rfl) ?_
  refine rcons (ro_iload (by decide +kernel) rfl) ?_
  refine rcons (ro_callV (C := rN0) (T := rF0) (N := 7) rfl ok_c_becomeBoth (by decide +kernel) rfl (fun s args ht => cwV (C := rN0) 4 ht (rgoodV (C := rN0) (fun w h => List.mem_cons_of_mem _ h) q_904 q_906 q_7 q_13 q_907) rfl rfl rfl hv_c_becomeBoth ⟨Nat.le_of_ble_eq_true rfl, Nat.le_of_ble_eq_true rfl⟩) rfl) ?_
  refine rcons (ro_iret (by decide +kernel)) ?_
  exact rnil
def ps_c_dayOfDate : List Nat := [0, 1, 2, 3, 6, 7, 8, 9, 10, 11, 12, 13, 15, 18]
def tb_c_dayOfDate : List RT := [tq_il 1, tq_il 0, tq_il 2, tq_call s_c_firstOf 2 0 0, tq_ic 1, tq_i2 (fun x y => x - y), tq_il 3, tq_i2 (fun x y => x + y), tq_ic 1, tq_i2 (fun x y => x - y), tq_i2l, tq_ic 7, tq_call s_c_numberOn 3 0 0, tq_iret 0]
def m_c_dayOfDate : RM := rMeth tb_c_dayOfDate 400 4
abbrev rm_c_dayOfDate : Room := { frames := 3, cells := 0, slots := 0, locals := 70 }
set_option maxHeartbeats 4000000 in
set_option maxRecDepth 20000 in
theorem ok_c_dayOfDate : rMet y_c_dayOfDate (Cond.code y_c_dayOfDate prog_1_method_80_code 4 (some .int) :: rT) rm_c_dayOfDate 0 m_c_dayOfDate := by
  refine rMeth_ok (ps := ps_c_dayOfDate) (tab := tb_c_dayOfDate) (by decide +kernel) rfl rfl rfl rfl ?_
  refine rcons (ro_iload_n (k := 1) rfl (by decide +kernel) rfl) ?_
  refine rcons (ro_iload_n (k := 0) rfl (by decide +kernel) rfl) ?_
  refine rcons (ro_iload_n (k := 2) rfl (by decide +kernel) rfl) ?_
  refine rcons (ro_callS okS_c_firstOf (by decide +kernel) rfl (fun s args ht => va_cwS 2 ht (rgoodS (fun w h => List.mem_cons_of_mem _ h) q_480 q_481 q_13 q_482) rfl rfl rfl hy_c_firstOf ⟨Nat.le_of_ble_eq_true rfl, Nat.le_of_ble_eq_true rfl⟩) rfl) ?_
  refine rcons (ro_iconst (n := 1) (by decide +kernel) rfl rfl) ?_
  refine rcons (ro_isub (by decide +kernel) rfl) ?_
  refine rcons (ro_iload_n (k := 3) rfl (by decide +kernel) rfl) ?_
  refine rcons (ro_iadd (by decide +kernel) rfl) ?_
  refine rcons (ro_iconst (n := 1) (by decide +kernel) rfl rfl) ?_
  refine rcons (ro_isub (by decide +kernel) rfl) ?_
  refine rcons (ro_i2l (by decide +kernel) rfl) ?_
  refine rcons (ro_bipush (n := 7) (by decide +kernel) rfl rfl) ?_
  refine rcons (ro_callS okS_c_numberOn (by decide +kernel) rfl (fun s args ht => va_cwS 3 ht (rgoodS (fun w h => List.mem_cons_of_mem _ h) q_445 q_446 q_13 q_447) rfl rfl rfl hy_c_numberOn ⟨Nat.le_of_ble_eq_true rfl, Nat.le_of_ble_eq_true rfl⟩) rfl) ?_
  refine rcons (ro_iret (by decide +kernel)) ?_
  exact rnil
def ps_c_begins : List Nat := [0, 1, 4, 5, 8, 9, 12, 13, 16, 17, 18, 21]
def tb_c_begins : List RT := [tq_al 0, tq_getf 0 1, tq_il 1, tq_call m_c_numberIn 2 1 2, tq_al 0, tq_getf 0 0, tq_il 2, tq_call m_c_numberIn 2 1 2, tq_il 3, tq_ic 1, tq_call m_c_dayOfDate 4 0 2, tq_iret 2]
def m_c_begins : RM := rMeth tb_c_begins 400 4
abbrev rm_c_begins : Room := { frames := 7, cells := 2, slots := 24, locals := 111 }
set_option maxHeartbeats 4000000 in
set_option maxRecDepth 20000 in
theorem ok_c_begins : rMet y_c_begins (Cond.code y_c_begins prog_1_method_44_code 4 (some .int) :: rT) rm_c_begins 2 m_c_begins := by
  refine rMeth_ok (ps := ps_c_begins) (tab := tb_c_begins) (by decide +kernel) rfl rfl rfl rfl ?_
  refine rcons (ro_aload_n (k := 0) rfl (by decide +kernel) rfl) ?_
  refine rcons (ro_getf (C := rN0) (T := rF0) (N := 7) (k := 1) (by decide +kernel) rfl (rU0c _) (by decide) (List.mem_cons_of_mem _ q_44) rfl) ?_
  refine rcons (ro_iload_n (k := 1) rfl (by decide +kernel) rfl) ?_
  refine rcons (ro_callS ok_c_numberIn (by decide +kernel) rfl (fun s args ht => va_cwS 2 ht (rgoodS (fun w h => List.mem_cons_of_mem _ h) q_498 q_499 q_13 q_500) rfl rfl rfl hy_c_numberIn ⟨Nat.le_of_ble_eq_true rfl, Nat.le_of_ble_eq_true rfl⟩) rfl) ?_
  refine rcons (ro_aload_n (k := 0) rfl (by decide +kernel) rfl) ?_
  refine rcons (ro_getf (C := rN0) (T := rF0) (N := 7) (k := 0) (by decide +kernel) rfl (rU0c _) (by decide) (List.mem_cons_of_mem _ q_43) rfl) ?_
  refine rcons (ro_iload_n (k := 2) rfl (by decide +kernel) rfl) ?_
  refine rcons (ro_callS ok_c_numberIn (by decide +kernel) rfl (fun s args ht => va_cwS 2 ht (rgoodS (fun w h => List.mem_cons_of_mem _ h) q_498 q_499 q_13 q_500) rfl rfl rfl hy_c_numberIn ⟨Nat.le_of_ble_eq_true rfl, Nat.le_of_ble_eq_true rfl⟩) rfl) ?_
  refine rcons (ro_iload_n (k := 3) rfl (by decide +kernel) rfl) ?_
  refine rcons (ro_iconst (n := 1) (by decide +kernel) rfl rfl) ?_
  refine rcons (ro_callS ok_c_dayOfDate (by decide +kernel) rfl (fun s args ht => va_cwS 4 ht (rgoodS (fun w h => List.mem_cons_of_mem _ h) q_922 q_923 q_13 q_924) rfl rfl rfl hy_c_dayOfDate ⟨Nat.le_of_ble_eq_true rfl, Nat.le_of_ble_eq_true rfl⟩) rfl) ?_
  refine rcons (ro_iret (by decide +kernel)) ?_
  exact rnil
def ps_c_date : List Nat := [0, 1, 4, 5, 8, 10, 11, 14, 15, 18, 20, 22, 24, 25, 28, 31, 33, 35, 36, 38, 41]
def tb_c_date : List RT := [tq_al 0, tq_getf 0 1, tq_il 1, tq_call m_c_numberIn 2 1 3, tq_is 7 5, tq_al 0, tq_getf 0 0, tq_il 2, tq_call m_c_numberIn 2 1 3, tq_is 7 6, tq_il 4, tq_il 5, tq_il 3, tq_call s_c_lengthOf 2 0 3, tq_call m_c_refuseOutside 2 1 3, tq_il 5, tq_il 6, tq_il 3, tq_il 4, tq_call m_c_dayOfDate 4 0 3, tq_iret 3]
def m_c_date : RM := rMeth tb_c_date 400 7
abbrev rm_c_date : Room := { frames := 7, cells := 3, slots := 36, locals := 111 }
set_option maxHeartbeats 4000000 in
set_option maxRecDepth 20000 in
theorem ok_c_date : rMet y_c_date (Cond.code y_c_date prog_1_method_45_code 7 (some .int) :: rT) rm_c_date 3 m_c_date := by
  refine rMeth_ok (ps := ps_c_date) (tab := tb_c_date) (by decide +kernel) rfl rfl rfl rfl ?_
  refine rcons (ro_aload_n (k := 0) rfl (by decide +kernel) rfl) ?_
  refine rcons (ro_getf (C := rN0) (T := rF0) (N := 7) (k := 1) (by decide +kernel) rfl (rU0c _) (by decide) (List.mem_cons_of_mem _ q_44) rfl) ?_
  refine rcons (ro_iload_n (k := 1) rfl (by decide +kernel) rfl) ?_
  refine rcons (ro_callS ok_c_numberIn (by decide +kernel) rfl (fun s args ht => va_cwS 2 ht (rgoodS (fun w h => List.mem_cons_of_mem _ h) q_498 q_499 q_13 q_500) rfl rfl rfl hy_c_numberIn ⟨Nat.le_of_ble_eq_true rfl, Nat.le_of_ble_eq_true rfl⟩) rfl) ?_
  refine rcons (ro_istore (by decide +kernel) rfl) ?_
  refine rcons (ro_aload_n (k := 0) rfl (by decide +kernel) rfl) ?_
  refine rcons (ro_getf (C := rN0) (T := rF0) (N := 7) (k := 0) (by decide +kernel) rfl (rU0c _) (by decide) (List.mem_cons_of_mem _ q_43) rfl) ?_
  refine rcons (ro_iload_n (k := 2) rfl (by decide +kernel) rfl) ?_
  refine rcons (ro_callS ok_c_numberIn (by decide +kernel) rfl (fun s args ht => va_cwS 2 ht (rgoodS (fun w h => List.mem_cons_of_mem _ h) q_498 q_499 q_13 q_500) rfl rfl rfl hy_c_numberIn ⟨Nat.le_of_ble_eq_true rfl, Nat.le_of_ble_eq_true rfl⟩) rfl) ?_
  refine rcons (ro_istore (by decide +kernel) rfl) ?_
  refine rcons (ro_iload (by decide +kernel) rfl) ?_
  refine rcons (ro_iload (by decide +kernel) rfl) ?_
  refine rcons (ro_iload_n (k := 3) rfl (by decide +kernel) rfl) ?_
  refine rcons (ro_callS okS_c_lengthOf (by decide +kernel) rfl (fun s args ht => va_cwS 2 ht (rgoodS (fun w h => List.mem_cons_of_mem _ h) q_466 q_467 q_13 q_468) rfl rfl rfl hy_c_lengthOf ⟨Nat.le_of_ble_eq_true rfl, Nat.le_of_ble_eq_true rfl⟩) rfl) ?_
  refine rcons (ro_callS ok_c_refuseOutside (by decide +kernel) rfl (fun s args ht => va_cwS 2 ht (rgoodS (fun w h => List.mem_cons_of_mem _ h) q_596 q_597 q_13 q_598) rfl rfl rfl hy_c_refuseOutside ⟨Nat.le_of_ble_eq_true rfl, Nat.le_of_ble_eq_true rfl⟩) rfl) ?_
  refine rcons (ro_iload (by decide +kernel) rfl) ?_
  refine rcons (ro_iload (by decide +kernel) rfl) ?_
  refine rcons (ro_iload_n (k := 3) rfl (by decide +kernel) rfl) ?_
  refine rcons (ro_iload (by decide +kernel) rfl) ?_
  refine rcons (ro_callS ok_c_dayOfDate (by decide +kernel) rfl (fun s args ht => va_cwS 4 ht (rgoodS (fun w h => List.mem_cons_of_mem _ h) q_922 q_923 q_13 q_924) rfl rfl rfl hy_c_dayOfDate ⟨Nat.le_of_ble_eq_true rfl, Nat.le_of_ble_eq_true rfl⟩) rfl) ?_
  refine rcons (ro_iret (by decide +kernel)) ?_
  exact rnil
def ps_c_areAlike : List Nat := [0, 1, 4, 5, 8, 9, 12, 14, 15, 18, 19, 22, 23, 26, 28, 30, 31, 33, 36, 38, 39, 41, 44, 47, 48, 51, 52]
def tb_c_areAlike : List RT := [tq_al 0, tq_getf 0 1, tq_il 1, tq_call m_c_numberIn 2 1 2, tq_il 3, tq_call s_c_firstOf 2 0 2, tq_is 6 4, tq_al 0, tq_getf 0 1, tq_il 2, tq_call m_c_numberIn 2 1 2, tq_il 3, tq_call s_c_firstOf 2 0 2, tq_is 6 5, tq_il 4, tq_i2l, tq_ic 7, tq_call s_c_rest 2 0 2, tq_il 5, tq_i2l, tq_ic 7, tq_call s_c_rest 2 0 2, tq_s2 (fun x y => !decide (x = y)) 1 0 26, tq_ic 1, tq_go 26, tq_ic 0, tq_zret 2]
def m_c_areAlike : RM := rMeth tb_c_areAlike 400 6
abbrev rm_c_areAlike : Room := { frames := 7, cells := 2, slots := 24, locals := 111 }
set_option maxHeartbeats 4000000 in
set_option maxRecDepth 20000 in
theorem ok_c_areAlike : rMet y_c_areAlike (Cond.code y_c_areAlike prog_1_method_46_code 6 (some .boolean) :: rT) rm_c_areAlike 2 m_c_areAlike := by
  refine rMeth_ok (ps := ps_c_areAlike) (tab := tb_c_areAlike) (by decide +kernel) rfl rfl rfl rfl ?_
  refine rcons (ro_aload_n (k := 0) rfl (by decide +kernel) rfl) ?_
  refine rcons (ro_getf (C := rN0) (T := rF0) (N := 7) (k := 1) (by decide +kernel) rfl (rU0c _) (by decide) (List.mem_cons_of_mem _ q_44) rfl) ?_
  refine rcons (ro_iload_n (k := 1) rfl (by decide +kernel) rfl) ?_
  refine rcons (ro_callS ok_c_numberIn (by decide +kernel) rfl (fun s args ht => va_cwS 2 ht (rgoodS (fun w h => List.mem_cons_of_mem _ h) q_498 q_499 q_13 q_500) rfl rfl rfl hy_c_numberIn ⟨Nat.le_of_ble_eq_true rfl, Nat.le_of_ble_eq_true rfl⟩) rfl) ?_
  refine rcons (ro_iload_n (k := 3) rfl (by decide +kernel) rfl) ?_
  refine rcons (ro_callS okS_c_firstOf (by decide +kernel) rfl (fun s args ht => va_cwS 2 ht (rgoodS (fun w h => List.mem_cons_of_mem _ h) q_480 q_481 q_13 q_482) rfl rfl rfl hy_c_firstOf ⟨Nat.le_of_ble_eq_true rfl, Nat.le_of_ble_eq_true rfl⟩) rfl) ?_
  refine rcons (ro_istore (by decide +kernel) rfl) ?_
  refine rcons (ro_aload_n (k := 0) rfl (by decide +kernel) rfl) ?_
  refine rcons (ro_getf (C := rN0) (T := rF0) (N := 7) (k := 1) (by decide +kernel) rfl (rU0c _) (by decide) (List.mem_cons_of_mem _ q_44) rfl) ?_
  refine rcons (ro_iload_n (k := 2) rfl (by decide +kernel) rfl) ?_
  refine rcons (ro_callS ok_c_numberIn (by decide +kernel) rfl (fun s args ht => va_cwS 2 ht (rgoodS (fun w h => List.mem_cons_of_mem _ h) q_498 q_499 q_13 q_500) rfl rfl rfl hy_c_numberIn ⟨Nat.le_of_ble_eq_true rfl, Nat.le_of_ble_eq_true rfl⟩) rfl) ?_
  refine rcons (ro_iload_n (k := 3) rfl (by decide +kernel) rfl) ?_
  refine rcons (ro_callS okS_c_firstOf (by decide +kernel) rfl (fun s args ht => va_cwS 2 ht (rgoodS (fun w h => List.mem_cons_of_mem _ h) q_480 q_481 q_13 q_482) rfl rfl rfl hy_c_firstOf ⟨Nat.le_of_ble_eq_true rfl, Nat.le_of_ble_eq_true rfl⟩) rfl) ?_
  refine rcons (ro_istore (by decide +kernel) rfl) ?_
  refine rcons (ro_iload (by decide +kernel) rfl) ?_
  refine rcons (ro_i2l (by decide +kernel) rfl) ?_
  refine rcons (ro_bipush (n := 7) (by decide +kernel) rfl rfl) ?_
  refine rcons (ro_callS okS_c_rest (by decide +kernel) rfl (fun s args ht => va_cwS 2 ht (rgoodS (fun w h => List.mem_cons_of_mem _ h) q_451 q_452 q_13 q_453) rfl rfl rfl hy_c_rest ⟨Nat.le_of_ble_eq_true rfl, Nat.le_of_ble_eq_true rfl⟩) rfl) ?_
  refine rcons (ro_iload (by decide +kernel) rfl) ?_
  refine rcons (ro_i2l (by decide +kernel) rfl) ?_
  refine rcons (ro_bipush (n := 7) (by decide +kernel) rfl rfl) ?_
  refine rcons (ro_callS okS_c_rest (by decide +kernel) rfl (fun s args ht => va_cwS 2 ht (rgoodS (fun w h => List.mem_cons_of_mem _ h) q_451 q_452 q_13 q_453) rfl rfl rfl hy_c_rest ⟨Nat.le_of_ble_eq_true rfl, Nat.le_of_ble_eq_true rfl⟩) rfl) ?_
  refine rcons (ro_s2_ne (off := 7) (off2 := 4) (n1 := 1) (n2 := 0) (by decide +kernel) (by decide +kernel) rfl (by decide +kernel) (by decide +kernel) rfl rfl rfl rfl) ?_
  refine rcons (ro_iconst (n := 1) (by decide +kernel) rfl rfl) ?_
  refine rcons (ro_goto (off := 4) (by decide +kernel) rfl) ?_
  refine rcons (ro_iconst (n := 0) (by decide +kernel) rfl rfl) ?_
  refine rcons (ro_zret (by decide +kernel)) ?_
  exact rnil
def ps_c_isKept : List Nat := [0, 1, 4, 5, 6, 9, 12, 13, 15, 18, 19, 20, 23, 24, 25]
def tb_c_isKept : List RT := [tq_il 1, tq_if1 (fun x => decide (x < 0)) 5, tq_il 1, tq_ic 2, tq_if2 (fun x y => decide (x < y)) 10, tq_thr 0 1, tq_bad, tq_bad, tq_bad, tq_bad, tq_al 0, tq_getf 0 4, tq_il 1, tq_iald 1, tq_zret 1]
def m_c_isKept : RM := rMeth tb_c_isKept 400 2
abbrev rm_c_isKept : Room := { frames := 6, cells := 1, slots := 12, locals := 90 }
set_option maxHeartbeats 4000000 in
set_option maxRecDepth 20000 in
theorem ok_c_isKept : rMet y_c_isKept (Cond.code y_c_isKept prog_1_method_49_code 2 (some .boolean) :: rT) rm_c_isKept 1 m_c_isKept := by
  refine rMeth_ok (ps := ps_c_isKept) (tab := tb_c_isKept) (by decide +kernel) rfl rfl rfl rfl ?_
  refine rcons (ro_iload_n (k := 1) rfl (by decide +kernel) rfl) ?_
  refine rcons (ro_if_lt (off := 8) (by decide +kernel) rfl rfl) ?_
  refine rcons (ro_iload_n (k := 1) rfl (by decide +kernel) rfl) ?_
  refine rcons (ro_iconst (n := 2) (by decide +kernel) rfl rfl) ?_
  refine rcons (ro_icmp_lt (off := 13) (by decide +kernel) rfl rfl) ?_
  refine rcons (ro_thr (k := 21) (by decide +kernel) (by decide +kernel) (by decide +kernel) (by decide +kernel) (by decide +kernel) rfl (List.mem_cons_of_mem _ q_501) (List.mem_cons_of_mem _ q_19) (by decide +kernel) (rcm rtg_c154_0) rtb_c154_0 rto_150_c154_0 (by decide) rfl (by decide) (by decide)) ?_
  refine rcons (ro_bad) ?_
  refine rcons (ro_bad) ?_
  refine rcons (ro_bad) ?_
  refine rcons (ro_bad) ?_
  refine rcons (ro_aload_n (k := 0) rfl (by decide +kernel) rfl) ?_
  refine rcons (ro_getf (C := rN0) (T := rF0) (N := 7) (k := 4) (by decide +kernel) rfl (rU0c _) (by decide) (List.mem_cons_of_mem _ q_47) rfl) ?_
  refine rcons (ro_iload_n (k := 1) rfl (by decide +kernel) rfl) ?_
  refine rcons (ro_zald (by decide +kernel) rfl) ?_
  refine rcons (ro_zret (by decide +kernel)) ?_
  exact rnil
def ps_c_copyCells : List Nat := [0, 1, 2, 3, 4, 7, 8, 9, 10, 11, 12, 13, 16, 19]
def tb_c_copyCells : List RT := [tq_ic 0, tq_is 3 2, tq_il 2, tq_ic 4, tq_if2 (fun x y => decide (y ≤ x)) 13, tq_al 1, tq_il 2, tq_al 0, tq_il 2, tq_iald 0, tq_iast 0, tq_inc 3 2 1, tq_go 2, tq_vret 0]
def m_c_copyCells : RM := rMeth tb_c_copyCells 400 3
abbrev rm_c_copyCells : Room := { frames := 0, cells := 0, slots := 0, locals := 0 }
set_option maxHeartbeats 4000000 in
set_option maxRecDepth 20000 in
theorem ok_c_copyCells : rMet y_c_copyCells (Cond.code y_c_copyCells prog_1_method_66_code 3 none :: rT) rm_c_copyCells 0 m_c_copyCells := by
  refine rMeth_ok (ps := ps_c_copyCells) (tab := tb_c_copyCells) (by decide +kernel) rfl rfl rfl rfl ?_
  refine rcons (ro_iconst (n := 0) (by decide +kernel) rfl rfl) ?_
  refine rcons (ro_istore_n (k := 2) rfl (by decide +kernel) rfl) ?_
  refine rcons (ro_iload_n (k := 2) rfl (by decide +kernel) rfl) ?_
  refine rcons (ro_iconst (n := 4) (by decide +kernel) rfl rfl) ?_
  refine rcons (ro_icmp_ge (off := 15) (by decide +kernel) rfl rfl) ?_
  refine rcons (ro_aload_n (k := 1) rfl (by decide +kernel) rfl) ?_
  refine rcons (ro_iload_n (k := 2) rfl (by decide +kernel) rfl) ?_
  refine rcons (ro_aload_n (k := 0) rfl (by decide +kernel) rfl) ?_
  refine rcons (ro_iload_n (k := 2) rfl (by decide +kernel) rfl) ?_
  refine rcons (ro_iald (by decide +kernel) rfl) ?_
  refine rcons (ro_iast (by decide +kernel) rfl) ?_
  refine rcons (ro_iinc (by decide +kernel) rfl) ?_
  refine rcons (ro_goto (off := (-14)) (by decide +kernel) rfl) ?_
  refine rcons (ro_vret (by decide +kernel)) ?_
  exact rnil
def ps_c_keep : List Nat := [0, 1, 2, 5, 8, 9, 12, 13, 14, 15, 18, 19, 22, 23, 24, 27, 28, 31, 32, 35, 36, 37, 40, 41, 44, 45, 46, 47, 48]
def tb_c_keep : List RT := [tq_al 0, tq_il 1, tq_call (rV 0 m_c_isKept) 2 1 1, tq_s1 (fun x => decide (x = 0)) 1 0 7, tq_ic 1, tq_go 7, tq_ic 0, tq_is 3 2, tq_al 0, tq_getf 0 0, tq_al 0, tq_getf 0 2, tq_il 1, tq_aald 2, tq_call m_c_copyCells 2 0 1, tq_al 0, tq_getf 0 1, tq_al 0, tq_getf 0 3, tq_il 1, tq_aald 2, tq_call m_c_copyCells 2 0 1, tq_al 0, tq_getf 0 4, tq_il 1, tq_ic 1, tq_zast 1, tq_il 2, tq_iret 1]
def m_c_keep : RM := rMeth tb_c_keep 400 3
abbrev rm_c_keep : Room := { frames := 7, cells := 1, slots := 12, locals := 111 }
set_option maxHeartbeats 4000000 in
set_option maxRecDepth 20000 in
theorem ok_c_keep : rMet y_c_keep (Cond.code y_c_keep prog_1_method_47_code 3 (some .int) :: rT) rm_c_keep 1 m_c_keep := by
  refine rMeth_ok (ps := ps_c_keep) (tab := tb_c_keep) (by decide +kernel) rfl rfl rfl rfl ?_
  refine rcons (ro_aload_n (k := 0) rfl (by decide +kernel) rfl) ?_
  refine rcons (ro_iload_n (k := 1) rfl (by decide +kernel) rfl) ?_
  refine rcons (ro_callV (C := rN0) (T := rF0) (N := 7) rfl ok_c_isKept (by decide +kernel) rfl (fun s args ht => cwV (C := rN0) 1 ht (rgoodV (C := rN0) (fun w h => List.mem_cons_of_mem _ h) q_564 q_565 q_566 q_13 q_567) rfl rfl rfl hv_c_isKept ⟨Nat.le_of_ble_eq_true rfl, Nat.le_of_ble_eq_true rfl⟩) rfl) ?_
  refine rcons (ro_s1_eq (off := 7) (off2 := 4) (n1 := 1) (n2 := 0) (by decide +kernel) (by decide +kernel) rfl (by decide +kernel) (by decide +kernel) rfl rfl rfl rfl) ?_
  refine rcons (ro_iconst (n := 1) (by decide +kernel) rfl rfl) ?_
  refine rcons (ro_goto (off := 4) (by decide +kernel) rfl) ?_
  refine rcons (ro_iconst (n := 0) (by decide +kernel) rfl rfl) ?_
  refine rcons (ro_istore_n (k := 2) rfl (by decide +kernel) rfl) ?_
  refine rcons (ro_aload_n (k := 0) rfl (by decide +kernel) rfl) ?_
  refine rcons (ro_getf (C := rN0) (T := rF0) (N := 7) (k := 0) (by decide +kernel) rfl (rU0c _) (by decide) (List.mem_cons_of_mem _ q_43) rfl) ?_
  refine rcons (ro_aload_n (k := 0) rfl (by decide +kernel) rfl) ?_
  refine rcons (ro_getf (C := rN0) (T := rF0) (N := 7) (k := 2) (by decide +kernel) rfl (rU0c _) (by decide) (List.mem_cons_of_mem _ q_45) rfl) ?_
  refine rcons (ro_iload_n (k := 1) rfl (by decide +kernel) rfl) ?_
  refine rcons (ro_aald (by decide +kernel) rfl) ?_
  refine rcons (ro_callS ok_c_copyCells (by decide +kernel) rfl (fun s args ht => va_cwS 2 ht (rgoodS (fun w h => List.mem_cons_of_mem _ h) q_943 q_944 q_13 q_945) rfl rfl rfl hy_c_copyCells ⟨Nat.le_of_ble_eq_true rfl, Nat.le_of_ble_eq_true rfl⟩) rfl) ?_
  refine rcons (ro_aload_n (k := 0) rfl (by decide +kernel) rfl) ?_
  refine rcons (ro_getf (C := rN0) (T := rF0) (N := 7) (k := 1) (by decide +kernel) rfl (rU0c _) (by decide) (List.mem_cons_of_mem _ q_44) rfl) ?_
  refine rcons (ro_aload_n (k := 0) rfl (by decide +kernel) rfl) ?_
  refine rcons (ro_getf (C := rN0) (T := rF0) (N := 7) (k := 3) (by decide +kernel) rfl (rU0c _) (by decide) (List.mem_cons_of_mem _ q_46) rfl) ?_
  refine rcons (ro_iload_n (k := 1) rfl (by decide +kernel) rfl) ?_
  refine rcons (ro_aald (by decide +kernel) rfl) ?_
  refine rcons (ro_callS ok_c_copyCells (by decide +kernel) rfl (fun s args ht => va_cwS 2 ht (rgoodS (fun w h => List.mem_cons_of_mem _ h) q_943 q_944 q_13 q_945) rfl rfl rfl hy_c_copyCells ⟨Nat.le_of_ble_eq_true rfl, Nat.le_of_ble_eq_true rfl⟩) rfl) ?_
  refine rcons (ro_aload_n (k := 0) rfl (by decide +kernel) rfl) ?_
  refine rcons (ro_getf (C := rN0) (T := rF0) (N := 7) (k := 4) (by decide +kernel) rfl (rU0c _) (by decide) (List.mem_cons_of_mem _ q_47) rfl) ?_
  refine rcons (ro_iload_n (k := 1) rfl (by decide +kernel) rfl) ?_
  refine rcons (ro_iconst (n := 1) (by decide +kernel) rfl rfl) ?_
  refine rcons (ro_zast (by decide +kernel) rfl) ?_
  refine rcons (ro_iload_n (k := 2) rfl (by decide +kernel) rfl) ?_
  refine rcons (ro_iret (by decide +kernel)) ?_
  exact rnil
def ps_c_countOthers : List Nat := [0, 1, 2, 3, 4, 5, 6, 9, 10, 11, 12, 13, 14, 15, 18, 21, 24, 27, 28]
def tb_c_countOthers : List RT := [tq_ic 0, tq_is 4 2, tq_ic 0, tq_is 4 3, tq_il 3, tq_ic 4, tq_if2 (fun x y => decide (y ≤ x)) 17, tq_al 0, tq_il 3, tq_iald 0, tq_al 1, tq_il 3, tq_iald 0, tq_ni 4 2 1 15, tq_inc 4 2 1, tq_inc 4 3 1, tq_go 4, tq_il 2, tq_iret 0]
def m_c_countOthers : RM := rMeth tb_c_countOthers 400 4
abbrev rm_c_countOthers : Room := { frames := 0, cells := 0, slots := 0, locals := 0 }
set_option maxHeartbeats 4000000 in
set_option maxRecDepth 20000 in
theorem ok_c_countOthers : rMet y_c_countOthers (Cond.code y_c_countOthers prog_1_method_67_code 4 (some .int) :: rT) rm_c_countOthers 0 m_c_countOthers := by
  refine rMeth_ok (ps := ps_c_countOthers) (tab := tb_c_countOthers) (by decide +kernel) rfl rfl rfl rfl ?_
  refine rcons (ro_iconst (n := 0) (by decide +kernel) rfl rfl) ?_
  refine rcons (ro_istore_n (k := 2) rfl (by decide +kernel) rfl) ?_
  refine rcons (ro_iconst (n := 0) (by decide +kernel) rfl rfl) ?_
  refine rcons (ro_istore_n (k := 3) rfl (by decide +kernel) rfl) ?_
  refine rcons (ro_iload_n (k := 3) rfl (by decide +kernel) rfl) ?_
  refine rcons (ro_iconst (n := 4) (by decide +kernel) rfl rfl) ?_
  refine rcons (ro_icmp_ge (off := 21) (by decide +kernel) rfl rfl) ?_
  refine rcons (ro_aload_n (k := 0) rfl (by decide +kernel) rfl) ?_
  refine rcons (ro_iload_n (k := 3) rfl (by decide +kernel) rfl) ?_
  refine rcons (ro_iald (by decide +kernel) rfl) ?_
  refine rcons (ro_aload_n (k := 1) rfl (by decide +kernel) rfl) ?_
  refine rcons (ro_iload_n (k := 3) rfl (by decide +kernel) rfl) ?_
  refine rcons (ro_iald (by decide +kernel) rfl) ?_
  refine rcons (ro_ni (off := 6) (by decide +kernel) (by decide +kernel) rfl rfl) ?_
  refine rcons (ro_iinc (by decide +kernel) rfl) ?_
  refine rcons (ro_iinc (by decide +kernel) rfl) ?_
  refine rcons (ro_goto (off := (-20)) (by decide +kernel) rfl) ?_
  refine rcons (ro_iload_n (k := 2) rfl (by decide +kernel) rfl) ?_
  refine rcons (ro_iret (by decide +kernel)) ?_
  exact rnil
def ps_c_back : List Nat := [0, 1, 2, 5, 8, 11, 12, 14, 17, 18, 19, 22, 23, 26, 27, 28, 31, 32, 35, 36, 39, 40, 41, 44, 45, 46, 47, 50, 51, 52, 53, 56, 59, 60, 63, 64, 65, 66, 69, 72, 73, 74, 77, 78, 79, 82, 83]
def tb_c_back : List RT := [tq_al 0, tq_il 1, tq_call (rV 0 m_c_isKept) 2 1 2, tq_if1 (fun x => !decide (x = 0)) 9, tq_thr 2 2, tq_bad, tq_bad, tq_bad, tq_bad, tq_al 0, tq_getf 0 0, tq_al 0, tq_getf 0 2, tq_il 1, tq_aald 2, tq_call m_c_countOthers 2 0 2, tq_al 0, tq_getf 0 1, tq_al 0, tq_getf 0 3, tq_il 1, tq_aald 2, tq_call m_c_countOthers 2 0 2, tq_i2 (fun x y => x + y), tq_is 3 2, tq_al 0, tq_getf 0 2, tq_il 1, tq_aald 2, tq_al 0, tq_getf 0 0, tq_call m_c_copyCells 2 0 2, tq_al 0, tq_getf 0 3, tq_il 1, tq_aald 2, tq_al 0, tq_getf 0 1, tq_call m_c_copyCells 2 0 2, tq_al 0, tq_dup, tq_getf 0 5, tq_ic 1, tq_i2 (fun x y => x + y), tq_putf 0 5 0, tq_il 2, tq_iret 2]
def m_c_back : RM := rMeth tb_c_back 400 3
abbrev rm_c_back : Room := { frames := 7, cells := 2, slots := 24, locals := 111 }
set_option maxHeartbeats 4000000 in
set_option maxRecDepth 20000 in
theorem ok_c_back : rMet y_c_back (Cond.code y_c_back prog_1_method_48_code 3 (some .int) :: rT) rm_c_back 2 m_c_back := by
  refine rMeth_ok (ps := ps_c_back) (tab := tb_c_back) (by decide +kernel) rfl rfl rfl rfl ?_
  refine rcons (ro_aload_n (k := 0) rfl (by decide +kernel) rfl) ?_
  refine rcons (ro_iload_n (k := 1) rfl (by decide +kernel) rfl) ?_
  refine rcons (ro_callV (C := rN0) (T := rF0) (N := 7) rfl ok_c_isKept (by decide +kernel) rfl (fun s args ht => cwV (C := rN0) 1 ht (rgoodV (C := rN0) (fun w h => List.mem_cons_of_mem _ h) q_564 q_565 q_566 q_13 q_567) rfl rfl rfl hv_c_isKept ⟨Nat.le_of_ble_eq_true rfl, Nat.le_of_ble_eq_true rfl⟩) rfl) ?_
  refine rcons (ro_if_ne (off := 13) (by decide +kernel) rfl rfl) ?_
  refine rcons (ro_thr (k := 23) (by decide +kernel) (by decide +kernel) (by decide +kernel) (by decide +kernel) (by decide +kernel) rfl (List.mem_cons_of_mem _ q_954) (List.mem_cons_of_mem _ q_22) (by decide +kernel) (rcm rtg_c139_2) rtb_c139_2 rto_135_c139_2 (by decide) rfl (by decide) (by decide)) ?_
  refine rcons (ro_bad) ?_
  refine rcons (ro_bad) ?_
  refine rcons (ro_bad) ?_
  refine rcons (ro_bad) ?_
  refine rcons (ro_aload_n (k := 0) rfl (by decide +kernel) rfl) ?_
  refine rcons (ro_getf (C := rN0) (T := rF0) (N := 7) (k := 0) (by decide +kernel) rfl (rU0c _) (by decide) (List.mem_cons_of_mem _ q_43) rfl) ?_
  refine rcons (ro_aload_n (k := 0) rfl (by decide +kernel) rfl) ?_
  refine rcons (ro_getf (C := rN0) (T := rF0) (N := 7) (k := 2) (by decide +kernel) rfl (rU0c _) (by decide) (List.mem_cons_of_mem _ q_45) rfl) ?_
  refine rcons (ro_iload_n (k := 1) rfl (by decide +kernel) rfl) ?_
  refine rcons (ro_aald (by decide +kernel) rfl) ?_
  refine rcons (ro_callS ok_c_countOthers (by decide +kernel) rfl (fun s args ht => va_cwS 2 ht (rgoodS (fun w h => List.mem_cons_of_mem _ h) q_970 q_971 q_13 q_972) rfl rfl rfl hy_c_countOthers ⟨Nat.le_of_ble_eq_true rfl, Nat.le_of_ble_eq_true rfl⟩) rfl) ?_
  refine rcons (ro_aload_n (k := 0) rfl (by decide +kernel) rfl) ?_
  refine rcons (ro_getf (C := rN0) (T := rF0) (N := 7) (k := 1) (by decide +kernel) rfl (rU0c _) (by decide) (List.mem_cons_of_mem _ q_44) rfl) ?_
  refine rcons (ro_aload_n (k := 0) rfl (by decide +kernel) rfl) ?_
  refine rcons (ro_getf (C := rN0) (T := rF0) (N := 7) (k := 3) (by decide +kernel) rfl (rU0c _) (by decide) (List.mem_cons_of_mem _ q_46) rfl) ?_
  refine rcons (ro_iload_n (k := 1) rfl (by decide +kernel) rfl) ?_
  refine rcons (ro_aald (by decide +kernel) rfl) ?_
  refine rcons (ro_callS ok_c_countOthers (by decide +kernel) rfl (fun s args ht => va_cwS 2 ht (rgoodS (fun w h => List.mem_cons_of_mem _ h) q_970 q_971 q_13 q_972) rfl rfl rfl hy_c_countOthers ⟨Nat.le_of_ble_eq_true rfl, Nat.le_of_ble_eq_true rfl⟩) rfl) ?_
  refine rcons (ro_iadd (by decide +kernel) rfl) ?_
  refine rcons (ro_istore_n (k := 2) rfl (by decide +kernel) rfl) ?_
  refine rcons (ro_aload_n (k := 0) rfl (by decide +kernel) rfl) ?_
  refine rcons (ro_getf (C := rN0) (T := rF0) (N := 7) (k := 2) (by decide +kernel) rfl (rU0c _) (by decide) (List.mem_cons_of_mem _ q_45) rfl) ?_
  refine rcons (ro_iload_n (k := 1) rfl (by decide +kernel) rfl) ?_
  refine rcons (ro_aald (by decide +kernel) rfl) ?_
  refine rcons (ro_aload_n (k := 0) rfl (by decide +kernel) rfl) ?_
  refine rcons (ro_getf (C := rN0) (T := rF0) (N := 7) (k := 0) (by decide +kernel) rfl (rU0c _) (by decide) (List.mem_cons_of_mem _ q_43) rfl) ?_
  refine rcons (ro_callS ok_c_copyCells (by decide +kernel) rfl (fun s args ht => va_cwS 2 ht (rgoodS (fun w h => List.mem_cons_of_mem _ h) q_943 q_944 q_13 q_945) rfl rfl rfl hy_c_copyCells ⟨Nat.le_of_ble_eq_true rfl, Nat.le_of_ble_eq_true rfl⟩) rfl) ?_
  refine rcons (ro_aload_n (k := 0) rfl (by decide +kernel) rfl) ?_
  refine rcons (ro_getf (C := rN0) (T := rF0) (N := 7) (k := 3) (by decide +kernel) rfl (rU0c _) (by decide) (List.mem_cons_of_mem _ q_46) rfl) ?_
  refine rcons (ro_iload_n (k := 1) rfl (by decide +kernel) rfl) ?_
  refine rcons (ro_aald (by decide +kernel) rfl) ?_
  refine rcons (ro_aload_n (k := 0) rfl (by decide +kernel) rfl) ?_
  refine rcons (ro_getf (C := rN0) (T := rF0) (N := 7) (k := 1) (by decide +kernel) rfl (rU0c _) (by decide) (List.mem_cons_of_mem _ q_44) rfl) ?_
  refine rcons (ro_callS ok_c_copyCells (by decide +kernel) rfl (fun s args ht => va_cwS 2 ht (rgoodS (fun w h => List.mem_cons_of_mem _ h) q_943 q_944 q_13 q_945) rfl rfl rfl hy_c_copyCells ⟨Nat.le_of_ble_eq_true rfl, Nat.le_of_ble_eq_true rfl⟩) rfl) ?_
  refine rcons (ro_aload_n (k := 0) rfl (by decide +kernel) rfl) ?_
  refine rcons (ro_dup (by decide +kernel) rfl) ?_
  refine rcons (ro_getf (C := rN0) (T := rF0) (N := 7) (k := 5) (by decide +kernel) rfl (rU0c _) (by decide) (List.mem_cons_of_mem _ q_48) rfl) ?_
  refine rcons (ro_iconst (n := 1) (by decide +kernel) rfl rfl) ?_
  refine rcons (ro_iadd (by decide +kernel) rfl) ?_
  refine rcons (ro_putf (C := rN0) (T := rF0) (N := 7) (k := 5) (Y := rY0) (by decide +kernel) rfl (rU0c _) rY0_ok rD0 (by decide) (List.mem_cons_of_mem _ q_48) rfl (Or.inl ⟨rfl, rfl⟩) rfl) ?_
  refine rcons (ro_iload_n (k := 2) rfl (by decide +kernel) rfl) ?_
  refine rcons (ro_iret (by decide +kernel)) ?_
  exact rnil
def ps_c_acts : List Nat := [0, 1, 4]
def tb_c_acts : List RT := [tq_al 0, tq_getf 0 5, tq_iret 0]
def m_c_acts : RM := rMeth tb_c_acts 400 1
abbrev rm_c_acts : Room := { frames := 0, cells := 0, slots := 0, locals := 0 }
set_option maxHeartbeats 4000000 in
set_option maxRecDepth 20000 in
theorem ok_c_acts : rMet y_c_acts (Cond.code y_c_acts prog_1_method_52_code 1 (some .int) :: rT) rm_c_acts 0 m_c_acts := by
  refine rMeth_ok (ps := ps_c_acts) (tab := tb_c_acts) (by decide +kernel) rfl rfl rfl rfl ?_
  refine rcons (ro_aload_n (k := 0) rfl (by decide +kernel) rfl) ?_
  refine rcons (ro_getf (C := rN0) (T := rF0) (N := 7) (k := 5) (by decide +kernel) rfl (rU0c _) (by decide) (List.mem_cons_of_mem _ q_48) rfl) ?_
  refine rcons (ro_iret (by decide +kernel)) ?_
  exact rnil
def ps_c_knock : List Nat := [0, 1, 2, 5, 6, 7, 10, 11, 14]
def tb_c_knock : List RT := [tq_al 0, tq_dup, tq_getf 0 6, tq_ic 1, tq_i2 (fun x y => x + y), tq_putf 0 6 0, tq_al 0, tq_getf 0 6, tq_iret 0]
def m_c_knock : RM := rMeth tb_c_knock 400 1
abbrev rm_c_knock : Room := { frames := 0, cells := 0, slots := 0, locals := 0 }
set_option maxHeartbeats 4000000 in
set_option maxRecDepth 20000 in
theorem ok_c_knock : rMet y_c_knock (Cond.code y_c_knock prog_1_method_53_code 1 (some .int) :: rT) rm_c_knock 0 m_c_knock := by
  refine rMeth_ok (ps := ps_c_knock) (tab := tb_c_knock) (by decide +kernel) rfl rfl rfl rfl ?_
  refine rcons (ro_aload_n (k := 0) rfl (by decide +kernel) rfl) ?_
  refine rcons (ro_dup (by decide +kernel) rfl) ?_
  refine rcons (ro_getf (C := rN0) (T := rF0) (N := 7) (k := 6) (by decide +kernel) rfl (rU0c _) (by decide) (List.mem_cons_of_mem _ q_49) rfl) ?_
  refine rcons (ro_iconst (n := 1) (by decide +kernel) rfl rfl) ?_
  refine rcons (ro_iadd (by decide +kernel) rfl) ?_
  refine rcons (ro_putf (C := rN0) (T := rF0) (N := 7) (k := 6) (Y := rY0) (by decide +kernel) rfl (rU0c _) rY0_ok rD0 (by decide) (List.mem_cons_of_mem _ q_49) rfl (Or.inl ⟨rfl, rfl⟩) rfl) ?_
  refine rcons (ro_aload_n (k := 0) rfl (by decide +kernel) rfl) ?_
  refine rcons (ro_getf (C := rN0) (T := rF0) (N := 7) (k := 6) (by decide +kernel) rfl (rU0c _) (by decide) (List.mem_cons_of_mem _ q_49) rfl) ?_
  refine rcons (ro_iret (by decide +kernel)) ?_
  exact rnil
def ps_c_comesToEachOnce : List Nat := [0, 1, 2, 3, 4, 5, 7, 9, 10, 13, 14, 15, 16, 19, 20, 21, 22, 23, 25, 26, 27, 30, 31, 32, 35, 36, 38, 39, 42, 43, 44, 45, 47, 48, 49, 52, 55, 56, 57, 60, 61, 64, 65]
def tb_c_comesToEachOnce : List RT := [tq_ic 0, tq_is 6 2, tq_il 0, tq_is 6 3, tq_ic 0, tq_is 6 4, tq_il 4, tq_il 1, tq_if2 (fun x y => decide (y ≤ x)) 36, tq_il 3, tq_lc 1, tq_il 1, tq_call s_c_numberOn 3 0 0, tq_is 6 3, tq_ic 1, tq_il 3, tq_i2 (fun x y => x <<< (y &&& 31)), tq_is 6 5, tq_il 3, tq_ic 1, tq_if2 (fun x y => decide (x < y)) 28, tq_il 3, tq_il 1, tq_if2 (fun x y => decide (y < x)) 28, tq_il 2, tq_il 5, tq_i2 (fun x y => x &&& y), tq_if1 (fun x => decide (x = 0)) 30, tq_ic 0, tq_zret 0, tq_il 2, tq_il 5, tq_i2 (fun x y => x ||| y), tq_is 6 2, tq_inc 6 4 1, tq_go 6, tq_il 3, tq_il 0, tq_s2 (fun x y => !decide (x = y)) 1 0 42, tq_ic 1, tq_go 42, tq_ic 0, tq_zret 0]
def m_c_comesToEachOnce : RM := rMeth tb_c_comesToEachOnce 400 6
abbrev rm_c_comesToEachOnce : Room := { frames := 3, cells := 0, slots := 0, locals := 70 }
set_option maxHeartbeats 4000000 in
set_option maxRecDepth 20000 in
theorem ok_c_comesToEachOnce : rMet y_c_comesToEachOnce (Cond.code y_c_comesToEachOnce prog_1_method_82_code 6 (some .boolean) :: rT) rm_c_comesToEachOnce 0 m_c_comesToEachOnce := by
  refine rMeth_ok (ps := ps_c_comesToEachOnce) (tab := tb_c_comesToEachOnce) (by decide +kernel) rfl rfl rfl rfl ?_
  refine rcons (ro_iconst (n := 0) (by decide +kernel) rfl rfl) ?_
  refine rcons (ro_istore_n (k := 2) rfl (by decide +kernel) rfl) ?_
  refine rcons (ro_iload_n (k := 0) rfl (by decide +kernel) rfl) ?_
  refine rcons (ro_istore_n (k := 3) rfl (by decide +kernel) rfl) ?_
  refine rcons (ro_iconst (n := 0) (by decide +kernel) rfl rfl) ?_
  refine rcons (ro_istore (by decide +kernel) rfl) ?_
  refine rcons (ro_iload (by decide +kernel) rfl) ?_
  refine rcons (ro_iload_n (k := 1) rfl (by decide +kernel) rfl) ?_
  refine rcons (ro_icmp_ge (off := 45) (by decide +kernel) rfl rfl) ?_
  refine rcons (ro_iload_n (k := 3) rfl (by decide +kernel) rfl) ?_
  refine rcons (ro_lconst (n := 1) (by decide +kernel) rfl rfl) ?_
  refine rcons (ro_iload_n (k := 1) rfl (by decide +kernel) rfl) ?_
  refine rcons (ro_callS okS_c_numberOn (by decide +kernel) rfl (fun s args ht => va_cwS 3 ht (rgoodS (fun w h => List.mem_cons_of_mem _ h) q_445 q_446 q_13 q_447) rfl rfl rfl hy_c_numberOn ⟨Nat.le_of_ble_eq_true rfl, Nat.le_of_ble_eq_true rfl⟩) rfl) ?_
  refine rcons (ro_istore_n (k := 3) rfl (by decide +kernel) rfl) ?_
  refine rcons (ro_iconst (n := 1) (by decide +kernel) rfl rfl) ?_
  refine rcons (ro_iload_n (k := 3) rfl (by decide +kernel) rfl) ?_
  refine rcons (ro_ishl (by decide +kernel) rfl) ?_
  refine rcons (ro_istore (by decide +kernel) rfl) ?_
  refine rcons (ro_iload_n (k := 3) rfl (by decide +kernel) rfl) ?_
  refine rcons (ro_iconst (n := 1) (by decide +kernel) rfl rfl) ?_
  refine rcons (ro_icmp_lt (off := 15) (by decide +kernel) rfl rfl) ?_
  refine rcons (ro_iload_n (k := 3) rfl (by decide +kernel) rfl) ?_
  refine rcons (ro_iload_n (k := 1) rfl (by decide +kernel) rfl) ?_
  refine rcons (ro_icmp_gt (off := 10) (by decide +kernel) rfl rfl) ?_
  refine rcons (ro_iload_n (k := 2) rfl (by decide +kernel) rfl) ?_
  refine rcons (ro_iload (by decide +kernel) rfl) ?_
  refine rcons (ro_iand (by decide +kernel) rfl) ?_
  refine rcons (ro_if_eq (off := 5) (by decide +kernel) rfl rfl) ?_
  refine rcons (ro_iconst (n := 0) (by decide +kernel) rfl rfl) ?_
  refine rcons (ro_zret (by decide +kernel)) ?_
  refine rcons (ro_iload_n (k := 2) rfl (by decide +kernel) rfl) ?_
  refine rcons (ro_iload (by decide +kernel) rfl) ?_
  refine rcons (ro_ior (by decide +kernel) rfl) ?_
  refine rcons (ro_istore_n (k := 2) rfl (by decide +kernel) rfl) ?_
  refine rcons (ro_iinc (by decide +kernel) rfl) ?_
  refine rcons (ro_goto (off := (-45)) (by decide +kernel) rfl) ?_
  refine rcons (ro_iload_n (k := 3) rfl (by decide +kernel) rfl) ?_
  refine rcons (ro_iload_n (k := 0) rfl (by decide +kernel) rfl) ?_
  refine rcons (ro_s2_ne (off := 7) (off2 := 4) (n1 := 1) (n2 := 0) (by decide +kernel) (by decide +kernel) rfl (by decide +kernel) (by decide +kernel) rfl rfl rfl rfl) ?_
  refine rcons (ro_iconst (n := 1) (by decide +kernel) rfl rfl) ?_
  refine rcons (ro_goto (off := 4) (by decide +kernel) rfl) ?_
  refine rcons (ro_iconst (n := 0) (by decide +kernel) rfl rfl) ?_
  refine rcons (ro_zret (by decide +kernel)) ?_
  exact rnil
def ps_c_isFirstSound : List Nat := [0, 1, 2, 5, 6, 9, 10, 11, 12, 13, 16, 17, 18, 19, 20, 23, 24, 25, 26, 27, 30, 31, 34, 35, 38, 39]
def tb_c_isFirstSound : List RT := [tq_il 0, tq_ic 1, tq_if2 (fun x y => !decide (x = y)) 5, tq_ic 1, tq_go 16, tq_il 0, tq_ic 1, tq_i2 (fun x y => x - y), tq_il 1, tq_call s_c_firstOf 2 0 0, tq_il 0, tq_ic 1, tq_i2 (fun x y => x - y), tq_il 1, tq_call s_c_lengthOf 2 0 0, tq_i2 (fun x y => x + y), tq_is 3 2, tq_il 0, tq_il 1, tq_call s_c_firstOf 2 0 0, tq_il 2, tq_s2 (fun x y => !decide (x = y)) 1 0 25, tq_ic 1, tq_go 25, tq_ic 0, tq_zret 0]
def m_c_isFirstSound : RM := rMeth tb_c_isFirstSound 400 3
abbrev rm_c_isFirstSound : Room := { frames := 2, cells := 0, slots := 0, locals := 44 }
set_option maxHeartbeats 4000000 in
set_option maxRecDepth 20000 in
theorem ok_c_isFirstSound : rMet y_c_isFirstSound (Cond.code y_c_isFirstSound prog_1_method_84_code 3 (some .boolean) :: rT) rm_c_isFirstSound 0 m_c_isFirstSound := by
  refine rMeth_ok (ps := ps_c_isFirstSound) (tab := tb_c_isFirstSound) (by decide +kernel) rfl rfl rfl rfl ?_
  refine rcons (ro_iload_n (k := 0) rfl (by decide +kernel) rfl) ?_
  refine rcons (ro_iconst (n := 1) (by decide +kernel) rfl rfl) ?_
  refine rcons (ro_icmp_ne (off := 7) (by decide +kernel) rfl rfl) ?_
  refine rcons (ro_iconst (n := 1) (by decide +kernel) rfl rfl) ?_
  refine rcons (ro_goto (off := 18) (by decide +kernel) rfl) ?_
  refine rcons (ro_iload_n (k := 0) rfl (by decide +kernel) rfl) ?_
  refine rcons (ro_iconst (n := 1) (by decide +kernel) rfl rfl) ?_
  refine rcons (ro_isub (by decide +kernel) rfl) ?_
  refine rcons (ro_iload_n (k := 1) rfl (by decide +kernel) rfl) ?_
  refine rcons (ro_callS okS_c_firstOf (by decide +kernel) rfl (fun s args ht => va_cwS 2 ht (rgoodS (fun w h => List.mem_cons_of_mem _ h) q_480 q_481 q_13 q_482) rfl rfl rfl hy_c_firstOf ⟨Nat.le_of_ble_eq_true rfl, Nat.le_of_ble_eq_true rfl⟩) rfl) ?_
  refine rcons (ro_iload_n (k := 0) rfl (by decide +kernel) rfl) ?_
  refine rcons (ro_iconst (n := 1) (by decide +kernel) rfl rfl) ?_
  refine rcons (ro_isub (by decide +kernel) rfl) ?_
  refine rcons (ro_iload_n (k := 1) rfl (by decide +kernel) rfl) ?_
  refine rcons (ro_callS okS_c_lengthOf (by decide +kernel) rfl (fun s args ht => va_cwS 2 ht (rgoodS (fun w h => List.mem_cons_of_mem _ h) q_466 q_467 q_13 q_468) rfl rfl rfl hy_c_lengthOf ⟨Nat.le_of_ble_eq_true rfl, Nat.le_of_ble_eq_true rfl⟩) rfl) ?_
  refine rcons (ro_iadd (by decide +kernel) rfl) ?_
  refine rcons (ro_istore_n (k := 2) rfl (by decide +kernel) rfl) ?_
  refine rcons (ro_iload_n (k := 0) rfl (by decide +kernel) rfl) ?_
  refine rcons (ro_iload_n (k := 1) rfl (by decide +kernel) rfl) ?_
  refine rcons (ro_callS okS_c_firstOf (by decide +kernel) rfl (fun s args ht => va_cwS 2 ht (rgoodS (fun w h => List.mem_cons_of_mem _ h) q_480 q_481 q_13 q_482) rfl rfl rfl hy_c_firstOf ⟨Nat.le_of_ble_eq_true rfl, Nat.le_of_ble_eq_true rfl⟩) rfl) ?_
  refine rcons (ro_iload_n (k := 2) rfl (by decide +kernel) rfl) ?_
  refine rcons (ro_s2_ne (off := 7) (off2 := 4) (n1 := 1) (n2 := 0) (by decide +kernel) (by decide +kernel) rfl (by decide +kernel) (by decide +kernel) rfl rfl rfl rfl) ?_
  refine rcons (ro_iconst (n := 1) (by decide +kernel) rfl rfl) ?_
  refine rcons (ro_goto (off := 4) (by decide +kernel) rfl) ?_
  refine rcons (ro_iconst (n := 0) (by decide +kernel) rfl rfl) ?_
  refine rcons (ro_zret (by decide +kernel)) ?_
  exact rnil
def ps_c_isQuarterSound : List Nat := [0, 1, 4, 5, 6, 9, 11, 14, 15, 16, 17, 20, 21, 24, 25, 28, 29, 32, 33]
def tb_c_isQuarterSound : List RT := [tq_il 0, tq_call m_c_quarterOf 1 0 0, tq_is 3 1, tq_il 1, tq_lc 3, tq_ic 12, tq_call s_c_numberOn 3 0 0, tq_is 3 2, tq_il 2, tq_il 1, tq_if2 (fun x y => decide (x = y)) 17, tq_il 2, tq_call m_c_quarterOf 1 0 0, tq_il 2, tq_s2 (fun x y => !decide (x = y)) 1 0 18, tq_ic 1, tq_go 18, tq_ic 0, tq_zret 0]
def m_c_isQuarterSound : RM := rMeth tb_c_isQuarterSound 400 3
abbrev rm_c_isQuarterSound : Room := { frames := 3, cells := 0, slots := 0, locals := 70 }
set_option maxHeartbeats 4000000 in
set_option maxRecDepth 20000 in
theorem ok_c_isQuarterSound : rMet y_c_isQuarterSound (Cond.code y_c_isQuarterSound prog_1_method_85_code 3 (some .boolean) :: rT) rm_c_isQuarterSound 0 m_c_isQuarterSound := by
  refine rMeth_ok (ps := ps_c_isQuarterSound) (tab := tb_c_isQuarterSound) (by decide +kernel) rfl rfl rfl rfl ?_
  refine rcons (ro_iload_n (k := 0) rfl (by decide +kernel) rfl) ?_
  refine rcons (ro_callS ok_c_quarterOf (by decide +kernel) rfl (fun s args ht => va_cwS 1 ht (rgoodS (fun w h => List.mem_cons_of_mem _ h) q_486 q_487 q_13 q_488) rfl rfl rfl hy_c_quarterOf ⟨Nat.le_of_ble_eq_true rfl, Nat.le_of_ble_eq_true rfl⟩) rfl) ?_
  refine rcons (ro_istore_n (k := 1) rfl (by decide +kernel) rfl) ?_
  refine rcons (ro_iload_n (k := 1) rfl (by decide +kernel) rfl) ?_
  refine rcons (ro_ldc2 (by decide +kernel) (List.mem_cons_of_mem _ q_489) rfl) ?_
  refine rcons (ro_bipush (n := 12) (by decide +kernel) rfl rfl) ?_
  refine rcons (ro_callS okS_c_numberOn (by decide +kernel) rfl (fun s args ht => va_cwS 3 ht (rgoodS (fun w h => List.mem_cons_of_mem _ h) q_445 q_446 q_13 q_447) rfl rfl rfl hy_c_numberOn ⟨Nat.le_of_ble_eq_true rfl, Nat.le_of_ble_eq_true rfl⟩) rfl) ?_
  refine rcons (ro_istore_n (k := 2) rfl (by decide +kernel) rfl) ?_
  refine rcons (ro_iload_n (k := 2) rfl (by decide +kernel) rfl) ?_
  refine rcons (ro_iload_n (k := 1) rfl (by decide +kernel) rfl) ?_
  refine rcons (ro_icmp_eq (off := 15) (by decide +kernel) rfl rfl) ?_
  refine rcons (ro_iload_n (k := 2) rfl (by decide +kernel) rfl) ?_
  refine rcons (ro_callS ok_c_quarterOf (by decide +kernel) rfl (fun s args ht => va_cwS 1 ht (rgoodS (fun w h => List.mem_cons_of_mem _ h) q_486 q_487 q_13 q_488) rfl rfl rfl hy_c_quarterOf ⟨Nat.le_of_ble_eq_true rfl, Nat.le_of_ble_eq_true rfl⟩) rfl) ?_
  refine rcons (ro_iload_n (k := 2) rfl (by decide +kernel) rfl) ?_
  refine rcons (ro_s2_ne (off := 7) (off2 := 4) (n1 := 1) (n2 := 0) (by decide +kernel) (by decide +kernel) rfl (by decide +kernel) (by decide +kernel) rfl rfl rfl rfl) ?_
  refine rcons (ro_iconst (n := 1) (by decide +kernel) rfl rfl) ?_
  refine rcons (ro_goto (off := 4) (by decide +kernel) rfl) ?_
  refine rcons (ro_iconst (n := 0) (by decide +kernel) rfl rfl) ?_
  refine rcons (ro_zret (by decide +kernel)) ?_
  exact rnil
def ps_c_dayAfterYear : List Nat := [0, 1, 4, 5, 8, 9, 10, 13, 14, 17, 19, 20, 22, 24, 26, 29, 30, 32, 33, 36, 37, 39, 42, 43, 45, 46, 48, 51, 53, 56, 59, 60]
def tb_c_dayAfterYear : List RT := [tq_al 0, tq_getf 0 0, tq_il 1, tq_call m_c_numberIn 2 1 2, tq_is 6 3, tq_al 0, tq_getf 0 1, tq_il 1, tq_call m_c_numberIn 2 1 2, tq_is 6 4, tq_ic 0, tq_is 6 5, tq_il 5, tq_ic 12, tq_if2 (fun x y => decide (y ≤ x)) 30, tq_il 3, tq_il 4, tq_il 2, tq_call s_c_lengthOf 2 0 2, tq_i2l, tq_ic 7, tq_call s_c_numberOn 3 0 2, tq_is 6 3, tq_il 4, tq_lc 1, tq_ic 12, tq_call s_c_numberOn 3 0 2, tq_is 6 4, tq_inc 6 5 1, tq_go 12, tq_il 3, tq_iret 2]
def m_c_dayAfterYear : RM := rMeth tb_c_dayAfterYear 400 6
abbrev rm_c_dayAfterYear : Room := { frames := 7, cells := 2, slots := 24, locals := 111 }
set_option maxHeartbeats 4000000 in
set_option maxRecDepth 20000 in
theorem ok_c_dayAfterYear : rMet y_c_dayAfterYear (Cond.code y_c_dayAfterYear prog_1_method_87_code 6 (some .int) :: rT) rm_c_dayAfterYear 2 m_c_dayAfterYear := by
  refine rMeth_ok (ps := ps_c_dayAfterYear) (tab := tb_c_dayAfterYear) (by decide +kernel) rfl rfl rfl rfl ?_
  refine rcons (ro_aload_n (k := 0) rfl (by decide +kernel) rfl) ?_
  refine rcons (ro_getf (C := rN0) (T := rF0) (N := 7) (k := 0) (by decide +kernel) rfl (rU0c _) (by decide) (List.mem_cons_of_mem _ q_43) rfl) ?_
  refine rcons (ro_iload_n (k := 1) rfl (by decide +kernel) rfl) ?_
  refine rcons (ro_callS ok_c_numberIn (by decide +kernel) rfl (fun s args ht => va_cwS 2 ht (rgoodS (fun w h => List.mem_cons_of_mem _ h) q_498 q_499 q_13 q_500) rfl rfl rfl hy_c_numberIn ⟨Nat.le_of_ble_eq_true rfl, Nat.le_of_ble_eq_true rfl⟩) rfl) ?_
  refine rcons (ro_istore_n (k := 3) rfl (by decide +kernel) rfl) ?_
  refine rcons (ro_aload_n (k := 0) rfl (by decide +kernel) rfl) ?_
  refine rcons (ro_getf (C := rN0) (T := rF0) (N := 7) (k := 1) (by decide +kernel) rfl (rU0c _) (by decide) (List.mem_cons_of_mem _ q_44) rfl) ?_
  refine rcons (ro_iload_n (k := 1) rfl (by decide +kernel) rfl) ?_
  refine rcons (ro_callS ok_c_numberIn (by decide +kernel) rfl (fun s args ht => va_cwS 2 ht (rgoodS (fun w h => List.mem_cons_of_mem _ h) q_498 q_499 q_13 q_500) rfl rfl rfl hy_c_numberIn ⟨Nat.le_of_ble_eq_true rfl, Nat.le_of_ble_eq_true rfl⟩) rfl) ?_
  refine rcons (ro_istore (by decide +kernel) rfl) ?_
  refine rcons (ro_iconst (n := 0) (by decide +kernel) rfl rfl) ?_
  refine rcons (ro_istore (by decide +kernel) rfl) ?_
  refine rcons (ro_iload (by decide +kernel) rfl) ?_
  refine rcons (ro_bipush (n := 12) (by decide +kernel) rfl rfl) ?_
  refine rcons (ro_icmp_ge (off := 33) (by decide +kernel) rfl rfl) ?_
  refine rcons (ro_iload_n (k := 3) rfl (by decide +kernel) rfl) ?_
  refine rcons (ro_iload (by decide +kernel) rfl) ?_
  refine rcons (ro_iload_n (k := 2) rfl (by decide +kernel) rfl) ?_
  refine rcons (ro_callS okS_c_lengthOf (by decide +kernel) rfl (fun s args ht => va_cwS 2 ht (rgoodS (fun w h => List.mem_cons_of_mem _ h) q_466 q_467 q_13 q_468) rfl rfl rfl hy_c_lengthOf ⟨Nat.le_of_ble_eq_true rfl, Nat.le_of_ble_eq_true rfl⟩) rfl) ?_
  refine rcons (ro_i2l (by decide +kernel) rfl) ?_
  refine rcons (ro_bipush (n := 7) (by decide +kernel) rfl rfl) ?_
  refine rcons (ro_callS okS_c_numberOn (by decide +kernel) rfl (fun s args ht => va_cwS 3 ht (rgoodS (fun w h => List.mem_cons_of_mem _ h) q_445 q_446 q_13 q_447) rfl rfl rfl hy_c_numberOn ⟨Nat.le_of_ble_eq_true rfl, Nat.le_of_ble_eq_true rfl⟩) rfl) ?_
  refine rcons (ro_istore_n (k := 3) rfl (by decide +kernel) rfl) ?_
  refine rcons (ro_iload (by decide +kernel) rfl) ?_
  refine rcons (ro_lconst (n := 1) (by decide +kernel) rfl rfl) ?_
  refine rcons (ro_bipush (n := 12) (by decide +kernel) rfl rfl) ?_
  refine rcons (ro_callS okS_c_numberOn (by decide +kernel) rfl (fun s args ht => va_cwS 3 ht (rgoodS (fun w h => List.mem_cons_of_mem _ h) q_445 q_446 q_13 q_447) rfl rfl rfl hy_c_numberOn ⟨Nat.le_of_ble_eq_true rfl, Nat.le_of_ble_eq_true rfl⟩) rfl) ?_
  refine rcons (ro_istore (by decide +kernel) rfl) ?_
  refine rcons (ro_iinc (by decide +kernel) rfl) ?_
  refine rcons (ro_goto (off := (-34)) (by decide +kernel) rfl) ?_
  refine rcons (ro_iload_n (k := 3) rfl (by decide +kernel) rfl) ?_
  refine rcons (ro_iret (by decide +kernel)) ?_
  exact rnil
def ps_c_mixed : List Nat := [0, 1, 4, 5, 6, 7, 8]
def tb_c_mixed : List RT := [tq_ll 0, tq_lc 31, tq_l2 (fun x y => x * y), tq_il 2, tq_i2l, tq_l2 (fun x y => x + y), tq_lret 0]
def m_c_mixed : RM := rMeth tb_c_mixed 400 3
abbrev rm_c_mixed : Room := { frames := 0, cells := 0, slots := 0, locals := 0 }
set_option maxHeartbeats 4000000 in
set_option maxRecDepth 20000 in
theorem ok_c_mixed : rMet y_c_mixed (Cond.code y_c_mixed prog_1_method_88_code 3 (some .long) :: rT) rm_c_mixed 0 m_c_mixed := by
  refine rMeth_ok (ps := ps_c_mixed) (tab := tb_c_mixed) (by decide +kernel) rfl rfl rfl rfl ?_
  refine rcons (ro_lload_n (k := 0) rfl (by decide +kernel) rfl) ?_
  refine rcons (ro_ldc2 (by decide +kernel) (List.mem_cons_of_mem _ q_526) rfl) ?_
  refine rcons (ro_lmul (by decide +kernel) rfl) ?_
  refine rcons (ro_iload_n (k := 2) rfl (by decide +kernel) rfl) ?_
  refine rcons (ro_i2l (by decide +kernel) rfl) ?_
  refine rcons (ro_ladd (by decide +kernel) rfl) ?_
  refine rcons (ro_lret (by decide +kernel)) ?_
  exact rnil
end RKM
