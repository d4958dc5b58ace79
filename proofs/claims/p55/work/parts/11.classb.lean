section RKM
def ps_c_hasNumber : List Nat := [0, 1, 2, 5, 7, 8, 9, 12, 14, 15, 18, 19, 22, 23]
def tb_c_hasNumber : List RT := [tq_al 0, tq_il 1, tq_call m_c_numberIn 2 1 2, tq_is 5 4, tq_il 2, tq_il 3, tq_call m_c_refuseOutside 2 1 2, tq_il 4, tq_il 2, tq_s2 (fun x y => !decide (x = y)) 1 0 13, tq_ic 1, tq_go 13, tq_ic 0, tq_zret 2]
def m_c_hasNumber : RM := rMeth tb_c_hasNumber 400 5
abbrev rm_c_hasNumber : Room := { frames := 7, cells := 2, slots := 24, locals := 111 }
set_option maxHeartbeats 4000000 in
set_option maxRecDepth 20000 in
theorem ok_c_hasNumber : rMet y_c_hasNumber (Cond.code y_c_hasNumber prog_1_method_63_code 5 (some .boolean) :: rT) rm_c_hasNumber 2 m_c_hasNumber := by
  refine rMeth_ok (ps := ps_c_hasNumber) (tab := tb_c_hasNumber) (by decide +kernel) rfl rfl rfl rfl ?_
  refine rcons (ro_aload_n (k := 0) rfl (by decide +kernel) rfl) ?_
  refine rcons (ro_iload_n (k := 1) rfl (by decide +kernel) rfl) ?_
  refine rcons (ro_callS ok_c_numberIn (by decide +kernel) rfl (fun s args ht => va_cwS 2 ht (rgoodS (fun w h => List.mem_cons_of_mem _ h) q_498 q_499 q_13 q_500) rfl rfl rfl hy_c_numberIn ⟨Nat.le_of_ble_eq_true rfl, Nat.le_of_ble_eq_true rfl⟩) rfl) ?_
  refine rcons (ro_istore (by decide +kernel) rfl) ?_
  refine rcons (ro_iload_n (k := 2) rfl (by decide +kernel) rfl) ?_
  refine rcons (ro_iload_n (k := 3) rfl (by decide +kernel) rfl) ?_
  refine rcons (ro_callS ok_c_refuseOutside (by decide +kernel) rfl (fun s args ht => va_cwS 2 ht (rgoodS (fun w h => List.mem_cons_of_mem _ h) q_596 q_597 q_13 q_598) rfl rfl rfl hy_c_refuseOutside ⟨Nat.le_of_ble_eq_true rfl, Nat.le_of_ble_eq_true rfl⟩) rfl) ?_
  refine rcons (ro_iload (by decide +kernel) rfl) ?_
  refine rcons (ro_iload_n (k := 2) rfl (by decide +kernel) rfl) ?_
  refine rcons (ro_s2_ne (off := 7) (off2 := 4) (n1 := 1) (n2 := 0) (by decide +kernel) (by decide +kernel) rfl (by decide +kernel) (by decide +kernel) rfl rfl rfl rfl) ?_
  refine rcons (ro_iconst (n := 1) (by decide +kernel) rfl rfl) ?_
  refine rcons (ro_goto (off := 4) (by decide +kernel) rfl) ?_
  refine rcons (ro_iconst (n := 0) (by decide +kernel) rfl rfl) ?_
  refine rcons (ro_zret (by decide +kernel)) ?_
  exact rnil
def ps_c_isDay : List Nat := [0, 1, 4, 5, 6, 8, 11]
def tb_c_isDay : List RT := [tq_al 0, tq_getf 0 0, tq_il 1, tq_il 2, tq_ic 7, tq_call m_c_hasNumber 4 2 2, tq_zret 2]
def m_c_isDay : RM := rMeth tb_c_isDay 400 3
abbrev rm_c_isDay : Room := { frames := 8, cells := 2, slots := 24, locals := 135 }
set_option maxHeartbeats 4000000 in
set_option maxRecDepth 20000 in
theorem ok_c_isDay : rMet y_c_isDay (Cond.code y_c_isDay prog_1_method_18_code 3 (some .boolean) :: rT) rm_c_isDay 2 m_c_isDay := by
  refine rMeth_ok (ps := ps_c_isDay) (tab := tb_c_isDay) (by decide +kernel) rfl rfl rfl rfl ?_
  refine rcons (ro_aload_n (k := 0) rfl (by decide +kernel) rfl) ?_
  refine rcons (ro_getf (C := rN0) (T := rF0) (N := 7) (k := 0) (by decide +kernel) rfl (rU0c _) (by decide) (List.mem_cons_of_mem _ q_43) rfl) ?_
  refine rcons (ro_iload_n (k := 1) rfl (by decide +kernel) rfl) ?_
  refine rcons (ro_iload_n (k := 2) rfl (by decide +kernel) rfl) ?_
  refine rcons (ro_bipush (n := 7) (by decide +kernel) rfl rfl) ?_
  refine rcons (ro_callS ok_c_hasNumber (by decide +kernel) rfl (fun s args ht => va_cwS 4 ht (rgoodS (fun w h => List.mem_cons_of_mem _ h) q_733 q_734 q_13 q_735) rfl rfl rfl hy_c_hasNumber ⟨Nat.le_of_ble_eq_true rfl, Nat.le_of_ble_eq_true rfl⟩) rfl) ?_
  refine rcons (ro_zret (by decide +kernel)) ?_
  exact rnil
def ps_c_month : List Nat := [0, 1, 2, 5, 6, 7, 9, 12]
def tb_c_month : List RT := [tq_al 0, tq_al 0, tq_getf 0 1, tq_il 1, tq_il 2, tq_ic 12, tq_call (rV 0 m_c_exchange) 5 3 3, tq_iret 3]
def m_c_month : RM := rMeth tb_c_month 400 3
abbrev rm_c_month : Room := { frames := 9, cells := 3, slots := 36, locals := 160 }
set_option maxHeartbeats 4000000 in
set_option maxRecDepth 20000 in
theorem ok_c_month : rMet y_c_month (Cond.code y_c_month prog_1_method_19_code 3 (some .int) :: rT) rm_c_month 3 m_c_month := by
  refine rMeth_ok (ps := ps_c_month) (tab := tb_c_month) (by decide +kernel) rfl rfl rfl rfl ?_
  refine rcons (ro_aload_n (k := 0) rfl (by decide +kernel) rfl) ?_
  refine rcons (ro_aload_n (k := 0) rfl (by decide +kernel) rfl) ?_
  refine rcons (ro_getf (C := rN0) (T := rF0) (N := 7) (k := 1) (by decide +kernel) rfl (rU0c _) (by decide) (List.mem_cons_of_mem _ q_44) rfl) ?_
  refine rcons (ro_iload_n (k := 1) rfl (by decide +kernel) rfl) ?_
  refine rcons (ro_iload_n (k := 2) rfl (by decide +kernel) rfl) ?_
  refine rcons (ro_bipush (n := 12) (by decide +kernel) rfl rfl) ?_
  refine rcons (ro_callV (C := rN0) (T := rF0) (N := 7) rfl ok_c_exchange (by decide +kernel) rfl (fun s args ht => cwV (C := rN0) 4 ht (rgoodV (C := rN0) (fun w h => List.mem_cons_of_mem _ h) q_592 q_594 q_3 q_13 q_595) rfl rfl rfl hv_c_exchange ⟨Nat.le_of_ble_eq_true rfl, Nat.le_of_ble_eq_true rfl⟩) rfl) ?_
  refine rcons (ro_iret (by decide +kernel)) ?_
  exact rnil
def ps_c_monthNumber : List Nat := [0, 1, 4, 5, 8]
def tb_c_monthNumber : List RT := [tq_al 0, tq_getf 0 1, tq_il 1, tq_call m_c_numberIn 2 1 1, tq_iret 1]
def m_c_monthNumber : RM := rMeth tb_c_monthNumber 400 2
abbrev rm_c_monthNumber : Room := { frames := 7, cells := 1, slots := 12, locals := 111 }
set_option maxHeartbeats 4000000 in
set_option maxRecDepth 20000 in
theorem ok_c_monthNumber : rMet y_c_monthNumber (Cond.code y_c_monthNumber prog_1_method_20_code 2 (some .int) :: rT) rm_c_monthNumber 1 m_c_monthNumber := by
  refine rMeth_ok (ps := ps_c_monthNumber) (tab := tb_c_monthNumber) (by decide +kernel) rfl rfl rfl rfl ?_
  refine rcons (ro_aload_n (k := 0) rfl (by decide +kernel) rfl) ?_
  refine rcons (ro_getf (C := rN0) (T := rF0) (N := 7) (k := 1) (by decide +kernel) rfl (rU0c _) (by decide) (List.mem_cons_of_mem _ q_44) rfl) ?_
  refine rcons (ro_iload_n (k := 1) rfl (by decide +kernel) rfl) ?_
  refine rcons (ro_callS ok_c_numberIn (by decide +kernel) rfl (fun s args ht => va_cwS 2 ht (rgoodS (fun w h => List.mem_cons_of_mem _ h) q_498 q_499 q_13 q_500) rfl rfl rfl hy_c_numberIn ⟨Nat.le_of_ble_eq_true rfl, Nat.le_of_ble_eq_true rfl⟩) rfl) ?_
  refine rcons (ro_iret (by decide +kernel)) ?_
  exact rnil
def ps_c_monthPlace : List Nat := [0, 1, 4, 5, 8, 11]
def tb_c_monthPlace : List RT := [tq_al 0, tq_getf 0 1, tq_il 1, tq_call m_c_numberIn 2 1 1, tq_call m_c_placeOf 1 0 1, tq_iret 1]
def m_c_monthPlace : RM := rMeth tb_c_monthPlace 400 2
abbrev rm_c_monthPlace : Room := { frames := 7, cells := 1, slots := 12, locals := 111 }
set_option maxHeartbeats 4000000 in
set_option maxRecDepth 20000 in
theorem ok_c_monthPlace : rMet y_c_monthPlace (Cond.code y_c_monthPlace prog_1_method_21_code 2 (some .int) :: rT) rm_c_monthPlace 1 m_c_monthPlace := by
  refine rMeth_ok (ps := ps_c_monthPlace) (tab := tb_c_monthPlace) (by decide +kernel) rfl rfl rfl rfl ?_
  refine rcons (ro_aload_n (k := 0) rfl (by decide +kernel) rfl) ?_
  refine rcons (ro_getf (C := rN0) (T := rF0) (N := 7) (k := 1) (by decide +kernel) rfl (rU0c _) (by decide) (List.mem_cons_of_mem _ q_44) rfl) ?_
  refine rcons (ro_iload_n (k := 1) rfl (by decide +kernel) rfl) ?_
  refine rcons (ro_callS ok_c_numberIn (by decide +kernel) rfl (fun s args ht => va_cwS 2 ht (rgoodS (fun w h => List.mem_cons_of_mem _ h) q_498 q_499 q_13 q_500) rfl rfl rfl hy_c_numberIn ⟨Nat.le_of_ble_eq_true rfl, Nat.le_of_ble_eq_true rfl⟩) rfl) ?_
  refine rcons (ro_callS ok_c_placeOf (by decide +kernel) rfl (fun s args ht => va_cwS 1 ht (rgoodS (fun w h => List.mem_cons_of_mem _ h) q_448 q_449 q_13 q_450) rfl rfl rfl hy_c_placeOf ⟨Nat.le_of_ble_eq_true rfl, Nat.le_of_ble_eq_true rfl⟩) rfl) ?_
  refine rcons (ro_iret (by decide +kernel)) ?_
  exact rnil
def ps_c_nameOfMonth : List Nat := [0, 1, 60, 62, 63, 65, 66, 68, 69, 71, 72, 74, 75, 77, 78, 80, 81, 83, 84, 86, 87, 90, 91, 94, 95, 98]
def tb_c_nameOfMonth : List RT := [tq_il 0, tq_sw 1 [2, 4, 6, 8, 10, 12, 14, 16, 18, 20, 22] 24, tq_rc 108, tq_aret 0, tq_rc 109, tq_aret 0, tq_rc 110, tq_aret 0, tq_rc 111, tq_aret 0, tq_rc 112, tq_aret 0, tq_rc 113, tq_aret 0, tq_rc 114, tq_aret 0, tq_rc 115, tq_aret 0, tq_rc 116, tq_aret 0, tq_rc 117, tq_aret 0, tq_rc 118, tq_aret 0, tq_rc 119, tq_aret 0]
def m_c_nameOfMonth : RM := rMeth tb_c_nameOfMonth 400 1
abbrev rm_c_nameOfMonth : Room := { frames := 0, cells := 0, slots := 0, locals := 0 }
set_option maxHeartbeats 4000000 in
set_option maxRecDepth 20000 in
theorem ok_c_nameOfMonth : rMet y_c_nameOfMonth (Cond.code y_c_nameOfMonth prog_1_method_74_code 1 (some (.object "java/lang/String")) :: rT) rm_c_nameOfMonth 0 m_c_nameOfMonth := by
  refine rMeth_ok (ps := ps_c_nameOfMonth) (tab := tb_c_nameOfMonth) (by decide +kernel) rfl rfl rfl rfl ?_
  refine rcons (ro_iload_n (k := 0) rfl (by decide +kernel) rfl) ?_
  refine rcons (ro_sw (dflt := 94) (lo := 1) (hi := 11) (offs := #[59, 62, 65, 68, 71, 74, 77, 80, 83, 86, 90]) (len := 59) (by decide +kernel) rfl rfl (rsw_ok (pc := 1) (d := 24) (offs := #[59, 62, 65, 68, 71, 74, 77, 80, 83, 86, 90]) (os := [2, 4, 6, 8, 10, 12, 14, 16, 18, 20, 22]) (J := fun o => ps_c_nameOfMonth.getD o 0) (by decide +kernel))) ?_
  refine rcons (ro_ldcS (k := 8) (by decide) rfl (by decide +kernel) rfl) ?_
  refine rcons (ro_aret (by decide +kernel)) ?_
  refine rcons (ro_ldcS (k := 9) (by decide) rfl (by decide +kernel) rfl) ?_
  refine rcons (ro_aret (by decide +kernel)) ?_
  refine rcons (ro_ldcS (k := 10) (by decide) rfl (by decide +kernel) rfl) ?_
  refine rcons (ro_aret (by decide +kernel)) ?_
  refine rcons (ro_ldcS (k := 11) (by decide) rfl (by decide +kernel) rfl) ?_
  refine rcons (ro_aret (by decide +kernel)) ?_
  refine rcons (ro_ldcS (k := 12) (by decide) rfl (by decide +kernel) rfl) ?_
  refine rcons (ro_aret (by decide +kernel)) ?_
  refine rcons (ro_ldcS (k := 13) (by decide) rfl (by decide +kernel) rfl) ?_
  refine rcons (ro_aret (by decide +kernel)) ?_
  refine rcons (ro_ldcS (k := 14) (by decide) rfl (by decide +kernel) rfl) ?_
  refine rcons (ro_aret (by decide +kernel)) ?_
  refine rcons (ro_ldcS (k := 15) (by decide) rfl (by decide +kernel) rfl) ?_
  refine rcons (ro_aret (by decide +kernel)) ?_
  refine rcons (ro_ldcS (k := 16) (by decide) rfl (by decide +kernel) rfl) ?_
  refine rcons (ro_aret (by decide +kernel)) ?_
  refine rcons (ro_ldcSW (k := 17) (by decide) rfl (by decide +kernel) rfl) ?_
  refine rcons (ro_aret (by decide +kernel)) ?_
  refine rcons (ro_ldcSW (k := 18) (by decide) rfl (by decide +kernel) rfl) ?_
  refine rcons (ro_aret (by decide +kernel)) ?_
  refine rcons (ro_ldcSW (k := 19) (by decide) rfl (by decide +kernel) rfl) ?_
  refine rcons (ro_aret (by decide +kernel)) ?_
  exact rnil
def s_c_nameOfMonth : RM := fun as σ Q => match as with
  | [.inl n] => rd n.1 (dM n.2) (Q (.inl (some (rR (107 + n.2.toNatClampNeg)))) σ)
  | _ => False
set_option maxHeartbeats 4000000 in
set_option maxRecDepth 20000 in
theorem okS_c_nameOfMonth : rMet y_c_nameOfMonth (Cond.code y_c_nameOfMonth prog_1_method_74_code 1 (some (.object "java/lang/String")) :: rT) rm_c_nameOfMonth 0 s_c_nameOfMonth := by
  refine rMet_val ok_c_nameOfMonth (fun as σ Q h => ?_)
  unfold s_c_nameOfMonth at h
  split at h
  · next n =>
    obtain ⟨hd, h⟩ := rd_use h
    obtain ⟨k, k1, k2, hk⟩ := dM_nat hd
    refine ⟨[rI true (nI k)], some (rR (107 + (nI k).toNatClampNeg)), some (rR (107 + n.2.toNatClampNeg)), fun _ => by rw [← hk]; rfl, ?_, fun _ => by rw [← hk], h⟩
    rcases k12 k1 k2 with rfl | rfl | rfl | rfl | rfl | rfl | rfl | rfl | rfl | rfl | rfl | rfl <;> exact And.intro rfl rfl
  · exact h.elim
def ps_c_monthName : List Nat := [0, 1, 4, 5, 8, 11]
def tb_c_monthName : List RT := [tq_al 0, tq_getf 0 1, tq_il 1, tq_call m_c_numberIn 2 1 1, tq_call s_c_nameOfMonth 1 0 1, tq_aret 1]
def m_c_monthName : RM := rMeth tb_c_monthName 400 2
abbrev rm_c_monthName : Room := { frames := 7, cells := 1, slots := 12, locals := 111 }
set_option maxHeartbeats 4000000 in
set_option maxRecDepth 20000 in
theorem ok_c_monthName : rMet y_c_monthName (Cond.code y_c_monthName prog_1_method_22_code 2 (some (.object "java/lang/String")) :: rT) rm_c_monthName 1 m_c_monthName := by
  refine rMeth_ok (ps := ps_c_monthName) (tab := tb_c_monthName) (by decide +kernel) rfl rfl rfl rfl ?_
  refine rcons (ro_aload_n (k := 0) rfl (by decide +kernel) rfl) ?_
  refine rcons (ro_getf (C := rN0) (T := rF0) (N := 7) (k := 1) (by decide +kernel) rfl (rU0c _) (by decide) (List.mem_cons_of_mem _ q_44) rfl) ?_
  refine rcons (ro_iload_n (k := 1) rfl (by decide +kernel) rfl) ?_
  refine rcons (ro_callS ok_c_numberIn (by decide +kernel) rfl (fun s args ht => va_cwS 2 ht (rgoodS (fun w h => List.mem_cons_of_mem _ h) q_498 q_499 q_13 q_500) rfl rfl rfl hy_c_numberIn ⟨Nat.le_of_ble_eq_true rfl, Nat.le_of_ble_eq_true rfl⟩) rfl) ?_
  refine rcons (ro_callS okS_c_nameOfMonth (by decide +kernel) rfl (fun s args ht => va_cwS 1 ht (rgoodS (fun w h => List.mem_cons_of_mem _ h) q_415 q_416 q_13 q_417) rfl rfl rfl hy_c_nameOfMonth ⟨Nat.le_of_ble_eq_true rfl, Nat.le_of_ble_eq_true rfl⟩) rfl) ?_
  refine rcons (ro_aret (by decide +kernel)) ?_
  exact rnil
def ps_c_monthAt : List Nat := [0, 1, 4, 5, 8, 9, 10, 12, 15]
def tb_c_monthAt : List RT := [tq_al 0, tq_getf 0 1, tq_il 1, tq_call m_c_numberIn 2 1 1, tq_il 2, tq_i2l, tq_ic 12, tq_call s_c_numberOn 3 0 1, tq_iret 1]
def m_c_monthAt : RM := rMeth tb_c_monthAt 400 3
abbrev rm_c_monthAt : Room := { frames := 7, cells := 1, slots := 12, locals := 111 }
set_option maxHeartbeats 4000000 in
set_option maxRecDepth 20000 in
theorem ok_c_monthAt : rMet y_c_monthAt (Cond.code y_c_monthAt prog_1_method_27_code 3 (some .int) :: rT) rm_c_monthAt 1 m_c_monthAt := by
  refine rMeth_ok (ps := ps_c_monthAt) (tab := tb_c_monthAt) (by decide +kernel) rfl rfl rfl rfl ?_
  refine rcons (ro_aload_n (k := 0) rfl (by decide +kernel) rfl) ?_
  refine rcons (ro_getf (C := rN0) (T := rF0) (N := 7) (k := 1) (by decide +kernel) rfl (rU0c _) (by decide) (List.mem_cons_of_mem _ q_44) rfl) ?_
  refine rcons (ro_iload_n (k := 1) rfl (by decide +kernel) rfl) ?_
  refine rcons (ro_callS ok_c_numberIn (by decide +kernel) rfl (fun s args ht => va_cwS 2 ht (rgoodS (fun w h => List.mem_cons_of_mem _ h) q_498 q_499 q_13 q_500) rfl rfl rfl hy_c_numberIn ⟨Nat.le_of_ble_eq_true rfl, Nat.le_of_ble_eq_true rfl⟩) rfl) ?_
  refine rcons (ro_iload_n (k := 2) rfl (by decide +kernel) rfl) ?_
  refine rcons (ro_i2l (by decide +kernel) rfl) ?_
  refine rcons (ro_bipush (n := 12) (by decide +kernel) rfl rfl) ?_
  refine rcons (ro_callS okS_c_numberOn (by decide +kernel) rfl (fun s args ht => va_cwS 3 ht (rgoodS (fun w h => List.mem_cons_of_mem _ h) q_445 q_446 q_13 q_447) rfl rfl rfl hy_c_numberOn ⟨Nat.le_of_ble_eq_true rfl, Nat.le_of_ble_eq_true rfl⟩) rfl) ?_
  refine rcons (ro_iret (by decide +kernel)) ?_
  exact rnil
def ps_c_monthOn : List Nat := [0, 1, 2, 5, 6, 7, 8, 9, 12, 15]
def tb_c_monthOn : List RT := [tq_al 0, tq_al 0, tq_getf 0 1, tq_il 1, tq_al 0, tq_il 1, tq_il 2, tq_call (rV 0 m_c_monthAt) 3 1 2, tq_call (rV 0 m_c_become) 4 1 2, tq_iret 2]
def m_c_monthOn : RM := rMeth tb_c_monthOn 400 3
abbrev rm_c_monthOn : Room := { frames := 8, cells := 2, slots := 24, locals := 135 }
set_option maxHeartbeats 4000000 in
set_option maxRecDepth 20000 in
theorem ok_c_monthOn : rMet y_c_monthOn (Cond.code y_c_monthOn prog_1_method_23_code 3 (some .int) :: rT) rm_c_monthOn 2 m_c_monthOn := by
  refine rMeth_ok (ps := ps_c_monthOn) (tab := tb_c_monthOn) (by decide +kernel) rfl rfl rfl rfl ?_
  refine rcons (ro_aload_n (k := 0) rfl (by decide +kernel) rfl) ?_
  refine rcons (ro_aload_n (k := 0) rfl (by decide +kernel) rfl) ?_
  refine rcons (ro_getf (C := rN0) (T := rF0) (N := 7) (k := 1) (by decide +kernel) rfl (rU0c _) (by decide) (List.mem_cons_of_mem _ q_44) rfl) ?_
  refine rcons (ro_iload_n (k := 1) rfl (by decide +kernel) rfl) ?_
  refine rcons (ro_aload_n (k := 0) rfl (by decide +kernel) rfl) ?_
  refine rcons (ro_iload_n (k := 1) rfl (by decide +kernel) rfl) ?_
  refine rcons (ro_iload_n (k := 2) rfl (by decide +kernel) rfl) ?_
  refine rcons (ro_callV (C := rN0) (T := rF0) (N := 7) rfl ok_c_monthAt (by decide +kernel) rfl (fun s args ht => cwV (C := rN0) 2 ht (rgoodV (C := rN0) (fun w h => List.mem_cons_of_mem _ h) q_771 q_772 q_773 q_13 q_774) rfl rfl rfl hv_c_monthAt ⟨Nat.le_of_ble_eq_true rfl, Nat.le_of_ble_eq_true rfl⟩) rfl) ?_
  refine rcons (ro_callV (C := rN0) (T := rF0) (N := 7) rfl ok_c_become (by decide +kernel) rfl (fun s args ht => cwV (C := rN0) 3 ht (rgoodV (C := rN0) (fun w h => List.mem_cons_of_mem _ h) q_602 q_604 q_4 q_13 q_605) rfl rfl rfl hv_c_become ⟨Nat.le_of_ble_eq_true rfl, Nat.le_of_ble_eq_true rfl⟩) rfl) ?_
  refine rcons (ro_iret (by decide +kernel)) ?_
  exact rnil
def ps_c_monthAhead : List Nat := [0, 1, 4, 5, 8, 9, 10, 12, 15]
def tb_c_monthAhead : List RT := [tq_al 0, tq_getf 0 1, tq_il 1, tq_call m_c_numberIn 2 1 1, tq_il 2, tq_i2l, tq_ic 12, tq_call s_c_numberBack 3 0 1, tq_iret 1]
def m_c_monthAhead : RM := rMeth tb_c_monthAhead 400 3
abbrev rm_c_monthAhead : Room := { frames := 7, cells := 1, slots := 12, locals := 111 }
set_option maxHeartbeats 4000000 in
set_option maxRecDepth 20000 in
theorem ok_c_monthAhead : rMet y_c_monthAhead (Cond.code y_c_monthAhead prog_1_method_28_code 3 (some .int) :: rT) rm_c_monthAhead 1 m_c_monthAhead := by
  refine rMeth_ok (ps := ps_c_monthAhead) (tab := tb_c_monthAhead) (by decide +kernel) rfl rfl rfl rfl ?_
  refine rcons (ro_aload_n (k := 0) rfl (by decide +kernel) rfl) ?_
  refine rcons (ro_getf (C := rN0) (T := rF0) (N := 7) (k := 1) (by decide +kernel) rfl (rU0c _) (by decide) (List.mem_cons_of_mem _ q_44) rfl) ?_
  refine rcons (ro_iload_n (k := 1) rfl (by decide +kernel) rfl) ?_
  refine rcons (ro_callS ok_c_numberIn (by decide +kernel) rfl (fun s args ht => va_cwS 2 ht (rgoodS (fun w h => List.mem_cons_of_mem _ h) q_498 q_499 q_13 q_500) rfl rfl rfl hy_c_numberIn ⟨Nat.le_of_ble_eq_true rfl, Nat.le_of_ble_eq_true rfl⟩) rfl) ?_
  refine rcons (ro_iload_n (k := 2) rfl (by decide +kernel) rfl) ?_
  refine rcons (ro_i2l (by decide +kernel) rfl) ?_
  refine rcons (ro_bipush (n := 12) (by decide +kernel) rfl rfl) ?_
  refine rcons (ro_callS okS_c_numberBack (by decide +kernel) rfl (fun s args ht => va_cwS 3 ht (rgoodS (fun w h => List.mem_cons_of_mem _ h) q_457 q_458 q_13 q_459) rfl rfl rfl hy_c_numberBack ⟨Nat.le_of_ble_eq_true rfl, Nat.le_of_ble_eq_true rfl⟩) rfl) ?_
  refine rcons (ro_iret (by decide +kernel)) ?_
  exact rnil
def ps_c_monthBack : List Nat := [0, 1, 2, 5, 6, 7, 8, 9, 12, 15]
def tb_c_monthBack : List RT := [tq_al 0, tq_al 0, tq_getf 0 1, tq_il 1, tq_al 0, tq_il 1, tq_il 2, tq_call (rV 0 m_c_monthAhead) 3 1 2, tq_call (rV 0 m_c_become) 4 1 2, tq_iret 2]
def m_c_monthBack : RM := rMeth tb_c_monthBack 400 3
abbrev rm_c_monthBack : Room := { frames := 8, cells := 2, slots := 24, locals := 135 }
set_option maxHeartbeats 4000000 in
set_option maxRecDepth 20000 in
theorem ok_c_monthBack : rMet y_c_monthBack (Cond.code y_c_monthBack prog_1_method_24_code 3 (some .int) :: rT) rm_c_monthBack 2 m_c_monthBack := by
  refine rMeth_ok (ps := ps_c_monthBack) (tab := tb_c_monthBack) (by decide +kernel) rfl rfl rfl rfl ?_
  refine rcons (ro_aload_n (k := 0) rfl (by decide +kernel) rfl) ?_
  refine rcons (ro_aload_n (k := 0) rfl (by decide +kernel) rfl) ?_
  refine rcons (ro_getf (C := rN0) (T := rF0) (N := 7) (k := 1) (by decide +kernel) rfl (rU0c _) (by decide) (List.mem_cons_of_mem _ q_44) rfl) ?_
  refine rcons (ro_iload_n (k := 1) rfl (by decide +kernel) rfl) ?_
  refine rcons (ro_aload_n (k := 0) rfl (by decide +kernel) rfl) ?_
  refine rcons (ro_iload_n (k := 1) rfl (by decide +kernel) rfl) ?_
  refine rcons (ro_iload_n (k := 2) rfl (by decide +kernel) rfl) ?_
  refine rcons (ro_callV (C := rN0) (T := rF0) (N := 7) rfl ok_c_monthAhead (by decide +kernel) rfl (fun s args ht => cwV (C := rN0) 2 ht (rgoodV (C := rN0) (fun w h => List.mem_cons_of_mem _ h) q_782 q_783 q_784 q_13 q_785) rfl rfl rfl hv_c_monthAhead ⟨Nat.le_of_ble_eq_true rfl, Nat.le_of_ble_eq_true rfl⟩) rfl) ?_
  refine rcons (ro_callV (C := rN0) (T := rF0) (N := 7) rfl ok_c_become (by decide +kernel) rfl (fun s args ht => cwV (C := rN0) 3 ht (rgoodV (C := rN0) (fun w h => List.mem_cons_of_mem _ h) q_602 q_604 q_4 q_13 q_605) rfl rfl rfl hv_c_become ⟨Nat.le_of_ble_eq_true rfl, Nat.le_of_ble_eq_true rfl⟩) rfl) ?_
  refine rcons (ro_iret (by decide +kernel)) ?_
  exact rnil
def ps_c_monthAtFar : List Nat := [0, 1, 4, 5, 8, 10, 11, 12, 15, 17, 19, 22, 24, 26, 28, 31, 34, 36, 38, 40, 43]
def tb_c_monthAtFar : List RT := [tq_al 0, tq_getf 0 1, tq_il 1, tq_call m_c_numberIn 2 1 1, tq_is 8 5, tq_il 2, tq_il 3, tq_call m_c_amount 2 0 1, tq_ls 8 6, tq_il 4, tq_if1 (fun x => decide (x = 0)) 16, tq_il 5, tq_ll 6, tq_ic 12, tq_call s_c_numberBack 3 0 1, tq_go 20, tq_il 5, tq_ll 6, tq_ic 12, tq_call s_c_numberOn 3 0 1, tq_iret 1]
def m_c_monthAtFar : RM := rMeth tb_c_monthAtFar 400 8
abbrev rm_c_monthAtFar : Room := { frames := 7, cells := 1, slots := 12, locals := 111 }
set_option maxHeartbeats 4000000 in
set_option maxRecDepth 20000 in
theorem ok_c_monthAtFar : rMet y_c_monthAtFar (Cond.code y_c_monthAtFar prog_1_method_29_code 8 (some .int) :: rT) rm_c_monthAtFar 1 m_c_monthAtFar := by
  refine rMeth_ok (ps := ps_c_monthAtFar) (tab := tb_c_monthAtFar) (by decide +kernel) rfl rfl rfl rfl ?_
  refine rcons (ro_aload_n (k := 0) rfl (by decide +kernel) rfl) ?_
  refine rcons (ro_getf (C := rN0) (T := rF0) (N := 7) (k := 1) (by decide +kernel) rfl (rU0c _) (by decide) (List.mem_cons_of_mem _ q_44) rfl) ?_
  refine rcons (ro_iload_n (k := 1) rfl (by decide +kernel) rfl) ?_
  refine rcons (ro_callS ok_c_numberIn (by decide +kernel) rfl (fun s args ht => va_cwS 2 ht (rgoodS (fun w h => List.mem_cons_of_mem _ h) q_498 q_499 q_13 q_500) rfl rfl rfl hy_c_numberIn ⟨Nat.le_of_ble_eq_true rfl, Nat.le_of_ble_eq_true rfl⟩) rfl) ?_
  refine rcons (ro_istore (by decide +kernel) rfl) ?_
  refine rcons (ro_iload_n (k := 2) rfl (by decide +kernel) rfl) ?_
  refine rcons (ro_iload_n (k := 3) rfl (by decide +kernel) rfl) ?_
  refine rcons (ro_callS ok_c_amount (by decide +kernel) rfl (fun s args ht => va_cwS 2 ht (rgoodS (fun w h => List.mem_cons_of_mem _ h) q_663 q_664 q_13 q_665) rfl rfl rfl hy_c_amount ⟨Nat.le_of_ble_eq_true rfl, Nat.le_of_ble_eq_true rfl⟩) rfl) ?_
  refine rcons (ro_lstore (by decide +kernel) rfl) ?_
  refine rcons (ro_iload (by decide +kernel) rfl) ?_
  refine rcons (ro_if_eq (off := 15) (by decide +kernel) rfl rfl) ?_
  refine rcons (ro_iload (by decide +kernel) rfl) ?_
  refine rcons (ro_lload (by decide +kernel) rfl) ?_
  refine rcons (ro_bipush (n := 12) (by decide +kernel) rfl rfl) ?_
  refine rcons (ro_callS okS_c_numberBack (by decide +kernel) rfl (fun s args ht => va_cwS 3 ht (rgoodS (fun w h => List.mem_cons_of_mem _ h) q_457 q_458 q_13 q_459) rfl rfl rfl hy_c_numberBack ⟨Nat.le_of_ble_eq_true rfl, Nat.le_of_ble_eq_true rfl⟩) rfl) ?_
  refine rcons (ro_goto (off := 12) (by decide +kernel) rfl) ?_
  refine rcons (ro_iload (by decide +kernel) rfl) ?_
  refine rcons (ro_lload (by decide +kernel) rfl) ?_
  refine rcons (ro_bipush (n := 12) (by decide +kernel) rfl rfl) ?_
  refine rcons (ro_callS okS_c_numberOn (by decide +kernel) rfl (fun s args ht => va_cwS 3 ht (rgoodS (fun w h => List.mem_cons_of_mem _ h) q_445 q_446 q_13 q_447) rfl rfl rfl hy_c_numberOn ⟨Nat.le_of_ble_eq_true rfl, Nat.le_of_ble_eq_true rfl⟩) rfl) ?_
  refine rcons (ro_iret (by decide +kernel)) ?_
  exact rnil
def ps_c_monthOnFar : List Nat := [0, 1, 2, 5, 6, 7, 8, 9, 10, 11, 14, 17]
def tb_c_monthOnFar : List RT := [tq_al 0, tq_al 0, tq_getf 0 1, tq_il 1, tq_al 0, tq_il 1, tq_il 2, tq_il 3, tq_ic 0, tq_call (rV 0 m_c_monthAtFar) 5 1 2, tq_call (rV 0 m_c_become) 4 1 2, tq_iret 2]
def m_c_monthOnFar : RM := rMeth tb_c_monthOnFar 400 4
abbrev rm_c_monthOnFar : Room := { frames := 8, cells := 2, slots := 24, locals := 138 }
set_option maxHeartbeats 4000000 in
set_option maxRecDepth 20000 in
theorem ok_c_monthOnFar : rMet y_c_monthOnFar (Cond.code y_c_monthOnFar prog_1_method_25_code 4 (some .int) :: rT) rm_c_monthOnFar 2 m_c_monthOnFar := by
  refine rMeth_ok (ps := ps_c_monthOnFar) (tab := tb_c_monthOnFar) (by decide +kernel) rfl rfl rfl rfl ?_
  refine rcons (ro_aload_n (k := 0) rfl (by decide +kernel) rfl) ?_
  refine rcons (ro_aload_n (k := 0) rfl (by decide +kernel) rfl) ?_
  refine rcons (ro_getf (C := rN0) (T := rF0) (N := 7) (k := 1) (by decide +kernel) rfl (rU0c _) (by decide) (List.mem_cons_of_mem _ q_44) rfl) ?_
  refine rcons (ro_iload_n (k := 1) rfl (by decide +kernel) rfl) ?_
  refine rcons (ro_aload_n (k := 0) rfl (by decide +kernel) rfl) ?_
  refine rcons (ro_iload_n (k := 1) rfl (by decide +kernel) rfl) ?_
  refine rcons (ro_iload_n (k := 2) rfl (by decide +kernel) rfl) ?_
  refine rcons (ro_iload_n (k := 3) rfl (by decide +kernel) rfl) ?_
  refine rcons (ro_iconst (n := 0) (by decide +kernel) rfl rfl) ?_
  refine rcons (ro_callV (C := rN0) (T := rF0) (N := 7) rfl ok_c_monthAtFar (by decide +kernel) rfl (fun s args ht => cwV (C := rN0) 4 ht (rgoodV (C := rN0) (fun w h => List.mem_cons_of_mem _ h) q_793 q_794 q_795 q_13 q_796) rfl rfl rfl hv_c_monthAtFar ⟨Nat.le_of_ble_eq_true rfl, Nat.le_of_ble_eq_true rfl⟩) rfl) ?_
  refine rcons (ro_callV (C := rN0) (T := rF0) (N := 7) rfl ok_c_become (by decide +kernel) rfl (fun s args ht => cwV (C := rN0) 3 ht (rgoodV (C := rN0) (fun w h => List.mem_cons_of_mem _ h) q_602 q_604 q_4 q_13 q_605) rfl rfl rfl hv_c_become ⟨Nat.le_of_ble_eq_true rfl, Nat.le_of_ble_eq_true rfl⟩) rfl) ?_
  refine rcons (ro_iret (by decide +kernel)) ?_
  exact rnil
def ps_c_monthBackFar : List Nat := [0, 1, 2, 5, 6, 7, 8, 9, 10, 11, 14, 17]
def tb_c_monthBackFar : List RT := [tq_al 0, tq_al 0, tq_getf 0 1, tq_il 1, tq_al 0, tq_il 1, tq_il 2, tq_il 3, tq_ic 1, tq_call (rV 0 m_c_monthAtFar) 5 1 2, tq_call (rV 0 m_c_become) 4 1 2, tq_iret 2]
def m_c_monthBackFar : RM := rMeth tb_c_monthBackFar 400 4
abbrev rm_c_monthBackFar : Room := { frames := 8, cells := 2, slots := 24, locals := 138 }
set_option maxHeartbeats 4000000 in
set_option maxRecDepth 20000 in
theorem ok_c_monthBackFar : rMet y_c_monthBackFar (Cond.code y_c_monthBackFar prog_1_method_26_code 4 (some .int) :: rT) rm_c_monthBackFar 2 m_c_monthBackFar := by
  refine rMeth_ok (ps := ps_c_monthBackFar) (tab := tb_c_monthBackFar) (by decide +kernel) rfl rfl rfl rfl ?_
  refine rcons (ro_aload_n (k := 0) rfl (by decide +kernel) rfl) ?_
  refine rcons (ro_aload_n (k := 0) rfl (by decide +kernel) rfl) ?_
  refine rcons (ro_getf (C := rN0) (T := rF0) (N := 7) (k := 1) (by decide +kernel) rfl (rU0c _) (by decide) (List.mem_cons_of_mem _ q_44) rfl) ?_
  refine rcons (ro_iload_n (k := 1) rfl (by decide +kernel) rfl) ?_
  refine rcons (ro_aload_n (k := 0) rfl (by decide +kernel) rfl) ?_
  refine rcons (ro_iload_n (k := 1) rfl (by decide +kernel) rfl) ?_
  refine rcons (ro_iload_n (k := 2) rfl (by decide +kernel) rfl) ?_
  refine rcons (ro_iload_n (k := 3) rfl (by decide +kernel) rfl) ?_
  refine rcons (ro_iconst (n := 1) (by decide +kernel) rfl rfl) ?_
  refine rcons (ro_callV (C := rN0) (T := rF0) (N := 7) rfl ok_c_monthAtFar (by decide +kernel) rfl (fun s args ht => cwV (C := rN0) 4 ht (rgoodV (C := rN0) (fun w h => List.mem_cons_of_mem _ h) q_793 q_794 q_795 q_13 q_796) rfl rfl rfl hv_c_monthAtFar ⟨Nat.le_of_ble_eq_true rfl, Nat.le_of_ble_eq_true rfl⟩) rfl) ?_
  refine rcons (ro_callV (C := rN0) (T := rF0) (N := 7) rfl ok_c_become (by decide +kernel) rfl (fun s args ht => cwV (C := rN0) 3 ht (rgoodV (C := rN0) (fun w h => List.mem_cons_of_mem _ h) q_602 q_604 q_4 q_13 q_605) rfl rfl rfl hv_c_become ⟨Nat.le_of_ble_eq_true rfl, Nat.le_of_ble_eq_true rfl⟩) rfl) ?_
  refine rcons (ro_iret (by decide +kernel)) ?_
  exact rnil
def ps_c_monthTwice : List Nat := [0, 1, 2, 3, 6, 7, 8, 10, 13]
def tb_c_monthTwice : List RT := [tq_al 0, tq_il 1, tq_il 2, tq_call (rV 0 m_c_monthAt) 3 1 1, tq_il 3, tq_i2l, tq_ic 12, tq_call s_c_numberOn 3 0 1, tq_iret 1]
def m_c_monthTwice : RM := rMeth tb_c_monthTwice 400 4
abbrev rm_c_monthTwice : Room := { frames := 8, cells := 1, slots := 12, locals := 133 }
set_option maxHeartbeats 4000000 in
set_option maxRecDepth 20000 in
theorem ok_c_monthTwice : rMet y_c_monthTwice (Cond.code y_c_monthTwice prog_1_method_30_code 4 (some .int) :: rT) rm_c_monthTwice 1 m_c_monthTwice := by
  refine rMeth_ok (ps := ps_c_monthTwice) (tab := tb_c_monthTwice) (by decide +kernel) rfl rfl rfl rfl ?_
  refine rcons (ro_aload_n (k := 0) rfl (by decide +kernel) rfl) ?_
  refine rcons (ro_iload_n (k := 1) rfl (by decide +kernel) rfl) ?_
  refine rcons (ro_iload_n (k := 2) rfl (by decide +kernel) rfl) ?_
  refine rcons (ro_callV (C := rN0) (T := rF0) (N := 7) rfl ok_c_monthAt (by decide +kernel) rfl (fun s args ht => cwV (C := rN0) 2 ht (rgoodV (C := rN0) (fun w h => List.mem_cons_of_mem _ h) q_771 q_772 q_773 q_13 q_774) rfl rfl rfl hv_c_monthAt ⟨Nat.le_of_ble_eq_true rfl, Nat.le_of_ble_eq_true rfl⟩) rfl) ?_
  refine rcons (ro_iload_n (k := 3) rfl (by decide +kernel) rfl) ?_
  refine rcons (ro_i2l (by decide +kernel) rfl) ?_
  refine rcons (ro_bipush (n := 12) (by decide +kernel) rfl rfl) ?_
  refine rcons (ro_callS okS_c_numberOn (by decide +kernel) rfl (fun s args ht => va_cwS 3 ht (rgoodS (fun w h => List.mem_cons_of_mem _ h) q_445 q_446 q_13 q_447) rfl rfl rfl hy_c_numberOn ⟨Nat.le_of_ble_eq_true rfl, Nat.le_of_ble_eq_true rfl⟩) rfl) ?_
  refine rcons (ro_iret (by decide +kernel)) ?_
  exact rnil
def ps_c_monthCopy : List Nat := [0, 1, 2, 5, 6, 7, 10]
def tb_c_monthCopy : List RT := [tq_al 0, tq_al 0, tq_getf 0 1, tq_il 1, tq_il 2, tq_call (rV 0 m_c_copy) 4 2 2, tq_iret 2]
def m_c_monthCopy : RM := rMeth tb_c_monthCopy 400 3
abbrev rm_c_monthCopy : Room := { frames := 9, cells := 2, slots := 24, locals := 158 }
set_option maxHeartbeats 4000000 in
set_option maxRecDepth 20000 in
theorem ok_c_monthCopy : rMet y_c_monthCopy (Cond.code y_c_monthCopy prog_1_method_31_code 3 (some .int) :: rT) rm_c_monthCopy 2 m_c_monthCopy := by
  refine rMeth_ok (ps := ps_c_monthCopy) (tab := tb_c_monthCopy) (by decide +kernel) rfl rfl rfl rfl ?_
  refine rcons (ro_aload_n (k := 0) rfl (by decide +kernel) rfl) ?_
  refine rcons (ro_aload_n (k := 0) rfl (by decide +kernel) rfl) ?_
  refine rcons (ro_getf (C := rN0) (T := rF0) (N := 7) (k := 1) (by decide +kernel) rfl (rU0c _) (by decide) (List.mem_cons_of_mem _ q_44) rfl) ?_
  refine rcons (ro_iload_n (k := 1) rfl (by decide +kernel) rfl) ?_
  refine rcons (ro_iload_n (k := 2) rfl (by decide +kernel) rfl) ?_
  refine rcons (ro_callV (C := rN0) (T := rF0) (N := 7) rfl ok_c_copy (by decide +kernel) rfl (fun s args ht => cwV (C := rN0) 3 ht (rgoodV (C := rN0) (fun w h => List.mem_cons_of_mem _ h) q_700 q_702 q_5 q_13 q_703) rfl rfl rfl hv_c_copy ⟨Nat.le_of_ble_eq_true rfl, Nat.le_of_ble_eq_true rfl⟩) rfl) ?_
  refine rcons (ro_iret (by decide +kernel)) ?_
  exact rnil
def ps_c_monthSwap : List Nat := [0, 1, 2, 5, 6, 7, 10]
def tb_c_monthSwap : List RT := [tq_al 0, tq_al 0, tq_getf 0 1, tq_il 1, tq_il 2, tq_call (rV 0 m_c_swap) 4 4 4, tq_iret 4]
def m_c_monthSwap : RM := rMeth tb_c_monthSwap 400 3
abbrev rm_c_monthSwap : Room := { frames := 9, cells := 4, slots := 48, locals := 160 }
set_option maxHeartbeats 4000000 in
set_option maxRecDepth 20000 in
theorem ok_c_monthSwap : rMet y_c_monthSwap (Cond.code y_c_monthSwap prog_1_method_32_code 3 (some .int) :: rT) rm_c_monthSwap 4 m_c_monthSwap := by
  refine rMeth_ok (ps := ps_c_monthSwap) (tab := tb_c_monthSwap) (by decide +kernel) rfl rfl rfl rfl ?_
  refine rcons (ro_aload_n (k := 0) rfl (by decide +kernel) rfl) ?_
  refine rcons (ro_aload_n (k := 0) rfl (by decide +kernel) rfl) ?_
  refine rcons (ro_getf (C := rN0) (T := rF0) (N := 7) (k := 1) (by decide +kernel) rfl (rU0c _) (by decide) (List.mem_cons_of_mem _ q_44) rfl) ?_
  refine rcons (ro_iload_n (k := 1) rfl (by decide +kernel) rfl) ?_
  refine rcons (ro_iload_n (k := 2) rfl (by decide +kernel) rfl) ?_
  refine rcons (ro_callV (C := rN0) (T := rF0) (N := 7) rfl ok_c_swap (by decide +kernel) rfl (fun s args ht => cwV (C := rN0) 3 ht (rgoodV (C := rN0) (fun w h => List.mem_cons_of_mem _ h) q_711 q_713 q_6 q_13 q_714) rfl rfl rfl hv_c_swap ⟨Nat.le_of_ble_eq_true rfl, Nat.le_of_ble_eq_true rfl⟩) rfl) ?_
  refine rcons (ro_iret (by decide +kernel)) ?_
  exact rnil
def ps_c_monthOrder : List Nat := [0, 1, 4, 5, 8, 9, 12, 13, 16, 19]
def tb_c_monthOrder : List RT := [tq_al 0, tq_getf 0 1, tq_il 1, tq_call m_c_numberIn 2 1 2, tq_al 0, tq_getf 0 1, tq_il 2, tq_call m_c_numberIn 2 1 2, tq_call s_c_order 2 0 2, tq_iret 2]
def m_c_monthOrder : RM := rMeth tb_c_monthOrder 400 3
abbrev rm_c_monthOrder : Room := { frames := 7, cells := 2, slots := 24, locals := 111 }
set_option maxHeartbeats 4000000 in
set_option maxRecDepth 20000 in
theorem ok_c_monthOrder : rMet y_c_monthOrder (Cond.code y_c_monthOrder prog_1_method_33_code 3 (some .int) :: rT) rm_c_monthOrder 2 m_c_monthOrder := by
  refine rMeth_ok (ps := ps_c_monthOrder) (tab := tb_c_monthOrder) (by decide +kernel) rfl rfl rfl rfl ?_
  refine rcons (ro_aload_n (k := 0) rfl (by decide +kernel) rfl) ?_
  refine rcons (ro_getf (C := rN0) (T := rF0) (N := 7) (k := 1) (by decide +kernel) rfl (rU0c _) (by decide) (List.mem_cons_of_mem _ q_44) rfl) ?_
  refine rcons (ro_iload_n (k := 1) rfl (by decide +kernel) rfl) ?_
  refine rcons (ro_callS ok_c_numberIn (by decide +kernel) rfl (fun s args ht => va_cwS 2 ht (rgoodS (fun w h => List.mem_cons_of_mem _ h) q_498 q_499 q_13 q_500) rfl rfl rfl hy_c_numberIn ⟨Nat.le_of_ble_eq_true rfl, Nat.le_of_ble_eq_true rfl⟩) rfl) ?_
  refine rcons (ro_aload_n (k := 0) rfl (by decide +kernel) rfl) ?_
  refine rcons (ro_getf (C := rN0) (T := rF0) (N := 7) (k := 1) (by decide +kernel) rfl (rU0c _) (by decide) (List.mem_cons_of_mem _ q_44) rfl) ?_
  refine rcons (ro_iload_n (k := 2) rfl (by decide +kernel) rfl) ?_
  refine rcons (ro_callS ok_c_numberIn (by decide +kernel) rfl (fun s args ht => va_cwS 2 ht (rgoodS (fun w h => List.mem_cons_of_mem _ h) q_498 q_499 q_13 q_500) rfl rfl rfl hy_c_numberIn ⟨Nat.le_of_ble_eq_true rfl, Nat.le_of_ble_eq_true rfl⟩) rfl) ?_
  refine rcons (ro_callS okS_c_order (by decide +kernel) rfl (fun s args ht => va_cwS 2 ht (rgoodS (fun w h => List.mem_cons_of_mem _ h) q_553 q_554 q_13 q_555) rfl rfl rfl hy_c_order ⟨Nat.le_of_ble_eq_true rfl, Nat.le_of_ble_eq_true rfl⟩) rfl) ?_
  refine rcons (ro_iret (by decide +kernel)) ?_
  exact rnil
def ps_c_isSameMonth : List Nat := [0, 1, 4, 5, 8, 9, 12, 13, 16, 19, 20, 23, 24]
def tb_c_isSameMonth : List RT := [tq_al 0, tq_getf 0 1, tq_il 1, tq_call m_c_numberIn 2 1 2, tq_al 0, tq_getf 0 1, tq_il 2, tq_call m_c_numberIn 2 1 2, tq_s2 (fun x y => !decide (x = y)) 1 0 12, tq_ic 1, tq_go 12, tq_ic 0, tq_zret 2]
def m_c_isSameMonth : RM := rMeth tb_c_isSameMonth 400 3
abbrev rm_c_isSameMonth : Room := { frames := 7, cells := 2, slots := 24, locals := 111 }
set_option maxHeartbeats 4000000 in
set_option maxRecDepth 20000 in
theorem ok_c_isSameMonth : rMet y_c_isSameMonth (Cond.code y_c_isSameMonth prog_1_method_34_code 3 (some .boolean) :: rT) rm_c_isSameMonth 2 m_c_isSameMonth := by
  refine rMeth_ok (ps := ps_c_isSameMonth) (tab := tb_c_isSameMonth) (by decide +kernel) rfl rfl rfl rfl ?_
  refine rcons (ro_aload_n (k := 0) rfl (by decide +kernel) rfl) ?_
  refine rcons (ro_getf (C := rN0) (T := rF0) (N := 7) (k := 1) (by decide +kernel) rfl (rU0c _) (by decide) (List.mem_cons_of_mem _ q_44) rfl) ?_
  refine rcons (ro_iload_n (k := 1) rfl (by decide +kernel) rfl) ?_
  refine rcons (ro_callS ok_c_numberIn (by decide +kernel) rfl (fun s args ht => va_cwS 2 ht (rgoodS (fun w h => List.mem_cons_of_mem _ h) q_498 q_499 q_13 q_500) rfl rfl rfl hy_c_numberIn ⟨Nat.le_of_ble_eq_true rfl, Nat.le_of_ble_eq_true rfl⟩) rfl) ?_
  refine rcons (ro_aload_n (k := 0) rfl (by decide +kernel) rfl) ?_
  refine rcons (ro_getf (C := rN0) (T := rF0) (N := 7) (k := 1) (by decide +kernel) rfl (rU0c _) (by decide) (List.mem_cons_of_mem _ q_44) rfl) ?_
  refine rcons (ro_iload_n (k := 2) rfl (by decide +kernel) rfl) ?_
  refine rcons (ro_callS ok_c_numberIn (by decide +kernel) rfl (fun s args ht => va_cwS 2 ht (rgoodS (fun w h => List.mem_cons_of_mem _ h) q_498 q_499 q_13 q_500) rfl rfl rfl hy_c_numberIn ⟨Nat.le_of_ble_eq_true rfl, Nat.le_of_ble_eq_true rfl⟩) rfl) ?_
  refine rcons (ro_s2_ne (off := 7) (off2 := 4) (n1 := 1) (n2 := 0) (by decide +kernel) (by decide +kernel) rfl (by decide +kernel) (by decide +kernel) rfl rfl rfl rfl) ?_
  refine rcons (ro_iconst (n := 1) (by decide +kernel) rfl rfl) ?_
  refine rcons (ro_goto (off := 4) (by decide +kernel) rfl) ?_
  refine rcons (ro_iconst (n := 0) (by decide +kernel) rfl rfl) ?_
  refine rcons (ro_zret (by decide +kernel)) ?_
  exact rnil
def ps_c_isMonth : List Nat := [0, 1, 4, 5, 6, 8, 11]
def tb_c_isMonth : List RT := [tq_al 0, tq_getf 0 1, tq_il 1, tq_il 2, tq_ic 12, tq_call m_c_hasNumber 4 2 2, tq_zret 2]
def m_c_isMonth : RM := rMeth tb_c_isMonth 400 3
abbrev rm_c_isMonth : Room := { frames := 8, cells := 2, slots := 24, locals := 135 }
set_option maxHeartbeats 4000000 in
set_option maxRecDepth 20000 in
theorem ok_c_isMonth : rMet y_c_isMonth (Cond.code y_c_isMonth prog_1_method_35_code 3 (some .boolean) :: rT) rm_c_isMonth 2 m_c_isMonth := by
  refine rMeth_ok (ps := ps_c_isMonth) (tab := tb_c_isMonth) (by decide +kernel) rfl rfl rfl rfl ?_
  refine rcons (ro_aload_n (k := 0) rfl (by decide +kernel) rfl) ?_
  refine rcons (ro_getf (C := rN0) (T := rF0) (N := 7) (k := 1) (by decide +kernel) rfl (rU0c _) (by decide) (List.mem_cons_of_mem _ q_44) rfl) ?_
  refine rcons (ro_iload_n (k := 1) rfl (by decide +kernel) rfl) ?_
  refine rcons (ro_iload_n (k := 2) rfl (by decide +kernel) rfl) ?_
  refine rcons (ro_bipush (n := 12) (by decide +kernel) rfl rfl) ?_
  refine rcons (ro_callS ok_c_hasNumber (by decide +kernel) rfl (fun s args ht => va_cwS 4 ht (rgoodS (fun w h => List.mem_cons_of_mem _ h) q_733 q_734 q_13 q_735) rfl rfl rfl hy_c_hasNumber ⟨Nat.le_of_ble_eq_true rfl, Nat.le_of_ble_eq_true rfl⟩) rfl) ?_
  refine rcons (ro_zret (by decide +kernel)) ?_
  exact rnil
def ps_c_lengthOf : List Nat := [0, 1, 56, 57, 60, 62, 65, 67, 68, 70, 71, 73]
def tb_c_lengthOf : List RT := [tq_il 0, tq_sw 2 [2, 10, 8, 10, 8, 10, 10, 8, 10, 8] 10, tq_il 1, tq_if1 (fun x => decide (x = 0)) 6, tq_ic 29, tq_go 7, tq_ic 28, tq_iret 0, tq_ic 30, tq_iret 0, tq_ic 31, tq_iret 0]
def m_c_lengthOf : RM := rMeth tb_c_lengthOf 400 2
abbrev rm_c_lengthOf : Room := { frames := 0, cells := 0, slots := 0, locals := 0 }
set_option maxHeartbeats 4000000 in
set_option maxRecDepth 20000 in
theorem ok_c_lengthOf : rMet y_c_lengthOf (Cond.code y_c_lengthOf prog_1_method_75_code 2 (some .int) :: rT) rm_c_lengthOf 0 m_c_lengthOf := by
  refine rMeth_ok (ps := ps_c_lengthOf) (tab := tb_c_lengthOf) (by decide +kernel) rfl rfl rfl rfl ?_
  refine rcons (ro_iload_n (k := 0) rfl (by decide +kernel) rfl) ?_
  refine rcons (ro_sw (dflt := 70) (lo := 2) (hi := 11) (offs := #[55, 70, 67, 70, 67, 70, 70, 67, 70, 67]) (len := 55) (by decide +kernel) rfl rfl (rsw_ok (pc := 1) (d := 10) (offs := #[55, 70, 67, 70, 67, 70, 70, 67, 70, 67]) (os := [2, 10, 8, 10, 8, 10, 10, 8, 10, 8]) (J := fun o => ps_c_lengthOf.getD o 0) (by decide +kernel))) ?_
  refine rcons (ro_iload_n (k := 1) rfl (by decide +kernel) rfl) ?_
  refine rcons (ro_if_eq (off := 8) (by decide +kernel) rfl rfl) ?_
  refine rcons (ro_bipush (n := 29) (by decide +kernel) rfl rfl) ?_
  refine rcons (ro_goto (off := 5) (by decide +kernel) rfl) ?_
  refine rcons (ro_bipush (n := 28) (by decide +kernel) rfl rfl) ?_
  refine rcons (ro_iret (by decide +kernel)) ?_
  refine rcons (ro_bipush (n := 30) (by decide +kernel) rfl rfl) ?_
  refine rcons (ro_iret (by decide +kernel)) ?_
  refine rcons (ro_bipush (n := 31) (by decide +kernel) rfl rfl) ?_
  refine rcons (ro_iret (by decide +kernel)) ?_
  exact rnil
def s_c_lengthOf : RM := fun as σ Q => match as with
  | [.inl n, .inl b] => rd (n.1 && b.1) (dM n.2 && dB b.2) (Q (.inl (some (rI (n.1 && b.1) (lenF n.2 b.2)))) σ)
  | _ => False
set_option maxHeartbeats 4000000 in
set_option maxRecDepth 20000 in
theorem okS_c_lengthOf : rMet y_c_lengthOf (Cond.code y_c_lengthOf prog_1_method_75_code 2 (some .int) :: rT) rm_c_lengthOf 0 s_c_lengthOf := by
  refine rMet_val ok_c_lengthOf (fun as σ Q h => ?_)
  unfold s_c_lengthOf at h
  split at h
  · next n b =>
    obtain ⟨hd, h⟩ := rd_use h
    rw [Bool.and_eq_true] at hd
    obtain ⟨k, k1, k2, hk⟩ := dM_nat hd.1
    refine ⟨[rI true (nI k), rI true b.2], some (rI true (lenF (nI k) b.2)), some (rI (n.1 && b.1) (lenF n.2 b.2)), fun _ => by rw [← hk]; rfl, ?_, fun _ => by rw [← hk]; rfl, h⟩
    rcases dB_or hd.2 with hb | hb <;> rw [hb] <;> rcases k12 k1 k2 with rfl | rfl | rfl | rfl | rfl | rfl | rfl | rfl | rfl | rfl | rfl | rfl <;> exact And.intro rfl rfl
  · exact h.elim
def ps_c_length : List Nat := [0, 1, 4, 5, 8, 9, 12]
def tb_c_length : List RT := [tq_al 0, tq_getf 0 1, tq_il 1, tq_call m_c_numberIn 2 1 1, tq_il 2, tq_call s_c_lengthOf 2 0 1, tq_iret 1]
def m_c_length : RM := rMeth tb_c_length 400 3
abbrev rm_c_length : Room := { frames := 7, cells := 1, slots := 12, locals := 111 }
set_option maxHeartbeats 4000000 in
set_option maxRecDepth 20000 in
theorem ok_c_length : rMet y_c_length (Cond.code y_c_length prog_1_method_36_code 3 (some .int) :: rT) rm_c_length 1 m_c_length := by
  refine rMeth_ok (ps := ps_c_length) (tab := tb_c_length) (by decide +kernel) rfl rfl rfl rfl ?_
  refine rcons (ro_aload_n (k := 0) rfl (by decide +kernel) rfl) ?_
  refine rcons (ro_getf (C := rN0) (T := rF0) (N := 7) (k := 1) (by decide +kernel) rfl (rU0c _) (by decide) (List.mem_cons_of_mem _ q_44) rfl) ?_
  refine rcons (ro_iload_n (k := 1) rfl (by decide +kernel) rfl) ?_
  refine rcons (ro_callS ok_c_numberIn (by decide +kernel) rfl (fun s args ht => va_cwS 2 ht (rgoodS (fun w h => List.mem_cons_of_mem _ h) q_498 q_499 q_13 q_500) rfl rfl rfl hy_c_numberIn ⟨Nat.le_of_ble_eq_true rfl, Nat.le_of_ble_eq_true rfl⟩) rfl) ?_
  refine rcons (ro_iload_n (k := 2) rfl (by decide +kernel) rfl) ?_
  refine rcons (ro_callS okS_c_lengthOf (by decide +kernel) rfl (fun s args ht => va_cwS 2 ht (rgoodS (fun w h => List.mem_cons_of_mem _ h) q_466 q_467 q_13 q_468) rfl rfl rfl hy_c_lengthOf ⟨Nat.le_of_ble_eq_true rfl, Nat.le_of_ble_eq_true rfl⟩) rfl) ?_
  refine rcons (ro_iret (by decide +kernel)) ?_
  exact rnil
def ps_c_leastOf : List Nat := [0, 1, 2, 5, 6, 7, 10, 13]
def tb_c_leastOf : List RT := [tq_il 0, tq_ic 0, tq_call s_c_lengthOf 2 0 0, tq_il 0, tq_ic 1, tq_call s_c_lengthOf 2 0 0, tq_mmin 0, tq_iret 0]
def m_c_leastOf : RM := rMeth tb_c_leastOf 400 1
abbrev rm_c_leastOf : Room := { frames := 1, cells := 0, slots := 0, locals := 21 }
set_option maxHeartbeats 4000000 in
set_option maxRecDepth 20000 in
theorem ok_c_leastOf : rMet y_c_leastOf (Cond.code y_c_leastOf prog_1_method_76_code 1 (some .int) :: rT) rm_c_leastOf 0 m_c_leastOf := by
  refine rMeth_ok (ps := ps_c_leastOf) (tab := tb_c_leastOf) (by decide +kernel) rfl rfl rfl rfl ?_
  refine rcons (ro_iload_n (k := 0) rfl (by decide +kernel) rfl) ?_
  refine rcons (ro_iconst (n := 0) (by decide +kernel) rfl rfl) ?_
  refine rcons (ro_callS okS_c_lengthOf (by decide +kernel) rfl (fun s args ht => va_cwS 2 ht (rgoodS (fun w h => List.mem_cons_of_mem _ h) q_466 q_467 q_13 q_468) rfl rfl rfl hy_c_lengthOf ⟨Nat.le_of_ble_eq_true rfl, Nat.le_of_ble_eq_true rfl⟩) rfl) ?_
  refine rcons (ro_iload_n (k := 0) rfl (by decide +kernel) rfl) ?_
  refine rcons (ro_iconst (n := 1) (by decide +kernel) rfl rfl) ?_
  refine rcons (ro_callS okS_c_lengthOf (by decide +kernel) rfl (fun s args ht => va_cwS 2 ht (rgoodS (fun w h => List.mem_cons_of_mem _ h) q_466 q_467 q_13 q_468) rfl rfl rfl hy_c_lengthOf ⟨Nat.le_of_ble_eq_true rfl, Nat.le_of_ble_eq_true rfl⟩) rfl) ?_
  refine rcons (ro_mmin (List.mem_cons_of_mem _ q_472) (List.mem_cons_of_mem _ q_140) (List.mem_cons_of_mem _ q_21) (List.mem_cons_of_mem _ q_141) (by decide) (by decide +kernel) rfl) ?_
  refine rcons (ro_iret (by decide +kernel)) ?_
  exact rnil
def ps_c_least : List Nat := [0, 1, 4, 5, 8, 11]
def tb_c_least : List RT := [tq_al 0, tq_getf 0 1, tq_il 1, tq_call m_c_numberIn 2 1 1, tq_call m_c_leastOf 1 0 1, tq_iret 1]
def m_c_least : RM := rMeth tb_c_least 400 2
abbrev rm_c_least : Room := { frames := 7, cells := 1, slots := 12, locals := 111 }
set_option maxHeartbeats 4000000 in
set_option maxRecDepth 20000 in
theorem ok_c_least : rMet y_c_least (Cond.code y_c_least prog_1_method_37_code 2 (some .int) :: rT) rm_c_least 1 m_c_least := by
  refine rMeth_ok (ps := ps_c_least) (tab := tb_c_least) (by decide +kernel) rfl rfl rfl rfl ?_
  refine rcons (ro_aload_n (k := 0) rfl (by decide +kernel) rfl) ?_
  refine rcons (ro_getf (C := rN0) (T := rF0) (N := 7) (k := 1) (by decide +kernel) rfl (rU0c _) (by decide) (List.mem_cons_of_mem _ q_44) rfl) ?_
  refine rcons (ro_iload_n (k := 1) rfl (by decide +kernel) rfl) ?_
  refine rcons (ro_callS ok_c_numberIn (by decide +kernel) rfl (fun s args ht => va_cwS 2 ht (rgoodS (fun w h => List.mem_cons_of_mem _ h) q_498 q_499 q_13 q_500) rfl rfl rfl hy_c_numberIn ⟨Nat.le_of_ble_eq_true rfl, Nat.le_of_ble_eq_true rfl⟩) rfl) ?_
  refine rcons (ro_callS ok_c_leastOf (by decide +kernel) rfl (fun s args ht => va_cwS 1 ht (rgoodS (fun w h => List.mem_cons_of_mem _ h) q_469 q_470 q_13 q_471) rfl rfl rfl hy_c_leastOf ⟨Nat.le_of_ble_eq_true rfl, Nat.le_of_ble_eq_true rfl⟩) rfl) ?_
  refine rcons (ro_iret (by decide +kernel)) ?_
  exact rnil
def ps_c_greatestOf : List Nat := [0, 1, 2, 5, 6, 7, 10, 13]
def tb_c_greatestOf : List RT := [tq_il 0, tq_ic 0, tq_call s_c_lengthOf 2 0 0, tq_il 0, tq_ic 1, tq_call s_c_lengthOf 2 0 0, tq_mmax 0, tq_iret 0]
def m_c_greatestOf : RM := rMeth tb_c_greatestOf 400 1
abbrev rm_c_greatestOf : Room := { frames := 1, cells := 0, slots := 0, locals := 21 }
set_option maxHeartbeats 4000000 in
set_option maxRecDepth 20000 in
theorem ok_c_greatestOf : rMet y_c_greatestOf (Cond.code y_c_greatestOf prog_1_method_77_code 1 (some .int) :: rT) rm_c_greatestOf 0 m_c_greatestOf := by
  refine rMeth_ok (ps := ps_c_greatestOf) (tab := tb_c_greatestOf) (by decide +kernel) rfl rfl rfl rfl ?_
  refine rcons (ro_iload_n (k := 0) rfl (by decide +kernel) rfl) ?_
  refine rcons (ro_iconst (n := 0) (by decide +kernel) rfl rfl) ?_
  refine rcons (ro_callS okS_c_lengthOf (by decide +kernel) rfl (fun s args ht => va_cwS 2 ht (rgoodS (fun w h => List.mem_cons_of_mem _ h) q_466 q_467 q_13 q_468) rfl rfl rfl hy_c_lengthOf ⟨Nat.le_of_ble_eq_true rfl, Nat.le_of_ble_eq_true rfl⟩) rfl) ?_
  refine rcons (ro_iload_n (k := 0) rfl (by decide +kernel) rfl) ?_
  refine rcons (ro_iconst (n := 1) (by decide +kernel) rfl rfl) ?_
  refine rcons (ro_callS okS_c_lengthOf (by decide +kernel) rfl (fun s args ht => va_cwS 2 ht (rgoodS (fun w h => List.mem_cons_of_mem _ h) q_466 q_467 q_13 q_468) rfl rfl rfl hy_c_lengthOf ⟨Nat.le_of_ble_eq_true rfl, Nat.le_of_ble_eq_true rfl⟩) rfl) ?_
  refine rcons (ro_mmax (List.mem_cons_of_mem _ q_476) (List.mem_cons_of_mem _ q_122) (List.mem_cons_of_mem _ q_21) (List.mem_cons_of_mem _ q_123) (by decide) (by decide +kernel) rfl) ?_
  refine rcons (ro_iret (by decide +kernel)) ?_
  exact rnil
def ps_c_greatest : List Nat := [0, 1, 4, 5, 8, 11]
def tb_c_greatest : List RT := [tq_al 0, tq_getf 0 1, tq_il 1, tq_call m_c_numberIn 2 1 1, tq_call m_c_greatestOf 1 0 1, tq_iret 1]
def m_c_greatest : RM := rMeth tb_c_greatest 400 2
abbrev rm_c_greatest : Room := { frames := 7, cells := 1, slots := 12, locals := 111 }
set_option maxHeartbeats 4000000 in
set_option maxRecDepth 20000 in
theorem ok_c_greatest : rMet y_c_greatest (Cond.code y_c_greatest prog_1_method_38_code 2 (some .int) :: rT) rm_c_greatest 1 m_c_greatest := by
  refine rMeth_ok (ps := ps_c_greatest) (tab := tb_c_greatest) (by decide +kernel) rfl rfl rfl rfl ?_
  refine rcons (ro_aload_n (k := 0) rfl (by decide +kernel) rfl) ?_
  refine rcons (ro_getf (C := rN0) (T := rF0) (N := 7) (k := 1) (by decide +kernel) rfl (rU0c _) (by decide) (List.mem_cons_of_mem _ q_44) rfl) ?_
  refine rcons (ro_iload_n (k := 1) rfl (by decide +kernel) rfl) ?_
  refine rcons (ro_callS ok_c_numberIn (by decide +kernel) rfl (fun s args ht => va_cwS 2 ht (rgoodS (fun w h => List.mem_cons_of_mem _ h) q_498 q_499 q_13 q_500) rfl rfl rfl hy_c_numberIn ⟨Nat.le_of_ble_eq_true rfl, Nat.le_of_ble_eq_true rfl⟩) rfl) ?_
  refine rcons (ro_callS ok_c_greatestOf (by decide +kernel) rfl (fun s args ht => va_cwS 1 ht (rgoodS (fun w h => List.mem_cons_of_mem _ h) q_473 q_474 q_13 q_475) rfl rfl rfl hy_c_greatestOf ⟨Nat.le_of_ble_eq_true rfl, Nat.le_of_ble_eq_true rfl⟩) rfl) ?_
  refine rcons (ro_iret (by decide +kernel)) ?_
  exact rnil
def ps_c_firstOf : List Nat := [0, 1, 2, 3, 4, 5, 6, 9, 10, 12, 15, 16, 17, 18, 21, 22, 23, 26, 29, 30]
def tb_c_firstOf : List RT := [tq_ic 1, tq_is 4 2, tq_ic 1, tq_is 4 3, tq_il 3, tq_il 0, tq_if2 (fun x y => decide (y ≤ x)) 18, tq_il 3, tq_ic 12, tq_if2 (fun x y => decide (y ≤ x)) 18, tq_il 2, tq_il 3, tq_il 1, tq_call s_c_lengthOf 2 0 0, tq_i2 (fun x y => x + y), tq_is 4 2, tq_inc 4 3 1, tq_go 4, tq_il 2, tq_iret 0]
def m_c_firstOf : RM := rMeth tb_c_firstOf 400 4
abbrev rm_c_firstOf : Room := { frames := 1, cells := 0, slots := 0, locals := 21 }
set_option maxHeartbeats 4000000 in
set_option maxRecDepth 20000 in
theorem ok_c_firstOf : rMet y_c_firstOf (Cond.code y_c_firstOf prog_1_method_78_code 4 (some .int) :: rT) rm_c_firstOf 0 m_c_firstOf := by
  refine rMeth_ok (ps := ps_c_firstOf) (tab := tb_c_firstOf) (by decide +kernel) rfl rfl rfl rfl ?_
  refine rcons (ro_iconst (n := 1) (by decide +kernel) rfl rfl) ?_
  refine rcons (ro_istore_n (k := 2) rfl (by decide +kernel) rfl) ?_
  refine rcons (ro_iconst (n := 1) (by decide +kernel) rfl rfl) ?_
  refine rcons (ro_istore_n (k := 3) rfl (by decide +kernel) rfl) ?_
  refine rcons (ro_iload_n (k := 3) rfl (by decide +kernel) rfl) ?_
  refine rcons (ro_iload_n (k := 0) rfl (by decide +kernel) rfl) ?_
  refine rcons (ro_icmp_ge (off := 23) (by decide +kernel) rfl rfl) ?_
  refine rcons (ro_iload_n (k := 3) rfl (by decide +kernel) rfl) ?_
  refine rcons (ro_bipush (n := 12) (by decide +kernel) rfl rfl) ?_
  refine rcons (ro_icmp_ge (off := 17) (by decide +kernel) rfl rfl) ?_
  refine rcons (ro_iload_n (k := 2) rfl (by decide +kernel) rfl) ?_
  refine rcons (ro_iload_n (k := 3) rfl (by decide +kernel) rfl) ?_
  refine rcons (ro_iload_n (k := 1) rfl (by decide +kernel) rfl) ?_
  refine rcons (ro_callS okS_c_lengthOf (by decide +kernel) rfl (fun s args ht => va_cwS 2 ht (rgoodS (fun w h => List.mem_cons_of_mem _ h) q_466 q_467 q_13 q_468) rfl rfl rfl hy_c_lengthOf ⟨Nat.le_of_ble_eq_true rfl, Nat.le_of_ble_eq_true rfl⟩) rfl) ?_
  refine rcons (ro_iadd (by decide +kernel) rfl) ?_
  refine rcons (ro_istore_n (k := 2) rfl (by decide +kernel) rfl) ?_
  refine rcons (ro_iinc (by decide +kernel) rfl) ?_
  refine rcons (ro_goto (off := (-22)) (by decide +kernel) rfl) ?_
  refine rcons (ro_iload_n (k := 2) rfl (by decide +kernel) rfl) ?_
  refine rcons (ro_iret (by decide +kernel)) ?_
  exact rnil
def s_c_firstOf : RM := fun as σ Q => match as with
  | [.inl n, .inl b] => rd (n.1 && b.1) (dM n.2 && dB b.2) (Q (.inl (some (rI (n.1 && b.1) (firstF n.2 b.2)))) σ)
  | _ => False
set_option maxHeartbeats 4000000 in
set_option maxRecDepth 20000 in
theorem okS_c_firstOf : rMet y_c_firstOf (Cond.code y_c_firstOf prog_1_method_78_code 4 (some .int) :: rT) rm_c_firstOf 0 s_c_firstOf := by
  refine rMet_val ok_c_firstOf (fun as σ Q h => ?_)
  unfold s_c_firstOf at h
  split at h
  · next n b =>
    obtain ⟨hd, h⟩ := rd_use h
    rw [Bool.and_eq_true] at hd
    obtain ⟨k, k1, k2, hk⟩ := dM_nat hd.1
    refine ⟨[rI true (nI k), rI true b.2], some (rI true (firstF (nI k) b.2)), some (rI (n.1 && b.1) (firstF n.2 b.2)), fun _ => by rw [← hk]; rfl, ?_, fun _ => by rw [← hk]; rfl, h⟩
    rcases dB_or hd.2 with hb | hb <;> rw [hb] <;> rcases k12 k1 k2 with rfl | rfl | rfl | rfl | rfl | rfl | rfl | rfl | rfl | rfl | rfl | rfl <;> exact And.intro rfl rfl
  · exact h.elim
def ps_c_first : List Nat := [0, 1, 4, 5, 8, 9, 12]
def tb_c_first : List RT := [tq_al 0, tq_getf 0 1, tq_il 1, tq_call m_c_numberIn 2 1 1, tq_il 2, tq_call s_c_firstOf 2 0 1, tq_iret 1]
def m_c_first : RM := rMeth tb_c_first 400 3
abbrev rm_c_first : Room := { frames := 7, cells := 1, slots := 12, locals := 111 }
set_option maxHeartbeats 4000000 in
set_option maxRecDepth 20000 in
theorem ok_c_first : rMet y_c_first (Cond.code y_c_first prog_1_method_39_code 3 (some .int) :: rT) rm_c_first 1 m_c_first := by
  refine rMeth_ok (ps := ps_c_first) (tab := tb_c_first) (by decide +kernel) rfl rfl rfl rfl ?_
  refine rcons (ro_aload_n (k := 0) rfl (by decide +kernel) rfl) ?_
  refine rcons (ro_getf (C := rN0) (T := rF0) (N := 7) (k := 1) (by decide +kernel) rfl (rU0c _) (by decide) (List.mem_cons_of_mem _ q_44) rfl) ?_
  refine rcons (ro_iload_n (k := 1) rfl (by decide +kernel) rfl) ?_
  refine rcons (ro_callS ok_c_numberIn (by decide +kernel) rfl (fun s args ht => va_cwS 2 ht (rgoodS (fun w h => List.mem_cons_of_mem _ h) q_498 q_499 q_13 q_500) rfl rfl rfl hy_c_numberIn ⟨Nat.le_of_ble_eq_true rfl, Nat.le_of_ble_eq_true rfl⟩) rfl) ?_
  refine rcons (ro_iload_n (k := 2) rfl (by decide +kernel) rfl) ?_
  refine rcons (ro_callS okS_c_firstOf (by decide +kernel) rfl (fun s args ht => va_cwS 2 ht (rgoodS (fun w h => List.mem_cons_of_mem _ h) q_480 q_481 q_13 q_482) rfl rfl rfl hy_c_firstOf ⟨Nat.le_of_ble_eq_true rfl, Nat.le_of_ble_eq_true rfl⟩) rfl) ?_
  refine rcons (ro_iret (by decide +kernel)) ?_
  exact rnil
def ps_c_quarterOf : List Nat := [0, 1, 2, 5, 6, 7, 10, 11]
def tb_c_quarterOf : List RT := [tq_il 0, tq_il 0, tq_call m_c_placeOf 1 0 0, tq_i2l, tq_ic 3, tq_call s_c_rest 2 0 0, tq_i2 (fun x y => x - y), tq_iret 0]
def m_c_quarterOf : RM := rMeth tb_c_quarterOf 400 1
abbrev rm_c_quarterOf : Room := { frames := 2, cells := 0, slots := 0, locals := 47 }
set_option maxHeartbeats 4000000 in
set_option maxRecDepth 20000 in
theorem ok_c_quarterOf : rMet y_c_quarterOf (Cond.code y_c_quarterOf prog_1_method_79_code 1 (some .int) :: rT) rm_c_quarterOf 0 m_c_quarterOf := by
  refine rMeth_ok (ps := ps_c_quarterOf) (tab := tb_c_quarterOf) (by decide +kernel) rfl rfl rfl rfl ?_
  refine rcons (ro_iload_n (k := 0) rfl (by decide +kernel) rfl) ?_
  refine rcons (ro_iload_n (k := 0) rfl (by decide +kernel) rfl) ?_
  refine rcons (ro_callS ok_c_placeOf (by decide +kernel) rfl (fun s args ht => va_cwS 1 ht (rgoodS (fun w h => List.mem_cons_of_mem _ h) q_448 q_449 q_13 q_450) rfl rfl rfl hy_c_placeOf ⟨Nat.le_of_ble_eq_true rfl, Nat.le_of_ble_eq_true rfl⟩) rfl) ?_
  refine rcons (ro_i2l (by decide +kernel) rfl) ?_
  refine rcons (ro_iconst (n := 3) (by decide +kernel) rfl rfl) ?_
  refine rcons (ro_callS okS_c_rest (by decide +kernel) rfl (fun s args ht => va_cwS 2 ht (rgoodS (fun w h => List.mem_cons_of_mem _ h) q_451 q_452 q_13 q_453) rfl rfl rfl hy_c_rest ⟨Nat.le_of_ble_eq_true rfl, Nat.le_of_ble_eq_true rfl⟩) rfl) ?_
  refine rcons (ro_isub (by decide +kernel) rfl) ?_
  refine rcons (ro_iret (by decide +kernel)) ?_
  exact rnil
def ps_c_quarter : List Nat := [0, 1, 4, 5, 8, 11]
def tb_c_quarter : List RT := [tq_al 0, tq_getf 0 1, tq_il 1, tq_call m_c_numberIn 2 1 1, tq_call m_c_quarterOf 1 0 1, tq_iret 1]
def m_c_quarter : RM := rMeth tb_c_quarter 400 2
abbrev rm_c_quarter : Room := { frames := 7, cells := 1, slots := 12, locals := 111 }
set_option maxHeartbeats 4000000 in
set_option maxRecDepth 20000 in
theorem ok_c_quarter : rMet y_c_quarter (Cond.code y_c_quarter prog_1_method_40_code 2 (some .int) :: rT) rm_c_quarter 1 m_c_quarter := by
  refine rMeth_ok (ps := ps_c_quarter) (tab := tb_c_quarter) (by decide +kernel) rfl rfl rfl rfl ?_
  refine rcons (ro_aload_n (k := 0) rfl (by decide +kernel) rfl) ?_
  refine rcons (ro_getf (C := rN0) (T := rF0) (N := 7) (k := 1) (by decide +kernel) rfl (rU0c _) (by decide) (List.mem_cons_of_mem _ q_44) rfl) ?_
  refine rcons (ro_iload_n (k := 1) rfl (by decide +kernel) rfl) ?_
  refine rcons (ro_callS ok_c_numberIn (by decide +kernel) rfl (fun s args ht => va_cwS 2 ht (rgoodS (fun w h => List.mem_cons_of_mem _ h) q_498 q_499 q_13 q_500) rfl rfl rfl hy_c_numberIn ⟨Nat.le_of_ble_eq_true rfl, Nat.le_of_ble_eq_true rfl⟩) rfl) ?_
  refine rcons (ro_callS ok_c_quarterOf (by decide +kernel) rfl (fun s args ht => va_cwS 1 ht (rgoodS (fun w h => List.mem_cons_of_mem _ h) q_486 q_487 q_13 q_488) rfl rfl rfl hy_c_quarterOf ⟨Nat.le_of_ble_eq_true rfl, Nat.le_of_ble_eq_true rfl⟩) rfl) ?_
  refine rcons (ro_iret (by decide +kernel)) ?_
  exact rnil
end RKM
