section RKM
def ps_d_back : List Nat := [0, 1, 2, 5, 6, 9, 12, 13, 14, 17, 18, 19, 22, 23, 26, 27, 28, 31, 34, 35, 36, 37, 38, 39, 40, 41, 42, 45, 46, 47, 50, 51, 52, 53, 56, 57, 58, 59, 60, 63, 64, 67, 68, 69, 72, 73, 74, 75, 78, 79, 80, 81, 82, 83, 84, 87, 88, 91, 92, 93, 94, 95, 96, 99, 100, 101, 104, 105, 106, 107, 108, 109, 110, 113, 114, 115, 118, 119, 120, 121, 122, 123, 124, 125, 128, 131, 132, 133, 136, 137, 138, 141, 142]
def tb_d_back : List RT := [tq_al 0, tq_il 1, tq_call s_d_isNoMark 1 0 0, tq_ic 1, tq_call (rV 1 m_d_start) 3 0 0, tq_if1 (fun x => !decide (x = 0)) 18, tq_al 0, tq_al 0, tq_getf 1 4, tq_il 1, tq_iald 1, tq_s1 (fun x => !decide (x = 0)) 1 0 15, tq_ic 1, tq_go 15, tq_ic 0, tq_ic 2, tq_call (rV 1 m_d_refuse) 3 0 0, tq_if1 (fun x => decide (x = 0)) 20, tq_ic 0, tq_iret 0, tq_ic 0, tq_is 4 2, tq_ic 0, tq_is 4 3, tq_il 3, tq_ic 4, tq_if2 (fun x y => decide (y ≤ x)) 85, tq_il 2, tq_al 0, tq_getf 1 1, tq_il 3, tq_iald 0, tq_al 0, tq_getf 1 3, tq_il 1, tq_aald 2, tq_il 3, tq_iald 0, tq_s2 (fun x y => decide (x = y)) 1 0 42, tq_ic 1, tq_go 42, tq_ic 0, tq_al 0, tq_getf 1 2, tq_il 3, tq_iald 0, tq_al 0, tq_getf 1 3, tq_il 1, tq_aald 2, tq_ic 4, tq_il 3, tq_i2 (fun x y => x + y), tq_iald 0, tq_s2 (fun x y => decide (x = y)) 1 0 58, tq_ic 1, tq_go 58, tq_ic 0, tq_i2 (fun x y => x + y), tq_i2 (fun x y => x + y), tq_is 4 2, tq_al 0, tq_getf 1 1, tq_il 3, tq_al 0, tq_getf 1 3, tq_il 1, tq_aald 2, tq_il 3, tq_iald 0, tq_iast 0, tq_al 0, tq_getf 1 2, tq_il 3, tq_al 0, tq_getf 1 3, tq_il 1, tq_aald 2, tq_ic 4, tq_il 3, tq_i2 (fun x y => x + y), tq_iald 0, tq_iast 0, tq_inc 4 3 1, tq_go 24, tq_al 0, tq_dup, tq_getf 1 5, tq_ic 1, tq_i2 (fun x y => x + y), tq_putf 1 5 0, tq_il 2, tq_iret 0]
def m_d_back : RM := rMeth tb_d_back 400 4
abbrev rm_d_back : Room := { frames := 2, cells := 0, slots := 0, locals := 44 }
set_option maxHeartbeats 4000000 in
set_option maxRecDepth 20000 in
theorem ok_d_back : rMet y_d_back (Cond.code y_d_back prog_4_method_63_code 4 (some .int) :: rT) rm_d_back 0 m_d_back := by
  refine rMeth_ok (ps := ps_d_back) (tab := tb_d_back) (by decide +kernel) rfl rfl rfl rfl ?_
  refine rcons (ro_aload_n (k := 0) rfl (by decide +kernel) rfl) ?_
  refine rcons (ro_iload_n (k := 1) rfl (by decide +kernel) rfl) ?_
  refine rcons (ro_callS okS_d_isNoMark (by decide +kernel) rfl (fun s args ht => va_cwS 1 ht (rgoodS (fun w h => List.mem_cons_of_mem _ h) q_1241 q_1242 q_14 q_1243) rfl rfl rfl hy_d_isNoMark ⟨Nat.le_of_ble_eq_true rfl, Nat.le_of_ble_eq_true rfl⟩) rfl) ?_
  refine rcons (ro_iconst (n := 1) (by decide +kernel) rfl rfl) ?_
  refine rcons (ro_callV (C := rN1) (T := rF1) (N := 7) rfl ok_d_start (by decide +kernel) rfl (fun s args ht => cwV (C := rN1) 2 ht (rgoodV (C := rN1) (fun w h => List.mem_cons_of_mem _ h) q_1013 q_1015 q_8 q_14 q_1016) rfl rfl rfl hv_d_start ⟨Nat.le_of_ble_eq_true rfl, Nat.le_of_ble_eq_true rfl⟩) rfl) ?_
  refine rcons (ro_if_ne (off := 25) (by decide +kernel) rfl rfl) ?_
  refine rcons (ro_aload_n (k := 0) rfl (by decide +kernel) rfl) ?_
  refine rcons (ro_aload_n (k := 0) rfl (by decide +kernel) rfl) ?_
  refine rcons (ro_getf (C := rN1) (T := rF1) (N := 7) (k := 4) (by decide +kernel) rfl (rU1c _) (by decide) (List.mem_cons_of_mem _ q_988) rfl) ?_
  refine rcons (ro_iload_n (k := 1) rfl (by decide +kernel) rfl) ?_
  refine rcons (ro_zald (by decide +kernel) rfl) ?_
  refine rcons (ro_s1_ne (off := 7) (off2 := 4) (n1 := 1) (n2 := 0) (by decide +kernel) (by decide +kernel) rfl (by decide +kernel) (by decide +kernel) rfl rfl rfl rfl) ?_
  refine rcons (ro_iconst (n := 1) (by decide +kernel) rfl rfl) ?_
  refine rcons (ro_goto (off := 4) (by decide +kernel) rfl) ?_
  refine rcons (ro_iconst (n := 0) (by decide +kernel) rfl rfl) ?_
  refine rcons (ro_iconst (n := 2) (by decide +kernel) rfl rfl) ?_
  refine rcons (ro_callV (C := rN1) (T := rF1) (N := 7) rfl ok_d_refuse (by decide +kernel) rfl (fun s args ht => cwV (C := rN1) 2 ht (rgoodV (C := rN1) (fun w h => List.mem_cons_of_mem _ h) q_1017 q_1019 q_9 q_14 q_1020) rfl rfl rfl hv_d_refuse ⟨Nat.le_of_ble_eq_true rfl, Nat.le_of_ble_eq_true rfl⟩) rfl) ?_
  refine rcons (ro_if_eq (off := 5) (by decide +kernel) rfl rfl) ?_
  refine rcons (ro_iconst (n := 0) (by decide +kernel) rfl rfl) ?_
  refine rcons (ro_iret (by decide +kernel)) ?_
  refine rcons (ro_iconst (n := 0) (by decide +kernel) rfl rfl) ?_
  refine rcons (ro_istore_n (k := 2) rfl (by decide +kernel) rfl) ?_
  refine rcons (ro_iconst (n := 0) (by decide +kernel) rfl rfl) ?_
  refine rcons (ro_istore_n (k := 3) rfl (by decide +kernel) rfl) ?_
  refine rcons (ro_iload_n (k := 3) rfl (by decide +kernel) rfl) ?_
  refine rcons (ro_iconst (n := 4) (by decide +kernel) rfl rfl) ?_
  refine rcons (ro_icmp_ge (off := 89) (by decide +kernel) rfl rfl) ?_
  refine rcons (ro_iload_n (k := 2) rfl (by decide +kernel) rfl) ?_
  refine rcons (ro_aload_n (k := 0) rfl (by decide +kernel) rfl) ?_
  refine rcons (ro_getf (C := rN1) (T := rF1) (N := 7) (k := 1) (by decide +kernel) rfl (rU1c _) (by decide) (List.mem_cons_of_mem _ q_985) rfl) ?_
  refine rcons (ro_iload_n (k := 3) rfl (by decide +kernel) rfl) ?_
  refine rcons (ro_iald (by decide +kernel) rfl) ?_
  refine rcons (ro_aload_n (k := 0) rfl (by decide +kernel) rfl) ?_
  refine rcons (ro_getf (C := rN1) (T := rF1) (N := 7) (k := 3) (by decide +kernel) rfl (rU1c _) (by decide) (List.mem_cons_of_mem _ q_987) rfl) ?_
  refine rcons (ro_iload_n (k := 1) rfl (by decide +kernel) rfl) ?_
  refine rcons (ro_aald (by decide +kernel) rfl) ?_
  refine rcons (ro_iload_n (k := 3) rfl (by decide +kernel) rfl) ?_
  refine rcons (ro_iald (by decide +kernel) rfl) ?_
  refine rcons (ro_s2_eq (off := 7) (off2 := 4) (n1 := 1) (n2 := 0) (by decide +kernel) (by decide +kernel) rfl (by decide +kernel) (by decide +kernel) rfl rfl rfl rfl) ?_
  refine rcons (ro_iconst (n := 1) (by decide +kernel) rfl rfl) ?_
  refine rcons (ro_goto (off := 4) (by decide +kernel) rfl) ?_
  refine rcons (ro_iconst (n := 0) (by decide +kernel) rfl rfl) ?_
  refine rcons (ro_aload_n (k := 0) rfl (by decide +kernel) rfl) ?_
  refine rcons (ro_getf (C := rN1) (T := rF1) (N := 7) (k := 2) (by decide +kernel) rfl (rU1c _) (by decide) (List.mem_cons_of_mem _ q_986) rfl) ?_
  refine rcons (ro_iload_n (k := 3) rfl (by decide +kernel) rfl) ?_
  refine rcons (ro_iald (by decide +kernel) rfl) ?_
  refine rcons (ro_aload_n (k := 0) rfl (by decide +kernel) rfl) ?_
  refine rcons (ro_getf (C := rN1) (T := rF1) (N := 7) (k := 3) (by decide +kernel) rfl (rU1c _) (by decide) (List.mem_cons_of_mem _ q_987) rfl) ?_
  refine rcons (ro_iload_n (k := 1) rfl (by decide +kernel) rfl) ?_
  refine rcons (ro_aald (by decide +kernel) rfl) ?_
  refine rcons (ro_iconst (n := 4) (by decide +kernel) rfl rfl) ?_
  refine rcons (ro_iload_n (k := 3) rfl (by decide +kernel) rfl) ?_
  refine rcons (ro_iadd (by decide +kernel) rfl) ?_
  refine rcons (ro_iald (by decide +kernel) rfl) ?_
  refine rcons (ro_s2_eq (off := 7) (off2 := 4) (n1 := 1) (n2 := 0) (by decide +kernel) (by decide +kernel) rfl (by decide +kernel) (by decide +kernel) rfl rfl rfl rfl) ?_
  refine rcons (ro_iconst (n := 1) (by decide +kernel) rfl rfl) ?_
  refine rcons (ro_goto (off := 4) (by decide +kernel) rfl) ?_
  refine rcons (ro_iconst (n := 0) (by decide +kernel) rfl rfl) ?_
  refine rcons (ro_iadd (by decide +kernel) rfl) ?_
  refine rcons (ro_iadd (by decide +kernel) rfl) ?_
  refine rcons (ro_istore_n (k := 2) rfl (by decide +kernel) rfl) ?_
  refine rcons (ro_aload_n (k := 0) rfl (by decide +kernel) rfl) ?_
  refine rcons (ro_getf (C := rN1) (T := rF1) (N := 7) (k := 1) (by decide +kernel) rfl (rU1c _) (by decide) (List.mem_cons_of_mem _ q_985) rfl) ?_
  refine rcons (ro_iload_n (k := 3) rfl (by decide +kernel) rfl) ?_
  refine rcons (ro_aload_n (k := 0) rfl (by decide +kernel) rfl) ?_
  refine rcons (ro_getf (C := rN1) (T := rF1) (N := 7) (k := 3) (by decide +kernel) rfl (rU1c _) (by decide) (List.mem_cons_of_mem _ q_987) rfl) ?_
  refine rcons (ro_iload_n (k := 1) rfl (by decide +kernel) rfl) ?_
  refine rcons (ro_aald (by decide +kernel) rfl) ?_
  refine rcons (ro_iload_n (k := 3) rfl (by decide +kernel) rfl) ?_
  refine rcons (ro_iald (by decide +kernel) rfl) ?_
  refine rcons (ro_iast (by decide +kernel) rfl) ?_
  refine rcons (ro_aload_n (k := 0) rfl (by decide +kernel) rfl) ?_
  refine rcons (ro_getf (C := rN1) (T := rF1) (N := 7) (k := 2) (by decide +kernel) rfl (rU1c _) (by decide) (List.mem_cons_of_mem _ q_986) rfl) ?_
  refine rcons (ro_iload_n (k := 3) rfl (by decide +kernel) rfl) ?_
  refine rcons (ro_aload_n (k := 0) rfl (by decide +kernel) rfl) ?_
  refine rcons (ro_getf (C := rN1) (T := rF1) (N := 7) (k := 3) (by decide +kernel) rfl (rU1c _) (by decide) (List.mem_cons_of_mem _ q_987) rfl) ?_
  refine rcons (ro_iload_n (k := 1) rfl (by decide +kernel) rfl) ?_
  refine rcons (ro_aald (by decide +kernel) rfl) ?_
  refine rcons (ro_iconst (n := 4) (by decide +kernel) rfl rfl) ?_
  refine rcons (ro_iload_n (k := 3) rfl (by decide +kernel) rfl) ?_
  refine rcons (ro_iadd (by decide +kernel) rfl) ?_
  refine rcons (ro_iald (by decide +kernel) rfl) ?_
  refine rcons (ro_iast (by decide +kernel) rfl) ?_
  refine rcons (ro_iinc (by decide +kernel) rfl) ?_
  refine rcons (ro_goto (off := (-88)) (by decide +kernel) rfl) ?_
  refine rcons (ro_aload_n (k := 0) rfl (by decide +kernel) rfl) ?_
  refine rcons (ro_dup (by decide +kernel) rfl) ?_
  refine rcons (ro_getf (C := rN1) (T := rF1) (N := 7) (k := 5) (by decide +kernel) rfl (rU1c _) (by decide) (List.mem_cons_of_mem _ q_989) rfl) ?_
  refine rcons (ro_iconst (n := 1) (by decide +kernel) rfl rfl) ?_
  refine rcons (ro_iadd (by decide +kernel) rfl) ?_
  refine rcons (ro_putf (C := rN1) (T := rF1) (N := 7) (k := 5) (Y := rY1) (by decide +kernel) rfl (rU1c _) rY1_ok rD1 (by decide) (List.mem_cons_of_mem _ q_989) rfl (Or.inl ⟨rfl, rfl⟩) rfl) ?_
  refine rcons (ro_iload_n (k := 2) rfl (by decide +kernel) rfl) ?_
  refine rcons (ro_iret (by decide +kernel)) ?_
  exact rnil
def ps_d_isKept : List Nat := [0, 1, 2, 5, 6, 9, 12, 13, 16, 17, 18, 21, 22, 25, 26]
def tb_d_isKept : List RT := [tq_al 0, tq_il 1, tq_call s_d_isNoMark 1 0 0, tq_ic 1, tq_call (rV 1 m_d_start) 3 0 0, tq_if1 (fun x => !decide (x = 0)) 13, tq_al 0, tq_getf 1 4, tq_il 1, tq_iald 1, tq_s1 (fun x => decide (x = 0)) 1 0 14, tq_ic 1, tq_go 14, tq_ic 0, tq_zret 0]
def m_d_isKept : RM := rMeth tb_d_isKept 400 2
abbrev rm_d_isKept : Room := { frames := 2, cells := 0, slots := 0, locals := 44 }
set_option maxHeartbeats 4000000 in
set_option maxRecDepth 20000 in
theorem ok_d_isKept : rMet y_d_isKept (Cond.code y_d_isKept prog_4_method_64_code 2 (some .boolean) :: rT) rm_d_isKept 0 m_d_isKept := by
  refine rMeth_ok (ps := ps_d_isKept) (tab := tb_d_isKept) (by decide +kernel) rfl rfl rfl rfl ?_
  refine rcons (ro_aload_n (k := 0) rfl (by decide +kernel) rfl) ?_
  refine rcons (ro_iload_n (k := 1) rfl (by decide +kernel) rfl) ?_
  refine rcons (ro_callS okS_d_isNoMark (by decide +kernel) rfl (fun s args ht => va_cwS 1 ht (rgoodS (fun w h => List.mem_cons_of_mem _ h) q_1241 q_1242 q_14 q_1243) rfl rfl rfl hy_d_isNoMark ⟨Nat.le_of_ble_eq_true rfl, Nat.le_of_ble_eq_true rfl⟩) rfl) ?_
  refine rcons (ro_iconst (n := 1) (by decide +kernel) rfl rfl) ?_
  refine rcons (ro_callV (C := rN1) (T := rF1) (N := 7) rfl ok_d_start (by decide +kernel) rfl (fun s args ht => cwV (C := rN1) 2 ht (rgoodV (C := rN1) (fun w h => List.mem_cons_of_mem _ h) q_1013 q_1015 q_8 q_14 q_1016) rfl rfl rfl hv_d_start ⟨Nat.le_of_ble_eq_true rfl, Nat.le_of_ble_eq_true rfl⟩) rfl) ?_
  refine rcons (ro_if_ne (off := 16) (by decide +kernel) rfl rfl) ?_
  refine rcons (ro_aload_n (k := 0) rfl (by decide +kernel) rfl) ?_
  refine rcons (ro_getf (C := rN1) (T := rF1) (N := 7) (k := 4) (by decide +kernel) rfl (rU1c _) (by decide) (List.mem_cons_of_mem _ q_988) rfl) ?_
  refine rcons (ro_iload_n (k := 1) rfl (by decide +kernel) rfl) ?_
  refine rcons (ro_zald (by decide +kernel) rfl) ?_
  refine rcons (ro_s1_eq (off := 7) (off2 := 4) (n1 := 1) (n2 := 0) (by decide +kernel) (by decide +kernel) rfl (by decide +kernel) (by decide +kernel) rfl rfl rfl rfl) ?_
  refine rcons (ro_iconst (n := 1) (by decide +kernel) rfl rfl) ?_
  refine rcons (ro_goto (off := 4) (by decide +kernel) rfl) ?_
  refine rcons (ro_iconst (n := 0) (by decide +kernel) rfl rfl) ?_
  refine rcons (ro_zret (by decide +kernel)) ?_
  exact rnil
def ps_d_acts : List Nat := [0, 1, 2, 5, 6, 9]
def tb_d_acts : List RT := [tq_al 0, tq_ic 0, tq_putf 1 0 0, tq_al 0, tq_getf 1 5, tq_iret 0]
def m_d_acts : RM := rMeth tb_d_acts 400 1
abbrev rm_d_acts : Room := { frames := 0, cells := 0, slots := 0, locals := 0 }
set_option maxHeartbeats 4000000 in
set_option maxRecDepth 20000 in
theorem ok_d_acts : rMet y_d_acts (Cond.code y_d_acts prog_4_method_67_code 1 (some .int) :: rT) rm_d_acts 0 m_d_acts := by
  refine rMeth_ok (ps := ps_d_acts) (tab := tb_d_acts) (by decide +kernel) rfl rfl rfl rfl ?_
  refine rcons (ro_aload_n (k := 0) rfl (by decide +kernel) rfl) ?_
  refine rcons (ro_iconst (n := 0) (by decide +kernel) rfl rfl) ?_
  refine rcons (ro_putf (C := rN1) (T := rF1) (N := 7) (k := 0) (Y := rY1) (by decide +kernel) rfl (rU1c _) rY1_ok rD1 (by decide) (List.mem_cons_of_mem _ q_984) rfl (Or.inl ⟨rfl, rfl⟩) rfl) ?_
  refine rcons (ro_aload_n (k := 0) rfl (by decide +kernel) rfl) ?_
  refine rcons (ro_getf (C := rN1) (T := rF1) (N := 7) (k := 5) (by decide +kernel) rfl (rU1c _) (by decide) (List.mem_cons_of_mem _ q_989) rfl) ?_
  refine rcons (ro_iret (by decide +kernel)) ?_
  exact rnil
def ps_d_knock : List Nat := [0, 1, 2, 5, 6, 7, 10, 11, 12, 13, 16]
def tb_d_knock : List RT := [tq_al 0, tq_ic 0, tq_putf 1 0 0, tq_al 0, tq_dup, tq_getf 1 6, tq_ic 1, tq_i2 (fun x y => x + y), tq_dupx1, tq_putf 1 6 0, tq_iret 0]
def m_d_knock : RM := rMeth tb_d_knock 400 1
abbrev rm_d_knock : Room := { frames := 0, cells := 0, slots := 0, locals := 0 }
set_option maxHeartbeats 4000000 in
set_option maxRecDepth 20000 in
theorem ok_d_knock : rMet y_d_knock (Cond.code y_d_knock prog_4_method_68_code 1 (some .int) :: rT) rm_d_knock 0 m_d_knock := by
  refine rMeth_ok (ps := ps_d_knock) (tab := tb_d_knock) (by decide +kernel) rfl rfl rfl rfl ?_
  refine rcons (ro_aload_n (k := 0) rfl (by decide +kernel) rfl) ?_
  refine rcons (ro_iconst (n := 0) (by decide +kernel) rfl rfl) ?_
  refine rcons (ro_putf (C := rN1) (T := rF1) (N := 7) (k := 0) (Y := rY1) (by decide +kernel) rfl (rU1c _) rY1_ok rD1 (by decide) (List.mem_cons_of_mem _ q_984) rfl (Or.inl ⟨rfl, rfl⟩) rfl) ?_
  refine rcons (ro_aload_n (k := 0) rfl (by decide +kernel) rfl) ?_
  refine rcons (ro_dup (by decide +kernel) rfl) ?_
  refine rcons (ro_getf (C := rN1) (T := rF1) (N := 7) (k := 6) (by decide +kernel) rfl (rU1c _) (by decide) (List.mem_cons_of_mem _ q_990) rfl) ?_
  refine rcons (ro_iconst (n := 1) (by decide +kernel) rfl rfl) ?_
  refine rcons (ro_iadd (by decide +kernel) rfl) ?_
  refine rcons (ro_dupx1 (by decide +kernel) rfl) ?_
  refine rcons (ro_putf (C := rN1) (T := rF1) (N := 7) (k := 6) (Y := rY1) (by decide +kernel) rfl (rU1c _) rY1_ok rD1 (by decide) (List.mem_cons_of_mem _ q_990) rfl (Or.inl ⟨rfl, rfl⟩) rfl) ?_
  refine rcons (ro_iret (by decide +kernel)) ?_
  exact rnil
def ps_d_isSound : List Nat := [0, 1, 2, 5, 6]
def tb_d_isSound : List RT := [tq_al 0, tq_ic 0, tq_putf 1 0 0, tq_ic 1, tq_zret 0]
def m_d_isSound : RM := rMeth tb_d_isSound 400 1
abbrev rm_d_isSound : Room := { frames := 0, cells := 0, slots := 0, locals := 0 }
set_option maxHeartbeats 4000000 in
set_option maxRecDepth 20000 in
theorem ok_d_isSound : rMet y_d_isSound (Cond.code y_d_isSound prog_4_method_69_code 1 (some .boolean) :: rT) rm_d_isSound 0 m_d_isSound := by
  refine rMeth_ok (ps := ps_d_isSound) (tab := tb_d_isSound) (by decide +kernel) rfl rfl rfl rfl ?_
  refine rcons (ro_aload_n (k := 0) rfl (by decide +kernel) rfl) ?_
  refine rcons (ro_iconst (n := 0) (by decide +kernel) rfl rfl) ?_
  refine rcons (ro_putf (C := rN1) (T := rF1) (N := 7) (k := 0) (Y := rY1) (by decide +kernel) rfl (rU1c _) rY1_ok rD1 (by decide) (List.mem_cons_of_mem _ q_984) rfl (Or.inl ⟨rfl, rfl⟩) rfl) ?_
  refine rcons (ro_iconst (n := 1) (by decide +kernel) rfl rfl) ?_
  refine rcons (ro_zret (by decide +kernel)) ?_
  exact rnil
def ps_d_add__JJ_J : List Nat := [0, 1, 4, 5, 6, 7]
def tb_d_add__JJ_J : List RT := [tq_ll 0, tq_lc 31, tq_l2 (fun x y => x * y), tq_ll 2, tq_l2 (fun x y => x + y), tq_lret 0]
def m_d_add__JJ_J : RM := rMeth tb_d_add__JJ_J 400 4
abbrev rm_d_add__JJ_J : Room := { frames := 0, cells := 0, slots := 0, locals := 0 }
set_option maxHeartbeats 4000000 in
set_option maxRecDepth 20000 in
theorem ok_d_add__JJ_J : rMet y_d_add__JJ_J (Cond.code y_d_add__JJ_J prog_4_method_70_code 4 (some .long) :: rT) rm_d_add__JJ_J 0 m_d_add__JJ_J := by
  refine rMeth_ok (ps := ps_d_add__JJ_J) (tab := tb_d_add__JJ_J) (by decide +kernel) rfl rfl rfl rfl ?_
  refine rcons (ro_lload_n (k := 0) rfl (by decide +kernel) rfl) ?_
  refine rcons (ro_ldc2 (by decide +kernel) (List.mem_cons_of_mem _ q_1285) rfl) ?_
  refine rcons (ro_lmul (by decide +kernel) rfl) ?_
  refine rcons (ro_lload_n (k := 2) rfl (by decide +kernel) rfl) ?_
  refine rcons (ro_ladd (by decide +kernel) rfl) ?_
  refine rcons (ro_lret (by decide +kernel)) ?_
  exact rnil
end RKM
