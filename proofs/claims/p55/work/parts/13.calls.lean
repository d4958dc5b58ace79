section RKM
def ps_w_day : List Nat := [0, 1, 2, 3, 4, 7, 8, 11, 14, 16, 17, 18, 20, 21, 22, 23]
def tb_w_day : List RT := [tq_al 3, tq_al 0, tq_il 1, tq_il 2, tq_callH (rV 0 m_c_day) 3 3 3 [(0, 8), (1, 11)], tq_i2l, tq_putf 2 0 1, tq_go 14, tq_as 5 4, tq_ic 1, tq_iret 3, tq_as 5 4, tq_ic 2, tq_iret 3, tq_ic 0, tq_iret 3]
def m_w_day : RM := rMeth tb_w_day 400 5
abbrev rm_w_day : Room := { frames := 10, cells := 3, slots := 36, locals := 182 }
set_option maxHeartbeats 4000000 in
set_option maxRecDepth 20000 in
theorem ok_w_day : rMet y_w_day (Cond.codeWith y_w_day method_2_code 5 (some .int) [(0, 11, 14, 19), (0, 11, 18, 21)] :: rT) rm_w_day 3 m_w_day := by
  refine rMeth_okH (ps := ps_w_day) (tab := tb_w_day) (by decide) rfl rfl rfl rfl ?_
  refine rcons (ro_aload_n (k := 3) rfl (by decide +kernel) rfl) ?_
  refine rcons (ro_aload_n (k := 0) rfl (by decide +kernel) rfl) ?_
  refine rcons (ro_iload_n (k := 1) rfl (by decide +kernel) rfl) ?_
  refine rcons (ro_iload_n (k := 2) rfl (by decide +kernel) rfl) ?_
  refine rcons (ro_callVH (C := rN0) (T := rF0) (N := 7) rfl ok_c_day (by decide +kernel) ⟨⟨by decide, by decide, List.mem_cons_of_mem _ q_586, rfl⟩, ⟨⟨by decide, by decide, List.mem_cons_of_mem _ q_587, rfl⟩, trivial⟩⟩ (by decide) (fun s args ht => cwV (C := rN0) 2 ht (rgoodV (C := rN0) (fun w h => List.mem_cons_of_mem _ h) q_588 q_589 q_590 q_13 q_591) rfl rfl rfl hv_c_day ⟨Nat.le_of_ble_eq_true rfl, Nat.le_of_ble_eq_true rfl⟩) rfl) ?_
  refine rcons (ro_i2l (by decide +kernel) rfl) ?_
  refine rcons (ro_putfN (C := rN2) (T := rF2) (N := 2) (k := 0) (Y := rY2) (host := "RingdaysLaw") (by decide +kernel) rfl (rU2c _) rY2_ok rD2 (by decide) rh15 rfl (Or.inr (Or.inl ⟨rfl, rfl⟩)) rfl) ?_
  refine rcons (ro_goto (off := 11) (by decide +kernel) rfl) ?_
  refine rcons (ro_astore (by decide +kernel) rfl) ?_
  refine rcons (ro_iconst (n := 1) (by decide +kernel) rfl rfl) ?_
  refine rcons (ro_iret (by decide +kernel)) ?_
  refine rcons (ro_astore (by decide +kernel) rfl) ?_
  refine rcons (ro_iconst (n := 2) (by decide +kernel) rfl rfl) ?_
  refine rcons (ro_iret (by decide +kernel)) ?_
  refine rcons (ro_iconst (n := 0) (by decide +kernel) rfl rfl) ?_
  refine rcons (ro_iret (by decide +kernel)) ?_
  exact rnil
def ps_w_dayNumber : List Nat := [0, 1, 2, 3, 6, 7, 10, 13, 14, 15, 16, 17]
def tb_w_dayNumber : List RT := [tq_al 2, tq_al 0, tq_il 1, tq_callH (rV 0 m_c_dayNumber) 2 1 1 [(0, 7)], tq_i2l, tq_putf 2 0 1, tq_go 10, tq_as 4 3, tq_ic 1, tq_iret 1, tq_ic 0, tq_iret 1]
def m_w_dayNumber : RM := rMeth tb_w_dayNumber 400 4
abbrev rm_w_dayNumber : Room := { frames := 8, cells := 1, slots := 12, locals := 132 }
set_option maxHeartbeats 4000000 in
set_option maxRecDepth 20000 in
theorem ok_w_dayNumber : rMet y_w_dayNumber (Cond.codeWith y_w_dayNumber method_3_code 4 (some .int) [(0, 10, 13, 19)] :: rT) rm_w_dayNumber 1 m_w_dayNumber := by
  refine rMeth_okH (ps := ps_w_dayNumber) (tab := tb_w_dayNumber) (by decide) rfl rfl rfl rfl ?_
  refine rcons (ro_aload_n (k := 2) rfl (by decide +kernel) rfl) ?_
  refine rcons (ro_aload_n (k := 0) rfl (by decide +kernel) rfl) ?_
  refine rcons (ro_iload_n (k := 1) rfl (by decide +kernel) rfl) ?_
  refine rcons (ro_callVH (C := rN0) (T := rF0) (N := 7) rfl ok_c_dayNumber (by decide +kernel) ⟨⟨by decide, by decide, List.mem_cons_of_mem _ q_586, rfl⟩, trivial⟩ (by decide) (fun s args ht => cwV (C := rN0) 1 ht (rgoodV (C := rN0) (fun w h => List.mem_cons_of_mem _ h) q_612 q_613 q_614 q_13 q_615) rfl rfl rfl hv_c_dayNumber ⟨Nat.le_of_ble_eq_true rfl, Nat.le_of_ble_eq_true rfl⟩) rfl) ?_
  refine rcons (ro_i2l (by decide +kernel) rfl) ?_
  refine rcons (ro_putfN (C := rN2) (T := rF2) (N := 2) (k := 0) (Y := rY2) (host := "RingdaysLaw") (by decide +kernel) rfl (rU2c _) rY2_ok rD2 (by decide) rh15 rfl (Or.inr (Or.inl ⟨rfl, rfl⟩)) rfl) ?_
  refine rcons (ro_goto (off := 6) (by decide +kernel) rfl) ?_
  refine rcons (ro_astore_n (k := 3) rfl (by decide +kernel) rfl) ?_
  refine rcons (ro_iconst (n := 1) (by decide +kernel) rfl rfl) ?_
  refine rcons (ro_iret (by decide +kernel)) ?_
  refine rcons (ro_iconst (n := 0) (by decide +kernel) rfl rfl) ?_
  refine rcons (ro_iret (by decide +kernel)) ?_
  exact rnil
def ps_w_dayPlace : List Nat := [0, 1, 2, 3, 6, 7, 10, 13, 14, 15, 16, 17]
def tb_w_dayPlace : List RT := [tq_al 2, tq_al 0, tq_il 1, tq_callH (rV 0 m_c_dayPlace) 2 1 1 [(0, 7)], tq_i2l, tq_putf 2 0 1, tq_go 10, tq_as 4 3, tq_ic 1, tq_iret 1, tq_ic 0, tq_iret 1]
def m_w_dayPlace : RM := rMeth tb_w_dayPlace 400 4
abbrev rm_w_dayPlace : Room := { frames := 8, cells := 1, slots := 12, locals := 132 }
set_option maxHeartbeats 4000000 in
set_option maxRecDepth 20000 in
theorem ok_w_dayPlace : rMet y_w_dayPlace (Cond.codeWith y_w_dayPlace method_4_code 4 (some .int) [(0, 10, 13, 19)] :: rT) rm_w_dayPlace 1 m_w_dayPlace := by
  refine rMeth_okH (ps := ps_w_dayPlace) (tab := tb_w_dayPlace) (by decide) rfl rfl rfl rfl ?_
  refine rcons (ro_aload_n (k := 2) rfl (by decide +kernel) rfl) ?_
  refine rcons (ro_aload_n (k := 0) rfl (by decide +kernel) rfl) ?_
  refine rcons (ro_iload_n (k := 1) rfl (by decide +kernel) rfl) ?_
  refine rcons (ro_callVH (C := rN0) (T := rF0) (N := 7) rfl ok_c_dayPlace (by decide +kernel) ⟨⟨by decide, by decide, List.mem_cons_of_mem _ q_586, rfl⟩, trivial⟩ (by decide) (fun s args ht => cwV (C := rN0) 1 ht (rgoodV (C := rN0) (fun w h => List.mem_cons_of_mem _ h) q_619 q_620 q_621 q_13 q_622) rfl rfl rfl hv_c_dayPlace ⟨Nat.le_of_ble_eq_true rfl, Nat.le_of_ble_eq_true rfl⟩) rfl) ?_
  refine rcons (ro_i2l (by decide +kernel) rfl) ?_
  refine rcons (ro_putfN (C := rN2) (T := rF2) (N := 2) (k := 0) (Y := rY2) (host := "RingdaysLaw") (by decide +kernel) rfl (rU2c _) rY2_ok rD2 (by decide) rh15 rfl (Or.inr (Or.inl ⟨rfl, rfl⟩)) rfl) ?_
  refine rcons (ro_goto (off := 6) (by decide +kernel) rfl) ?_
  refine rcons (ro_astore_n (k := 3) rfl (by decide +kernel) rfl) ?_
  refine rcons (ro_iconst (n := 1) (by decide +kernel) rfl rfl) ?_
  refine rcons (ro_iret (by decide +kernel)) ?_
  refine rcons (ro_iconst (n := 0) (by decide +kernel) rfl rfl) ?_
  refine rcons (ro_iret (by decide +kernel)) ?_
  exact rnil
def ps_w_dayName : List Nat := [0, 1, 2, 3, 6, 9, 12, 13, 14, 15, 16]
def tb_w_dayName : List RT := [tq_al 2, tq_al 0, tq_il 1, tq_callH (rV 0 m_c_dayName) 2 1 1 [(0, 6)], tq_putfO 2 1, tq_go 9, tq_as 4 3, tq_ic 1, tq_iret 1, tq_ic 0, tq_iret 1]
def m_w_dayName : RM := rMeth tb_w_dayName 400 4
abbrev rm_w_dayName : Room := { frames := 8, cells := 1, slots := 12, locals := 132 }
set_option maxHeartbeats 4000000 in
set_option maxRecDepth 20000 in
theorem ok_w_dayName : rMet y_w_dayName (Cond.codeWith y_w_dayName method_5_code 4 (some .int) [(0, 9, 12, 19)] :: rT) rm_w_dayName 1 m_w_dayName := by
  refine rMeth_okH (ps := ps_w_dayName) (tab := tb_w_dayName) (by decide) rfl rfl rfl rfl ?_
  refine rcons (ro_aload_n (k := 2) rfl (by decide +kernel) rfl) ?_
  refine rcons (ro_aload_n (k := 0) rfl (by decide +kernel) rfl) ?_
  refine rcons (ro_iload_n (k := 1) rfl (by decide +kernel) rfl) ?_
  refine rcons (ro_callVH (C := rN0) (T := rF0) (N := 7) rfl ok_c_dayName (by decide +kernel) ⟨⟨by decide, by decide, List.mem_cons_of_mem _ q_586, rfl⟩, trivial⟩ (by decide) (fun s args ht => cwV (C := rN0) 1 ht (rgoodV (C := rN0) (fun w h => List.mem_cons_of_mem _ h) q_626 q_627 q_628 q_13 q_629) rfl rfl rfl hv_c_dayName ⟨Nat.le_of_ble_eq_true rfl, Nat.le_of_ble_eq_true rfl⟩) rfl) ?_
  refine rcons (ro_putfO (ro_putfN (C := rN2) (T := rF2) (N := 2) (k := 1) (Y := rY2) (host := "RingdaysLaw") (by decide +kernel) rfl (rU2c _) rY2_ok rD2 (by decide) rh16 rfl (Or.inr (Or.inr ⟨rfl, _, rfl⟩)) rfl)) ?_
  refine rcons (ro_goto (off := 6) (by decide +kernel) rfl) ?_
  refine rcons (ro_astore_n (k := 3) rfl (by decide +kernel) rfl) ?_
  refine rcons (ro_iconst (n := 1) (by decide +kernel) rfl rfl) ?_
  refine rcons (ro_iret (by decide +kernel)) ?_
  refine rcons (ro_iconst (n := 0) (by decide +kernel) rfl rfl) ?_
  refine rcons (ro_iret (by decide +kernel)) ?_
  exact rnil
def ps_w_dayOn : List Nat := [0, 1, 2, 3, 4, 7, 8, 11, 14, 16, 17, 18, 19]
def tb_w_dayOn : List RT := [tq_al 3, tq_al 0, tq_il 1, tq_il 2, tq_callH (rV 0 m_c_dayOn) 3 2 2 [(0, 8)], tq_i2l, tq_putf 2 0 1, tq_go 11, tq_as 5 4, tq_ic 1, tq_iret 2, tq_ic 0, tq_iret 2]
def m_w_dayOn : RM := rMeth tb_w_dayOn 400 5
abbrev rm_w_dayOn : Room := { frames := 9, cells := 2, slots := 24, locals := 157 }
set_option maxHeartbeats 4000000 in
set_option maxRecDepth 20000 in
theorem ok_w_dayOn : rMet y_w_dayOn (Cond.codeWith y_w_dayOn method_6_code 5 (some .int) [(0, 11, 14, 19)] :: rT) rm_w_dayOn 2 m_w_dayOn := by
  refine rMeth_okH (ps := ps_w_dayOn) (tab := tb_w_dayOn) (by decide) rfl rfl rfl rfl ?_
  refine rcons (ro_aload_n (k := 3) rfl (by decide +kernel) rfl) ?_
  refine rcons (ro_aload_n (k := 0) rfl (by decide +kernel) rfl) ?_
  refine rcons (ro_iload_n (k := 1) rfl (by decide +kernel) rfl) ?_
  refine rcons (ro_iload_n (k := 2) rfl (by decide +kernel) rfl) ?_
  refine rcons (ro_callVH (C := rN0) (T := rF0) (N := 7) rfl ok_c_dayOn (by decide +kernel) ⟨⟨by decide, by decide, List.mem_cons_of_mem _ q_586, rfl⟩, trivial⟩ (by decide) (fun s args ht => cwV (C := rN0) 2 ht (rgoodV (C := rN0) (fun w h => List.mem_cons_of_mem _ h) q_633 q_634 q_635 q_13 q_636) rfl rfl rfl hv_c_dayOn ⟨Nat.le_of_ble_eq_true rfl, Nat.le_of_ble_eq_true rfl⟩) rfl) ?_
  refine rcons (ro_i2l (by decide +kernel) rfl) ?_
  refine rcons (ro_putfN (C := rN2) (T := rF2) (N := 2) (k := 0) (Y := rY2) (host := "RingdaysLaw") (by decide +kernel) rfl (rU2c _) rY2_ok rD2 (by decide) rh15 rfl (Or.inr (Or.inl ⟨rfl, rfl⟩)) rfl) ?_
  refine rcons (ro_goto (off := 7) (by decide +kernel) rfl) ?_
  refine rcons (ro_astore (by decide +kernel) rfl) ?_
  refine rcons (ro_iconst (n := 1) (by decide +kernel) rfl rfl) ?_
  refine rcons (ro_iret (by decide +kernel)) ?_
  refine rcons (ro_iconst (n := 0) (by decide +kernel) rfl rfl) ?_
  refine rcons (ro_iret (by decide +kernel)) ?_
  exact rnil
def ps_w_dayBack : List Nat := [0, 1, 2, 3, 4, 7, 8, 11, 14, 16, 17, 18, 19]
def tb_w_dayBack : List RT := [tq_al 3, tq_al 0, tq_il 1, tq_il 2, tq_callH (rV 0 m_c_dayBack) 3 2 2 [(0, 8)], tq_i2l, tq_putf 2 0 1, tq_go 11, tq_as 5 4, tq_ic 1, tq_iret 2, tq_ic 0, tq_iret 2]
def m_w_dayBack : RM := rMeth tb_w_dayBack 400 5
abbrev rm_w_dayBack : Room := { frames := 9, cells := 2, slots := 24, locals := 157 }
set_option maxHeartbeats 4000000 in
set_option maxRecDepth 20000 in
theorem ok_w_dayBack : rMet y_w_dayBack (Cond.codeWith y_w_dayBack method_7_code 5 (some .int) [(0, 11, 14, 19)] :: rT) rm_w_dayBack 2 m_w_dayBack := by
  refine rMeth_okH (ps := ps_w_dayBack) (tab := tb_w_dayBack) (by decide) rfl rfl rfl rfl ?_
  refine rcons (ro_aload_n (k := 3) rfl (by decide +kernel) rfl) ?_
  refine rcons (ro_aload_n (k := 0) rfl (by decide +kernel) rfl) ?_
  refine rcons (ro_iload_n (k := 1) rfl (by decide +kernel) rfl) ?_
  refine rcons (ro_iload_n (k := 2) rfl (by decide +kernel) rfl) ?_
  refine rcons (ro_callVH (C := rN0) (T := rF0) (N := 7) rfl ok_c_dayBack (by decide +kernel) ⟨⟨by decide, by decide, List.mem_cons_of_mem _ q_586, rfl⟩, trivial⟩ (by decide) (fun s args ht => cwV (C := rN0) 2 ht (rgoodV (C := rN0) (fun w h => List.mem_cons_of_mem _ h) q_644 q_645 q_646 q_13 q_647) rfl rfl rfl hv_c_dayBack ⟨Nat.le_of_ble_eq_true rfl, Nat.le_of_ble_eq_true rfl⟩) rfl) ?_
  refine rcons (ro_i2l (by decide +kernel) rfl) ?_
  refine rcons (ro_putfN (C := rN2) (T := rF2) (N := 2) (k := 0) (Y := rY2) (host := "RingdaysLaw") (by decide +kernel) rfl (rU2c _) rY2_ok rD2 (by decide) rh15 rfl (Or.inr (Or.inl ⟨rfl, rfl⟩)) rfl) ?_
  refine rcons (ro_goto (off := 7) (by decide +kernel) rfl) ?_
  refine rcons (ro_astore (by decide +kernel) rfl) ?_
  refine rcons (ro_iconst (n := 1) (by decide +kernel) rfl rfl) ?_
  refine rcons (ro_iret (by decide +kernel)) ?_
  refine rcons (ro_iconst (n := 0) (by decide +kernel) rfl rfl) ?_
  refine rcons (ro_iret (by decide +kernel)) ?_
  exact rnil
def ps_w_dayOnFar : List Nat := [0, 2, 3, 4, 5, 6, 9, 10, 13, 16, 18, 19, 20, 21]
def tb_w_dayOnFar : List RT := [tq_al 4, tq_al 0, tq_il 1, tq_il 2, tq_il 3, tq_callH (rV 0 m_c_dayOnFar) 4 2 2 [(0, 9)], tq_i2l, tq_putf 2 0 1, tq_go 12, tq_as 6 5, tq_ic 1, tq_iret 2, tq_ic 0, tq_iret 2]
def m_w_dayOnFar : RM := rMeth tb_w_dayOnFar 400 6
abbrev rm_w_dayOnFar : Room := { frames := 9, cells := 2, slots := 24, locals := 161 }
set_option maxHeartbeats 4000000 in
set_option maxRecDepth 20000 in
theorem ok_w_dayOnFar : rMet y_w_dayOnFar (Cond.codeWith y_w_dayOnFar method_8_code 6 (some .int) [(0, 13, 16, 19)] :: rT) rm_w_dayOnFar 2 m_w_dayOnFar := by
  refine rMeth_okH (ps := ps_w_dayOnFar) (tab := tb_w_dayOnFar) (by decide) rfl rfl rfl rfl ?_
  refine rcons (ro_aload (by decide +kernel) rfl) ?_
  refine rcons (ro_aload_n (k := 0) rfl (by decide +kernel) rfl) ?_
  refine rcons (ro_iload_n (k := 1) rfl (by decide +kernel) rfl) ?_
  refine rcons (ro_iload_n (k := 2) rfl (by decide +kernel) rfl) ?_
  refine rcons (ro_iload_n (k := 3) rfl (by decide +kernel) rfl) ?_
  refine rcons (ro_callVH (C := rN0) (T := rF0) (N := 7) rfl ok_c_dayOnFar (by decide +kernel) ⟨⟨by decide, by decide, List.mem_cons_of_mem _ q_586, rfl⟩, trivial⟩ (by decide) (fun s args ht => cwV (C := rN0) 3 ht (rgoodV (C := rN0) (fun w h => List.mem_cons_of_mem _ h) q_655 q_656 q_657 q_13 q_658) rfl rfl rfl hv_c_dayOnFar ⟨Nat.le_of_ble_eq_true rfl, Nat.le_of_ble_eq_true rfl⟩) rfl) ?_
  refine rcons (ro_i2l (by decide +kernel) rfl) ?_
  refine rcons (ro_putfN (C := rN2) (T := rF2) (N := 2) (k := 0) (Y := rY2) (host := "RingdaysLaw") (by decide +kernel) rfl (rU2c _) rY2_ok rD2 (by decide) rh15 rfl (Or.inr (Or.inl ⟨rfl, rfl⟩)) rfl) ?_
  refine rcons (ro_goto (off := 7) (by decide +kernel) rfl) ?_
  refine rcons (ro_astore (by decide +kernel) rfl) ?_
  refine rcons (ro_iconst (n := 1) (by decide +kernel) rfl rfl) ?_
  refine rcons (ro_iret (by decide +kernel)) ?_
  refine rcons (ro_iconst (n := 0) (by decide +kernel) rfl rfl) ?_
  refine rcons (ro_iret (by decide +kernel)) ?_
  exact rnil
def ps_w_dayBackFar : List Nat := [0, 2, 3, 4, 5, 6, 9, 10, 13, 16, 18, 19, 20, 21]
def tb_w_dayBackFar : List RT := [tq_al 4, tq_al 0, tq_il 1, tq_il 2, tq_il 3, tq_callH (rV 0 m_c_dayBackFar) 4 2 2 [(0, 9)], tq_i2l, tq_putf 2 0 1, tq_go 12, tq_as 6 5, tq_ic 1, tq_iret 2, tq_ic 0, tq_iret 2]
def m_w_dayBackFar : RM := rMeth tb_w_dayBackFar 400 6
abbrev rm_w_dayBackFar : Room := { frames := 9, cells := 2, slots := 24, locals := 161 }
set_option maxHeartbeats 4000000 in
set_option maxRecDepth 20000 in
theorem ok_w_dayBackFar : rMet y_w_dayBackFar (Cond.codeWith y_w_dayBackFar method_9_code 6 (some .int) [(0, 13, 16, 19)] :: rT) rm_w_dayBackFar 2 m_w_dayBackFar := by
  refine rMeth_okH (ps := ps_w_dayBackFar) (tab := tb_w_dayBackFar) (by decide) rfl rfl rfl rfl ?_
  refine rcons (ro_aload (by decide +kernel) rfl) ?_
  refine rcons (ro_aload_n (k := 0) rfl (by decide +kernel) rfl) ?_
  refine rcons (ro_iload_n (k := 1) rfl (by decide +kernel) rfl) ?_
  refine rcons (ro_iload_n (k := 2) rfl (by decide +kernel) rfl) ?_
  refine rcons (ro_iload_n (k := 3) rfl (by decide +kernel) rfl) ?_
  refine rcons (ro_callVH (C := rN0) (T := rF0) (N := 7) rfl ok_c_dayBackFar (by decide +kernel) ⟨⟨by decide, by decide, List.mem_cons_of_mem _ q_586, rfl⟩, trivial⟩ (by decide) (fun s args ht => cwV (C := rN0) 3 ht (rgoodV (C := rN0) (fun w h => List.mem_cons_of_mem _ h) q_670 q_671 q_672 q_13 q_673) rfl rfl rfl hv_c_dayBackFar ⟨Nat.le_of_ble_eq_true rfl, Nat.le_of_ble_eq_true rfl⟩) rfl) ?_
  refine rcons (ro_i2l (by decide +kernel) rfl) ?_
  refine rcons (ro_putfN (C := rN2) (T := rF2) (N := 2) (k := 0) (Y := rY2) (host := "RingdaysLaw") (by decide +kernel) rfl (rU2c _) rY2_ok rD2 (by decide) rh15 rfl (Or.inr (Or.inl ⟨rfl, rfl⟩)) rfl) ?_
  refine rcons (ro_goto (off := 7) (by decide +kernel) rfl) ?_
  refine rcons (ro_astore (by decide +kernel) rfl) ?_
  refine rcons (ro_iconst (n := 1) (by decide +kernel) rfl rfl) ?_
  refine rcons (ro_iret (by decide +kernel)) ?_
  refine rcons (ro_iconst (n := 0) (by decide +kernel) rfl rfl) ?_
  refine rcons (ro_iret (by decide +kernel)) ?_
  exact rnil
def ps_w_dayAt : List Nat := [0, 1, 2, 3, 4, 7, 8, 11, 14, 16, 17, 18, 19]
def tb_w_dayAt : List RT := [tq_al 3, tq_al 0, tq_il 1, tq_il 2, tq_callH (rV 0 m_c_dayAt) 3 1 1 [(0, 8)], tq_i2l, tq_putf 2 0 1, tq_go 11, tq_as 5 4, tq_ic 1, tq_iret 1, tq_ic 0, tq_iret 1]
def m_w_dayAt : RM := rMeth tb_w_dayAt 400 5
abbrev rm_w_dayAt : Room := { frames := 8, cells := 1, slots := 12, locals := 133 }
set_option maxHeartbeats 4000000 in
set_option maxRecDepth 20000 in
theorem ok_w_dayAt : rMet y_w_dayAt (Cond.codeWith y_w_dayAt method_10_code 5 (some .int) [(0, 11, 14, 19)] :: rT) rm_w_dayAt 1 m_w_dayAt := by
  refine rMeth_okH (ps := ps_w_dayAt) (tab := tb_w_dayAt) (by decide) rfl rfl rfl rfl ?_
  refine rcons (ro_aload_n (k := 3) rfl (by decide +kernel) rfl) ?_
  refine rcons (ro_aload_n (k := 0) rfl (by decide +kernel) rfl) ?_
  refine rcons (ro_iload_n (k := 1) rfl (by decide +kernel) rfl) ?_
  refine rcons (ro_iload_n (k := 2) rfl (by decide +kernel) rfl) ?_
  refine rcons (ro_callVH (C := rN0) (T := rF0) (N := 7) rfl ok_c_dayAt (by decide +kernel) ⟨⟨by decide, by decide, List.mem_cons_of_mem _ q_586, rfl⟩, trivial⟩ (by decide) (fun s args ht => cwV (C := rN0) 2 ht (rgoodV (C := rN0) (fun w h => List.mem_cons_of_mem _ h) q_677 q_638 q_639 q_13 q_640) rfl rfl rfl hv_c_dayAt ⟨Nat.le_of_ble_eq_true rfl, Nat.le_of_ble_eq_true rfl⟩) rfl) ?_
  refine rcons (ro_i2l (by decide +kernel) rfl) ?_
  refine rcons (ro_putfN (C := rN2) (T := rF2) (N := 2) (k := 0) (Y := rY2) (host := "RingdaysLaw") (by decide +kernel) rfl (rU2c _) rY2_ok rD2 (by decide) rh15 rfl (Or.inr (Or.inl ⟨rfl, rfl⟩)) rfl) ?_
  refine rcons (ro_goto (off := 7) (by decide +kernel) rfl) ?_
  refine rcons (ro_astore (by decide +kernel) rfl) ?_
  refine rcons (ro_iconst (n := 1) (by decide +kernel) rfl rfl) ?_
  refine rcons (ro_iret (by decide +kernel)) ?_
  refine rcons (ro_iconst (n := 0) (by decide +kernel) rfl rfl) ?_
  refine rcons (ro_iret (by decide +kernel)) ?_
  exact rnil
def ps_w_dayAhead : List Nat := [0, 1, 2, 3, 4, 7, 8, 11, 14, 16, 17, 18, 19]
def tb_w_dayAhead : List RT := [tq_al 3, tq_al 0, tq_il 1, tq_il 2, tq_callH (rV 0 m_c_dayAhead) 3 1 1 [(0, 8)], tq_i2l, tq_putf 2 0 1, tq_go 11, tq_as 5 4, tq_ic 1, tq_iret 1, tq_ic 0, tq_iret 1]
def m_w_dayAhead : RM := rMeth tb_w_dayAhead 400 5
abbrev rm_w_dayAhead : Room := { frames := 8, cells := 1, slots := 12, locals := 133 }
set_option maxHeartbeats 4000000 in
set_option maxRecDepth 20000 in
theorem ok_w_dayAhead : rMet y_w_dayAhead (Cond.codeWith y_w_dayAhead method_11_code 5 (some .int) [(0, 11, 14, 19)] :: rT) rm_w_dayAhead 1 m_w_dayAhead := by
  refine rMeth_okH (ps := ps_w_dayAhead) (tab := tb_w_dayAhead) (by decide) rfl rfl rfl rfl ?_
  refine rcons (ro_aload_n (k := 3) rfl (by decide +kernel) rfl) ?_
  refine rcons (ro_aload_n (k := 0) rfl (by decide +kernel) rfl) ?_
  refine rcons (ro_iload_n (k := 1) rfl (by decide +kernel) rfl) ?_
  refine rcons (ro_iload_n (k := 2) rfl (by decide +kernel) rfl) ?_
  refine rcons (ro_callVH (C := rN0) (T := rF0) (N := 7) rfl ok_c_dayAhead (by decide +kernel) ⟨⟨by decide, by decide, List.mem_cons_of_mem _ q_586, rfl⟩, trivial⟩ (by decide) (fun s args ht => cwV (C := rN0) 2 ht (rgoodV (C := rN0) (fun w h => List.mem_cons_of_mem _ h) q_681 q_649 q_650 q_13 q_651) rfl rfl rfl hv_c_dayAhead ⟨Nat.le_of_ble_eq_true rfl, Nat.le_of_ble_eq_true rfl⟩) rfl) ?_
  refine rcons (ro_i2l (by decide +kernel) rfl) ?_
  refine rcons (ro_putfN (C := rN2) (T := rF2) (N := 2) (k := 0) (Y := rY2) (host := "RingdaysLaw") (by decide +kernel) rfl (rU2c _) rY2_ok rD2 (by decide) rh15 rfl (Or.inr (Or.inl ⟨rfl, rfl⟩)) rfl) ?_
  refine rcons (ro_goto (off := 7) (by decide +kernel) rfl) ?_
  refine rcons (ro_astore (by decide +kernel) rfl) ?_
  refine rcons (ro_iconst (n := 1) (by decide +kernel) rfl rfl) ?_
  refine rcons (ro_iret (by decide +kernel)) ?_
  refine rcons (ro_iconst (n := 0) (by decide +kernel) rfl rfl) ?_
  refine rcons (ro_iret (by decide +kernel)) ?_
  exact rnil
def ps_w_dayAtFar : List Nat := [0, 2, 3, 4, 5, 6, 8, 11, 12, 15, 18, 20, 21, 22, 23]
def tb_w_dayAtFar : List RT := [tq_al 5, tq_al 0, tq_il 1, tq_il 2, tq_il 3, tq_il 4, tq_callH (rV 0 m_c_dayAtFar) 5 1 1 [(0, 10)], tq_i2l, tq_putf 2 0 1, tq_go 13, tq_as 7 6, tq_ic 1, tq_iret 1, tq_ic 0, tq_iret 1]
def m_w_dayAtFar : RM := rMeth tb_w_dayAtFar 400 7
abbrev rm_w_dayAtFar : Room := { frames := 8, cells := 1, slots := 12, locals := 138 }
set_option maxHeartbeats 4000000 in
set_option maxRecDepth 20000 in
theorem ok_w_dayAtFar : rMet y_w_dayAtFar (Cond.codeWith y_w_dayAtFar method_12_code 7 (some .int) [(0, 15, 18, 19)] :: rT) rm_w_dayAtFar 1 m_w_dayAtFar := by
  refine rMeth_okH (ps := ps_w_dayAtFar) (tab := tb_w_dayAtFar) (by decide) rfl rfl rfl rfl ?_
  refine rcons (ro_aload (by decide +kernel) rfl) ?_
  refine rcons (ro_aload_n (k := 0) rfl (by decide +kernel) rfl) ?_
  refine rcons (ro_iload_n (k := 1) rfl (by decide +kernel) rfl) ?_
  refine rcons (ro_iload_n (k := 2) rfl (by decide +kernel) rfl) ?_
  refine rcons (ro_iload_n (k := 3) rfl (by decide +kernel) rfl) ?_
  refine rcons (ro_iload (by decide +kernel) rfl) ?_
  refine rcons (ro_callVH (C := rN0) (T := rF0) (N := 7) rfl ok_c_dayAtFar (by decide +kernel) ⟨⟨by decide, by decide, List.mem_cons_of_mem _ q_586, rfl⟩, trivial⟩ (by decide) (fun s args ht => cwV (C := rN0) 4 ht (rgoodV (C := rN0) (fun w h => List.mem_cons_of_mem _ h) q_685 q_660 q_661 q_13 q_662) rfl rfl rfl hv_c_dayAtFar ⟨Nat.le_of_ble_eq_true rfl, Nat.le_of_ble_eq_true rfl⟩) rfl) ?_
  refine rcons (ro_i2l (by decide +kernel) rfl) ?_
  refine rcons (ro_putfN (C := rN2) (T := rF2) (N := 2) (k := 0) (Y := rY2) (host := "RingdaysLaw") (by decide +kernel) rfl (rU2c _) rY2_ok rD2 (by decide) rh15 rfl (Or.inr (Or.inl ⟨rfl, rfl⟩)) rfl) ?_
  refine rcons (ro_goto (off := 7) (by decide +kernel) rfl) ?_
  refine rcons (ro_astore (by decide +kernel) rfl) ?_
  refine rcons (ro_iconst (n := 1) (by decide +kernel) rfl rfl) ?_
  refine rcons (ro_iret (by decide +kernel)) ?_
  refine rcons (ro_iconst (n := 0) (by decide +kernel) rfl rfl) ?_
  refine rcons (ro_iret (by decide +kernel)) ?_
  exact rnil
def ps_w_dayTwice : List Nat := [0, 2, 3, 4, 5, 6, 9, 10, 13, 16, 18, 19, 20, 21]
def tb_w_dayTwice : List RT := [tq_al 4, tq_al 0, tq_il 1, tq_il 2, tq_il 3, tq_callH (rV 0 m_c_dayTwice) 4 1 1 [(0, 9)], tq_i2l, tq_putf 2 0 1, tq_go 12, tq_as 6 5, tq_ic 1, tq_iret 1, tq_ic 0, tq_iret 1]
def m_w_dayTwice : RM := rMeth tb_w_dayTwice 400 6
abbrev rm_w_dayTwice : Room := { frames := 9, cells := 1, slots := 12, locals := 156 }
set_option maxHeartbeats 4000000 in
set_option maxRecDepth 20000 in
theorem ok_w_dayTwice : rMet y_w_dayTwice (Cond.codeWith y_w_dayTwice method_13_code 6 (some .int) [(0, 13, 16, 19)] :: rT) rm_w_dayTwice 1 m_w_dayTwice := by
  refine rMeth_okH (ps := ps_w_dayTwice) (tab := tb_w_dayTwice) (by decide) rfl rfl rfl rfl ?_
  refine rcons (ro_aload (by decide +kernel) rfl) ?_
  refine rcons (ro_aload_n (k := 0) rfl (by decide +kernel) rfl) ?_
  refine rcons (ro_iload_n (k := 1) rfl (by decide +kernel) rfl) ?_
  refine rcons (ro_iload_n (k := 2) rfl (by decide +kernel) rfl) ?_
  refine rcons (ro_iload_n (k := 3) rfl (by decide +kernel) rfl) ?_
  refine rcons (ro_callVH (C := rN0) (T := rF0) (N := 7) rfl ok_c_dayTwice (by decide +kernel) ⟨⟨by decide, by decide, List.mem_cons_of_mem _ q_586, rfl⟩, trivial⟩ (by decide) (fun s args ht => cwV (C := rN0) 3 ht (rgoodV (C := rN0) (fun w h => List.mem_cons_of_mem _ h) q_689 q_690 q_691 q_13 q_692) rfl rfl rfl hv_c_dayTwice ⟨Nat.le_of_ble_eq_true rfl, Nat.le_of_ble_eq_true rfl⟩) rfl) ?_
  refine rcons (ro_i2l (by decide +kernel) rfl) ?_
  refine rcons (ro_putfN (C := rN2) (T := rF2) (N := 2) (k := 0) (Y := rY2) (host := "RingdaysLaw") (by decide +kernel) rfl (rU2c _) rY2_ok rD2 (by decide) rh15 rfl (Or.inr (Or.inl ⟨rfl, rfl⟩)) rfl) ?_
  refine rcons (ro_goto (off := 7) (by decide +kernel) rfl) ?_
  refine rcons (ro_astore (by decide +kernel) rfl) ?_
  refine rcons (ro_iconst (n := 1) (by decide +kernel) rfl rfl) ?_
  refine rcons (ro_iret (by decide +kernel)) ?_
  refine rcons (ro_iconst (n := 0) (by decide +kernel) rfl rfl) ?_
  refine rcons (ro_iret (by decide +kernel)) ?_
  exact rnil
def ps_w_dayCopy : List Nat := [0, 1, 2, 3, 4, 7, 8, 11, 14, 16, 17, 18, 19]
def tb_w_dayCopy : List RT := [tq_al 3, tq_al 0, tq_il 1, tq_il 2, tq_callH (rV 0 m_c_dayCopy) 3 2 2 [(0, 8)], tq_i2l, tq_putf 2 0 1, tq_go 11, tq_as 5 4, tq_ic 1, tq_iret 2, tq_ic 0, tq_iret 2]
def m_w_dayCopy : RM := rMeth tb_w_dayCopy 400 5
abbrev rm_w_dayCopy : Room := { frames := 10, cells := 2, slots := 24, locals := 180 }
set_option maxHeartbeats 4000000 in
set_option maxRecDepth 20000 in
theorem ok_w_dayCopy : rMet y_w_dayCopy (Cond.codeWith y_w_dayCopy method_14_code 5 (some .int) [(0, 11, 14, 19)] :: rT) rm_w_dayCopy 2 m_w_dayCopy := by
  refine rMeth_okH (ps := ps_w_dayCopy) (tab := tb_w_dayCopy) (by decide) rfl rfl rfl rfl ?_
  refine rcons (ro_aload_n (k := 3) rfl (by decide +kernel) rfl) ?_
  refine rcons (ro_aload_n (k := 0) rfl (by decide +kernel) rfl) ?_
  refine rcons (ro_iload_n (k := 1) rfl (by decide +kernel) rfl) ?_
  refine rcons (ro_iload_n (k := 2) rfl (by decide +kernel) rfl) ?_
  refine rcons (ro_callVH (C := rN0) (T := rF0) (N := 7) rfl ok_c_dayCopy (by decide +kernel) ⟨⟨by decide, by decide, List.mem_cons_of_mem _ q_586, rfl⟩, trivial⟩ (by decide) (fun s args ht => cwV (C := rN0) 2 ht (rgoodV (C := rN0) (fun w h => List.mem_cons_of_mem _ h) q_696 q_697 q_698 q_13 q_699) rfl rfl rfl hv_c_dayCopy ⟨Nat.le_of_ble_eq_true rfl, Nat.le_of_ble_eq_true rfl⟩) rfl) ?_
  refine rcons (ro_i2l (by decide +kernel) rfl) ?_
  refine rcons (ro_putfN (C := rN2) (T := rF2) (N := 2) (k := 0) (Y := rY2) (host := "RingdaysLaw") (by decide +kernel) rfl (rU2c _) rY2_ok rD2 (by decide) rh15 rfl (Or.inr (Or.inl ⟨rfl, rfl⟩)) rfl) ?_
  refine rcons (ro_goto (off := 7) (by decide +kernel) rfl) ?_
  refine rcons (ro_astore (by decide +kernel) rfl) ?_
  refine rcons (ro_iconst (n := 1) (by decide +kernel) rfl rfl) ?_
  refine rcons (ro_iret (by decide +kernel)) ?_
  refine rcons (ro_iconst (n := 0) (by decide +kernel) rfl rfl) ?_
  refine rcons (ro_iret (by decide +kernel)) ?_
  exact rnil
def ps_w_daySwap : List Nat := [0, 1, 2, 3, 4, 7, 8, 11, 14, 16, 17, 18, 19]
def tb_w_daySwap : List RT := [tq_al 3, tq_al 0, tq_il 1, tq_il 2, tq_callH (rV 0 m_c_daySwap) 3 4 4 [(0, 8)], tq_i2l, tq_putf 2 0 1, tq_go 11, tq_as 5 4, tq_ic 1, tq_iret 4, tq_ic 0, tq_iret 4]
def m_w_daySwap : RM := rMeth tb_w_daySwap 400 5
abbrev rm_w_daySwap : Room := { frames := 10, cells := 4, slots := 48, locals := 182 }
set_option maxHeartbeats 4000000 in
set_option maxRecDepth 20000 in
theorem ok_w_daySwap : rMet y_w_daySwap (Cond.codeWith y_w_daySwap method_15_code 5 (some .int) [(0, 11, 14, 19)] :: rT) rm_w_daySwap 4 m_w_daySwap := by
  refine rMeth_okH (ps := ps_w_daySwap) (tab := tb_w_daySwap) (by decide) rfl rfl rfl rfl ?_
  refine rcons (ro_aload_n (k := 3) rfl (by decide +kernel) rfl) ?_
  refine rcons (ro_aload_n (k := 0) rfl (by decide +kernel) rfl) ?_
  refine rcons (ro_iload_n (k := 1) rfl (by decide +kernel) rfl) ?_
  refine rcons (ro_iload_n (k := 2) rfl (by decide +kernel) rfl) ?_
  refine rcons (ro_callVH (C := rN0) (T := rF0) (N := 7) rfl ok_c_daySwap (by decide +kernel) ⟨⟨by decide, by decide, List.mem_cons_of_mem _ q_586, rfl⟩, trivial⟩ (by decide) (fun s args ht => cwV (C := rN0) 2 ht (rgoodV (C := rN0) (fun w h => List.mem_cons_of_mem _ h) q_707 q_708 q_709 q_13 q_710) rfl rfl rfl hv_c_daySwap ⟨Nat.le_of_ble_eq_true rfl, Nat.le_of_ble_eq_true rfl⟩) rfl) ?_
  refine rcons (ro_i2l (by decide +kernel) rfl) ?_
  refine rcons (ro_putfN (C := rN2) (T := rF2) (N := 2) (k := 0) (Y := rY2) (host := "RingdaysLaw") (by decide +kernel) rfl (rU2c _) rY2_ok rD2 (by decide) rh15 rfl (Or.inr (Or.inl ⟨rfl, rfl⟩)) rfl) ?_
  refine rcons (ro_goto (off := 7) (by decide +kernel) rfl) ?_
  refine rcons (ro_astore (by decide +kernel) rfl) ?_
  refine rcons (ro_iconst (n := 1) (by decide +kernel) rfl rfl) ?_
  refine rcons (ro_iret (by decide +kernel)) ?_
  refine rcons (ro_iconst (n := 0) (by decide +kernel) rfl rfl) ?_
  refine rcons (ro_iret (by decide +kernel)) ?_
  exact rnil
def ps_w_dayOrder : List Nat := [0, 1, 2, 3, 4, 7, 8, 11, 14, 16, 17, 18, 19]
def tb_w_dayOrder : List RT := [tq_al 3, tq_al 0, tq_il 1, tq_il 2, tq_callH (rV 0 m_c_dayOrder) 3 2 2 [(0, 8)], tq_i2l, tq_putf 2 0 1, tq_go 11, tq_as 5 4, tq_ic 1, tq_iret 2, tq_ic 0, tq_iret 2]
def m_w_dayOrder : RM := rMeth tb_w_dayOrder 400 5
abbrev rm_w_dayOrder : Room := { frames := 8, cells := 2, slots := 24, locals := 133 }
set_option maxHeartbeats 4000000 in
set_option maxRecDepth 20000 in
theorem ok_w_dayOrder : rMet y_w_dayOrder (Cond.codeWith y_w_dayOrder method_16_code 5 (some .int) [(0, 11, 14, 19)] :: rT) rm_w_dayOrder 2 m_w_dayOrder := by
  refine rMeth_okH (ps := ps_w_dayOrder) (tab := tb_w_dayOrder) (by decide) rfl rfl rfl rfl ?_
  refine rcons (ro_aload_n (k := 3) rfl (by decide +kernel) rfl) ?_
  refine rcons (ro_aload_n (k := 0) rfl (by decide +kernel) rfl) ?_
  refine rcons (ro_iload_n (k := 1) rfl (by decide +kernel) rfl) ?_
  refine rcons (ro_iload_n (k := 2) rfl (by decide +kernel) rfl) ?_
  refine rcons (ro_callVH (C := rN0) (T := rF0) (N := 7) rfl ok_c_dayOrder (by decide +kernel) ⟨⟨by decide, by decide, List.mem_cons_of_mem _ q_586, rfl⟩, trivial⟩ (by decide) (fun s args ht => cwV (C := rN0) 2 ht (rgoodV (C := rN0) (fun w h => List.mem_cons_of_mem _ h) q_718 q_550 q_551 q_13 q_552) rfl rfl rfl hv_c_dayOrder ⟨Nat.le_of_ble_eq_true rfl, Nat.le_of_ble_eq_true rfl⟩) rfl) ?_
  refine rcons (ro_i2l (by decide +kernel) rfl) ?_
  refine rcons (ro_putfN (C := rN2) (T := rF2) (N := 2) (k := 0) (Y := rY2) (host := "RingdaysLaw") (by decide +kernel) rfl (rU2c _) rY2_ok rD2 (by decide) rh15 rfl (Or.inr (Or.inl ⟨rfl, rfl⟩)) rfl) ?_
  refine rcons (ro_goto (off := 7) (by decide +kernel) rfl) ?_
  refine rcons (ro_astore (by decide +kernel) rfl) ?_
  refine rcons (ro_iconst (n := 1) (by decide +kernel) rfl rfl) ?_
  refine rcons (ro_iret (by decide +kernel)) ?_
  refine rcons (ro_iconst (n := 0) (by decide +kernel) rfl rfl) ?_
  refine rcons (ro_iret (by decide +kernel)) ?_
  exact rnil
def ps_w_isSameDay : List Nat := [0, 1, 2, 3, 4, 7, 10, 11, 14, 15, 18, 21, 23, 24, 25, 26]
def tb_w_isSameDay : List RT := [tq_al 3, tq_al 0, tq_il 1, tq_il 2, tq_callH (rV 0 m_c_isSameDay) 3 2 2 [(0, 11)], tq_s1L (fun x => decide (x = 0)) 1 0 9, tq_lc 1, tq_go 9, tq_lc 0, tq_putf 2 0 1, tq_go 14, tq_as 5 4, tq_ic 1, tq_iret 2, tq_ic 0, tq_iret 2]
def m_w_isSameDay : RM := rMeth tb_w_isSameDay 400 5
abbrev rm_w_isSameDay : Room := { frames := 8, cells := 2, slots := 24, locals := 133 }
set_option maxHeartbeats 4000000 in
set_option maxRecDepth 20000 in
theorem ok_w_isSameDay : rMet y_w_isSameDay (Cond.codeWith y_w_isSameDay method_17_code 5 (some .int) [(0, 18, 21, 19)] :: rT) rm_w_isSameDay 2 m_w_isSameDay := by
  refine rMeth_okH (ps := ps_w_isSameDay) (tab := tb_w_isSameDay) (by decide) rfl rfl rfl rfl ?_
  refine rcons (ro_aload_n (k := 3) rfl (by decide +kernel) rfl) ?_
  refine rcons (ro_aload_n (k := 0) rfl (by decide +kernel) rfl) ?_
  refine rcons (ro_iload_n (k := 1) rfl (by decide +kernel) rfl) ?_
  refine rcons (ro_iload_n (k := 2) rfl (by decide +kernel) rfl) ?_
  refine rcons (ro_callVH (C := rN0) (T := rF0) (N := 7) rfl ok_c_isSameDay (by decide +kernel) ⟨⟨by decide, by decide, List.mem_cons_of_mem _ q_586, rfl⟩, trivial⟩ (by decide) (fun s args ht => cwV (C := rN0) 2 ht (rgoodV (C := rN0) (fun w h => List.mem_cons_of_mem _ h) q_722 q_723 q_724 q_13 q_725) rfl rfl rfl hv_c_isSameDay ⟨Nat.le_of_ble_eq_true rfl, Nat.le_of_ble_eq_true rfl⟩) rfl) ?_
  refine rcons (ro_s1L_eq (off := 7) (off2 := 4) (n1 := 1) (n2 := 0) (by decide +kernel) (by decide +kernel) rfl (by decide +kernel) (by decide +kernel) rfl rfl rfl rfl) ?_
  refine rcons (ro_lconst (n := 1) (by decide +kernel) rfl rfl) ?_
  refine rcons (ro_goto (off := 4) (by decide +kernel) rfl) ?_
  refine rcons (ro_lconst (n := 0) (by decide +kernel) rfl rfl) ?_
  refine rcons (ro_putfN (C := rN2) (T := rF2) (N := 2) (k := 0) (Y := rY2) (host := "RingdaysLaw") (by decide +kernel) rfl (rU2c _) rY2_ok rD2 (by decide) rh15 rfl (Or.inr (Or.inl ⟨rfl, rfl⟩)) rfl) ?_
  refine rcons (ro_goto (off := 7) (by decide +kernel) rfl) ?_
  refine rcons (ro_astore (by decide +kernel) rfl) ?_
  refine rcons (ro_iconst (n := 1) (by decide +kernel) rfl rfl) ?_
  refine rcons (ro_iret (by decide +kernel)) ?_
  refine rcons (ro_iconst (n := 0) (by decide +kernel) rfl rfl) ?_
  refine rcons (ro_iret (by decide +kernel)) ?_
  exact rnil
def ps_w_isDay : List Nat := [0, 1, 2, 3, 4, 7, 10, 11, 14, 15, 18, 21, 23, 24, 25, 27, 28, 29, 30]
def tb_w_isDay : List RT := [tq_al 3, tq_al 0, tq_il 1, tq_il 2, tq_callH (rV 0 m_c_isDay) 3 2 2 [(0, 11), (1, 14)], tq_s1L (fun x => decide (x = 0)) 1 0 9, tq_lc 1, tq_go 9, tq_lc 0, tq_putf 2 0 1, tq_go 17, tq_as 5 4, tq_ic 1, tq_iret 2, tq_as 5 4, tq_ic 2, tq_iret 2, tq_ic 0, tq_iret 2]
def m_w_isDay : RM := rMeth tb_w_isDay 400 5
abbrev rm_w_isDay : Room := { frames := 9, cells := 2, slots := 24, locals := 157 }
set_option maxHeartbeats 4000000 in
set_option maxRecDepth 20000 in
theorem ok_w_isDay : rMet y_w_isDay (Cond.codeWith y_w_isDay method_18_code 5 (some .int) [(0, 18, 21, 19), (0, 18, 25, 21)] :: rT) rm_w_isDay 2 m_w_isDay := by
  refine rMeth_okH (ps := ps_w_isDay) (tab := tb_w_isDay) (by decide) rfl rfl rfl rfl ?_
  refine rcons (ro_aload_n (k := 3) rfl (by decide +kernel) rfl) ?_
  refine rcons (ro_aload_n (k := 0) rfl (by decide +kernel) rfl) ?_
  refine rcons (ro_iload_n (k := 1) rfl (by decide +kernel) rfl) ?_
  refine rcons (ro_iload_n (k := 2) rfl (by decide +kernel) rfl) ?_
  refine rcons (ro_callVH (C := rN0) (T := rF0) (N := 7) rfl ok_c_isDay (by decide +kernel) ⟨⟨by decide, by decide, List.mem_cons_of_mem _ q_586, rfl⟩, ⟨⟨by decide, by decide, List.mem_cons_of_mem _ q_587, rfl⟩, trivial⟩⟩ (by decide) (fun s args ht => cwV (C := rN0) 2 ht (rgoodV (C := rN0) (fun w h => List.mem_cons_of_mem _ h) q_729 q_730 q_731 q_13 q_732) rfl rfl rfl hv_c_isDay ⟨Nat.le_of_ble_eq_true rfl, Nat.le_of_ble_eq_true rfl⟩) rfl) ?_
  refine rcons (ro_s1L_eq (off := 7) (off2 := 4) (n1 := 1) (n2 := 0) (by decide +kernel) (by decide +kernel) rfl (by decide +kernel) (by decide +kernel) rfl rfl rfl rfl) ?_
  refine rcons (ro_lconst (n := 1) (by decide +kernel) rfl rfl) ?_
  refine rcons (ro_goto (off := 4) (by decide +kernel) rfl) ?_
  refine rcons (ro_lconst (n := 0) (by decide +kernel) rfl rfl) ?_
  refine rcons (ro_putfN (C := rN2) (T := rF2) (N := 2) (k := 0) (Y := rY2) (host := "RingdaysLaw") (by decide +kernel) rfl (rU2c _) rY2_ok rD2 (by decide) rh15 rfl (Or.inr (Or.inl ⟨rfl, rfl⟩)) rfl) ?_
  refine rcons (ro_goto (off := 11) (by decide +kernel) rfl) ?_
  refine rcons (ro_astore (by decide +kernel) rfl) ?_
  refine rcons (ro_iconst (n := 1) (by decide +kernel) rfl rfl) ?_
  refine rcons (ro_iret (by decide +kernel)) ?_
  refine rcons (ro_astore (by decide +kernel) rfl) ?_
  refine rcons (ro_iconst (n := 2) (by decide +kernel) rfl rfl) ?_
  refine rcons (ro_iret (by decide +kernel)) ?_
  refine rcons (ro_iconst (n := 0) (by decide +kernel) rfl rfl) ?_
  refine rcons (ro_iret (by decide +kernel)) ?_
  exact rnil
def ps_w_month : List Nat := [0, 1, 2, 3, 4, 7, 8, 11, 14, 16, 17, 18, 20, 21, 22, 23]
def tb_w_month : List RT := [tq_al 3, tq_al 0, tq_il 1, tq_il 2, tq_callH (rV 0 m_c_month) 3 3 3 [(0, 8), (1, 11)], tq_i2l, tq_putf 2 0 1, tq_go 14, tq_as 5 4, tq_ic 1, tq_iret 3, tq_as 5 4, tq_ic 2, tq_iret 3, tq_ic 0, tq_iret 3]
def m_w_month : RM := rMeth tb_w_month 400 5
abbrev rm_w_month : Room := { frames := 10, cells := 3, slots := 36, locals := 182 }
set_option maxHeartbeats 4000000 in
set_option maxRecDepth 20000 in
theorem ok_w_month : rMet y_w_month (Cond.codeWith y_w_month method_19_code 5 (some .int) [(0, 11, 14, 19), (0, 11, 18, 21)] :: rT) rm_w_month 3 m_w_month := by
  refine rMeth_okH (ps := ps_w_month) (tab := tb_w_month) (by decide) rfl rfl rfl rfl ?_
  refine rcons (ro_aload_n (k := 3) rfl (by decide +kernel) rfl) ?_
  refine rcons (ro_aload_n (k := 0) rfl (by decide +kernel) rfl) ?_
  refine rcons (ro_iload_n (k := 1) rfl (by decide +kernel) rfl) ?_
  refine rcons (ro_iload_n (k := 2) rfl (by decide +kernel) rfl) ?_
  refine rcons (ro_callVH (C := rN0) (T := rF0) (N := 7) rfl ok_c_month (by decide +kernel) ⟨⟨by decide, by decide, List.mem_cons_of_mem _ q_586, rfl⟩, ⟨⟨by decide, by decide, List.mem_cons_of_mem _ q_587, rfl⟩, trivial⟩⟩ (by decide) (fun s args ht => cwV (C := rN0) 2 ht (rgoodV (C := rN0) (fun w h => List.mem_cons_of_mem _ h) q_739 q_740 q_741 q_13 q_742) rfl rfl rfl hv_c_month ⟨Nat.le_of_ble_eq_true rfl, Nat.le_of_ble_eq_true rfl⟩) rfl) ?_
  refine rcons (ro_i2l (by decide +kernel) rfl) ?_
  refine rcons (ro_putfN (C := rN2) (T := rF2) (N := 2) (k := 0) (Y := rY2) (host := "RingdaysLaw") (by decide +kernel) rfl (rU2c _) rY2_ok rD2 (by decide) rh15 rfl (Or.inr (Or.inl ⟨rfl, rfl⟩)) rfl) ?_
  refine rcons (ro_goto (off := 11) (by decide +kernel) rfl) ?_
  refine rcons (ro_astore (by decide +kernel) rfl) ?_
  refine rcons (ro_iconst (n := 1) (by decide +kernel) rfl rfl) ?_
  refine rcons (ro_iret (by decide +kernel)) ?_
  refine rcons (ro_astore (by decide +kernel) rfl) ?_
  refine rcons (ro_iconst (n := 2) (by decide +kernel) rfl rfl) ?_
  refine rcons (ro_iret (by decide +kernel)) ?_
  refine rcons (ro_iconst (n := 0) (by decide +kernel) rfl rfl) ?_
  refine rcons (ro_iret (by decide +kernel)) ?_
  exact rnil
def ps_w_monthNumber : List Nat := [0, 1, 2, 3, 6, 7, 10, 13, 14, 15, 16, 17]
def tb_w_monthNumber : List RT := [tq_al 2, tq_al 0, tq_il 1, tq_callH (rV 0 m_c_monthNumber) 2 1 1 [(0, 7)], tq_i2l, tq_putf 2 0 1, tq_go 10, tq_as 4 3, tq_ic 1, tq_iret 1, tq_ic 0, tq_iret 1]
def m_w_monthNumber : RM := rMeth tb_w_monthNumber 400 4
abbrev rm_w_monthNumber : Room := { frames := 8, cells := 1, slots := 12, locals := 132 }
set_option maxHeartbeats 4000000 in
set_option maxRecDepth 20000 in
theorem ok_w_monthNumber : rMet y_w_monthNumber (Cond.codeWith y_w_monthNumber method_20_code 4 (some .int) [(0, 10, 13, 19)] :: rT) rm_w_monthNumber 1 m_w_monthNumber := by
  refine rMeth_okH (ps := ps_w_monthNumber) (tab := tb_w_monthNumber) (by decide) rfl rfl rfl rfl ?_
  refine rcons (ro_aload_n (k := 2) rfl (by decide +kernel) rfl) ?_
  refine rcons (ro_aload_n (k := 0) rfl (by decide +kernel) rfl) ?_
  refine rcons (ro_iload_n (k := 1) rfl (by decide +kernel) rfl) ?_
  refine rcons (ro_callVH (C := rN0) (T := rF0) (N := 7) rfl ok_c_monthNumber (by decide +kernel) ⟨⟨by decide, by decide, List.mem_cons_of_mem _ q_586, rfl⟩, trivial⟩ (by decide) (fun s args ht => cwV (C := rN0) 1 ht (rgoodV (C := rN0) (fun w h => List.mem_cons_of_mem _ h) q_746 q_747 q_748 q_13 q_749) rfl rfl rfl hv_c_monthNumber ⟨Nat.le_of_ble_eq_true rfl, Nat.le_of_ble_eq_true rfl⟩) rfl) ?_
  refine rcons (ro_i2l (by decide +kernel) rfl) ?_
  refine rcons (ro_putfN (C := rN2) (T := rF2) (N := 2) (k := 0) (Y := rY2) (host := "RingdaysLaw") (by decide +kernel) rfl (rU2c _) rY2_ok rD2 (by decide) rh15 rfl (Or.inr (Or.inl ⟨rfl, rfl⟩)) rfl) ?_
  refine rcons (ro_goto (off := 6) (by decide +kernel) rfl) ?_
  refine rcons (ro_astore_n (k := 3) rfl (by decide +kernel) rfl) ?_
  refine rcons (ro_iconst (n := 1) (by decide +kernel) rfl rfl) ?_
  refine rcons (ro_iret (by decide +kernel)) ?_
  refine rcons (ro_iconst (n := 0) (by decide +kernel) rfl rfl) ?_
  refine rcons (ro_iret (by decide +kernel)) ?_
  exact rnil
def ps_w_monthPlace : List Nat := [0, 1, 2, 3, 6, 7, 10, 13, 14, 15, 16, 17]
def tb_w_monthPlace : List RT := [tq_al 2, tq_al 0, tq_il 1, tq_callH (rV 0 m_c_monthPlace) 2 1 1 [(0, 7)], tq_i2l, tq_putf 2 0 1, tq_go 10, tq_as 4 3, tq_ic 1, tq_iret 1, tq_ic 0, tq_iret 1]
def m_w_monthPlace : RM := rMeth tb_w_monthPlace 400 4
abbrev rm_w_monthPlace : Room := { frames := 8, cells := 1, slots := 12, locals := 132 }
set_option maxHeartbeats 4000000 in
set_option maxRecDepth 20000 in
theorem ok_w_monthPlace : rMet y_w_monthPlace (Cond.codeWith y_w_monthPlace method_21_code 4 (some .int) [(0, 10, 13, 19)] :: rT) rm_w_monthPlace 1 m_w_monthPlace := by
  refine rMeth_okH (ps := ps_w_monthPlace) (tab := tb_w_monthPlace) (by decide) rfl rfl rfl rfl ?_
  refine rcons (ro_aload_n (k := 2) rfl (by decide +kernel) rfl) ?_
  refine rcons (ro_aload_n (k := 0) rfl (by decide +kernel) rfl) ?_
  refine rcons (ro_iload_n (k := 1) rfl (by decide +kernel) rfl) ?_
  refine rcons (ro_callVH (C := rN0) (T := rF0) (N := 7) rfl ok_c_monthPlace (by decide +kernel) ⟨⟨by decide, by decide, List.mem_cons_of_mem _ q_586, rfl⟩, trivial⟩ (by decide) (fun s args ht => cwV (C := rN0) 1 ht (rgoodV (C := rN0) (fun w h => List.mem_cons_of_mem _ h) q_753 q_754 q_755 q_13 q_756) rfl rfl rfl hv_c_monthPlace ⟨Nat.le_of_ble_eq_true rfl, Nat.le_of_ble_eq_true rfl⟩) rfl) ?_
  refine rcons (ro_i2l (by decide +kernel) rfl) ?_
  refine rcons (ro_putfN (C := rN2) (T := rF2) (N := 2) (k := 0) (Y := rY2) (host := "RingdaysLaw") (by decide +kernel) rfl (rU2c _) rY2_ok rD2 (by decide) rh15 rfl (Or.inr (Or.inl ⟨rfl, rfl⟩)) rfl) ?_
  refine rcons (ro_goto (off := 6) (by decide +kernel) rfl) ?_
  refine rcons (ro_astore_n (k := 3) rfl (by decide +kernel) rfl) ?_
  refine rcons (ro_iconst (n := 1) (by decide +kernel) rfl rfl) ?_
  refine rcons (ro_iret (by decide +kernel)) ?_
  refine rcons (ro_iconst (n := 0) (by decide +kernel) rfl rfl) ?_
  refine rcons (ro_iret (by decide +kernel)) ?_
  exact rnil
def ps_w_monthName : List Nat := [0, 1, 2, 3, 6, 9, 12, 13, 14, 15, 16]
def tb_w_monthName : List RT := [tq_al 2, tq_al 0, tq_il 1, tq_callH (rV 0 m_c_monthName) 2 1 1 [(0, 6)], tq_putfO 2 1, tq_go 9, tq_as 4 3, tq_ic 1, tq_iret 1, tq_ic 0, tq_iret 1]
def m_w_monthName : RM := rMeth tb_w_monthName 400 4
abbrev rm_w_monthName : Room := { frames := 8, cells := 1, slots := 12, locals := 132 }
set_option maxHeartbeats 4000000 in
set_option maxRecDepth 20000 in
theorem ok_w_monthName : rMet y_w_monthName (Cond.codeWith y_w_monthName method_22_code 4 (some .int) [(0, 9, 12, 19)] :: rT) rm_w_monthName 1 m_w_monthName := by
  refine rMeth_okH (ps := ps_w_monthName) (tab := tb_w_monthName) (by decide) rfl rfl rfl rfl ?_
  refine rcons (ro_aload_n (k := 2) rfl (by decide +kernel) rfl) ?_
  refine rcons (ro_aload_n (k := 0) rfl (by decide +kernel) rfl) ?_
  refine rcons (ro_iload_n (k := 1) rfl (by decide +kernel) rfl) ?_
  refine rcons (ro_callVH (C := rN0) (T := rF0) (N := 7) rfl ok_c_monthName (by decide +kernel) ⟨⟨by decide, by decide, List.mem_cons_of_mem _ q_586, rfl⟩, trivial⟩ (by decide) (fun s args ht => cwV (C := rN0) 1 ht (rgoodV (C := rN0) (fun w h => List.mem_cons_of_mem _ h) q_760 q_761 q_762 q_13 q_763) rfl rfl rfl hv_c_monthName ⟨Nat.le_of_ble_eq_true rfl, Nat.le_of_ble_eq_true rfl⟩) rfl) ?_
  refine rcons (ro_putfO (ro_putfN (C := rN2) (T := rF2) (N := 2) (k := 1) (Y := rY2) (host := "RingdaysLaw") (by decide +kernel) rfl (rU2c _) rY2_ok rD2 (by decide) rh16 rfl (Or.inr (Or.inr ⟨rfl, _, rfl⟩)) rfl)) ?_
  refine rcons (ro_goto (off := 6) (by decide +kernel) rfl) ?_
  refine rcons (ro_astore_n (k := 3) rfl (by decide +kernel) rfl) ?_
  refine rcons (ro_iconst (n := 1) (by decide +kernel) rfl rfl) ?_
  refine rcons (ro_iret (by decide +kernel)) ?_
  refine rcons (ro_iconst (n := 0) (by decide +kernel) rfl rfl) ?_
  refine rcons (ro_iret (by decide +kernel)) ?_
  exact rnil
def ps_w_monthOn : List Nat := [0, 1, 2, 3, 4, 7, 8, 11, 14, 16, 17, 18, 19]
def tb_w_monthOn : List RT := [tq_al 3, tq_al 0, tq_il 1, tq_il 2, tq_callH (rV 0 m_c_monthOn) 3 2 2 [(0, 8)], tq_i2l, tq_putf 2 0 1, tq_go 11, tq_as 5 4, tq_ic 1, tq_iret 2, tq_ic 0, tq_iret 2]
def m_w_monthOn : RM := rMeth tb_w_monthOn 400 5
abbrev rm_w_monthOn : Room := { frames := 9, cells := 2, slots := 24, locals := 157 }
set_option maxHeartbeats 4000000 in
set_option maxRecDepth 20000 in
theorem ok_w_monthOn : rMet y_w_monthOn (Cond.codeWith y_w_monthOn method_23_code 5 (some .int) [(0, 11, 14, 19)] :: rT) rm_w_monthOn 2 m_w_monthOn := by
  refine rMeth_okH (ps := ps_w_monthOn) (tab := tb_w_monthOn) (by decide) rfl rfl rfl rfl ?_
  refine rcons (ro_aload_n (k := 3) rfl (by decide +kernel) rfl) ?_
  refine rcons (ro_aload_n (k := 0) rfl (by decide +kernel) rfl) ?_
  refine rcons (ro_iload_n (k := 1) rfl (by decide +kernel) rfl) ?_
  refine rcons (ro_iload_n (k := 2) rfl (by decide +kernel) rfl) ?_
  refine rcons (ro_callVH (C := rN0) (T := rF0) (N := 7) rfl ok_c_monthOn (by decide +kernel) ⟨⟨by decide, by decide, List.mem_cons_of_mem _ q_586, rfl⟩, trivial⟩ (by decide) (fun s args ht => cwV (C := rN0) 2 ht (rgoodV (C := rN0) (fun w h => List.mem_cons_of_mem _ h) q_767 q_768 q_769 q_13 q_770) rfl rfl rfl hv_c_monthOn ⟨Nat.le_of_ble_eq_true rfl, Nat.le_of_ble_eq_true rfl⟩) rfl) ?_
  refine rcons (ro_i2l (by decide +kernel) rfl) ?_
  refine rcons (ro_putfN (C := rN2) (T := rF2) (N := 2) (k := 0) (Y := rY2) (host := "RingdaysLaw") (by decide +kernel) rfl (rU2c _) rY2_ok rD2 (by decide) rh15 rfl (Or.inr (Or.inl ⟨rfl, rfl⟩)) rfl) ?_
  refine rcons (ro_goto (off := 7) (by decide +kernel) rfl) ?_
  refine rcons (ro_astore (by decide +kernel) rfl) ?_
  refine rcons (ro_iconst (n := 1) (by decide +kernel) rfl rfl) ?_
  refine rcons (ro_iret (by decide +kernel)) ?_
  refine rcons (ro_iconst (n := 0) (by decide +kernel) rfl rfl) ?_
  refine rcons (ro_iret (by decide +kernel)) ?_
  exact rnil
def ps_w_monthBack : List Nat := [0, 1, 2, 3, 4, 7, 8, 11, 14, 16, 17, 18, 19]
def tb_w_monthBack : List RT := [tq_al 3, tq_al 0, tq_il 1, tq_il 2, tq_callH (rV 0 m_c_monthBack) 3 2 2 [(0, 8)], tq_i2l, tq_putf 2 0 1, tq_go 11, tq_as 5 4, tq_ic 1, tq_iret 2, tq_ic 0, tq_iret 2]
def m_w_monthBack : RM := rMeth tb_w_monthBack 400 5
abbrev rm_w_monthBack : Room := { frames := 9, cells := 2, slots := 24, locals := 157 }
set_option maxHeartbeats 4000000 in
set_option maxRecDepth 20000 in
theorem ok_w_monthBack : rMet y_w_monthBack (Cond.codeWith y_w_monthBack method_24_code 5 (some .int) [(0, 11, 14, 19)] :: rT) rm_w_monthBack 2 m_w_monthBack := by
  refine rMeth_okH (ps := ps_w_monthBack) (tab := tb_w_monthBack) (by decide) rfl rfl rfl rfl ?_
  refine rcons (ro_aload_n (k := 3) rfl (by decide +kernel) rfl) ?_
  refine rcons (ro_aload_n (k := 0) rfl (by decide +kernel) rfl) ?_
  refine rcons (ro_iload_n (k := 1) rfl (by decide +kernel) rfl) ?_
  refine rcons (ro_iload_n (k := 2) rfl (by decide +kernel) rfl) ?_
  refine rcons (ro_callVH (C := rN0) (T := rF0) (N := 7) rfl ok_c_monthBack (by decide +kernel) ⟨⟨by decide, by decide, List.mem_cons_of_mem _ q_586, rfl⟩, trivial⟩ (by decide) (fun s args ht => cwV (C := rN0) 2 ht (rgoodV (C := rN0) (fun w h => List.mem_cons_of_mem _ h) q_778 q_779 q_780 q_13 q_781) rfl rfl rfl hv_c_monthBack ⟨Nat.le_of_ble_eq_true rfl, Nat.le_of_ble_eq_true rfl⟩) rfl) ?_
  refine rcons (ro_i2l (by decide +kernel) rfl) ?_
  refine rcons (ro_putfN (C := rN2) (T := rF2) (N := 2) (k := 0) (Y := rY2) (host := "RingdaysLaw") (by decide +kernel) rfl (rU2c _) rY2_ok rD2 (by decide) rh15 rfl (Or.inr (Or.inl ⟨rfl, rfl⟩)) rfl) ?_
  refine rcons (ro_goto (off := 7) (by decide +kernel) rfl) ?_
  refine rcons (ro_astore (by decide +kernel) rfl) ?_
  refine rcons (ro_iconst (n := 1) (by decide +kernel) rfl rfl) ?_
  refine rcons (ro_iret (by decide +kernel)) ?_
  refine rcons (ro_iconst (n := 0) (by decide +kernel) rfl rfl) ?_
  refine rcons (ro_iret (by decide +kernel)) ?_
  exact rnil
def ps_w_monthOnFar : List Nat := [0, 2, 3, 4, 5, 6, 9, 10, 13, 16, 18, 19, 20, 21]
def tb_w_monthOnFar : List RT := [tq_al 4, tq_al 0, tq_il 1, tq_il 2, tq_il 3, tq_callH (rV 0 m_c_monthOnFar) 4 2 2 [(0, 9)], tq_i2l, tq_putf 2 0 1, tq_go 12, tq_as 6 5, tq_ic 1, tq_iret 2, tq_ic 0, tq_iret 2]
def m_w_monthOnFar : RM := rMeth tb_w_monthOnFar 400 6
abbrev rm_w_monthOnFar : Room := { frames := 9, cells := 2, slots := 24, locals := 161 }
set_option maxHeartbeats 4000000 in
set_option maxRecDepth 20000 in
theorem ok_w_monthOnFar : rMet y_w_monthOnFar (Cond.codeWith y_w_monthOnFar method_25_code 6 (some .int) [(0, 13, 16, 19)] :: rT) rm_w_monthOnFar 2 m_w_monthOnFar := by
  refine rMeth_okH (ps := ps_w_monthOnFar) (tab := tb_w_monthOnFar) (by decide) rfl rfl rfl rfl ?_
  refine rcons (ro_aload (by decide +kernel) rfl) ?_
  refine rcons (ro_aload_n (k := 0) rfl (by decide +kernel) rfl) ?_
  refine rcons (ro_iload_n (k := 1) rfl (by decide +kernel) rfl) ?_
  refine rcons (ro_iload_n (k := 2) rfl (by decide +kernel) rfl) ?_
  refine rcons (ro_iload_n (k := 3) rfl (by decide +kernel) rfl) ?_
  refine rcons (ro_callVH (C := rN0) (T := rF0) (N := 7) rfl ok_c_monthOnFar (by decide +kernel) ⟨⟨by decide, by decide, List.mem_cons_of_mem _ q_586, rfl⟩, trivial⟩ (by decide) (fun s args ht => cwV (C := rN0) 3 ht (rgoodV (C := rN0) (fun w h => List.mem_cons_of_mem _ h) q_789 q_790 q_791 q_13 q_792) rfl rfl rfl hv_c_monthOnFar ⟨Nat.le_of_ble_eq_true rfl, Nat.le_of_ble_eq_true rfl⟩) rfl) ?_
  refine rcons (ro_i2l (by decide +kernel) rfl) ?_
  refine rcons (ro_putfN (C := rN2) (T := rF2) (N := 2) (k := 0) (Y := rY2) (host := "RingdaysLaw") (by decide +kernel) rfl (rU2c _) rY2_ok rD2 (by decide) rh15 rfl (Or.inr (Or.inl ⟨rfl, rfl⟩)) rfl) ?_
  refine rcons (ro_goto (off := 7) (by decide +kernel) rfl) ?_
  refine rcons (ro_astore (by decide +kernel) rfl) ?_
  refine rcons (ro_iconst (n := 1) (by decide +kernel) rfl rfl) ?_
  refine rcons (ro_iret (by decide +kernel)) ?_
  refine rcons (ro_iconst (n := 0) (by decide +kernel) rfl rfl) ?_
  refine rcons (ro_iret (by decide +kernel)) ?_
  exact rnil
def ps_w_monthBackFar : List Nat := [0, 2, 3, 4, 5, 6, 9, 10, 13, 16, 18, 19, 20, 21]
def tb_w_monthBackFar : List RT := [tq_al 4, tq_al 0, tq_il 1, tq_il 2, tq_il 3, tq_callH (rV 0 m_c_monthBackFar) 4 2 2 [(0, 9)], tq_i2l, tq_putf 2 0 1, tq_go 12, tq_as 6 5, tq_ic 1, tq_iret 2, tq_ic 0, tq_iret 2]
def m_w_monthBackFar : RM := rMeth tb_w_monthBackFar 400 6
abbrev rm_w_monthBackFar : Room := { frames := 9, cells := 2, slots := 24, locals := 161 }
set_option maxHeartbeats 4000000 in
set_option maxRecDepth 20000 in
theorem ok_w_monthBackFar : rMet y_w_monthBackFar (Cond.codeWith y_w_monthBackFar method_26_code 6 (some .int) [(0, 13, 16, 19)] :: rT) rm_w_monthBackFar 2 m_w_monthBackFar := by
  refine rMeth_okH (ps := ps_w_monthBackFar) (tab := tb_w_monthBackFar) (by decide) rfl rfl rfl rfl ?_
  refine rcons (ro_aload (by decide +kernel) rfl) ?_
  refine rcons (ro_aload_n (k := 0) rfl (by decide +kernel) rfl) ?_
  refine rcons (ro_iload_n (k := 1) rfl (by decide +kernel) rfl) ?_
  refine rcons (ro_iload_n (k := 2) rfl (by decide +kernel) rfl) ?_
  refine rcons (ro_iload_n (k := 3) rfl (by decide +kernel) rfl) ?_
  refine rcons (ro_callVH (C := rN0) (T := rF0) (N := 7) rfl ok_c_monthBackFar (by decide +kernel) ⟨⟨by decide, by decide, List.mem_cons_of_mem _ q_586, rfl⟩, trivial⟩ (by decide) (fun s args ht => cwV (C := rN0) 3 ht (rgoodV (C := rN0) (fun w h => List.mem_cons_of_mem _ h) q_800 q_801 q_802 q_13 q_803) rfl rfl rfl hv_c_monthBackFar ⟨Nat.le_of_ble_eq_true rfl, Nat.le_of_ble_eq_true rfl⟩) rfl) ?_
  refine rcons (ro_i2l (by decide +kernel) rfl) ?_
  refine rcons (ro_putfN (C := rN2) (T := rF2) (N := 2) (k := 0) (Y := rY2) (host := "RingdaysLaw") (by decide +kernel) rfl (rU2c _) rY2_ok rD2 (by decide) rh15 rfl (Or.inr (Or.inl ⟨rfl, rfl⟩)) rfl) ?_
  refine rcons (ro_goto (off := 7) (by decide +kernel) rfl) ?_
  refine rcons (ro_astore (by decide +kernel) rfl) ?_
  refine rcons (ro_iconst (n := 1) (by decide +kernel) rfl rfl) ?_
  refine rcons (ro_iret (by decide +kernel)) ?_
  refine rcons (ro_iconst (n := 0) (by decide +kernel) rfl rfl) ?_
  refine rcons (ro_iret (by decide +kernel)) ?_
  exact rnil
def ps_w_monthAt : List Nat := [0, 1, 2, 3, 4, 7, 8, 11, 14, 16, 17, 18, 19]
def tb_w_monthAt : List RT := [tq_al 3, tq_al 0, tq_il 1, tq_il 2, tq_callH (rV 0 m_c_monthAt) 3 1 1 [(0, 8)], tq_i2l, tq_putf 2 0 1, tq_go 11, tq_as 5 4, tq_ic 1, tq_iret 1, tq_ic 0, tq_iret 1]
def m_w_monthAt : RM := rMeth tb_w_monthAt 400 5
abbrev rm_w_monthAt : Room := { frames := 8, cells := 1, slots := 12, locals := 133 }
set_option maxHeartbeats 4000000 in
set_option maxRecDepth 20000 in
theorem ok_w_monthAt : rMet y_w_monthAt (Cond.codeWith y_w_monthAt method_27_code 5 (some .int) [(0, 11, 14, 19)] :: rT) rm_w_monthAt 1 m_w_monthAt := by
  refine rMeth_okH (ps := ps_w_monthAt) (tab := tb_w_monthAt) (by decide) rfl rfl rfl rfl ?_
  refine rcons (ro_aload_n (k := 3) rfl (by decide +kernel) rfl) ?_
  refine rcons (ro_aload_n (k := 0) rfl (by decide +kernel) rfl) ?_
  refine rcons (ro_iload_n (k := 1) rfl (by decide +kernel) rfl) ?_
  refine rcons (ro_iload_n (k := 2) rfl (by decide +kernel) rfl) ?_
  refine rcons (ro_callVH (C := rN0) (T := rF0) (N := 7) rfl ok_c_monthAt (by decide +kernel) ⟨⟨by decide, by decide, List.mem_cons_of_mem _ q_586, rfl⟩, trivial⟩ (by decide) (fun s args ht => cwV (C := rN0) 2 ht (rgoodV (C := rN0) (fun w h => List.mem_cons_of_mem _ h) q_807 q_772 q_773 q_13 q_774) rfl rfl rfl hv_c_monthAt ⟨Nat.le_of_ble_eq_true rfl, Nat.le_of_ble_eq_true rfl⟩) rfl) ?_
  refine rcons (ro_i2l (by decide +kernel) rfl) ?_
  refine rcons (ro_putfN (C := rN2) (T := rF2) (N := 2) (k := 0) (Y := rY2) (host := "RingdaysLaw") (by decide +kernel) rfl (rU2c _) rY2_ok rD2 (by decide) rh15 rfl (Or.inr (Or.inl ⟨rfl, rfl⟩)) rfl) ?_
  refine rcons (ro_goto (off := 7) (by decide +kernel) rfl) ?_
  refine rcons (ro_astore (by decide +kernel) rfl) ?_
  refine rcons (ro_iconst (n := 1) (by decide +kernel) rfl rfl) ?_
  refine rcons (ro_iret (by decide +kernel)) ?_
  refine rcons (ro_iconst (n := 0) (by decide +kernel) rfl rfl) ?_
  refine rcons (ro_iret (by decide +kernel)) ?_
  exact rnil
def ps_w_monthAhead : List Nat := [0, 1, 2, 3, 4, 7, 8, 11, 14, 16, 17, 18, 19]
def tb_w_monthAhead : List RT := [tq_al 3, tq_al 0, tq_il 1, tq_il 2, tq_callH (rV 0 m_c_monthAhead) 3 1 1 [(0, 8)], tq_i2l, tq_putf 2 0 1, tq_go 11, tq_as 5 4, tq_ic 1, tq_iret 1, tq_ic 0, tq_iret 1]
def m_w_monthAhead : RM := rMeth tb_w_monthAhead 400 5
abbrev rm_w_monthAhead : Room := { frames := 8, cells := 1, slots := 12, locals := 133 }
set_option maxHeartbeats 4000000 in
set_option maxRecDepth 20000 in
theorem ok_w_monthAhead : rMet y_w_monthAhead (Cond.codeWith y_w_monthAhead method_28_code 5 (some .int) [(0, 11, 14, 19)] :: rT) rm_w_monthAhead 1 m_w_monthAhead := by
  refine rMeth_okH (ps := ps_w_monthAhead) (tab := tb_w_monthAhead) (by decide) rfl rfl rfl rfl ?_
  refine rcons (ro_aload_n (k := 3) rfl (by decide +kernel) rfl) ?_
  refine rcons (ro_aload_n (k := 0) rfl (by decide +kernel) rfl) ?_
  refine rcons (ro_iload_n (k := 1) rfl (by decide +kernel) rfl) ?_
  refine rcons (ro_iload_n (k := 2) rfl (by decide +kernel) rfl) ?_
  refine rcons (ro_callVH (C := rN0) (T := rF0) (N := 7) rfl ok_c_monthAhead (by decide +kernel) ⟨⟨by decide, by decide, List.mem_cons_of_mem _ q_586, rfl⟩, trivial⟩ (by decide) (fun s args ht => cwV (C := rN0) 2 ht (rgoodV (C := rN0) (fun w h => List.mem_cons_of_mem _ h) q_811 q_783 q_784 q_13 q_785) rfl rfl rfl hv_c_monthAhead ⟨Nat.le_of_ble_eq_true rfl, Nat.le_of_ble_eq_true rfl⟩) rfl) ?_
  refine rcons (ro_i2l (by decide +kernel) rfl) ?_
  refine rcons (ro_putfN (C := rN2) (T := rF2) (N := 2) (k := 0) (Y := rY2) (host := "RingdaysLaw") (by decide +kernel) rfl (rU2c _) rY2_ok rD2 (by decide) rh15 rfl (Or.inr (Or.inl ⟨rfl, rfl⟩)) rfl) ?_
  refine rcons (ro_goto (off := 7) (by decide +kernel) rfl) ?_
  refine rcons (ro_astore (by decide +kernel) rfl) ?_
  refine rcons (ro_iconst (n := 1) (by decide +kernel) rfl rfl) ?_
  refine rcons (ro_iret (by decide +kernel)) ?_
  refine rcons (ro_iconst (n := 0) (by decide +kernel) rfl rfl) ?_
  refine rcons (ro_iret (by decide +kernel)) ?_
  exact rnil
def ps_w_monthAtFar : List Nat := [0, 2, 3, 4, 5, 6, 8, 11, 12, 15, 18, 20, 21, 22, 23]
def tb_w_monthAtFar : List RT := [tq_al 5, tq_al 0, tq_il 1, tq_il 2, tq_il 3, tq_il 4, tq_callH (rV 0 m_c_monthAtFar) 5 1 1 [(0, 10)], tq_i2l, tq_putf 2 0 1, tq_go 13, tq_as 7 6, tq_ic 1, tq_iret 1, tq_ic 0, tq_iret 1]
def m_w_monthAtFar : RM := rMeth tb_w_monthAtFar 400 7
abbrev rm_w_monthAtFar : Room := { frames := 8, cells := 1, slots := 12, locals := 138 }
set_option maxHeartbeats 4000000 in
set_option maxRecDepth 20000 in
theorem ok_w_monthAtFar : rMet y_w_monthAtFar (Cond.codeWith y_w_monthAtFar method_29_code 7 (some .int) [(0, 15, 18, 19)] :: rT) rm_w_monthAtFar 1 m_w_monthAtFar := by
  refine rMeth_okH (ps := ps_w_monthAtFar) (tab := tb_w_monthAtFar) (by decide) rfl rfl rfl rfl ?_
  refine rcons (ro_aload (by decide +kernel) rfl) ?_
  refine rcons (ro_aload_n (k := 0) rfl (by decide +kernel) rfl) ?_
  refine rcons (ro_iload_n (k := 1) rfl (by decide +kernel) rfl) ?_
  refine rcons (ro_iload_n (k := 2) rfl (by decide +kernel) rfl) ?_
  refine rcons (ro_iload_n (k := 3) rfl (by decide +kernel) rfl) ?_
  refine rcons (ro_iload (by decide +kernel) rfl) ?_
  refine rcons (ro_callVH (C := rN0) (T := rF0) (N := 7) rfl ok_c_monthAtFar (by decide +kernel) ⟨⟨by decide, by decide, List.mem_cons_of_mem _ q_586, rfl⟩, trivial⟩ (by decide) (fun s args ht => cwV (C := rN0) 4 ht (rgoodV (C := rN0) (fun w h => List.mem_cons_of_mem _ h) q_815 q_794 q_795 q_13 q_796) rfl rfl rfl hv_c_monthAtFar ⟨Nat.le_of_ble_eq_true rfl, Nat.le_of_ble_eq_true rfl⟩) rfl) ?_
  refine rcons (ro_i2l (by decide +kernel) rfl) ?_
  refine rcons (ro_putfN (C := rN2) (T := rF2) (N := 2) (k := 0) (Y := rY2) (host := "RingdaysLaw") (by decide +kernel) rfl (rU2c _) rY2_ok rD2 (by decide) rh15 rfl (Or.inr (Or.inl ⟨rfl, rfl⟩)) rfl) ?_
  refine rcons (ro_goto (off := 7) (by decide +kernel) rfl) ?_
  refine rcons (ro_astore (by decide +kernel) rfl) ?_
  refine rcons (ro_iconst (n := 1) (by decide +kernel) rfl rfl) ?_
  refine rcons (ro_iret (by decide +kernel)) ?_
  refine rcons (ro_iconst (n := 0) (by decide +kernel) rfl rfl) ?_
  refine rcons (ro_iret (by decide +kernel)) ?_
  exact rnil
def ps_w_monthTwice : List Nat := [0, 2, 3, 4, 5, 6, 9, 10, 13, 16, 18, 19, 20, 21]
def tb_w_monthTwice : List RT := [tq_al 4, tq_al 0, tq_il 1, tq_il 2, tq_il 3, tq_callH (rV 0 m_c_monthTwice) 4 1 1 [(0, 9)], tq_i2l, tq_putf 2 0 1, tq_go 12, tq_as 6 5, tq_ic 1, tq_iret 1, tq_ic 0, tq_iret 1]
def m_w_monthTwice : RM := rMeth tb_w_monthTwice 400 6
abbrev rm_w_monthTwice : Room := { frames := 9, cells := 1, slots := 12, locals := 156 }
set_option maxHeartbeats 4000000 in
set_option maxRecDepth 20000 in
theorem ok_w_monthTwice : rMet y_w_monthTwice (Cond.codeWith y_w_monthTwice method_30_code 6 (some .int) [(0, 13, 16, 19)] :: rT) rm_w_monthTwice 1 m_w_monthTwice := by
  refine rMeth_okH (ps := ps_w_monthTwice) (tab := tb_w_monthTwice) (by decide) rfl rfl rfl rfl ?_
  refine rcons (ro_aload (by decide +kernel) rfl) ?_
  refine rcons (ro_aload_n (k := 0) rfl (by decide +kernel) rfl) ?_
  refine rcons (ro_iload_n (k := 1) rfl (by decide +kernel) rfl) ?_
  refine rcons (ro_iload_n (k := 2) rfl (by decide +kernel) rfl) ?_
  refine rcons (ro_iload_n (k := 3) rfl (by decide +kernel) rfl) ?_
  refine rcons (ro_callVH (C := rN0) (T := rF0) (N := 7) rfl ok_c_monthTwice (by decide +kernel) ⟨⟨by decide, by decide, List.mem_cons_of_mem _ q_586, rfl⟩, trivial⟩ (by decide) (fun s args ht => cwV (C := rN0) 3 ht (rgoodV (C := rN0) (fun w h => List.mem_cons_of_mem _ h) q_819 q_820 q_821 q_13 q_822) rfl rfl rfl hv_c_monthTwice ⟨Nat.le_of_ble_eq_true rfl, Nat.le_of_ble_eq_true rfl⟩) rfl) ?_
  refine rcons (ro_i2l (by decide +kernel) rfl) ?_
  refine rcons (ro_putfN (C := rN2) (T := rF2) (N := 2) (k := 0) (Y := rY2) (host := "RingdaysLaw") (by decide +kernel) rfl (rU2c _) rY2_ok rD2 (by decide) rh15 rfl (Or.inr (Or.inl ⟨rfl, rfl⟩)) rfl) ?_
  refine rcons (ro_goto (off := 7) (by decide +kernel) rfl) ?_
  refine rcons (ro_astore (by decide +kernel) rfl) ?_
  refine rcons (ro_iconst (n := 1) (by decide +kernel) rfl rfl) ?_
  refine rcons (ro_iret (by decide +kernel)) ?_
  refine rcons (ro_iconst (n := 0) (by decide +kernel) rfl rfl) ?_
  refine rcons (ro_iret (by decide +kernel)) ?_
  exact rnil
def ps_w_monthCopy : List Nat := [0, 1, 2, 3, 4, 7, 8, 11, 14, 16, 17, 18, 19]
def tb_w_monthCopy : List RT := [tq_al 3, tq_al 0, tq_il 1, tq_il 2, tq_callH (rV 0 m_c_monthCopy) 3 2 2 [(0, 8)], tq_i2l, tq_putf 2 0 1, tq_go 11, tq_as 5 4, tq_ic 1, tq_iret 2, tq_ic 0, tq_iret 2]
def m_w_monthCopy : RM := rMeth tb_w_monthCopy 400 5
abbrev rm_w_monthCopy : Room := { frames := 10, cells := 2, slots := 24, locals := 180 }
set_option maxHeartbeats 4000000 in
set_option maxRecDepth 20000 in
theorem ok_w_monthCopy : rMet y_w_monthCopy (Cond.codeWith y_w_monthCopy method_31_code 5 (some .int) [(0, 11, 14, 19)] :: rT) rm_w_monthCopy 2 m_w_monthCopy := by
  refine rMeth_okH (ps := ps_w_monthCopy) (tab := tb_w_monthCopy) (by decide) rfl rfl rfl rfl ?_
  refine rcons (ro_aload_n (k := 3) rfl (by decide +kernel) rfl) ?_
  refine rcons (ro_aload_n (k := 0) rfl (by decide +kernel) rfl) ?_
  refine rcons (ro_iload_n (k := 1) rfl (by decide +kernel) rfl) ?_
  refine rcons (ro_iload_n (k := 2) rfl (by decide +kernel) rfl) ?_
  refine rcons (ro_callVH (C := rN0) (T := rF0) (N := 7) rfl ok_c_monthCopy (by decide +kernel) ⟨⟨by decide, by decide, List.mem_cons_of_mem _ q_586, rfl⟩, trivial⟩ (by decide) (fun s args ht => cwV (C := rN0) 2 ht (rgoodV (C := rN0) (fun w h => List.mem_cons_of_mem _ h) q_826 q_827 q_828 q_13 q_829) rfl rfl rfl hv_c_monthCopy ⟨Nat.le_of_ble_eq_true rfl, Nat.le_of_ble_eq_true rfl⟩) rfl) ?_
  refine rcons (ro_i2l (by decide +kernel) rfl) ?_
  refine rcons (ro_putfN (C := rN2) (T := rF2) (N := 2) (k := 0) (Y := rY2) (host := "RingdaysLaw") (by decide +kernel) rfl (rU2c _) rY2_ok rD2 (by decide) rh15 rfl (Or.inr (Or.inl ⟨rfl, rfl⟩)) rfl) ?_
  refine rcons (ro_goto (off := 7) (by decide +kernel) rfl) ?_
  refine rcons (ro_astore (by decide +kernel) rfl) ?_
  refine rcons (ro_iconst (n := 1) (by decide +kernel) rfl rfl) ?_
  refine rcons (ro_iret (by decide +kernel)) ?_
  refine rcons (ro_iconst (n := 0) (by decide +kernel) rfl rfl) ?_
  refine rcons (ro_iret (by decide +kernel)) ?_
  exact rnil
def ps_w_monthSwap : List Nat := [0, 1, 2, 3, 4, 7, 8, 11, 14, 16, 17, 18, 19]
def tb_w_monthSwap : List RT := [tq_al 3, tq_al 0, tq_il 1, tq_il 2, tq_callH (rV 0 m_c_monthSwap) 3 4 4 [(0, 8)], tq_i2l, tq_putf 2 0 1, tq_go 11, tq_as 5 4, tq_ic 1, tq_iret 4, tq_ic 0, tq_iret 4]
def m_w_monthSwap : RM := rMeth tb_w_monthSwap 400 5
abbrev rm_w_monthSwap : Room := { frames := 10, cells := 4, slots := 48, locals := 182 }
set_option maxHeartbeats 4000000 in
set_option maxRecDepth 20000 in
theorem ok_w_monthSwap : rMet y_w_monthSwap (Cond.codeWith y_w_monthSwap method_32_code 5 (some .int) [(0, 11, 14, 19)] :: rT) rm_w_monthSwap 4 m_w_monthSwap := by
  refine rMeth_okH (ps := ps_w_monthSwap) (tab := tb_w_monthSwap) (by decide) rfl rfl rfl rfl ?_
  refine rcons (ro_aload_n (k := 3) rfl (by decide +kernel) rfl) ?_
  refine rcons (ro_aload_n (k := 0) rfl (by decide +kernel) rfl) ?_
  refine rcons (ro_iload_n (k := 1) rfl (by decide +kernel) rfl) ?_
  refine rcons (ro_iload_n (k := 2) rfl (by decide +kernel) rfl) ?_
  refine rcons (ro_callVH (C := rN0) (T := rF0) (N := 7) rfl ok_c_monthSwap (by decide +kernel) ⟨⟨by decide, by decide, List.mem_cons_of_mem _ q_586, rfl⟩, trivial⟩ (by decide) (fun s args ht => cwV (C := rN0) 2 ht (rgoodV (C := rN0) (fun w h => List.mem_cons_of_mem _ h) q_833 q_834 q_835 q_13 q_836) rfl rfl rfl hv_c_monthSwap ⟨Nat.le_of_ble_eq_true rfl, Nat.le_of_ble_eq_true rfl⟩) rfl) ?_
  refine rcons (ro_i2l (by decide +kernel) rfl) ?_
  refine rcons (ro_putfN (C := rN2) (T := rF2) (N := 2) (k := 0) (Y := rY2) (host := "RingdaysLaw") (by decide +kernel) rfl (rU2c _) rY2_ok rD2 (by decide) rh15 rfl (Or.inr (Or.inl ⟨rfl, rfl⟩)) rfl) ?_
  refine rcons (ro_goto (off := 7) (by decide +kernel) rfl) ?_
  refine rcons (ro_astore (by decide +kernel) rfl) ?_
  refine rcons (ro_iconst (n := 1) (by decide +kernel) rfl rfl) ?_
  refine rcons (ro_iret (by decide +kernel)) ?_
  refine rcons (ro_iconst (n := 0) (by decide +kernel) rfl rfl) ?_
  refine rcons (ro_iret (by decide +kernel)) ?_
  exact rnil
def ps_w_monthOrder : List Nat := [0, 1, 2, 3, 4, 7, 8, 11, 14, 16, 17, 18, 19]
def tb_w_monthOrder : List RT := [tq_al 3, tq_al 0, tq_il 1, tq_il 2, tq_callH (rV 0 m_c_monthOrder) 3 2 2 [(0, 8)], tq_i2l, tq_putf 2 0 1, tq_go 11, tq_as 5 4, tq_ic 1, tq_iret 2, tq_ic 0, tq_iret 2]
def m_w_monthOrder : RM := rMeth tb_w_monthOrder 400 5
abbrev rm_w_monthOrder : Room := { frames := 8, cells := 2, slots := 24, locals := 133 }
set_option maxHeartbeats 4000000 in
set_option maxRecDepth 20000 in
theorem ok_w_monthOrder : rMet y_w_monthOrder (Cond.codeWith y_w_monthOrder method_33_code 5 (some .int) [(0, 11, 14, 19)] :: rT) rm_w_monthOrder 2 m_w_monthOrder := by
  refine rMeth_okH (ps := ps_w_monthOrder) (tab := tb_w_monthOrder) (by decide) rfl rfl rfl rfl ?_
  refine rcons (ro_aload_n (k := 3) rfl (by decide +kernel) rfl) ?_
  refine rcons (ro_aload_n (k := 0) rfl (by decide +kernel) rfl) ?_
  refine rcons (ro_iload_n (k := 1) rfl (by decide +kernel) rfl) ?_
  refine rcons (ro_iload_n (k := 2) rfl (by decide +kernel) rfl) ?_
  refine rcons (ro_callVH (C := rN0) (T := rF0) (N := 7) rfl ok_c_monthOrder (by decide +kernel) ⟨⟨by decide, by decide, List.mem_cons_of_mem _ q_586, rfl⟩, trivial⟩ (by decide) (fun s args ht => cwV (C := rN0) 2 ht (rgoodV (C := rN0) (fun w h => List.mem_cons_of_mem _ h) q_840 q_557 q_558 q_13 q_559) rfl rfl rfl hv_c_monthOrder ⟨Nat.le_of_ble_eq_true rfl, Nat.le_of_ble_eq_true rfl⟩) rfl) ?_
  refine rcons (ro_i2l (by decide +kernel) rfl) ?_
  refine rcons (ro_putfN (C := rN2) (T := rF2) (N := 2) (k := 0) (Y := rY2) (host := "RingdaysLaw") (by decide +kernel) rfl (rU2c _) rY2_ok rD2 (by decide) rh15 rfl (Or.inr (Or.inl ⟨rfl, rfl⟩)) rfl) ?_
  refine rcons (ro_goto (off := 7) (by decide +kernel) rfl) ?_
  refine rcons (ro_astore (by decide +kernel) rfl) ?_
  refine rcons (ro_iconst (n := 1) (by decide +kernel) rfl rfl) ?_
  refine rcons (ro_iret (by decide +kernel)) ?_
  refine rcons (ro_iconst (n := 0) (by decide +kernel) rfl rfl) ?_
  refine rcons (ro_iret (by decide +kernel)) ?_
  exact rnil
def ps_w_isSameMonth : List Nat := [0, 1, 2, 3, 4, 7, 10, 11, 14, 15, 18, 21, 23, 24, 25, 26]
def tb_w_isSameMonth : List RT := [tq_al 3, tq_al 0, tq_il 1, tq_il 2, tq_callH (rV 0 m_c_isSameMonth) 3 2 2 [(0, 11)], tq_s1L (fun x => decide (x = 0)) 1 0 9, tq_lc 1, tq_go 9, tq_lc 0, tq_putf 2 0 1, tq_go 14, tq_as 5 4, tq_ic 1, tq_iret 2, tq_ic 0, tq_iret 2]
def m_w_isSameMonth : RM := rMeth tb_w_isSameMonth 400 5
abbrev rm_w_isSameMonth : Room := { frames := 8, cells := 2, slots := 24, locals := 133 }
set_option maxHeartbeats 4000000 in
set_option maxRecDepth 20000 in
theorem ok_w_isSameMonth : rMet y_w_isSameMonth (Cond.codeWith y_w_isSameMonth method_34_code 5 (some .int) [(0, 18, 21, 19)] :: rT) rm_w_isSameMonth 2 m_w_isSameMonth := by
  refine rMeth_okH (ps := ps_w_isSameMonth) (tab := tb_w_isSameMonth) (by decide) rfl rfl rfl rfl ?_
  refine rcons (ro_aload_n (k := 3) rfl (by decide +kernel) rfl) ?_
  refine rcons (ro_aload_n (k := 0) rfl (by decide +kernel) rfl) ?_
  refine rcons (ro_iload_n (k := 1) rfl (by decide +kernel) rfl) ?_
  refine rcons (ro_iload_n (k := 2) rfl (by decide +kernel) rfl) ?_
  refine rcons (ro_callVH (C := rN0) (T := rF0) (N := 7) rfl ok_c_isSameMonth (by decide +kernel) ⟨⟨by decide, by decide, List.mem_cons_of_mem _ q_586, rfl⟩, trivial⟩ (by decide) (fun s args ht => cwV (C := rN0) 2 ht (rgoodV (C := rN0) (fun w h => List.mem_cons_of_mem _ h) q_844 q_845 q_846 q_13 q_847) rfl rfl rfl hv_c_isSameMonth ⟨Nat.le_of_ble_eq_true rfl, Nat.le_of_ble_eq_true rfl⟩) rfl) ?_
  refine rcons (ro_s1L_eq (off := 7) (off2 := 4) (n1 := 1) (n2 := 0) (by decide +kernel) (by decide +kernel) rfl (by decide +kernel) (by decide +kernel) rfl rfl rfl rfl) ?_
  refine rcons (ro_lconst (n := 1) (by decide +kernel) rfl rfl) ?_
  refine rcons (ro_goto (off := 4) (by decide +kernel) rfl) ?_
  refine rcons (ro_lconst (n := 0) (by decide +kernel) rfl rfl) ?_
  refine rcons (ro_putfN (C := rN2) (T := rF2) (N := 2) (k := 0) (Y := rY2) (host := "RingdaysLaw") (by decide +kernel) rfl (rU2c _) rY2_ok rD2 (by decide) rh15 rfl (Or.inr (Or.inl ⟨rfl, rfl⟩)) rfl) ?_
  refine rcons (ro_goto (off := 7) (by decide +kernel) rfl) ?_
  refine rcons (ro_astore (by decide +kernel) rfl) ?_
  refine rcons (ro_iconst (n := 1) (by decide +kernel) rfl rfl) ?_
  refine rcons (ro_iret (by decide +kernel)) ?_
  refine rcons (ro_iconst (n := 0) (by decide +kernel) rfl rfl) ?_
  refine rcons (ro_iret (by decide +kernel)) ?_
  exact rnil
def ps_w_isMonth : List Nat := [0, 1, 2, 3, 4, 7, 10, 11, 14, 15, 18, 21, 23, 24, 25, 27, 28, 29, 30]
def tb_w_isMonth : List RT := [tq_al 3, tq_al 0, tq_il 1, tq_il 2, tq_callH (rV 0 m_c_isMonth) 3 2 2 [(0, 11), (1, 14)], tq_s1L (fun x => decide (x = 0)) 1 0 9, tq_lc 1, tq_go 9, tq_lc 0, tq_putf 2 0 1, tq_go 17, tq_as 5 4, tq_ic 1, tq_iret 2, tq_as 5 4, tq_ic 2, tq_iret 2, tq_ic 0, tq_iret 2]
def m_w_isMonth : RM := rMeth tb_w_isMonth 400 5
abbrev rm_w_isMonth : Room := { frames := 9, cells := 2, slots := 24, locals := 157 }
set_option maxHeartbeats 4000000 in
set_option maxRecDepth 20000 in
theorem ok_w_isMonth : rMet y_w_isMonth (Cond.codeWith y_w_isMonth method_35_code 5 (some .int) [(0, 18, 21, 19), (0, 18, 25, 21)] :: rT) rm_w_isMonth 2 m_w_isMonth := by
  refine rMeth_okH (ps := ps_w_isMonth) (tab := tb_w_isMonth) (by decide) rfl rfl rfl rfl ?_
  refine rcons (ro_aload_n (k := 3) rfl (by decide +kernel) rfl) ?_
  refine rcons (ro_aload_n (k := 0) rfl (by decide +kernel) rfl) ?_
  refine rcons (ro_iload_n (k := 1) rfl (by decide +kernel) rfl) ?_
  refine rcons (ro_iload_n (k := 2) rfl (by decide +kernel) rfl) ?_
  refine rcons (ro_callVH (C := rN0) (T := rF0) (N := 7) rfl ok_c_isMonth (by decide +kernel) ⟨⟨by decide, by decide, List.mem_cons_of_mem _ q_586, rfl⟩, ⟨⟨by decide, by decide, List.mem_cons_of_mem _ q_587, rfl⟩, trivial⟩⟩ (by decide) (fun s args ht => cwV (C := rN0) 2 ht (rgoodV (C := rN0) (fun w h => List.mem_cons_of_mem _ h) q_851 q_852 q_853 q_13 q_854) rfl rfl rfl hv_c_isMonth ⟨Nat.le_of_ble_eq_true rfl, Nat.le_of_ble_eq_true rfl⟩) rfl) ?_
  refine rcons (ro_s1L_eq (off := 7) (off2 := 4) (n1 := 1) (n2 := 0) (by decide +kernel) (by decide +kernel) rfl (by decide +kernel) (by decide +kernel) rfl rfl rfl rfl) ?_
  refine rcons (ro_lconst (n := 1) (by decide +kernel) rfl rfl) ?_
  refine rcons (ro_goto (off := 4) (by decide +kernel) rfl) ?_
  refine rcons (ro_lconst (n := 0) (by decide +kernel) rfl rfl) ?_
  refine rcons (ro_putfN (C := rN2) (T := rF2) (N := 2) (k := 0) (Y := rY2) (host := "RingdaysLaw") (by decide +kernel) rfl (rU2c _) rY2_ok rD2 (by decide) rh15 rfl (Or.inr (Or.inl ⟨rfl, rfl⟩)) rfl) ?_
  refine rcons (ro_goto (off := 11) (by decide +kernel) rfl) ?_
  refine rcons (ro_astore (by decide +kernel) rfl) ?_
  refine rcons (ro_iconst (n := 1) (by decide +kernel) rfl rfl) ?_
  refine rcons (ro_iret (by decide +kernel)) ?_
  refine rcons (ro_astore (by decide +kernel) rfl) ?_
  refine rcons (ro_iconst (n := 2) (by decide +kernel) rfl rfl) ?_
  refine rcons (ro_iret (by decide +kernel)) ?_
  refine rcons (ro_iconst (n := 0) (by decide +kernel) rfl rfl) ?_
  refine rcons (ro_iret (by decide +kernel)) ?_
  exact rnil
def ps_w_length : List Nat := [0, 1, 2, 3, 4, 7, 8, 11, 14, 16, 17, 18, 19]
def tb_w_length : List RT := [tq_al 3, tq_al 0, tq_il 1, tq_il 2, tq_callH (rV 0 m_c_length) 3 1 1 [(0, 8)], tq_i2l, tq_putf 2 0 1, tq_go 11, tq_as 5 4, tq_ic 1, tq_iret 1, tq_ic 0, tq_iret 1]
def m_w_length : RM := rMeth tb_w_length 400 5
abbrev rm_w_length : Room := { frames := 8, cells := 1, slots := 12, locals := 133 }
set_option maxHeartbeats 4000000 in
set_option maxRecDepth 20000 in
theorem ok_w_length : rMet y_w_length (Cond.codeWith y_w_length method_36_code 5 (some .int) [(0, 11, 14, 19)] :: rT) rm_w_length 1 m_w_length := by
  refine rMeth_okH (ps := ps_w_length) (tab := tb_w_length) (by decide) rfl rfl rfl rfl ?_
  refine rcons (ro_aload_n (k := 3) rfl (by decide +kernel) rfl) ?_
  refine rcons (ro_aload_n (k := 0) rfl (by decide +kernel) rfl) ?_
  refine rcons (ro_iload_n (k := 1) rfl (by decide +kernel) rfl) ?_
  refine rcons (ro_iload_n (k := 2) rfl (by decide +kernel) rfl) ?_
  refine rcons (ro_callVH (C := rN0) (T := rF0) (N := 7) rfl ok_c_length (by decide +kernel) ⟨⟨by decide, by decide, List.mem_cons_of_mem _ q_586, rfl⟩, trivial⟩ (by decide) (fun s args ht => cwV (C := rN0) 2 ht (rgoodV (C := rN0) (fun w h => List.mem_cons_of_mem _ h) q_858 q_859 q_860 q_13 q_861) rfl rfl rfl hv_c_length ⟨Nat.le_of_ble_eq_true rfl, Nat.le_of_ble_eq_true rfl⟩) rfl) ?_
  refine rcons (ro_i2l (by decide +kernel) rfl) ?_
  refine rcons (ro_putfN (C := rN2) (T := rF2) (N := 2) (k := 0) (Y := rY2) (host := "RingdaysLaw") (by decide +kernel) rfl (rU2c _) rY2_ok rD2 (by decide) rh15 rfl (Or.inr (Or.inl ⟨rfl, rfl⟩)) rfl) ?_
  refine rcons (ro_goto (off := 7) (by decide +kernel) rfl) ?_
  refine rcons (ro_astore (by decide +kernel) rfl) ?_
  refine rcons (ro_iconst (n := 1) (by decide +kernel) rfl rfl) ?_
  refine rcons (ro_iret (by decide +kernel)) ?_
  refine rcons (ro_iconst (n := 0) (by decide +kernel) rfl rfl) ?_
  refine rcons (ro_iret (by decide +kernel)) ?_
  exact rnil
def ps_w_least : List Nat := [0, 1, 2, 3, 6, 7, 10, 13, 14, 15, 16, 17]
def tb_w_least : List RT := [tq_al 2, tq_al 0, tq_il 1, tq_callH (rV 0 m_c_least) 2 1 1 [(0, 7)], tq_i2l, tq_putf 2 0 1, tq_go 10, tq_as 4 3, tq_ic 1, tq_iret 1, tq_ic 0, tq_iret 1]
def m_w_least : RM := rMeth tb_w_least 400 4
abbrev rm_w_least : Room := { frames := 8, cells := 1, slots := 12, locals := 132 }
set_option maxHeartbeats 4000000 in
set_option maxRecDepth 20000 in
theorem ok_w_least : rMet y_w_least (Cond.codeWith y_w_least method_37_code 4 (some .int) [(0, 10, 13, 19)] :: rT) rm_w_least 1 m_w_least := by
  refine rMeth_okH (ps := ps_w_least) (tab := tb_w_least) (by decide) rfl rfl rfl rfl ?_
  refine rcons (ro_aload_n (k := 2) rfl (by decide +kernel) rfl) ?_
  refine rcons (ro_aload_n (k := 0) rfl (by decide +kernel) rfl) ?_
  refine rcons (ro_iload_n (k := 1) rfl (by decide +kernel) rfl) ?_
  refine rcons (ro_callVH (C := rN0) (T := rF0) (N := 7) rfl ok_c_least (by decide +kernel) ⟨⟨by decide, by decide, List.mem_cons_of_mem _ q_586, rfl⟩, trivial⟩ (by decide) (fun s args ht => cwV (C := rN0) 1 ht (rgoodV (C := rN0) (fun w h => List.mem_cons_of_mem _ h) q_865 q_866 q_867 q_13 q_868) rfl rfl rfl hv_c_least ⟨Nat.le_of_ble_eq_true rfl, Nat.le_of_ble_eq_true rfl⟩) rfl) ?_
  refine rcons (ro_i2l (by decide +kernel) rfl) ?_
  refine rcons (ro_putfN (C := rN2) (T := rF2) (N := 2) (k := 0) (Y := rY2) (host := "RingdaysLaw") (by decide +kernel) rfl (rU2c _) rY2_ok rD2 (by decide) rh15 rfl (Or.inr (Or.inl ⟨rfl, rfl⟩)) rfl) ?_
  refine rcons (ro_goto (off := 6) (by decide +kernel) rfl) ?_
  refine rcons (ro_astore_n (k := 3) rfl (by decide +kernel) rfl) ?_
  refine rcons (ro_iconst (n := 1) (by decide +kernel) rfl rfl) ?_
  refine rcons (ro_iret (by decide +kernel)) ?_
  refine rcons (ro_iconst (n := 0) (by decide +kernel) rfl rfl) ?_
  refine rcons (ro_iret (by decide +kernel)) ?_
  exact rnil
def ps_w_greatest : List Nat := [0, 1, 2, 3, 6, 7, 10, 13, 14, 15, 16, 17]
def tb_w_greatest : List RT := [tq_al 2, tq_al 0, tq_il 1, tq_callH (rV 0 m_c_greatest) 2 1 1 [(0, 7)], tq_i2l, tq_putf 2 0 1, tq_go 10, tq_as 4 3, tq_ic 1, tq_iret 1, tq_ic 0, tq_iret 1]
def m_w_greatest : RM := rMeth tb_w_greatest 400 4
abbrev rm_w_greatest : Room := { frames := 8, cells := 1, slots := 12, locals := 132 }
set_option maxHeartbeats 4000000 in
set_option maxRecDepth 20000 in
theorem ok_w_greatest : rMet y_w_greatest (Cond.codeWith y_w_greatest method_38_code 4 (some .int) [(0, 10, 13, 19)] :: rT) rm_w_greatest 1 m_w_greatest := by
  refine rMeth_okH (ps := ps_w_greatest) (tab := tb_w_greatest) (by decide) rfl rfl rfl rfl ?_
  refine rcons (ro_aload_n (k := 2) rfl (by decide +kernel) rfl) ?_
  refine rcons (ro_aload_n (k := 0) rfl (by decide +kernel) rfl) ?_
  refine rcons (ro_iload_n (k := 1) rfl (by decide +kernel) rfl) ?_
  refine rcons (ro_callVH (C := rN0) (T := rF0) (N := 7) rfl ok_c_greatest (by decide +kernel) ⟨⟨by decide, by decide, List.mem_cons_of_mem _ q_586, rfl⟩, trivial⟩ (by decide) (fun s args ht => cwV (C := rN0) 1 ht (rgoodV (C := rN0) (fun w h => List.mem_cons_of_mem _ h) q_872 q_873 q_874 q_13 q_875) rfl rfl rfl hv_c_greatest ⟨Nat.le_of_ble_eq_true rfl, Nat.le_of_ble_eq_true rfl⟩) rfl) ?_
  refine rcons (ro_i2l (by decide +kernel) rfl) ?_
  refine rcons (ro_putfN (C := rN2) (T := rF2) (N := 2) (k := 0) (Y := rY2) (host := "RingdaysLaw") (by decide +kernel) rfl (rU2c _) rY2_ok rD2 (by decide) rh15 rfl (Or.inr (Or.inl ⟨rfl, rfl⟩)) rfl) ?_
  refine rcons (ro_goto (off := 6) (by decide +kernel) rfl) ?_
  refine rcons (ro_astore_n (k := 3) rfl (by decide +kernel) rfl) ?_
  refine rcons (ro_iconst (n := 1) (by decide +kernel) rfl rfl) ?_
  refine rcons (ro_iret (by decide +kernel)) ?_
  refine rcons (ro_iconst (n := 0) (by decide +kernel) rfl rfl) ?_
  refine rcons (ro_iret (by decide +kernel)) ?_
  exact rnil
def ps_w_first : List Nat := [0, 1, 2, 3, 4, 7, 8, 11, 14, 16, 17, 18, 19]
def tb_w_first : List RT := [tq_al 3, tq_al 0, tq_il 1, tq_il 2, tq_callH (rV 0 m_c_first) 3 1 1 [(0, 8)], tq_i2l, tq_putf 2 0 1, tq_go 11, tq_as 5 4, tq_ic 1, tq_iret 1, tq_ic 0, tq_iret 1]
def m_w_first : RM := rMeth tb_w_first 400 5
abbrev rm_w_first : Room := { frames := 8, cells := 1, slots := 12, locals := 133 }
set_option maxHeartbeats 4000000 in
set_option maxRecDepth 20000 in
theorem ok_w_first : rMet y_w_first (Cond.codeWith y_w_first method_39_code 5 (some .int) [(0, 11, 14, 19)] :: rT) rm_w_first 1 m_w_first := by
  refine rMeth_okH (ps := ps_w_first) (tab := tb_w_first) (by decide) rfl rfl rfl rfl ?_
  refine rcons (ro_aload_n (k := 3) rfl (by decide +kernel) rfl) ?_
  refine rcons (ro_aload_n (k := 0) rfl (by decide +kernel) rfl) ?_
  refine rcons (ro_iload_n (k := 1) rfl (by decide +kernel) rfl) ?_
  refine rcons (ro_iload_n (k := 2) rfl (by decide +kernel) rfl) ?_
  refine rcons (ro_callVH (C := rN0) (T := rF0) (N := 7) rfl ok_c_first (by decide +kernel) ⟨⟨by decide, by decide, List.mem_cons_of_mem _ q_586, rfl⟩, trivial⟩ (by decide) (fun s args ht => cwV (C := rN0) 2 ht (rgoodV (C := rN0) (fun w h => List.mem_cons_of_mem _ h) q_879 q_880 q_881 q_13 q_882) rfl rfl rfl hv_c_first ⟨Nat.le_of_ble_eq_true rfl, Nat.le_of_ble_eq_true rfl⟩) rfl) ?_
  refine rcons (ro_i2l (by decide +kernel) rfl) ?_
  refine rcons (ro_putfN (C := rN2) (T := rF2) (N := 2) (k := 0) (Y := rY2) (host := "RingdaysLaw") (by decide +kernel) rfl (rU2c _) rY2_ok rD2 (by decide) rh15 rfl (Or.inr (Or.inl ⟨rfl, rfl⟩)) rfl) ?_
  refine rcons (ro_goto (off := 7) (by decide +kernel) rfl) ?_
  refine rcons (ro_astore (by decide +kernel) rfl) ?_
  refine rcons (ro_iconst (n := 1) (by decide +kernel) rfl rfl) ?_
  refine rcons (ro_iret (by decide +kernel)) ?_
  refine rcons (ro_iconst (n := 0) (by decide +kernel) rfl rfl) ?_
  refine rcons (ro_iret (by decide +kernel)) ?_
  exact rnil
def ps_w_quarter : List Nat := [0, 1, 2, 3, 6, 7, 10, 13, 14, 15, 16, 17]
def tb_w_quarter : List RT := [tq_al 2, tq_al 0, tq_il 1, tq_callH (rV 0 m_c_quarter) 2 1 1 [(0, 7)], tq_i2l, tq_putf 2 0 1, tq_go 10, tq_as 4 3, tq_ic 1, tq_iret 1, tq_ic 0, tq_iret 1]
def m_w_quarter : RM := rMeth tb_w_quarter 400 4
abbrev rm_w_quarter : Room := { frames := 8, cells := 1, slots := 12, locals := 132 }
set_option maxHeartbeats 4000000 in
set_option maxRecDepth 20000 in
theorem ok_w_quarter : rMet y_w_quarter (Cond.codeWith y_w_quarter method_40_code 4 (some .int) [(0, 10, 13, 19)] :: rT) rm_w_quarter 1 m_w_quarter := by
  refine rMeth_okH (ps := ps_w_quarter) (tab := tb_w_quarter) (by decide) rfl rfl rfl rfl ?_
  refine rcons (ro_aload_n (k := 2) rfl (by decide +kernel) rfl) ?_
  refine rcons (ro_aload_n (k := 0) rfl (by decide +kernel) rfl) ?_
  refine rcons (ro_iload_n (k := 1) rfl (by decide +kernel) rfl) ?_
  refine rcons (ro_callVH (C := rN0) (T := rF0) (N := 7) rfl ok_c_quarter (by decide +kernel) ⟨⟨by decide, by decide, List.mem_cons_of_mem _ q_586, rfl⟩, trivial⟩ (by decide) (fun s args ht => cwV (C := rN0) 1 ht (rgoodV (C := rN0) (fun w h => List.mem_cons_of_mem _ h) q_886 q_887 q_888 q_13 q_889) rfl rfl rfl hv_c_quarter ⟨Nat.le_of_ble_eq_true rfl, Nat.le_of_ble_eq_true rfl⟩) rfl) ?_
  refine rcons (ro_i2l (by decide +kernel) rfl) ?_
  refine rcons (ro_putfN (C := rN2) (T := rF2) (N := 2) (k := 0) (Y := rY2) (host := "RingdaysLaw") (by decide +kernel) rfl (rU2c _) rY2_ok rD2 (by decide) rh15 rfl (Or.inr (Or.inl ⟨rfl, rfl⟩)) rfl) ?_
  refine rcons (ro_goto (off := 6) (by decide +kernel) rfl) ?_
  refine rcons (ro_astore_n (k := 3) rfl (by decide +kernel) rfl) ?_
  refine rcons (ro_iconst (n := 1) (by decide +kernel) rfl rfl) ?_
  refine rcons (ro_iret (by decide +kernel)) ?_
  refine rcons (ro_iconst (n := 0) (by decide +kernel) rfl rfl) ?_
  refine rcons (ro_iret (by decide +kernel)) ?_
  exact rnil
def ps_w_toQuarter : List Nat := [0, 1, 2, 3, 6, 7, 10, 13, 14, 15, 16, 17]
def tb_w_toQuarter : List RT := [tq_al 2, tq_al 0, tq_il 1, tq_callH (rV 0 m_c_toQuarter) 2 2 2 [(0, 7)], tq_i2l, tq_putf 2 0 1, tq_go 10, tq_as 4 3, tq_ic 1, tq_iret 2, tq_ic 0, tq_iret 2]
def m_w_toQuarter : RM := rMeth tb_w_toQuarter 400 4
abbrev rm_w_toQuarter : Room := { frames := 9, cells := 2, slots := 24, locals := 157 }
set_option maxHeartbeats 4000000 in
set_option maxRecDepth 20000 in
theorem ok_w_toQuarter : rMet y_w_toQuarter (Cond.codeWith y_w_toQuarter method_41_code 4 (some .int) [(0, 10, 13, 19)] :: rT) rm_w_toQuarter 2 m_w_toQuarter := by
  refine rMeth_okH (ps := ps_w_toQuarter) (tab := tb_w_toQuarter) (by decide) rfl rfl rfl rfl ?_
  refine rcons (ro_aload_n (k := 2) rfl (by decide +kernel) rfl) ?_
  refine rcons (ro_aload_n (k := 0) rfl (by decide +kernel) rfl) ?_
  refine rcons (ro_iload_n (k := 1) rfl (by decide +kernel) rfl) ?_
  refine rcons (ro_callVH (C := rN0) (T := rF0) (N := 7) rfl ok_c_toQuarter (by decide +kernel) ⟨⟨by decide, by decide, List.mem_cons_of_mem _ q_586, rfl⟩, trivial⟩ (by decide) (fun s args ht => cwV (C := rN0) 1 ht (rgoodV (C := rN0) (fun w h => List.mem_cons_of_mem _ h) q_893 q_894 q_895 q_13 q_896) rfl rfl rfl hv_c_toQuarter ⟨Nat.le_of_ble_eq_true rfl, Nat.le_of_ble_eq_true rfl⟩) rfl) ?_
  refine rcons (ro_i2l (by decide +kernel) rfl) ?_
  refine rcons (ro_putfN (C := rN2) (T := rF2) (N := 2) (k := 0) (Y := rY2) (host := "RingdaysLaw") (by decide +kernel) rfl (rU2c _) rY2_ok rD2 (by decide) rh15 rfl (Or.inr (Or.inl ⟨rfl, rfl⟩)) rfl) ?_
  refine rcons (ro_goto (off := 6) (by decide +kernel) rfl) ?_
  refine rcons (ro_astore_n (k := 3) rfl (by decide +kernel) rfl) ?_
  refine rcons (ro_iconst (n := 1) (by decide +kernel) rfl rfl) ?_
  refine rcons (ro_iret (by decide +kernel)) ?_
  refine rcons (ro_iconst (n := 0) (by decide +kernel) rfl rfl) ?_
  refine rcons (ro_iret (by decide +kernel)) ?_
  exact rnil
def ps_w_step : List Nat := [0, 2, 3, 4, 5, 6, 9, 10, 13, 16, 18, 19, 20, 21]
def tb_w_step : List RT := [tq_al 4, tq_al 0, tq_il 1, tq_il 2, tq_il 3, tq_callH (rV 0 m_c_step) 4 4 4 [(0, 9)], tq_i2l, tq_putf 2 0 1, tq_go 12, tq_as 6 5, tq_ic 1, tq_iret 4, tq_ic 0, tq_iret 4]
def m_w_step : RM := rMeth tb_w_step 400 6
abbrev rm_w_step : Room := { frames := 10, cells := 4, slots := 48, locals := 184 }
set_option maxHeartbeats 4000000 in
set_option maxRecDepth 20000 in
theorem ok_w_step : rMet y_w_step (Cond.codeWith y_w_step method_42_code 6 (some .int) [(0, 13, 16, 19)] :: rT) rm_w_step 4 m_w_step := by
  refine rMeth_okH (ps := ps_w_step) (tab := tb_w_step) (by decide) rfl rfl rfl rfl ?_
  refine rcons (ro_aload (by decide +kernel) rfl) ?_
  refine rcons (ro_aload_n (k := 0) rfl (by decide +kernel) rfl) ?_
  refine rcons (ro_iload_n (k := 1) rfl (by decide +kernel) rfl) ?_
  refine rcons (ro_iload_n (k := 2) rfl (by decide +kernel) rfl) ?_
  refine rcons (ro_iload_n (k := 3) rfl (by decide +kernel) rfl) ?_
  refine rcons (ro_callVH (C := rN0) (T := rF0) (N := 7) rfl ok_c_step (by decide +kernel) ⟨⟨by decide, by decide, List.mem_cons_of_mem _ q_586, rfl⟩, trivial⟩ (by decide) (fun s args ht => cwV (C := rN0) 3 ht (rgoodV (C := rN0) (fun w h => List.mem_cons_of_mem _ h) q_900 q_901 q_902 q_13 q_903) rfl rfl rfl hv_c_step ⟨Nat.le_of_ble_eq_true rfl, Nat.le_of_ble_eq_true rfl⟩) rfl) ?_
  refine rcons (ro_i2l (by decide +kernel) rfl) ?_
  refine rcons (ro_putfN (C := rN2) (T := rF2) (N := 2) (k := 0) (Y := rY2) (host := "RingdaysLaw") (by decide +kernel) rfl (rU2c _) rY2_ok rD2 (by decide) rh15 rfl (Or.inr (Or.inl ⟨rfl, rfl⟩)) rfl) ?_
  refine rcons (ro_goto (off := 7) (by decide +kernel) rfl) ?_
  refine rcons (ro_astore (by decide +kernel) rfl) ?_
  refine rcons (ro_iconst (n := 1) (by decide +kernel) rfl rfl) ?_
  refine rcons (ro_iret (by decide +kernel)) ?_
  refine rcons (ro_iconst (n := 0) (by decide +kernel) rfl rfl) ?_
  refine rcons (ro_iret (by decide +kernel)) ?_
  exact rnil
def ps_w_stepBack : List Nat := [0, 2, 3, 4, 5, 6, 9, 10, 13, 16, 18, 19, 20, 21]
def tb_w_stepBack : List RT := [tq_al 4, tq_al 0, tq_il 1, tq_il 2, tq_il 3, tq_callH (rV 0 m_c_stepBack) 4 4 4 [(0, 9)], tq_i2l, tq_putf 2 0 1, tq_go 12, tq_as 6 5, tq_ic 1, tq_iret 4, tq_ic 0, tq_iret 4]
def m_w_stepBack : RM := rMeth tb_w_stepBack 400 6
abbrev rm_w_stepBack : Room := { frames := 10, cells := 4, slots := 48, locals := 184 }
set_option maxHeartbeats 4000000 in
set_option maxRecDepth 20000 in
theorem ok_w_stepBack : rMet y_w_stepBack (Cond.codeWith y_w_stepBack method_43_code 6 (some .int) [(0, 13, 16, 19)] :: rT) rm_w_stepBack 4 m_w_stepBack := by
  refine rMeth_okH (ps := ps_w_stepBack) (tab := tb_w_stepBack) (by decide) rfl rfl rfl rfl ?_
  refine rcons (ro_aload (by decide +kernel) rfl) ?_
  refine rcons (ro_aload_n (k := 0) rfl (by decide +kernel) rfl) ?_
  refine rcons (ro_iload_n (k := 1) rfl (by decide +kernel) rfl) ?_
  refine rcons (ro_iload_n (k := 2) rfl (by decide +kernel) rfl) ?_
  refine rcons (ro_iload_n (k := 3) rfl (by decide +kernel) rfl) ?_
  refine rcons (ro_callVH (C := rN0) (T := rF0) (N := 7) rfl ok_c_stepBack (by decide +kernel) ⟨⟨by decide, by decide, List.mem_cons_of_mem _ q_586, rfl⟩, trivial⟩ (by decide) (fun s args ht => cwV (C := rN0) 3 ht (rgoodV (C := rN0) (fun w h => List.mem_cons_of_mem _ h) q_911 q_912 q_913 q_13 q_914) rfl rfl rfl hv_c_stepBack ⟨Nat.le_of_ble_eq_true rfl, Nat.le_of_ble_eq_true rfl⟩) rfl) ?_
  refine rcons (ro_i2l (by decide +kernel) rfl) ?_
  refine rcons (ro_putfN (C := rN2) (T := rF2) (N := 2) (k := 0) (Y := rY2) (host := "RingdaysLaw") (by decide +kernel) rfl (rU2c _) rY2_ok rD2 (by decide) rh15 rfl (Or.inr (Or.inl ⟨rfl, rfl⟩)) rfl) ?_
  refine rcons (ro_goto (off := 7) (by decide +kernel) rfl) ?_
  refine rcons (ro_astore (by decide +kernel) rfl) ?_
  refine rcons (ro_iconst (n := 1) (by decide +kernel) rfl rfl) ?_
  refine rcons (ro_iret (by decide +kernel)) ?_
  refine rcons (ro_iconst (n := 0) (by decide +kernel) rfl rfl) ?_
  refine rcons (ro_iret (by decide +kernel)) ?_
  exact rnil
def ps_w_begins : List Nat := [0, 2, 3, 4, 5, 6, 9, 10, 13, 16, 18, 19, 20, 21]
def tb_w_begins : List RT := [tq_al 4, tq_al 0, tq_il 1, tq_il 2, tq_il 3, tq_callH (rV 0 m_c_begins) 4 2 2 [(0, 9)], tq_i2l, tq_putf 2 0 1, tq_go 12, tq_as 6 5, tq_ic 1, tq_iret 2, tq_ic 0, tq_iret 2]
def m_w_begins : RM := rMeth tb_w_begins 400 6
abbrev rm_w_begins : Room := { frames := 8, cells := 2, slots := 24, locals := 134 }
set_option maxHeartbeats 4000000 in
set_option maxRecDepth 20000 in
theorem ok_w_begins : rMet y_w_begins (Cond.codeWith y_w_begins method_44_code 6 (some .int) [(0, 13, 16, 19)] :: rT) rm_w_begins 2 m_w_begins := by
  refine rMeth_okH (ps := ps_w_begins) (tab := tb_w_begins) (by decide) rfl rfl rfl rfl ?_
  refine rcons (ro_aload (by decide +kernel) rfl) ?_
  refine rcons (ro_aload_n (k := 0) rfl (by decide +kernel) rfl) ?_
  refine rcons (ro_iload_n (k := 1) rfl (by decide +kernel) rfl) ?_
  refine rcons (ro_iload_n (k := 2) rfl (by decide +kernel) rfl) ?_
  refine rcons (ro_iload_n (k := 3) rfl (by decide +kernel) rfl) ?_
  refine rcons (ro_callVH (C := rN0) (T := rF0) (N := 7) rfl ok_c_begins (by decide +kernel) ⟨⟨by decide, by decide, List.mem_cons_of_mem _ q_586, rfl⟩, trivial⟩ (by decide) (fun s args ht => cwV (C := rN0) 3 ht (rgoodV (C := rN0) (fun w h => List.mem_cons_of_mem _ h) q_918 q_919 q_920 q_13 q_921) rfl rfl rfl hv_c_begins ⟨Nat.le_of_ble_eq_true rfl, Nat.le_of_ble_eq_true rfl⟩) rfl) ?_
  refine rcons (ro_i2l (by decide +kernel) rfl) ?_
  refine rcons (ro_putfN (C := rN2) (T := rF2) (N := 2) (k := 0) (Y := rY2) (host := "RingdaysLaw") (by decide +kernel) rfl (rU2c _) rY2_ok rD2 (by decide) rh15 rfl (Or.inr (Or.inl ⟨rfl, rfl⟩)) rfl) ?_
  refine rcons (ro_goto (off := 7) (by decide +kernel) rfl) ?_
  refine rcons (ro_astore (by decide +kernel) rfl) ?_
  refine rcons (ro_iconst (n := 1) (by decide +kernel) rfl rfl) ?_
  refine rcons (ro_iret (by decide +kernel)) ?_
  refine rcons (ro_iconst (n := 0) (by decide +kernel) rfl rfl) ?_
  refine rcons (ro_iret (by decide +kernel)) ?_
  exact rnil
def ps_w_date : List Nat := [0, 2, 3, 4, 5, 6, 8, 11, 12, 15, 18, 20, 21, 22, 24, 25, 26, 27]
def tb_w_date : List RT := [tq_al 5, tq_al 0, tq_il 1, tq_il 2, tq_il 3, tq_il 4, tq_callH (rV 0 m_c_date) 5 3 3 [(0, 10), (1, 13)], tq_i2l, tq_putf 2 0 1, tq_go 16, tq_as 7 6, tq_ic 1, tq_iret 3, tq_as 7 6, tq_ic 2, tq_iret 3, tq_ic 0, tq_iret 3]
def m_w_date : RM := rMeth tb_w_date 400 7
abbrev rm_w_date : Room := { frames := 8, cells := 3, slots := 36, locals := 137 }
set_option maxHeartbeats 4000000 in
set_option maxRecDepth 20000 in
theorem ok_w_date : rMet y_w_date (Cond.codeWith y_w_date method_45_code 7 (some .int) [(0, 15, 18, 19), (0, 15, 22, 21)] :: rT) rm_w_date 3 m_w_date := by
  refine rMeth_okH (ps := ps_w_date) (tab := tb_w_date) (by decide) rfl rfl rfl rfl ?_
  refine rcons (ro_aload (by decide +kernel) rfl) ?_
  refine rcons (ro_aload_n (k := 0) rfl (by decide +kernel) rfl) ?_
  refine rcons (ro_iload_n (k := 1) rfl (by decide +kernel) rfl) ?_
  refine rcons (ro_iload_n (k := 2) rfl (by decide +kernel) rfl) ?_
  refine rcons (ro_iload_n (k := 3) rfl (by decide +kernel) rfl) ?_
  refine rcons (ro_iload (by decide +kernel) rfl) ?_
  refine rcons (ro_callVH (C := rN0) (T := rF0) (N := 7) rfl ok_c_date (by decide +kernel) ⟨⟨by decide, by decide, List.mem_cons_of_mem _ q_586, rfl⟩, ⟨⟨by decide, by decide, List.mem_cons_of_mem _ q_587, rfl⟩, trivial⟩⟩ (by decide) (fun s args ht => cwV (C := rN0) 4 ht (rgoodV (C := rN0) (fun w h => List.mem_cons_of_mem _ h) q_928 q_929 q_930 q_13 q_931) rfl rfl rfl hv_c_date ⟨Nat.le_of_ble_eq_true rfl, Nat.le_of_ble_eq_true rfl⟩) rfl) ?_
  refine rcons (ro_i2l (by decide +kernel) rfl) ?_
  refine rcons (ro_putfN (C := rN2) (T := rF2) (N := 2) (k := 0) (Y := rY2) (host := "RingdaysLaw") (by decide +kernel) rfl (rU2c _) rY2_ok rD2 (by decide) rh15 rfl (Or.inr (Or.inl ⟨rfl, rfl⟩)) rfl) ?_
  refine rcons (ro_goto (off := 11) (by decide +kernel) rfl) ?_
  refine rcons (ro_astore (by decide +kernel) rfl) ?_
  refine rcons (ro_iconst (n := 1) (by decide +kernel) rfl rfl) ?_
  refine rcons (ro_iret (by decide +kernel)) ?_
  refine rcons (ro_astore (by decide +kernel) rfl) ?_
  refine rcons (ro_iconst (n := 2) (by decide +kernel) rfl rfl) ?_
  refine rcons (ro_iret (by decide +kernel)) ?_
  refine rcons (ro_iconst (n := 0) (by decide +kernel) rfl rfl) ?_
  refine rcons (ro_iret (by decide +kernel)) ?_
  exact rnil
def ps_w_areAlike : List Nat := [0, 2, 3, 4, 5, 6, 9, 12, 13, 16, 17, 20, 23, 25, 26, 27, 28]
def tb_w_areAlike : List RT := [tq_al 4, tq_al 0, tq_il 1, tq_il 2, tq_il 3, tq_callH (rV 0 m_c_areAlike) 4 2 2 [(0, 12)], tq_s1L (fun x => decide (x = 0)) 1 0 10, tq_lc 1, tq_go 10, tq_lc 0, tq_putf 2 0 1, tq_go 15, tq_as 6 5, tq_ic 1, tq_iret 2, tq_ic 0, tq_iret 2]
def m_w_areAlike : RM := rMeth tb_w_areAlike 400 6
abbrev rm_w_areAlike : Room := { frames := 8, cells := 2, slots := 24, locals := 136 }
set_option maxHeartbeats 4000000 in
set_option maxRecDepth 20000 in
theorem ok_w_areAlike : rMet y_w_areAlike (Cond.codeWith y_w_areAlike method_46_code 6 (some .int) [(0, 20, 23, 19)] :: rT) rm_w_areAlike 2 m_w_areAlike := by
  refine rMeth_okH (ps := ps_w_areAlike) (tab := tb_w_areAlike) (by decide) rfl rfl rfl rfl ?_
  refine rcons (ro_aload (by decide +kernel) rfl) ?_
  refine rcons (ro_aload_n (k := 0) rfl (by decide +kernel) rfl) ?_
  refine rcons (ro_iload_n (k := 1) rfl (by decide +kernel) rfl) ?_
  refine rcons (ro_iload_n (k := 2) rfl (by decide +kernel) rfl) ?_
  refine rcons (ro_iload_n (k := 3) rfl (by decide +kernel) rfl) ?_
  refine rcons (ro_callVH (C := rN0) (T := rF0) (N := 7) rfl ok_c_areAlike (by decide +kernel) ⟨⟨by decide, by decide, List.mem_cons_of_mem _ q_586, rfl⟩, trivial⟩ (by decide) (fun s args ht => cwV (C := rN0) 3 ht (rgoodV (C := rN0) (fun w h => List.mem_cons_of_mem _ h) q_935 q_561 q_562 q_13 q_563) rfl rfl rfl hv_c_areAlike ⟨Nat.le_of_ble_eq_true rfl, Nat.le_of_ble_eq_true rfl⟩) rfl) ?_
  refine rcons (ro_s1L_eq (off := 7) (off2 := 4) (n1 := 1) (n2 := 0) (by decide +kernel) (by decide +kernel) rfl (by decide +kernel) (by decide +kernel) rfl rfl rfl rfl) ?_
  refine rcons (ro_lconst (n := 1) (by decide +kernel) rfl rfl) ?_
  refine rcons (ro_goto (off := 4) (by decide +kernel) rfl) ?_
  refine rcons (ro_lconst (n := 0) (by decide +kernel) rfl rfl) ?_
  refine rcons (ro_putfN (C := rN2) (T := rF2) (N := 2) (k := 0) (Y := rY2) (host := "RingdaysLaw") (by decide +kernel) rfl (rU2c _) rY2_ok rD2 (by decide) rh15 rfl (Or.inr (Or.inl ⟨rfl, rfl⟩)) rfl) ?_
  refine rcons (ro_goto (off := 7) (by decide +kernel) rfl) ?_
  refine rcons (ro_astore (by decide +kernel) rfl) ?_
  refine rcons (ro_iconst (n := 1) (by decide +kernel) rfl rfl) ?_
  refine rcons (ro_iret (by decide +kernel)) ?_
  refine rcons (ro_iconst (n := 0) (by decide +kernel) rfl rfl) ?_
  refine rcons (ro_iret (by decide +kernel)) ?_
  exact rnil
def ps_w_keep : List Nat := [0, 1, 2, 3, 6, 7, 10, 13, 14, 15, 16, 17]
def tb_w_keep : List RT := [tq_al 2, tq_al 0, tq_il 1, tq_callH (rV 0 m_c_keep) 2 1 1 [(0, 7)], tq_i2l, tq_putf 2 0 1, tq_go 10, tq_as 4 3, tq_ic 1, tq_iret 1, tq_ic 0, tq_iret 1]
def m_w_keep : RM := rMeth tb_w_keep 400 4
abbrev rm_w_keep : Room := { frames := 8, cells := 1, slots := 12, locals := 133 }
set_option maxHeartbeats 4000000 in
set_option maxRecDepth 20000 in
theorem ok_w_keep : rMet y_w_keep (Cond.codeWith y_w_keep method_47_code 4 (some .int) [(0, 10, 13, 19)] :: rT) rm_w_keep 1 m_w_keep := by
  refine rMeth_okH (ps := ps_w_keep) (tab := tb_w_keep) (by decide) rfl rfl rfl rfl ?_
  refine rcons (ro_aload_n (k := 2) rfl (by decide +kernel) rfl) ?_
  refine rcons (ro_aload_n (k := 0) rfl (by decide +kernel) rfl) ?_
  refine rcons (ro_iload_n (k := 1) rfl (by decide +kernel) rfl) ?_
  refine rcons (ro_callVH (C := rN0) (T := rF0) (N := 7) rfl ok_c_keep (by decide +kernel) ⟨⟨by decide, by decide, List.mem_cons_of_mem _ q_586, rfl⟩, trivial⟩ (by decide) (fun s args ht => cwV (C := rN0) 1 ht (rgoodV (C := rN0) (fun w h => List.mem_cons_of_mem _ h) q_939 q_940 q_941 q_13 q_942) rfl rfl rfl hv_c_keep ⟨Nat.le_of_ble_eq_true rfl, Nat.le_of_ble_eq_true rfl⟩) rfl) ?_
  refine rcons (ro_i2l (by decide +kernel) rfl) ?_
  refine rcons (ro_putfN (C := rN2) (T := rF2) (N := 2) (k := 0) (Y := rY2) (host := "RingdaysLaw") (by decide +kernel) rfl (rU2c _) rY2_ok rD2 (by decide) rh15 rfl (Or.inr (Or.inl ⟨rfl, rfl⟩)) rfl) ?_
  refine rcons (ro_goto (off := 6) (by decide +kernel) rfl) ?_
  refine rcons (ro_astore_n (k := 3) rfl (by decide +kernel) rfl) ?_
  refine rcons (ro_iconst (n := 1) (by decide +kernel) rfl rfl) ?_
  refine rcons (ro_iret (by decide +kernel)) ?_
  refine rcons (ro_iconst (n := 0) (by decide +kernel) rfl rfl) ?_
  refine rcons (ro_iret (by decide +kernel)) ?_
  exact rnil
def ps_w_back : List Nat := [0, 1, 2, 3, 6, 7, 10, 13, 14, 15, 16, 17, 18, 19, 20]
def tb_w_back : List RT := [tq_al 2, tq_al 0, tq_il 1, tq_callH (rV 0 m_c_back) 2 2 2 [(0, 7), (2, 10)], tq_i2l, tq_putf 2 0 1, tq_go 13, tq_as 4 3, tq_ic 1, tq_iret 2, tq_as 4 3, tq_ic 2, tq_iret 2, tq_ic 0, tq_iret 2]
def m_w_back : RM := rMeth tb_w_back 400 4
abbrev rm_w_back : Room := { frames := 8, cells := 2, slots := 24, locals := 133 }
set_option maxHeartbeats 4000000 in
set_option maxRecDepth 20000 in
theorem ok_w_back : rMet y_w_back (Cond.codeWith y_w_back method_48_code 4 (some .int) [(0, 10, 13, 19), (0, 10, 16, 174)] :: rT) rm_w_back 2 m_w_back := by
  refine rMeth_okH (ps := ps_w_back) (tab := tb_w_back) (by decide) rfl rfl rfl rfl ?_
  refine rcons (ro_aload_n (k := 2) rfl (by decide +kernel) rfl) ?_
  refine rcons (ro_aload_n (k := 0) rfl (by decide +kernel) rfl) ?_
  refine rcons (ro_iload_n (k := 1) rfl (by decide +kernel) rfl) ?_
  refine rcons (ro_callVH (C := rN0) (T := rF0) (N := 7) rfl ok_c_back (by decide +kernel) ⟨⟨by decide, by decide, List.mem_cons_of_mem _ q_586, rfl⟩, ⟨⟨by decide, by decide, List.mem_cons_of_mem _ q_949, rfl⟩, trivial⟩⟩ (by decide) (fun s args ht => cwV (C := rN0) 1 ht (rgoodV (C := rN0) (fun w h => List.mem_cons_of_mem _ h) q_950 q_951 q_952 q_13 q_953) rfl rfl rfl hv_c_back ⟨Nat.le_of_ble_eq_true rfl, Nat.le_of_ble_eq_true rfl⟩) rfl) ?_
  refine rcons (ro_i2l (by decide +kernel) rfl) ?_
  refine rcons (ro_putfN (C := rN2) (T := rF2) (N := 2) (k := 0) (Y := rY2) (host := "RingdaysLaw") (by decide +kernel) rfl (rU2c _) rY2_ok rD2 (by decide) rh15 rfl (Or.inr (Or.inl ⟨rfl, rfl⟩)) rfl) ?_
  refine rcons (ro_goto (off := 9) (by decide +kernel) rfl) ?_
  refine rcons (ro_astore_n (k := 3) rfl (by decide +kernel) rfl) ?_
  refine rcons (ro_iconst (n := 1) (by decide +kernel) rfl rfl) ?_
  refine rcons (ro_iret (by decide +kernel)) ?_
  refine rcons (ro_astore_n (k := 3) rfl (by decide +kernel) rfl) ?_
  refine rcons (ro_iconst (n := 2) (by decide +kernel) rfl rfl) ?_
  refine rcons (ro_iret (by decide +kernel)) ?_
  refine rcons (ro_iconst (n := 0) (by decide +kernel) rfl rfl) ?_
  refine rcons (ro_iret (by decide +kernel)) ?_
  exact rnil
def ps_w_isKept : List Nat := [0, 1, 2, 3, 6, 9, 10, 13, 14, 17, 20, 21, 22, 23, 24]
def tb_w_isKept : List RT := [tq_al 2, tq_al 0, tq_il 1, tq_callH (rV 0 m_c_isKept) 2 1 1 [(0, 10)], tq_s1L (fun x => decide (x = 0)) 1 0 8, tq_lc 1, tq_go 8, tq_lc 0, tq_putf 2 0 1, tq_go 13, tq_as 4 3, tq_ic 1, tq_iret 1, tq_ic 0, tq_iret 1]
def m_w_isKept : RM := rMeth tb_w_isKept 400 4
abbrev rm_w_isKept : Room := { frames := 7, cells := 1, slots := 12, locals := 111 }
set_option maxHeartbeats 4000000 in
set_option maxRecDepth 20000 in
theorem ok_w_isKept : rMet y_w_isKept (Cond.codeWith y_w_isKept method_49_code 4 (some .int) [(0, 17, 20, 19)] :: rT) rm_w_isKept 1 m_w_isKept := by
  refine rMeth_okH (ps := ps_w_isKept) (tab := tb_w_isKept) (by decide) rfl rfl rfl rfl ?_
  refine rcons (ro_aload_n (k := 2) rfl (by decide +kernel) rfl) ?_
  refine rcons (ro_aload_n (k := 0) rfl (by decide +kernel) rfl) ?_
  refine rcons (ro_iload_n (k := 1) rfl (by decide +kernel) rfl) ?_
  refine rcons (ro_callVH (C := rN0) (T := rF0) (N := 7) rfl ok_c_isKept (by decide +kernel) ⟨⟨by decide, by decide, List.mem_cons_of_mem _ q_586, rfl⟩, trivial⟩ (by decide) (fun s args ht => cwV (C := rN0) 1 ht (rgoodV (C := rN0) (fun w h => List.mem_cons_of_mem _ h) q_976 q_565 q_566 q_13 q_567) rfl rfl rfl hv_c_isKept ⟨Nat.le_of_ble_eq_true rfl, Nat.le_of_ble_eq_true rfl⟩) rfl) ?_
  refine rcons (ro_s1L_eq (off := 7) (off2 := 4) (n1 := 1) (n2 := 0) (by decide +kernel) (by decide +kernel) rfl (by decide +kernel) (by decide +kernel) rfl rfl rfl rfl) ?_
  refine rcons (ro_lconst (n := 1) (by decide +kernel) rfl rfl) ?_
  refine rcons (ro_goto (off := 4) (by decide +kernel) rfl) ?_
  refine rcons (ro_lconst (n := 0) (by decide +kernel) rfl rfl) ?_
  refine rcons (ro_putfN (C := rN2) (T := rF2) (N := 2) (k := 0) (Y := rY2) (host := "RingdaysLaw") (by decide +kernel) rfl (rU2c _) rY2_ok rD2 (by decide) rh15 rfl (Or.inr (Or.inl ⟨rfl, rfl⟩)) rfl) ?_
  refine rcons (ro_goto (off := 6) (by decide +kernel) rfl) ?_
  refine rcons (ro_astore_n (k := 3) rfl (by decide +kernel) rfl) ?_
  refine rcons (ro_iconst (n := 1) (by decide +kernel) rfl rfl) ?_
  refine rcons (ro_iret (by decide +kernel)) ?_
  refine rcons (ro_iconst (n := 0) (by decide +kernel) rfl rfl) ?_
  refine rcons (ro_iret (by decide +kernel)) ?_
  exact rnil
end RKM
