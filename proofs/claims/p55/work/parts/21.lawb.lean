section RKM
def dl_l18 : List (Nat × Instr × Nat) := [(1032, .aload_n 1, 1), (1033, .aload_n 0, 1), (1034, .iload 4, 2), (1036, .iconst 1, 1), (1037, .iadd, 1), (1038, .iaload, 1), (1039, .aload_n 3, 1), (1040, .invokestatic 245, 3), (1043, .istore 5, 2), (1045, .aload_n 2, 1), (1046, .aload_n 0, 1), (1047, .iload 4, 2), (1049, .iconst 1, 1), (1050, .iadd, 1), (1051, .iaload, 1), (1052, .invokevirtual 247, 3), (1055, .istore 6, 2), (1057, .goto 1394, 3)]
theorem dc_l18 : ∀ (k : Nat) (q : Nat × Instr × Nat), dl_l18[k]? = some q → decode code q.1 = .ok q.2 := dchk_at (a := 1032) (by decide +kernel)
def ps_l18 : List Nat := [1032, 1033, 1034, 1036, 1037, 1038, 1039, 1040, 1043, 1045, 1046, 1047, 1049, 1050, 1051, 1052, 1055, 1057, 2451]
def tb_l18 (L : Nat) (xs : Nat → Int32) (i : Int32) (g1 : Bool) (v1 : Int32) (g2 : Bool) (v2 : Int32) (g3 : Bool) (v3 : Int32) (g4 : Bool) (v4 : Int32) (z2 z3 z4 : Bool) : List RT := [tq_al 1, tq_al 0, tq_il 4, tq_ic 1, tq_i2 (fun x y => x + y), tq_isc L xs g1 v1, tq_al 3, tq_callH m_w_monthNumber 3 1 1000 [], tq_is 7 5, tq_al 2, tq_al 0, tq_il 4, tq_ic 1, tq_i2 (fun x y => x + y), tq_isc L xs g1 v1, tq_callH (rV 1 m_d_monthNumber) 2 0 1000 [], tq_is 7 6, tq_go 18, tq_stop i]
set_option maxHeartbeats 4000000 in
set_option maxRecDepth 20000 in
theorem ok_l18 (L : Nat) (xs : Nat → Int32) (i : Int32) (g1 : Bool) (v1 : Int32) (g2 : Bool) (v2 : Int32) (g3 : Bool) (v3 : Int32) (g4 : Bool) (v4 : Int32) (z2 z3 z4 : Bool) : rAll (rOk (fun G => rSc G = (L, xs)) code "RingdaysLaw" 7 rTL room_1 [] 1000 (.inr (2451, i)) (fun o => ps_l18.getD o 0)) ps_l18 (tb_l18 L xs i g1 v1 g2 v2 g3 v3 g4 v4 z2 z3 z4) := by
  refine rcons (ro_aload_n (k := 1) rfl (dca dc_l18 0 rfl) rfl) ?_
  refine rcons (ro_aload_n (k := 0) rfl (dca dc_l18 1 rfl) rfl) ?_
  refine rcons (ro_iload (dca dc_l18 2 rfl) rfl) ?_
  refine rcons (ro_iconst (n := 1) (dca dc_l18 3 rfl) rfl rfl) ?_
  refine rcons (ro_iadd (dca dc_l18 4 rfl) rfl) ?_
  refine rcons (ro_isc (fun _ h => h) (dca dc_l18 5 rfl) rfl) ?_
  refine rcons (ro_aload_n (k := 3) rfl (dca dc_l18 6 rfl) rfl) ?_
  refine rcons (ro_callSX ok_w_monthNumber (dca dc_l18 7 rfl) rfl (fun s args ht => vx_cwSW 3 ht (rgoodS (fun w h => List.mem_cons_of_mem _ h) q_743 q_744 q_12 q_745) rfl rfl rfl hy_w_monthNumber ⟨Nat.le_of_ble_eq_true rfl, Nat.le_of_ble_eq_true rfl⟩) rfl) ?_
  refine rcons (ro_istore (dca dc_l18 8 rfl) rfl) ?_
  refine rcons (ro_aload_n (k := 2) rfl (dca dc_l18 9 rfl) rfl) ?_
  refine rcons (ro_aload_n (k := 0) rfl (dca dc_l18 10 rfl) rfl) ?_
  refine rcons (ro_iload (dca dc_l18 11 rfl) rfl) ?_
  refine rcons (ro_iconst (n := 1) (dca dc_l18 12 rfl) rfl rfl) ?_
  refine rcons (ro_iadd (dca dc_l18 13 rfl) rfl) ?_
  refine rcons (ro_isc (fun _ h => h) (dca dc_l18 14 rfl) rfl) ?_
  refine rcons (ro_callVH (C := rN1) (T := rF1) (N := 7) rfl ok_d_monthNumber (dca dc_l18 15 rfl) trivial (by decide) (fun s args ht => cwV (C := rN1) 1 ht (rgoodV (C := rN1) (fun w h => List.mem_cons_of_mem _ h) q_1109 q_1110 q_1111 q_14 q_1112) rfl rfl rfl hv_d_monthNumber ⟨Nat.le_of_ble_eq_true rfl, Nat.le_of_ble_eq_true rfl⟩) rfl) ?_
  refine rcons (ro_istore (dca dc_l18 16 rfl) rfl) ?_
  refine rcons (ro_goto (off := 1394) (dca dc_l18 17 rfl) rfl) ?_
  refine rcons (ro_stop) ?_
  exact rnil
def dl_l19 : List (Nat × Instr × Nat) := [(1060, .aload_n 1, 1), (1061, .aload_n 0, 1), (1062, .iload 4, 2), (1064, .iconst 1, 1), (1065, .iadd, 1), (1066, .iaload, 1), (1067, .aload_n 3, 1), (1068, .invokestatic 248, 3), (1071, .istore 5, 2), (1073, .aload_n 2, 1), (1074, .aload_n 0, 1), (1075, .iload 4, 2), (1077, .iconst 1, 1), (1078, .iadd, 1), (1079, .iaload, 1), (1080, .invokevirtual 250, 3), (1083, .istore 6, 2), (1085, .goto 1366, 3)]
theorem dc_l19 : ∀ (k : Nat) (q : Nat × Instr × Nat), dl_l19[k]? = some q → decode code q.1 = .ok q.2 := dchk_at (a := 1060) (by decide +kernel)
def ps_l19 : List Nat := [1060, 1061, 1062, 1064, 1065, 1066, 1067, 1068, 1071, 1073, 1074, 1075, 1077, 1078, 1079, 1080, 1083, 1085, 2451]
def tb_l19 (L : Nat) (xs : Nat → Int32) (i : Int32) (g1 : Bool) (v1 : Int32) (g2 : Bool) (v2 : Int32) (g3 : Bool) (v3 : Int32) (g4 : Bool) (v4 : Int32) (z2 z3 z4 : Bool) : List RT := [tq_al 1, tq_al 0, tq_il 4, tq_ic 1, tq_i2 (fun x y => x + y), tq_isc L xs g1 v1, tq_al 3, tq_callH m_w_monthPlace 3 1 1000 [], tq_is 7 5, tq_al 2, tq_al 0, tq_il 4, tq_ic 1, tq_i2 (fun x y => x + y), tq_isc L xs g1 v1, tq_callH (rV 1 m_d_monthPlace) 2 0 1000 [], tq_is 7 6, tq_go 18, tq_stop i]
set_option maxHeartbeats 4000000 in
set_option maxRecDepth 20000 in
theorem ok_l19 (L : Nat) (xs : Nat → Int32) (i : Int32) (g1 : Bool) (v1 : Int32) (g2 : Bool) (v2 : Int32) (g3 : Bool) (v3 : Int32) (g4 : Bool) (v4 : Int32) (z2 z3 z4 : Bool) : rAll (rOk (fun G => rSc G = (L, xs)) code "RingdaysLaw" 7 rTL room_1 [] 1000 (.inr (2451, i)) (fun o => ps_l19.getD o 0)) ps_l19 (tb_l19 L xs i g1 v1 g2 v2 g3 v3 g4 v4 z2 z3 z4) := by
  refine rcons (ro_aload_n (k := 1) rfl (dca dc_l19 0 rfl) rfl) ?_
  refine rcons (ro_aload_n (k := 0) rfl (dca dc_l19 1 rfl) rfl) ?_
  refine rcons (ro_iload (dca dc_l19 2 rfl) rfl) ?_
  refine rcons (ro_iconst (n := 1) (dca dc_l19 3 rfl) rfl rfl) ?_
  refine rcons (ro_iadd (dca dc_l19 4 rfl) rfl) ?_
  refine rcons (ro_isc (fun _ h => h) (dca dc_l19 5 rfl) rfl) ?_
  refine rcons (ro_aload_n (k := 3) rfl (dca dc_l19 6 rfl) rfl) ?_
  refine rcons (ro_callSX ok_w_monthPlace (dca dc_l19 7 rfl) rfl (fun s args ht => vx_cwSW 3 ht (rgoodS (fun w h => List.mem_cons_of_mem _ h) q_750 q_751 q_12 q_752) rfl rfl rfl hy_w_monthPlace ⟨Nat.le_of_ble_eq_true rfl, Nat.le_of_ble_eq_true rfl⟩) rfl) ?_
  refine rcons (ro_istore (dca dc_l19 8 rfl) rfl) ?_
  refine rcons (ro_aload_n (k := 2) rfl (dca dc_l19 9 rfl) rfl) ?_
  refine rcons (ro_aload_n (k := 0) rfl (dca dc_l19 10 rfl) rfl) ?_
  refine rcons (ro_iload (dca dc_l19 11 rfl) rfl) ?_
  refine rcons (ro_iconst (n := 1) (dca dc_l19 12 rfl) rfl rfl) ?_
  refine rcons (ro_iadd (dca dc_l19 13 rfl) rfl) ?_
  refine rcons (ro_isc (fun _ h => h) (dca dc_l19 14 rfl) rfl) ?_
  refine rcons (ro_callVH (C := rN1) (T := rF1) (N := 7) rfl ok_d_monthPlace (dca dc_l19 15 rfl) trivial (by decide) (fun s args ht => cwV (C := rN1) 1 ht (rgoodV (C := rN1) (fun w h => List.mem_cons_of_mem _ h) q_1113 q_1114 q_1115 q_14 q_1116) rfl rfl rfl hv_d_monthPlace ⟨Nat.le_of_ble_eq_true rfl, Nat.le_of_ble_eq_true rfl⟩) rfl) ?_
  refine rcons (ro_istore (dca dc_l19 16 rfl) rfl) ?_
  refine rcons (ro_goto (off := 1366) (dca dc_l19 17 rfl) rfl) ?_
  refine rcons (ro_stop) ?_
  exact rnil
def dl_l20 : List (Nat × Instr × Nat) := [(1088, .aload_n 1, 1), (1089, .aload_n 0, 1), (1090, .iload 4, 2), (1092, .iconst 1, 1), (1093, .iadd, 1), (1094, .iaload, 1), (1095, .aload_n 3, 1), (1096, .invokestatic 251, 3), (1099, .istore 5, 2), (1101, .aload_n 2, 1), (1102, .aload_n 0, 1), (1103, .iload 4, 2), (1105, .iconst 1, 1), (1106, .iadd, 1), (1107, .iaload, 1), (1108, .invokevirtual 253, 3), (1111, .astore 6, 2), (1113, .goto 1338, 3)]
theorem dc_l20 : ∀ (k : Nat) (q : Nat × Instr × Nat), dl_l20[k]? = some q → decode code q.1 = .ok q.2 := dchk_at (a := 1088) (by decide +kernel)
def ps_l20 : List Nat := [1088, 1089, 1090, 1092, 1093, 1094, 1095, 1096, 1099, 1101, 1102, 1103, 1105, 1106, 1107, 1108, 1111, 1113, 2451]
def tb_l20 (L : Nat) (xs : Nat → Int32) (i : Int32) (g1 : Bool) (v1 : Int32) (g2 : Bool) (v2 : Int32) (g3 : Bool) (v3 : Int32) (g4 : Bool) (v4 : Int32) (z2 z3 z4 : Bool) : List RT := [tq_al 1, tq_al 0, tq_il 4, tq_ic 1, tq_i2 (fun x y => x + y), tq_isc L xs g1 v1, tq_al 3, tq_callH m_w_monthName 3 1 1000 [], tq_is 7 5, tq_al 2, tq_al 0, tq_il 4, tq_ic 1, tq_i2 (fun x y => x + y), tq_isc L xs g1 v1, tq_callH (rV 1 m_d_monthName) 2 0 1000 [], tq_as 7 6, tq_go 18, tq_stop i]
set_option maxHeartbeats 4000000 in
set_option maxRecDepth 20000 in
theorem ok_l20 (L : Nat) (xs : Nat → Int32) (i : Int32) (g1 : Bool) (v1 : Int32) (g2 : Bool) (v2 : Int32) (g3 : Bool) (v3 : Int32) (g4 : Bool) (v4 : Int32) (z2 z3 z4 : Bool) : rAll (rOk (fun G => rSc G = (L, xs)) code "RingdaysLaw" 7 rTL room_1 [] 1000 (.inr (2451, i)) (fun o => ps_l20.getD o 0)) ps_l20 (tb_l20 L xs i g1 v1 g2 v2 g3 v3 g4 v4 z2 z3 z4) := by
  refine rcons (ro_aload_n (k := 1) rfl (dca dc_l20 0 rfl) rfl) ?_
  refine rcons (ro_aload_n (k := 0) rfl (dca dc_l20 1 rfl) rfl) ?_
  refine rcons (ro_iload (dca dc_l20 2 rfl) rfl) ?_
  refine rcons (ro_iconst (n := 1) (dca dc_l20 3 rfl) rfl rfl) ?_
  refine rcons (ro_iadd (dca dc_l20 4 rfl) rfl) ?_
  refine rcons (ro_isc (fun _ h => h) (dca dc_l20 5 rfl) rfl) ?_
  refine rcons (ro_aload_n (k := 3) rfl (dca dc_l20 6 rfl) rfl) ?_
  refine rcons (ro_callSX ok_w_monthName (dca dc_l20 7 rfl) rfl (fun s args ht => vx_cwSW 3 ht (rgoodS (fun w h => List.mem_cons_of_mem _ h) q_757 q_758 q_12 q_759) rfl rfl rfl hy_w_monthName ⟨Nat.le_of_ble_eq_true rfl, Nat.le_of_ble_eq_true rfl⟩) rfl) ?_
  refine rcons (ro_istore (dca dc_l20 8 rfl) rfl) ?_
  refine rcons (ro_aload_n (k := 2) rfl (dca dc_l20 9 rfl) rfl) ?_
  refine rcons (ro_aload_n (k := 0) rfl (dca dc_l20 10 rfl) rfl) ?_
  refine rcons (ro_iload (dca dc_l20 11 rfl) rfl) ?_
  refine rcons (ro_iconst (n := 1) (dca dc_l20 12 rfl) rfl rfl) ?_
  refine rcons (ro_iadd (dca dc_l20 13 rfl) rfl) ?_
  refine rcons (ro_isc (fun _ h => h) (dca dc_l20 14 rfl) rfl) ?_
  refine rcons (ro_callVH (C := rN1) (T := rF1) (N := 7) rfl ok_d_monthName (dca dc_l20 15 rfl) trivial (by decide) (fun s args ht => cwV (C := rN1) 1 ht (rgoodV (C := rN1) (fun w h => List.mem_cons_of_mem _ h) q_1117 q_1118 q_1119 q_14 q_1120) rfl rfl rfl hv_d_monthName ⟨Nat.le_of_ble_eq_true rfl, Nat.le_of_ble_eq_true rfl⟩) rfl) ?_
  refine rcons (ro_astore (dca dc_l20 16 rfl) rfl) ?_
  refine rcons (ro_goto (off := 1338) (dca dc_l20 17 rfl) rfl) ?_
  refine rcons (ro_stop) ?_
  exact rnil
def dl_l21 : List (Nat × Instr × Nat) := [(1116, .aload_n 1, 1), (1117, .aload_n 0, 1), (1118, .iload 4, 2), (1120, .iconst 1, 1), (1121, .iadd, 1), (1122, .iaload, 1), (1123, .aload_n 0, 1), (1124, .iload 4, 2), (1126, .iconst 2, 1), (1127, .iadd, 1), (1128, .iaload, 1), (1129, .aload_n 3, 1), (1130, .invokestatic 254, 3), (1133, .istore 5, 2), (1135, .aload_n 2, 1), (1136, .aload_n 0, 1), (1137, .iload 4, 2), (1139, .iconst 1, 1), (1140, .iadd, 1), (1141, .iaload, 1), (1142, .aload_n 0, 1), (1143, .iload 4, 2), (1145, .iconst 2, 1), (1146, .iadd, 1), (1147, .iaload, 1), (1148, .invokevirtual 256, 3), (1151, .istore 6, 2), (1153, .goto 1298, 3)]
theorem dc_l21 : ∀ (k : Nat) (q : Nat × Instr × Nat), dl_l21[k]? = some q → decode code q.1 = .ok q.2 := dchk_at (a := 1116) (by decide +kernel)
def ps_l21 : List Nat := [1116, 1117, 1118, 1120, 1121, 1122, 1123, 1124, 1126, 1127, 1128, 1129, 1130, 1133, 1135, 1136, 1137, 1139, 1140, 1141, 1142, 1143, 1145, 1146, 1147, 1148, 1151, 1153, 2451]
def tb_l21 (L : Nat) (xs : Nat → Int32) (i : Int32) (g1 : Bool) (v1 : Int32) (g2 : Bool) (v2 : Int32) (g3 : Bool) (v3 : Int32) (g4 : Bool) (v4 : Int32) (z2 z3 z4 : Bool) : List RT := [tq_al 1, tq_al 0, tq_il 4, tq_ic 1, tq_i2 (fun x y => x + y), tq_isc L xs g1 v1, tq_al 0, tq_il 4, tq_ic 2, tq_i2 (fun x y => x + y), tq_isc L xs g2 v2, tq_al 3, tq_callH m_w_monthOn 4 2 1000 [], tq_is 7 5, tq_al 2, tq_al 0, tq_il 4, tq_ic 1, tq_i2 (fun x y => x + y), tq_isc L xs g1 v1, tq_al 0, tq_il 4, tq_ic 2, tq_i2 (fun x y => x + y), tq_isc L xs g2 v2, tq_callH (rV 1 m_d_monthOn) 3 0 1000 [], tq_is 7 6, tq_go 28, tq_stop i]
set_option maxHeartbeats 4000000 in
set_option maxRecDepth 20000 in
theorem ok_l21 (L : Nat) (xs : Nat → Int32) (i : Int32) (g1 : Bool) (v1 : Int32) (g2 : Bool) (v2 : Int32) (g3 : Bool) (v3 : Int32) (g4 : Bool) (v4 : Int32) (z2 z3 z4 : Bool) : rAll (rOk (fun G => rSc G = (L, xs)) code "RingdaysLaw" 7 rTL room_1 [] 1000 (.inr (2451, i)) (fun o => ps_l21.getD o 0)) ps_l21 (tb_l21 L xs i g1 v1 g2 v2 g3 v3 g4 v4 z2 z3 z4) := by
  refine rcons (ro_aload_n (k := 1) rfl (dca dc_l21 0 rfl) rfl) ?_
  refine rcons (ro_aload_n (k := 0) rfl (dca dc_l21 1 rfl) rfl) ?_
  refine rcons (ro_iload (dca dc_l21 2 rfl) rfl) ?_
  refine rcons (ro_iconst (n := 1) (dca dc_l21 3 rfl) rfl rfl) ?_
  refine rcons (ro_iadd (dca dc_l21 4 rfl) rfl) ?_
  refine rcons (ro_isc (fun _ h => h) (dca dc_l21 5 rfl) rfl) ?_
  refine rcons (ro_aload_n (k := 0) rfl (dca dc_l21 6 rfl) rfl) ?_
  refine rcons (ro_iload (dca dc_l21 7 rfl) rfl) ?_
  refine rcons (ro_iconst (n := 2) (dca dc_l21 8 rfl) rfl rfl) ?_
  refine rcons (ro_iadd (dca dc_l21 9 rfl) rfl) ?_
  refine rcons (ro_isc (fun _ h => h) (dca dc_l21 10 rfl) rfl) ?_
  refine rcons (ro_aload_n (k := 3) rfl (dca dc_l21 11 rfl) rfl) ?_
  refine rcons (ro_callSX ok_w_monthOn (dca dc_l21 12 rfl) rfl (fun s args ht => vx_cwSW 4 ht (rgoodS (fun w h => List.mem_cons_of_mem _ h) q_764 q_765 q_12 q_766) rfl rfl rfl hy_w_monthOn ⟨Nat.le_of_ble_eq_true rfl, Nat.le_of_ble_eq_true rfl⟩) rfl) ?_
  refine rcons (ro_istore (dca dc_l21 13 rfl) rfl) ?_
  refine rcons (ro_aload_n (k := 2) rfl (dca dc_l21 14 rfl) rfl) ?_
  refine rcons (ro_aload_n (k := 0) rfl (dca dc_l21 15 rfl) rfl) ?_
  refine rcons (ro_iload (dca dc_l21 16 rfl) rfl) ?_
  refine rcons (ro_iconst (n := 1) (dca dc_l21 17 rfl) rfl rfl) ?_
  refine rcons (ro_iadd (dca dc_l21 18 rfl) rfl) ?_
  refine rcons (ro_isc (fun _ h => h) (dca dc_l21 19 rfl) rfl) ?_
  refine rcons (ro_aload_n (k := 0) rfl (dca dc_l21 20 rfl) rfl) ?_
  refine rcons (ro_iload (dca dc_l21 21 rfl) rfl) ?_
  refine rcons (ro_iconst (n := 2) (dca dc_l21 22 rfl) rfl rfl) ?_
  refine rcons (ro_iadd (dca dc_l21 23 rfl) rfl) ?_
  refine rcons (ro_isc (fun _ h => h) (dca dc_l21 24 rfl) rfl) ?_
  refine rcons (ro_callVH (C := rN1) (T := rF1) (N := 7) rfl ok_d_monthOn (dca dc_l21 25 rfl) trivial (by decide) (fun s args ht => cwV (C := rN1) 2 ht (rgoodV (C := rN1) (fun w h => List.mem_cons_of_mem _ h) q_1123 q_1124 q_1125 q_14 q_1126) rfl rfl rfl hv_d_monthOn ⟨Nat.le_of_ble_eq_true rfl, Nat.le_of_ble_eq_true rfl⟩) rfl) ?_
  refine rcons (ro_istore (dca dc_l21 26 rfl) rfl) ?_
  refine rcons (ro_goto (off := 1298) (dca dc_l21 27 rfl) rfl) ?_
  refine rcons (ro_stop) ?_
  exact rnil
def dl_l22 : List (Nat × Instr × Nat) := [(1156, .aload_n 1, 1), (1157, .aload_n 0, 1), (1158, .iload 4, 2), (1160, .iconst 1, 1), (1161, .iadd, 1), (1162, .iaload, 1), (1163, .aload_n 0, 1), (1164, .iload 4, 2), (1166, .iconst 2, 1), (1167, .iadd, 1), (1168, .iaload, 1), (1169, .aload_n 3, 1), (1170, .invokestatic 257, 3), (1173, .istore 5, 2), (1175, .aload_n 2, 1), (1176, .aload_n 0, 1), (1177, .iload 4, 2), (1179, .iconst 1, 1), (1180, .iadd, 1), (1181, .iaload, 1), (1182, .aload_n 0, 1), (1183, .iload 4, 2), (1185, .iconst 2, 1), (1186, .iadd, 1), (1187, .iaload, 1), (1188, .invokevirtual 259, 3), (1191, .istore 6, 2), (1193, .goto 1258, 3)]
theorem dc_l22 : ∀ (k : Nat) (q : Nat × Instr × Nat), dl_l22[k]? = some q → decode code q.1 = .ok q.2 := dchk_at (a := 1156) (by decide +kernel)
def ps_l22 : List Nat := [1156, 1157, 1158, 1160, 1161, 1162, 1163, 1164, 1166, 1167, 1168, 1169, 1170, 1173, 1175, 1176, 1177, 1179, 1180, 1181, 1182, 1183, 1185, 1186, 1187, 1188, 1191, 1193, 2451]
def tb_l22 (L : Nat) (xs : Nat → Int32) (i : Int32) (g1 : Bool) (v1 : Int32) (g2 : Bool) (v2 : Int32) (g3 : Bool) (v3 : Int32) (g4 : Bool) (v4 : Int32) (z2 z3 z4 : Bool) : List RT := [tq_al 1, tq_al 0, tq_il 4, tq_ic 1, tq_i2 (fun x y => x + y), tq_isc L xs g1 v1, tq_al 0, tq_il 4, tq_ic 2, tq_i2 (fun x y => x + y), tq_isc L xs g2 v2, tq_al 3, tq_callH m_w_monthBack 4 2 1000 [], tq_is 7 5, tq_al 2, tq_al 0, tq_il 4, tq_ic 1, tq_i2 (fun x y => x + y), tq_isc L xs g1 v1, tq_al 0, tq_il 4, tq_ic 2, tq_i2 (fun x y => x + y), tq_isc L xs g2 v2, tq_callH (rV 1 m_d_monthBack) 3 0 1000 [], tq_is 7 6, tq_go 28, tq_stop i]
set_option maxHeartbeats 4000000 in
set_option maxRecDepth 20000 in
theorem ok_l22 (L : Nat) (xs : Nat → Int32) (i : Int32) (g1 : Bool) (v1 : Int32) (g2 : Bool) (v2 : Int32) (g3 : Bool) (v3 : Int32) (g4 : Bool) (v4 : Int32) (z2 z3 z4 : Bool) : rAll (rOk (fun G => rSc G = (L, xs)) code "RingdaysLaw" 7 rTL room_1 [] 1000 (.inr (2451, i)) (fun o => ps_l22.getD o 0)) ps_l22 (tb_l22 L xs i g1 v1 g2 v2 g3 v3 g4 v4 z2 z3 z4) := by
  refine rcons (ro_aload_n (k := 1) rfl (dca dc_l22 0 rfl) rfl) ?_
  refine rcons (ro_aload_n (k := 0) rfl (dca dc_l22 1 rfl) rfl) ?_
  refine rcons (ro_iload (dca dc_l22 2 rfl) rfl) ?_
  refine rcons (ro_iconst (n := 1) (dca dc_l22 3 rfl) rfl rfl) ?_
  refine rcons (ro_iadd (dca dc_l22 4 rfl) rfl) ?_
  refine rcons (ro_isc (fun _ h => h) (dca dc_l22 5 rfl) rfl) ?_
  refine rcons (ro_aload_n (k := 0) rfl (dca dc_l22 6 rfl) rfl) ?_
  refine rcons (ro_iload (dca dc_l22 7 rfl) rfl) ?_
  refine rcons (ro_iconst (n := 2) (dca dc_l22 8 rfl) rfl rfl) ?_
  refine rcons (ro_iadd (dca dc_l22 9 rfl) rfl) ?_
  refine rcons (ro_isc (fun _ h => h) (dca dc_l22 10 rfl) rfl) ?_
  refine rcons (ro_aload_n (k := 3) rfl (dca dc_l22 11 rfl) rfl) ?_
  refine rcons (ro_callSX ok_w_monthBack (dca dc_l22 12 rfl) rfl (fun s args ht => vx_cwSW 4 ht (rgoodS (fun w h => List.mem_cons_of_mem _ h) q_775 q_776 q_12 q_777) rfl rfl rfl hy_w_monthBack ⟨Nat.le_of_ble_eq_true rfl, Nat.le_of_ble_eq_true rfl⟩) rfl) ?_
  refine rcons (ro_istore (dca dc_l22 13 rfl) rfl) ?_
  refine rcons (ro_aload_n (k := 2) rfl (dca dc_l22 14 rfl) rfl) ?_
  refine rcons (ro_aload_n (k := 0) rfl (dca dc_l22 15 rfl) rfl) ?_
  refine rcons (ro_iload (dca dc_l22 16 rfl) rfl) ?_
  refine rcons (ro_iconst (n := 1) (dca dc_l22 17 rfl) rfl rfl) ?_
  refine rcons (ro_iadd (dca dc_l22 18 rfl) rfl) ?_
  refine rcons (ro_isc (fun _ h => h) (dca dc_l22 19 rfl) rfl) ?_
  refine rcons (ro_aload_n (k := 0) rfl (dca dc_l22 20 rfl) rfl) ?_
  refine rcons (ro_iload (dca dc_l22 21 rfl) rfl) ?_
  refine rcons (ro_iconst (n := 2) (dca dc_l22 22 rfl) rfl rfl) ?_
  refine rcons (ro_iadd (dca dc_l22 23 rfl) rfl) ?_
  refine rcons (ro_isc (fun _ h => h) (dca dc_l22 24 rfl) rfl) ?_
  refine rcons (ro_callVH (C := rN1) (T := rF1) (N := 7) rfl ok_d_monthBack (dca dc_l22 25 rfl) trivial (by decide) (fun s args ht => cwV (C := rN1) 2 ht (rgoodV (C := rN1) (fun w h => List.mem_cons_of_mem _ h) q_1131 q_1132 q_1133 q_14 q_1134) rfl rfl rfl hv_d_monthBack ⟨Nat.le_of_ble_eq_true rfl, Nat.le_of_ble_eq_true rfl⟩) rfl) ?_
  refine rcons (ro_istore (dca dc_l22 26 rfl) rfl) ?_
  refine rcons (ro_goto (off := 1258) (dca dc_l22 27 rfl) rfl) ?_
  refine rcons (ro_stop) ?_
  exact rnil
def dl_l23 : List (Nat × Instr × Nat) := [(1196, .aload_n 1, 1), (1197, .aload_n 0, 1), (1198, .iload 4, 2), (1200, .iconst 1, 1), (1201, .iadd, 1), (1202, .iaload, 1), (1203, .aload_n 0, 1), (1204, .iload 4, 2), (1206, .iconst 2, 1), (1207, .iadd, 1), (1208, .iaload, 1), (1209, .aload_n 0, 1), (1210, .iload 4, 2), (1212, .iconst 3, 1), (1213, .iadd, 1), (1214, .iaload, 1), (1215, .aload_n 3, 1), (1216, .invokestatic 260, 3), (1219, .istore 5, 2), (1221, .aload_n 2, 1), (1222, .aload_n 0, 1), (1223, .iload 4, 2), (1225, .iconst 1, 1), (1226, .iadd, 1), (1227, .iaload, 1), (1228, .aload_n 0, 1), (1229, .iload 4, 2), (1231, .iconst 2, 1), (1232, .iadd, 1), (1233, .iaload, 1), (1234, .aload_n 0, 1), (1235, .iload 4, 2), (1237, .iconst 3, 1), (1238, .iadd, 1), (1239, .iaload, 1), (1240, .invokevirtual 262, 3), (1243, .istore 6, 2), (1245, .goto 1206, 3)]
theorem dc_l23 : ∀ (k : Nat) (q : Nat × Instr × Nat), dl_l23[k]? = some q → decode code q.1 = .ok q.2 := dchk_at (a := 1196) (by decide +kernel)
def ps_l23 : List Nat := [1196, 1197, 1198, 1200, 1201, 1202, 1203, 1204, 1206, 1207, 1208, 1209, 1210, 1212, 1213, 1214, 1215, 1216, 1219, 1221, 1222, 1223, 1225, 1226, 1227, 1228, 1229, 1231, 1232, 1233, 1234, 1235, 1237, 1238, 1239, 1240, 1243, 1245, 2451]
def tb_l23 (L : Nat) (xs : Nat → Int32) (i : Int32) (g1 : Bool) (v1 : Int32) (g2 : Bool) (v2 : Int32) (g3 : Bool) (v3 : Int32) (g4 : Bool) (v4 : Int32) (z2 z3 z4 : Bool) : List RT := [tq_al 1, tq_al 0, tq_il 4, tq_ic 1, tq_i2 (fun x y => x + y), tq_isc L xs g1 v1, tq_al 0, tq_il 4, tq_ic 2, tq_i2 (fun x y => x + y), tq_isc L xs g2 v2, tq_al 0, tq_il 4, tq_ic 3, tq_i2 (fun x y => x + y), tq_isc L xs g3 v3, tq_al 3, tq_callH m_w_monthOnFar 5 2 1000 [], tq_is 7 5, tq_al 2, tq_al 0, tq_il 4, tq_ic 1, tq_i2 (fun x y => x + y), tq_isc L xs g1 v1, tq_al 0, tq_il 4, tq_ic 2, tq_i2 (fun x y => x + y), tq_isc L xs g2 v2, tq_al 0, tq_il 4, tq_ic 3, tq_i2 (fun x y => x + y), tq_isc L xs g3 v3, tq_callH (rV 1 m_d_monthOnFar) 4 0 1000 [], tq_is 7 6, tq_go 38, tq_stop i]
set_option maxHeartbeats 4000000 in
set_option maxRecDepth 20000 in
theorem ok_l23 (L : Nat) (xs : Nat → Int32) (i : Int32) (g1 : Bool) (v1 : Int32) (g2 : Bool) (v2 : Int32) (g3 : Bool) (v3 : Int32) (g4 : Bool) (v4 : Int32) (z2 z3 z4 : Bool) : rAll (rOk (fun G => rSc G = (L, xs)) code "RingdaysLaw" 7 rTL room_1 [] 1000 (.inr (2451, i)) (fun o => ps_l23.getD o 0)) ps_l23 (tb_l23 L xs i g1 v1 g2 v2 g3 v3 g4 v4 z2 z3 z4) := by
  refine rcons (ro_aload_n (k := 1) rfl (dca dc_l23 0 rfl) rfl) ?_
  refine rcons (ro_aload_n (k := 0) rfl (dca dc_l23 1 rfl) rfl) ?_
  refine rcons (ro_iload (dca dc_l23 2 rfl) rfl) ?_
  refine rcons (ro_iconst (n := 1) (dca dc_l23 3 rfl) rfl rfl) ?_
  refine rcons (ro_iadd (dca dc_l23 4 rfl) rfl) ?_
  refine rcons (ro_isc (fun _ h => h) (dca dc_l23 5 rfl) rfl) ?_
  refine rcons (ro_aload_n (k := 0) rfl (dca dc_l23 6 rfl) rfl) ?_
  refine rcons (ro_iload (dca dc_l23 7 rfl) rfl) ?_
  refine rcons (ro_iconst (n := 2) (dca dc_l23 8 rfl) rfl rfl) ?_
  refine rcons (ro_iadd (dca dc_l23 9 rfl) rfl) ?_
  refine rcons (ro_isc (fun _ h => h) (dca dc_l23 10 rfl) rfl) ?_
  refine rcons (ro_aload_n (k := 0) rfl (dca dc_l23 11 rfl) rfl) ?_
  refine rcons (ro_iload (dca dc_l23 12 rfl) rfl) ?_
  refine rcons (ro_iconst (n := 3) (dca dc_l23 13 rfl) rfl rfl) ?_
  refine rcons (ro_iadd (dca dc_l23 14 rfl) rfl) ?_
  refine rcons (ro_isc (fun _ h => h) (dca dc_l23 15 rfl) rfl) ?_
  refine rcons (ro_aload_n (k := 3) rfl (dca dc_l23 16 rfl) rfl) ?_
  refine rcons (ro_callSX ok_w_monthOnFar (dca dc_l23 17 rfl) rfl (fun s args ht => vx_cwSW 5 ht (rgoodS (fun w h => List.mem_cons_of_mem _ h) q_786 q_787 q_12 q_788) rfl rfl rfl hy_w_monthOnFar ⟨Nat.le_of_ble_eq_true rfl, Nat.le_of_ble_eq_true rfl⟩) rfl) ?_
  refine rcons (ro_istore (dca dc_l23 18 rfl) rfl) ?_
  refine rcons (ro_aload_n (k := 2) rfl (dca dc_l23 19 rfl) rfl) ?_
  refine rcons (ro_aload_n (k := 0) rfl (dca dc_l23 20 rfl) rfl) ?_
  refine rcons (ro_iload (dca dc_l23 21 rfl) rfl) ?_
  refine rcons (ro_iconst (n := 1) (dca dc_l23 22 rfl) rfl rfl) ?_
  refine rcons (ro_iadd (dca dc_l23 23 rfl) rfl) ?_
  refine rcons (ro_isc (fun _ h => h) (dca dc_l23 24 rfl) rfl) ?_
  refine rcons (ro_aload_n (k := 0) rfl (dca dc_l23 25 rfl) rfl) ?_
  refine rcons (ro_iload (dca dc_l23 26 rfl) rfl) ?_
  refine rcons (ro_iconst (n := 2) (dca dc_l23 27 rfl) rfl rfl) ?_
  refine rcons (ro_iadd (dca dc_l23 28 rfl) rfl) ?_
  refine rcons (ro_isc (fun _ h => h) (dca dc_l23 29 rfl) rfl) ?_
  refine rcons (ro_aload_n (k := 0) rfl (dca dc_l23 30 rfl) rfl) ?_
  refine rcons (ro_iload (dca dc_l23 31 rfl) rfl) ?_
  refine rcons (ro_iconst (n := 3) (dca dc_l23 32 rfl) rfl rfl) ?_
  refine rcons (ro_iadd (dca dc_l23 33 rfl) rfl) ?_
  refine rcons (ro_isc (fun _ h => h) (dca dc_l23 34 rfl) rfl) ?_
  refine rcons (ro_callVH (C := rN1) (T := rF1) (N := 7) rfl ok_d_monthOnFar (dca dc_l23 35 rfl) trivial (by decide) (fun s args ht => cwV (C := rN1) 3 ht (rgoodV (C := rN1) (fun w h => List.mem_cons_of_mem _ h) q_1135 q_1136 q_1137 q_14 q_1138) rfl rfl rfl hv_d_monthOnFar ⟨Nat.le_of_ble_eq_true rfl, Nat.le_of_ble_eq_true rfl⟩) rfl) ?_
  refine rcons (ro_istore (dca dc_l23 36 rfl) rfl) ?_
  refine rcons (ro_goto (off := 1206) (dca dc_l23 37 rfl) rfl) ?_
  refine rcons (ro_stop) ?_
  exact rnil
def dl_l24 : List (Nat × Instr × Nat) := [(1248, .aload_n 1, 1), (1249, .aload_n 0, 1), (1250, .iload 4, 2), (1252, .iconst 1, 1), (1253, .iadd, 1), (1254, .iaload, 1), (1255, .aload_n 0, 1), (1256, .iload 4, 2), (1258, .iconst 2, 1), (1259, .iadd, 1), (1260, .iaload, 1), (1261, .aload_n 0, 1), (1262, .iload 4, 2), (1264, .iconst 3, 1), (1265, .iadd, 1), (1266, .iaload, 1), (1267, .aload_n 3, 1), (1268, .invokestatic 263, 3), (1271, .istore 5, 2), (1273, .aload_n 2, 1), (1274, .aload_n 0, 1), (1275, .iload 4, 2), (1277, .iconst 1, 1), (1278, .iadd, 1), (1279, .iaload, 1), (1280, .aload_n 0, 1), (1281, .iload 4, 2), (1283, .iconst 2, 1), (1284, .iadd, 1), (1285, .iaload, 1), (1286, .aload_n 0, 1), (1287, .iload 4, 2), (1289, .iconst 3, 1), (1290, .iadd, 1), (1291, .iaload, 1), (1292, .invokevirtual 265, 3), (1295, .istore 6, 2), (1297, .goto 1154, 3)]
theorem dc_l24 : ∀ (k : Nat) (q : Nat × Instr × Nat), dl_l24[k]? = some q → decode code q.1 = .ok q.2 := dchk_at (a := 1248) (by decide +kernel)
def ps_l24 : List Nat := [1248, 1249, 1250, 1252, 1253, 1254, 1255, 1256, 1258, 1259, 1260, 1261, 1262, 1264, 1265, 1266, 1267, 1268, 1271, 1273, 1274, 1275, 1277, 1278, 1279, 1280, 1281, 1283, 1284, 1285, 1286, 1287, 1289, 1290, 1291, 1292, 1295, 1297, 2451]
def tb_l24 (L : Nat) (xs : Nat → Int32) (i : Int32) (g1 : Bool) (v1 : Int32) (g2 : Bool) (v2 : Int32) (g3 : Bool) (v3 : Int32) (g4 : Bool) (v4 : Int32) (z2 z3 z4 : Bool) : List RT := [tq_al 1, tq_al 0, tq_il 4, tq_ic 1, tq_i2 (fun x y => x + y), tq_isc L xs g1 v1, tq_al 0, tq_il 4, tq_ic 2, tq_i2 (fun x y => x + y), tq_isc L xs g2 v2, tq_al 0, tq_il 4, tq_ic 3, tq_i2 (fun x y => x + y), tq_isc L xs g3 v3, tq_al 3, tq_callH m_w_monthBackFar 5 2 1000 [], tq_is 7 5, tq_al 2, tq_al 0, tq_il 4, tq_ic 1, tq_i2 (fun x y => x + y), tq_isc L xs g1 v1, tq_al 0, tq_il 4, tq_ic 2, tq_i2 (fun x y => x + y), tq_isc L xs g2 v2, tq_al 0, tq_il 4, tq_ic 3, tq_i2 (fun x y => x + y), tq_isc L xs g3 v3, tq_callH (rV 1 m_d_monthBackFar) 4 0 1000 [], tq_is 7 6, tq_go 38, tq_stop i]
set_option maxHeartbeats 4000000 in
set_option maxRecDepth 20000 in
theorem ok_l24 (L : Nat) (xs : Nat → Int32) (i : Int32) (g1 : Bool) (v1 : Int32) (g2 : Bool) (v2 : Int32) (g3 : Bool) (v3 : Int32) (g4 : Bool) (v4 : Int32) (z2 z3 z4 : Bool) : rAll (rOk (fun G => rSc G = (L, xs)) code "RingdaysLaw" 7 rTL room_1 [] 1000 (.inr (2451, i)) (fun o => ps_l24.getD o 0)) ps_l24 (tb_l24 L xs i g1 v1 g2 v2 g3 v3 g4 v4 z2 z3 z4) := by
  refine rcons (ro_aload_n (k := 1) rfl (dca dc_l24 0 rfl) rfl) ?_
  refine rcons (ro_aload_n (k := 0) rfl (dca dc_l24 1 rfl) rfl) ?_
  refine rcons (ro_iload (dca dc_l24 2 rfl) rfl) ?_
  refine rcons (ro_iconst (n := 1) (dca dc_l24 3 rfl) rfl rfl) ?_
  refine rcons (ro_iadd (dca dc_l24 4 rfl) rfl) ?_
  refine rcons (ro_isc (fun _ h => h) (dca dc_l24 5 rfl) rfl) ?_
  refine rcons (ro_aload_n (k := 0) rfl (dca dc_l24 6 rfl) rfl) ?_
  refine rcons (ro_iload (dca dc_l24 7 rfl) rfl) ?_
  refine rcons (ro_iconst (n := 2) (dca dc_l24 8 rfl) rfl rfl) ?_
  refine rcons (ro_iadd (dca dc_l24 9 rfl) rfl) ?_
  refine rcons (ro_isc (fun _ h => h) (dca dc_l24 10 rfl) rfl) ?_
  refine rcons (ro_aload_n (k := 0) rfl (dca dc_l24 11 rfl) rfl) ?_
  refine rcons (ro_iload (dca dc_l24 12 rfl) rfl) ?_
  refine rcons (ro_iconst (n := 3) (dca dc_l24 13 rfl) rfl rfl) ?_
  refine rcons (ro_iadd (dca dc_l24 14 rfl) rfl) ?_
  refine rcons (ro_isc (fun _ h => h) (dca dc_l24 15 rfl) rfl) ?_
  refine rcons (ro_aload_n (k := 3) rfl (dca dc_l24 16 rfl) rfl) ?_
  refine rcons (ro_callSX ok_w_monthBackFar (dca dc_l24 17 rfl) rfl (fun s args ht => vx_cwSW 5 ht (rgoodS (fun w h => List.mem_cons_of_mem _ h) q_797 q_798 q_12 q_799) rfl rfl rfl hy_w_monthBackFar ⟨Nat.le_of_ble_eq_true rfl, Nat.le_of_ble_eq_true rfl⟩) rfl) ?_
  refine rcons (ro_istore (dca dc_l24 18 rfl) rfl) ?_
  refine rcons (ro_aload_n (k := 2) rfl (dca dc_l24 19 rfl) rfl) ?_
  refine rcons (ro_aload_n (k := 0) rfl (dca dc_l24 20 rfl) rfl) ?_
  refine rcons (ro_iload (dca dc_l24 21 rfl) rfl) ?_
  refine rcons (ro_iconst (n := 1) (dca dc_l24 22 rfl) rfl rfl) ?_
  refine rcons (ro_iadd (dca dc_l24 23 rfl) rfl) ?_
  refine rcons (ro_isc (fun _ h => h) (dca dc_l24 24 rfl) rfl) ?_
  refine rcons (ro_aload_n (k := 0) rfl (dca dc_l24 25 rfl) rfl) ?_
  refine rcons (ro_iload (dca dc_l24 26 rfl) rfl) ?_
  refine rcons (ro_iconst (n := 2) (dca dc_l24 27 rfl) rfl rfl) ?_
  refine rcons (ro_iadd (dca dc_l24 28 rfl) rfl) ?_
  refine rcons (ro_isc (fun _ h => h) (dca dc_l24 29 rfl) rfl) ?_
  refine rcons (ro_aload_n (k := 0) rfl (dca dc_l24 30 rfl) rfl) ?_
  refine rcons (ro_iload (dca dc_l24 31 rfl) rfl) ?_
  refine rcons (ro_iconst (n := 3) (dca dc_l24 32 rfl) rfl rfl) ?_
  refine rcons (ro_iadd (dca dc_l24 33 rfl) rfl) ?_
  refine rcons (ro_isc (fun _ h => h) (dca dc_l24 34 rfl) rfl) ?_
  refine rcons (ro_callVH (C := rN1) (T := rF1) (N := 7) rfl ok_d_monthBackFar (dca dc_l24 35 rfl) trivial (by decide) (fun s args ht => cwV (C := rN1) 3 ht (rgoodV (C := rN1) (fun w h => List.mem_cons_of_mem _ h) q_1139 q_1140 q_1141 q_14 q_1142) rfl rfl rfl hv_d_monthBackFar ⟨Nat.le_of_ble_eq_true rfl, Nat.le_of_ble_eq_true rfl⟩) rfl) ?_
  refine rcons (ro_istore (dca dc_l24 36 rfl) rfl) ?_
  refine rcons (ro_goto (off := 1154) (dca dc_l24 37 rfl) rfl) ?_
  refine rcons (ro_stop) ?_
  exact rnil
def dl_l25 : List (Nat × Instr × Nat) := [(1300, .aload_n 1, 1), (1301, .aload_n 0, 1), (1302, .iload 4, 2), (1304, .iconst 1, 1), (1305, .iadd, 1), (1306, .iaload, 1), (1307, .aload_n 0, 1), (1308, .iload 4, 2), (1310, .iconst 2, 1), (1311, .iadd, 1), (1312, .iaload, 1), (1313, .aload_n 3, 1), (1314, .invokestatic 266, 3), (1317, .istore 5, 2), (1319, .aload_n 2, 1), (1320, .aload_n 0, 1), (1321, .iload 4, 2), (1323, .iconst 1, 1), (1324, .iadd, 1), (1325, .iaload, 1), (1326, .aload_n 0, 1), (1327, .iload 4, 2), (1329, .iconst 2, 1), (1330, .iadd, 1), (1331, .iaload, 1), (1332, .invokevirtual 268, 3), (1335, .istore 6, 2), (1337, .goto 1114, 3)]
theorem dc_l25 : ∀ (k : Nat) (q : Nat × Instr × Nat), dl_l25[k]? = some q → decode code q.1 = .ok q.2 := dchk_at (a := 1300) (by decide +kernel)
def ps_l25 : List Nat := [1300, 1301, 1302, 1304, 1305, 1306, 1307, 1308, 1310, 1311, 1312, 1313, 1314, 1317, 1319, 1320, 1321, 1323, 1324, 1325, 1326, 1327, 1329, 1330, 1331, 1332, 1335, 1337, 2451]
def tb_l25 (L : Nat) (xs : Nat → Int32) (i : Int32) (g1 : Bool) (v1 : Int32) (g2 : Bool) (v2 : Int32) (g3 : Bool) (v3 : Int32) (g4 : Bool) (v4 : Int32) (z2 z3 z4 : Bool) : List RT := [tq_al 1, tq_al 0, tq_il 4, tq_ic 1, tq_i2 (fun x y => x + y), tq_isc L xs g1 v1, tq_al 0, tq_il 4, tq_ic 2, tq_i2 (fun x y => x + y), tq_isc L xs g2 v2, tq_al 3, tq_callH m_w_monthAt 4 1 1000 [], tq_is 7 5, tq_al 2, tq_al 0, tq_il 4, tq_ic 1, tq_i2 (fun x y => x + y), tq_isc L xs g1 v1, tq_al 0, tq_il 4, tq_ic 2, tq_i2 (fun x y => x + y), tq_isc L xs g2 v2, tq_callH (rV 1 m_d_monthAt) 3 0 1000 [], tq_is 7 6, tq_go 28, tq_stop i]
set_option maxHeartbeats 4000000 in
set_option maxRecDepth 20000 in
theorem ok_l25 (L : Nat) (xs : Nat → Int32) (i : Int32) (g1 : Bool) (v1 : Int32) (g2 : Bool) (v2 : Int32) (g3 : Bool) (v3 : Int32) (g4 : Bool) (v4 : Int32) (z2 z3 z4 : Bool) : rAll (rOk (fun G => rSc G = (L, xs)) code "RingdaysLaw" 7 rTL room_1 [] 1000 (.inr (2451, i)) (fun o => ps_l25.getD o 0)) ps_l25 (tb_l25 L xs i g1 v1 g2 v2 g3 v3 g4 v4 z2 z3 z4) := by
  refine rcons (ro_aload_n (k := 1) rfl (dca dc_l25 0 rfl) rfl) ?_
  refine rcons (ro_aload_n (k := 0) rfl (dca dc_l25 1 rfl) rfl) ?_
  refine rcons (ro_iload (dca dc_l25 2 rfl) rfl) ?_
  refine rcons (ro_iconst (n := 1) (dca dc_l25 3 rfl) rfl rfl) ?_
  refine rcons (ro_iadd (dca dc_l25 4 rfl) rfl) ?_
  refine rcons (ro_isc (fun _ h => h) (dca dc_l25 5 rfl) rfl) ?_
  refine rcons (ro_aload_n (k := 0) rfl (dca dc_l25 6 rfl) rfl) ?_
  refine rcons (ro_iload (dca dc_l25 7 rfl) rfl) ?_
  refine rcons (ro_iconst (n := 2) (dca dc_l25 8 rfl) rfl rfl) ?_
  refine rcons (ro_iadd (dca dc_l25 9 rfl) rfl) ?_
  refine rcons (ro_isc (fun _ h => h) (dca dc_l25 10 rfl) rfl) ?_
  refine rcons (ro_aload_n (k := 3) rfl (dca dc_l25 11 rfl) rfl) ?_
  refine rcons (ro_callSX ok_w_monthAt (dca dc_l25 12 rfl) rfl (fun s args ht => vx_cwSW 4 ht (rgoodS (fun w h => List.mem_cons_of_mem _ h) q_804 q_805 q_12 q_806) rfl rfl rfl hy_w_monthAt ⟨Nat.le_of_ble_eq_true rfl, Nat.le_of_ble_eq_true rfl⟩) rfl) ?_
  refine rcons (ro_istore (dca dc_l25 13 rfl) rfl) ?_
  refine rcons (ro_aload_n (k := 2) rfl (dca dc_l25 14 rfl) rfl) ?_
  refine rcons (ro_aload_n (k := 0) rfl (dca dc_l25 15 rfl) rfl) ?_
  refine rcons (ro_iload (dca dc_l25 16 rfl) rfl) ?_
  refine rcons (ro_iconst (n := 1) (dca dc_l25 17 rfl) rfl rfl) ?_
  refine rcons (ro_iadd (dca dc_l25 18 rfl) rfl) ?_
  refine rcons (ro_isc (fun _ h => h) (dca dc_l25 19 rfl) rfl) ?_
  refine rcons (ro_aload_n (k := 0) rfl (dca dc_l25 20 rfl) rfl) ?_
  refine rcons (ro_iload (dca dc_l25 21 rfl) rfl) ?_
  refine rcons (ro_iconst (n := 2) (dca dc_l25 22 rfl) rfl rfl) ?_
  refine rcons (ro_iadd (dca dc_l25 23 rfl) rfl) ?_
  refine rcons (ro_isc (fun _ h => h) (dca dc_l25 24 rfl) rfl) ?_
  refine rcons (ro_callVH (C := rN1) (T := rF1) (N := 7) rfl ok_d_monthAt (dca dc_l25 25 rfl) trivial (by decide) (fun s args ht => cwV (C := rN1) 2 ht (rgoodV (C := rN1) (fun w h => List.mem_cons_of_mem _ h) q_1143 q_1144 q_1145 q_14 q_1146) rfl rfl rfl hv_d_monthAt ⟨Nat.le_of_ble_eq_true rfl, Nat.le_of_ble_eq_true rfl⟩) rfl) ?_
  refine rcons (ro_istore (dca dc_l25 26 rfl) rfl) ?_
  refine rcons (ro_goto (off := 1114) (dca dc_l25 27 rfl) rfl) ?_
  refine rcons (ro_stop) ?_
  exact rnil
def dl_l26 : List (Nat × Instr × Nat) := [(1340, .aload_n 1, 1), (1341, .aload_n 0, 1), (1342, .iload 4, 2), (1344, .iconst 1, 1), (1345, .iadd, 1), (1346, .iaload, 1), (1347, .aload_n 0, 1), (1348, .iload 4, 2), (1350, .iconst 2, 1), (1351, .iadd, 1), (1352, .iaload, 1), (1353, .aload_n 3, 1), (1354, .invokestatic 269, 3), (1357, .istore 5, 2), (1359, .aload_n 2, 1), (1360, .aload_n 0, 1), (1361, .iload 4, 2), (1363, .iconst 1, 1), (1364, .iadd, 1), (1365, .iaload, 1), (1366, .aload_n 0, 1), (1367, .iload 4, 2), (1369, .iconst 2, 1), (1370, .iadd, 1), (1371, .iaload, 1), (1372, .invokevirtual 271, 3), (1375, .istore 6, 2), (1377, .goto 1074, 3)]
theorem dc_l26 : ∀ (k : Nat) (q : Nat × Instr × Nat), dl_l26[k]? = some q → decode code q.1 = .ok q.2 := dchk_at (a := 1340) (by decide +kernel)
def ps_l26 : List Nat := [1340, 1341, 1342, 1344, 1345, 1346, 1347, 1348, 1350, 1351, 1352, 1353, 1354, 1357, 1359, 1360, 1361, 1363, 1364, 1365, 1366, 1367, 1369, 1370, 1371, 1372, 1375, 1377, 2451]
def tb_l26 (L : Nat) (xs : Nat → Int32) (i : Int32) (g1 : Bool) (v1 : Int32) (g2 : Bool) (v2 : Int32) (g3 : Bool) (v3 : Int32) (g4 : Bool) (v4 : Int32) (z2 z3 z4 : Bool) : List RT := [tq_al 1, tq_al 0, tq_il 4, tq_ic 1, tq_i2 (fun x y => x + y), tq_isc L xs g1 v1, tq_al 0, tq_il 4, tq_ic 2, tq_i2 (fun x y => x + y), tq_isc L xs g2 v2, tq_al 3, tq_callH m_w_monthAhead 4 1 1000 [], tq_is 7 5, tq_al 2, tq_al 0, tq_il 4, tq_ic 1, tq_i2 (fun x y => x + y), tq_isc L xs g1 v1, tq_al 0, tq_il 4, tq_ic 2, tq_i2 (fun x y => x + y), tq_isc L xs g2 v2, tq_callH (rV 1 m_d_monthAhead) 3 0 1000 [], tq_is 7 6, tq_go 28, tq_stop i]
set_option maxHeartbeats 4000000 in
set_option maxRecDepth 20000 in
theorem ok_l26 (L : Nat) (xs : Nat → Int32) (i : Int32) (g1 : Bool) (v1 : Int32) (g2 : Bool) (v2 : Int32) (g3 : Bool) (v3 : Int32) (g4 : Bool) (v4 : Int32) (z2 z3 z4 : Bool) : rAll (rOk (fun G => rSc G = (L, xs)) code "RingdaysLaw" 7 rTL room_1 [] 1000 (.inr (2451, i)) (fun o => ps_l26.getD o 0)) ps_l26 (tb_l26 L xs i g1 v1 g2 v2 g3 v3 g4 v4 z2 z3 z4) := by
  refine rcons (ro_aload_n (k := 1) rfl (dca dc_l26 0 rfl) rfl) ?_
  refine rcons (ro_aload_n (k := 0) rfl (dca dc_l26 1 rfl) rfl) ?_
  refine rcons (ro_iload (dca dc_l26 2 rfl) rfl) ?_
  refine rcons (ro_iconst (n := 1) (dca dc_l26 3 rfl) rfl rfl) ?_
  refine rcons (ro_iadd (dca dc_l26 4 rfl) rfl) ?_
  refine rcons (ro_isc (fun _ h => h) (dca dc_l26 5 rfl) rfl) ?_
  refine rcons (ro_aload_n (k := 0) rfl (dca dc_l26 6 rfl) rfl) ?_
  refine rcons (ro_iload (dca dc_l26 7 rfl) rfl) ?_
  refine rcons (ro_iconst (n := 2) (dca dc_l26 8 rfl) rfl rfl) ?_
  refine rcons (ro_iadd (dca dc_l26 9 rfl) rfl) ?_
  refine rcons (ro_isc (fun _ h => h) (dca dc_l26 10 rfl) rfl) ?_
  refine rcons (ro_aload_n (k := 3) rfl (dca dc_l26 11 rfl) rfl) ?_
  refine rcons (ro_callSX ok_w_monthAhead (dca dc_l26 12 rfl) rfl (fun s args ht => vx_cwSW 4 ht (rgoodS (fun w h => List.mem_cons_of_mem _ h) q_808 q_809 q_12 q_810) rfl rfl rfl hy_w_monthAhead ⟨Nat.le_of_ble_eq_true rfl, Nat.le_of_ble_eq_true rfl⟩) rfl) ?_
  refine rcons (ro_istore (dca dc_l26 13 rfl) rfl) ?_
  refine rcons (ro_aload_n (k := 2) rfl (dca dc_l26 14 rfl) rfl) ?_
  refine rcons (ro_aload_n (k := 0) rfl (dca dc_l26 15 rfl) rfl) ?_
  refine rcons (ro_iload (dca dc_l26 16 rfl) rfl) ?_
  refine rcons (ro_iconst (n := 1) (dca dc_l26 17 rfl) rfl rfl) ?_
  refine rcons (ro_iadd (dca dc_l26 18 rfl) rfl) ?_
  refine rcons (ro_isc (fun _ h => h) (dca dc_l26 19 rfl) rfl) ?_
  refine rcons (ro_aload_n (k := 0) rfl (dca dc_l26 20 rfl) rfl) ?_
  refine rcons (ro_iload (dca dc_l26 21 rfl) rfl) ?_
  refine rcons (ro_iconst (n := 2) (dca dc_l26 22 rfl) rfl rfl) ?_
  refine rcons (ro_iadd (dca dc_l26 23 rfl) rfl) ?_
  refine rcons (ro_isc (fun _ h => h) (dca dc_l26 24 rfl) rfl) ?_
  refine rcons (ro_callVH (C := rN1) (T := rF1) (N := 7) rfl ok_d_monthAhead (dca dc_l26 25 rfl) trivial (by decide) (fun s args ht => cwV (C := rN1) 2 ht (rgoodV (C := rN1) (fun w h => List.mem_cons_of_mem _ h) q_1147 q_1148 q_1149 q_14 q_1150) rfl rfl rfl hv_d_monthAhead ⟨Nat.le_of_ble_eq_true rfl, Nat.le_of_ble_eq_true rfl⟩) rfl) ?_
  refine rcons (ro_istore (dca dc_l26 26 rfl) rfl) ?_
  refine rcons (ro_goto (off := 1074) (dca dc_l26 27 rfl) rfl) ?_
  refine rcons (ro_stop) ?_
  exact rnil
def dl_l27 : List (Nat × Instr × Nat) := [(1380, .aload_n 1, 1), (1381, .aload_n 0, 1), (1382, .iload 4, 2), (1384, .iconst 1, 1), (1385, .iadd, 1), (1386, .iaload, 1), (1387, .aload_n 0, 1), (1388, .iload 4, 2), (1390, .iconst 2, 1), (1391, .iadd, 1), (1392, .iaload, 1), (1393, .aload_n 0, 1), (1394, .iload 4, 2), (1396, .iconst 3, 1), (1397, .iadd, 1), (1398, .iaload, 1), (1399, .aload_n 0, 1), (1400, .iload 4, 2), (1402, .iconst 4, 1), (1403, .iadd, 1), (1404, .iaload, 1), (1405, .ifCond .eq 7, 3), (1408, .iconst 1, 1), (1409, .goto 4, 3), (1412, .iconst 0, 1), (1413, .aload_n 3, 1), (1414, .invokestatic 272, 3), (1417, .istore 5, 2), (1419, .aload_n 2, 1), (1420, .aload_n 0, 1), (1421, .iload 4, 2), (1423, .iconst 1, 1), (1424, .iadd, 1), (1425, .iaload, 1), (1426, .aload_n 0, 1), (1427, .iload 4, 2), (1429, .iconst 2, 1), (1430, .iadd, 1), (1431, .iaload, 1), (1432, .aload_n 0, 1), (1433, .iload 4, 2), (1435, .iconst 3, 1), (1436, .iadd, 1), (1437, .iaload, 1), (1438, .aload_n 0, 1), (1439, .iload 4, 2), (1441, .iconst 4, 1), (1442, .iadd, 1), (1443, .iaload, 1), (1444, .ifCond .eq 7, 3), (1447, .iconst 1, 1), (1448, .goto 4, 3), (1451, .iconst 0, 1), (1452, .invokevirtual 274, 3), (1455, .istore 6, 2), (1457, .goto 994, 3)]
theorem dc_l27 : ∀ (k : Nat) (q : Nat × Instr × Nat), dl_l27[k]? = some q → decode code q.1 = .ok q.2 := dchk_at (a := 1380) (by decide +kernel)
def ps_l27 : List Nat := [1380, 1381, 1382, 1384, 1385, 1386, 1387, 1388, 1390, 1391, 1392, 1393, 1394, 1396, 1397, 1398, 1399, 1400, 1402, 1403, 1404, 1405, 1408, 1409, 1412, 1413, 1414, 1417, 1419, 1420, 1421, 1423, 1424, 1425, 1426, 1427, 1429, 1430, 1431, 1432, 1433, 1435, 1436, 1437, 1438, 1439, 1441, 1442, 1443, 1444, 1447, 1448, 1451, 1452, 1455, 1457, 2451]
def tb_l27 (L : Nat) (xs : Nat → Int32) (i : Int32) (g1 : Bool) (v1 : Int32) (g2 : Bool) (v2 : Int32) (g3 : Bool) (v3 : Int32) (g4 : Bool) (v4 : Int32) (z2 z3 z4 : Bool) : List RT := [tq_al 1, tq_al 0, tq_il 4, tq_ic 1, tq_i2 (fun x y => x + y), tq_isc L xs g1 v1, tq_al 0, tq_il 4, tq_ic 2, tq_i2 (fun x y => x + y), tq_isc L xs g2 v2, tq_al 0, tq_il 4, tq_ic 3, tq_i2 (fun x y => x + y), tq_isc L xs g3 v3, tq_al 0, tq_il 4, tq_ic 4, tq_i2 (fun x y => x + y), tq_isc L xs g4 v4, tq_sv (fun x => decide (x = 0)) z4 1 0 25, tq_ic 1, tq_go 25, tq_ic 0, tq_al 3, tq_callH m_w_monthAtFar 6 1 1000 [], tq_is 7 5, tq_al 2, tq_al 0, tq_il 4, tq_ic 1, tq_i2 (fun x y => x + y), tq_isc L xs g1 v1, tq_al 0, tq_il 4, tq_ic 2, tq_i2 (fun x y => x + y), tq_isc L xs g2 v2, tq_al 0, tq_il 4, tq_ic 3, tq_i2 (fun x y => x + y), tq_isc L xs g3 v3, tq_al 0, tq_il 4, tq_ic 4, tq_i2 (fun x y => x + y), tq_isc L xs g4 v4, tq_sv (fun x => decide (x = 0)) z4 1 0 53, tq_ic 1, tq_go 53, tq_ic 0, tq_callH (rV 1 m_d_monthAtFar) 5 0 1000 [], tq_is 7 6, tq_go 56, tq_stop i]
set_option maxHeartbeats 4000000 in
set_option maxRecDepth 20000 in
theorem ok_l27 (L : Nat) (xs : Nat → Int32) (i : Int32) (g1 : Bool) (v1 : Int32) (g2 : Bool) (v2 : Int32) (g3 : Bool) (v3 : Int32) (g4 : Bool) (v4 : Int32) (z2 z3 z4 : Bool) : rAll (rOk (fun G => rSc G = (L, xs)) code "RingdaysLaw" 7 rTL room_1 [] 1000 (.inr (2451, i)) (fun o => ps_l27.getD o 0)) ps_l27 (tb_l27 L xs i g1 v1 g2 v2 g3 v3 g4 v4 z2 z3 z4) := by
  refine rcons (ro_aload_n (k := 1) rfl (dca dc_l27 0 rfl) rfl) ?_
  refine rcons (ro_aload_n (k := 0) rfl (dca dc_l27 1 rfl) rfl) ?_
  refine rcons (ro_iload (dca dc_l27 2 rfl) rfl) ?_
  refine rcons (ro_iconst (n := 1) (dca dc_l27 3 rfl) rfl rfl) ?_
  refine rcons (ro_iadd (dca dc_l27 4 rfl) rfl) ?_
  refine rcons (ro_isc (fun _ h => h) (dca dc_l27 5 rfl) rfl) ?_
  refine rcons (ro_aload_n (k := 0) rfl (dca dc_l27 6 rfl) rfl) ?_
  refine rcons (ro_iload (dca dc_l27 7 rfl) rfl) ?_
  refine rcons (ro_iconst (n := 2) (dca dc_l27 8 rfl) rfl rfl) ?_
  refine rcons (ro_iadd (dca dc_l27 9 rfl) rfl) ?_
  refine rcons (ro_isc (fun _ h => h) (dca dc_l27 10 rfl) rfl) ?_
  refine rcons (ro_aload_n (k := 0) rfl (dca dc_l27 11 rfl) rfl) ?_
  refine rcons (ro_iload (dca dc_l27 12 rfl) rfl) ?_
  refine rcons (ro_iconst (n := 3) (dca dc_l27 13 rfl) rfl rfl) ?_
  refine rcons (ro_iadd (dca dc_l27 14 rfl) rfl) ?_
  refine rcons (ro_isc (fun _ h => h) (dca dc_l27 15 rfl) rfl) ?_
  refine rcons (ro_aload_n (k := 0) rfl (dca dc_l27 16 rfl) rfl) ?_
  refine rcons (ro_iload (dca dc_l27 17 rfl) rfl) ?_
  refine rcons (ro_iconst (n := 4) (dca dc_l27 18 rfl) rfl rfl) ?_
  refine rcons (ro_iadd (dca dc_l27 19 rfl) rfl) ?_
  refine rcons (ro_isc (fun _ h => h) (dca dc_l27 20 rfl) rfl) ?_
  refine rcons (ro_sv (ro_s1_eq (off := 7) (off2 := 4) (n1 := 1) (n2 := 0) (dca dc_l27 21 rfl) (dca dc_l27 22 rfl) rfl (dca dc_l27 23 rfl) (dca dc_l27 24 rfl) rfl rfl rfl rfl)) ?_
  refine rcons (ro_iconst (n := 1) (dca dc_l27 22 rfl) rfl rfl) ?_
  refine rcons (ro_goto (off := 4) (dca dc_l27 23 rfl) rfl) ?_
  refine rcons (ro_iconst (n := 0) (dca dc_l27 24 rfl) rfl rfl) ?_
  refine rcons (ro_aload_n (k := 3) rfl (dca dc_l27 25 rfl) rfl) ?_
  refine rcons (ro_callSX ok_w_monthAtFar (dca dc_l27 26 rfl) rfl (fun s args ht => vx_cwSW 6 ht (rgoodS (fun w h => List.mem_cons_of_mem _ h) q_812 q_813 q_12 q_814) rfl rfl rfl hy_w_monthAtFar ⟨Nat.le_of_ble_eq_true rfl, Nat.le_of_ble_eq_true rfl⟩) rfl) ?_
  refine rcons (ro_istore (dca dc_l27 27 rfl) rfl) ?_
  refine rcons (ro_aload_n (k := 2) rfl (dca dc_l27 28 rfl) rfl) ?_
  refine rcons (ro_aload_n (k := 0) rfl (dca dc_l27 29 rfl) rfl) ?_
  refine rcons (ro_iload (dca dc_l27 30 rfl) rfl) ?_
  refine rcons (ro_iconst (n := 1) (dca dc_l27 31 rfl) rfl rfl) ?_
  refine rcons (ro_iadd (dca dc_l27 32 rfl) rfl) ?_
  refine rcons (ro_isc (fun _ h => h) (dca dc_l27 33 rfl) rfl) ?_
  refine rcons (ro_aload_n (k := 0) rfl (dca dc_l27 34 rfl) rfl) ?_
  refine rcons (ro_iload (dca dc_l27 35 rfl) rfl) ?_
  refine rcons (ro_iconst (n := 2) (dca dc_l27 36 rfl) rfl rfl) ?_
  refine rcons (ro_iadd (dca dc_l27 37 rfl) rfl) ?_
  refine rcons (ro_isc (fun _ h => h) (dca dc_l27 38 rfl) rfl) ?_
  refine rcons (ro_aload_n (k := 0) rfl (dca dc_l27 39 rfl) rfl) ?_
  refine rcons (ro_iload (dca dc_l27 40 rfl) rfl) ?_
  refine rcons (ro_iconst (n := 3) (dca dc_l27 41 rfl) rfl rfl) ?_
  refine rcons (ro_iadd (dca dc_l27 42 rfl) rfl) ?_
  refine rcons (ro_isc (fun _ h => h) (dca dc_l27 43 rfl) rfl) ?_
  refine rcons (ro_aload_n (k := 0) rfl (dca dc_l27 44 rfl) rfl) ?_
  refine rcons (ro_iload (dca dc_l27 45 rfl) rfl) ?_
  refine rcons (ro_iconst (n := 4) (dca dc_l27 46 rfl) rfl rfl) ?_
  refine rcons (ro_iadd (dca dc_l27 47 rfl) rfl) ?_
  refine rcons (ro_isc (fun _ h => h) (dca dc_l27 48 rfl) rfl) ?_
  refine rcons (ro_sv (ro_s1_eq (off := 7) (off2 := 4) (n1 := 1) (n2 := 0) (dca dc_l27 49 rfl) (dca dc_l27 50 rfl) rfl (dca dc_l27 51 rfl) (dca dc_l27 52 rfl) rfl rfl rfl rfl)) ?_
  refine rcons (ro_iconst (n := 1) (dca dc_l27 50 rfl) rfl rfl) ?_
  refine rcons (ro_goto (off := 4) (dca dc_l27 51 rfl) rfl) ?_
  refine rcons (ro_iconst (n := 0) (dca dc_l27 52 rfl) rfl rfl) ?_
  refine rcons (ro_callVH (C := rN1) (T := rF1) (N := 7) rfl ok_d_monthAtFar (dca dc_l27 53 rfl) trivial (by decide) (fun s args ht => cwV (C := rN1) 4 ht (rgoodV (C := rN1) (fun w h => List.mem_cons_of_mem _ h) q_1151 q_1152 q_1153 q_14 q_1154) rfl rfl rfl hv_d_monthAtFar ⟨Nat.le_of_ble_eq_true rfl, Nat.le_of_ble_eq_true rfl⟩) rfl) ?_
  refine rcons (ro_istore (dca dc_l27 54 rfl) rfl) ?_
  refine rcons (ro_goto (off := 994) (dca dc_l27 55 rfl) rfl) ?_
  refine rcons (ro_stop) ?_
  exact rnil
def dl_l28 : List (Nat × Instr × Nat) := [(1460, .aload_n 1, 1), (1461, .aload_n 0, 1), (1462, .iload 4, 2), (1464, .iconst 1, 1), (1465, .iadd, 1), (1466, .iaload, 1), (1467, .aload_n 0, 1), (1468, .iload 4, 2), (1470, .iconst 2, 1), (1471, .iadd, 1), (1472, .iaload, 1), (1473, .aload_n 0, 1), (1474, .iload 4, 2), (1476, .iconst 3, 1), (1477, .iadd, 1), (1478, .iaload, 1), (1479, .aload_n 3, 1), (1480, .invokestatic 275, 3), (1483, .istore 5, 2), (1485, .aload_n 2, 1), (1486, .aload_n 0, 1), (1487, .iload 4, 2), (1489, .iconst 1, 1), (1490, .iadd, 1), (1491, .iaload, 1), (1492, .aload_n 0, 1), (1493, .iload 4, 2), (1495, .iconst 2, 1), (1496, .iadd, 1), (1497, .iaload, 1), (1498, .aload_n 0, 1), (1499, .iload 4, 2), (1501, .iconst 3, 1), (1502, .iadd, 1), (1503, .iaload, 1), (1504, .invokevirtual 277, 3), (1507, .istore 6, 2), (1509, .goto 942, 3)]
theorem dc_l28 : ∀ (k : Nat) (q : Nat × Instr × Nat), dl_l28[k]? = some q → decode code q.1 = .ok q.2 := dchk_at (a := 1460) (by decide +kernel)
def ps_l28 : List Nat := [1460, 1461, 1462, 1464, 1465, 1466, 1467, 1468, 1470, 1471, 1472, 1473, 1474, 1476, 1477, 1478, 1479, 1480, 1483, 1485, 1486, 1487, 1489, 1490, 1491, 1492, 1493, 1495, 1496, 1497, 1498, 1499, 1501, 1502, 1503, 1504, 1507, 1509, 2451]
def tb_l28 (L : Nat) (xs : Nat → Int32) (i : Int32) (g1 : Bool) (v1 : Int32) (g2 : Bool) (v2 : Int32) (g3 : Bool) (v3 : Int32) (g4 : Bool) (v4 : Int32) (z2 z3 z4 : Bool) : List RT := [tq_al 1, tq_al 0, tq_il 4, tq_ic 1, tq_i2 (fun x y => x + y), tq_isc L xs g1 v1, tq_al 0, tq_il 4, tq_ic 2, tq_i2 (fun x y => x + y), tq_isc L xs g2 v2, tq_al 0, tq_il 4, tq_ic 3, tq_i2 (fun x y => x + y), tq_isc L xs g3 v3, tq_al 3, tq_callH m_w_monthTwice 5 1 1000 [], tq_is 7 5, tq_al 2, tq_al 0, tq_il 4, tq_ic 1, tq_i2 (fun x y => x + y), tq_isc L xs g1 v1, tq_al 0, tq_il 4, tq_ic 2, tq_i2 (fun x y => x + y), tq_isc L xs g2 v2, tq_al 0, tq_il 4, tq_ic 3, tq_i2 (fun x y => x + y), tq_isc L xs g3 v3, tq_callH (rV 1 m_d_monthTwice) 4 0 1000 [], tq_is 7 6, tq_go 38, tq_stop i]
set_option maxHeartbeats 4000000 in
set_option maxRecDepth 20000 in
theorem ok_l28 (L : Nat) (xs : Nat → Int32) (i : Int32) (g1 : Bool) (v1 : Int32) (g2 : Bool) (v2 : Int32) (g3 : Bool) (v3 : Int32) (g4 : Bool) (v4 : Int32) (z2 z3 z4 : Bool) : rAll (rOk (fun G => rSc G = (L, xs)) code "RingdaysLaw" 7 rTL room_1 [] 1000 (.inr (2451, i)) (fun o => ps_l28.getD o 0)) ps_l28 (tb_l28 L xs i g1 v1 g2 v2 g3 v3 g4 v4 z2 z3 z4) := by
  refine rcons (ro_aload_n (k := 1) rfl (dca dc_l28 0 rfl) rfl) ?_
  refine rcons (ro_aload_n (k := 0) rfl (dca dc_l28 1 rfl) rfl) ?_
  refine rcons (ro_iload (dca dc_l28 2 rfl) rfl) ?_
  refine rcons (ro_iconst (n := 1) (dca dc_l28 3 rfl) rfl rfl) ?_
  refine rcons (ro_iadd (dca dc_l28 4 rfl) rfl) ?_
  refine rcons (ro_isc (fun _ h => h) (dca dc_l28 5 rfl) rfl) ?_
  refine rcons (ro_aload_n (k := 0) rfl (dca dc_l28 6 rfl) rfl) ?_
  refine rcons (ro_iload (dca dc_l28 7 rfl) rfl) ?_
  refine rcons (ro_iconst (n := 2) (dca dc_l28 8 rfl) rfl rfl) ?_
  refine rcons (ro_iadd (dca dc_l28 9 rfl) rfl) ?_
  refine rcons (ro_isc (fun _ h => h) (dca dc_l28 10 rfl) rfl) ?_
  refine rcons (ro_aload_n (k := 0) rfl (dca dc_l28 11 rfl) rfl) ?_
  refine rcons (ro_iload (dca dc_l28 12 rfl) rfl) ?_
  refine rcons (ro_iconst (n := 3) (dca dc_l28 13 rfl) rfl rfl) ?_
  refine rcons (ro_iadd (dca dc_l28 14 rfl) rfl) ?_
  refine rcons (ro_isc (fun _ h => h) (dca dc_l28 15 rfl) rfl) ?_
  refine rcons (ro_aload_n (k := 3) rfl (dca dc_l28 16 rfl) rfl) ?_
  refine rcons (ro_callSX ok_w_monthTwice (dca dc_l28 17 rfl) rfl (fun s args ht => vx_cwSW 5 ht (rgoodS (fun w h => List.mem_cons_of_mem _ h) q_816 q_817 q_12 q_818) rfl rfl rfl hy_w_monthTwice ⟨Nat.le_of_ble_eq_true rfl, Nat.le_of_ble_eq_true rfl⟩) rfl) ?_
  refine rcons (ro_istore (dca dc_l28 18 rfl) rfl) ?_
  refine rcons (ro_aload_n (k := 2) rfl (dca dc_l28 19 rfl) rfl) ?_
  refine rcons (ro_aload_n (k := 0) rfl (dca dc_l28 20 rfl) rfl) ?_
  refine rcons (ro_iload (dca dc_l28 21 rfl) rfl) ?_
  refine rcons (ro_iconst (n := 1) (dca dc_l28 22 rfl) rfl rfl) ?_
  refine rcons (ro_iadd (dca dc_l28 23 rfl) rfl) ?_
  refine rcons (ro_isc (fun _ h => h) (dca dc_l28 24 rfl) rfl) ?_
  refine rcons (ro_aload_n (k := 0) rfl (dca dc_l28 25 rfl) rfl) ?_
  refine rcons (ro_iload (dca dc_l28 26 rfl) rfl) ?_
  refine rcons (ro_iconst (n := 2) (dca dc_l28 27 rfl) rfl rfl) ?_
  refine rcons (ro_iadd (dca dc_l28 28 rfl) rfl) ?_
  refine rcons (ro_isc (fun _ h => h) (dca dc_l28 29 rfl) rfl) ?_
  refine rcons (ro_aload_n (k := 0) rfl (dca dc_l28 30 rfl) rfl) ?_
  refine rcons (ro_iload (dca dc_l28 31 rfl) rfl) ?_
  refine rcons (ro_iconst (n := 3) (dca dc_l28 32 rfl) rfl rfl) ?_
  refine rcons (ro_iadd (dca dc_l28 33 rfl) rfl) ?_
  refine rcons (ro_isc (fun _ h => h) (dca dc_l28 34 rfl) rfl) ?_
  refine rcons (ro_callVH (C := rN1) (T := rF1) (N := 7) rfl ok_d_monthTwice (dca dc_l28 35 rfl) trivial (by decide) (fun s args ht => cwV (C := rN1) 3 ht (rgoodV (C := rN1) (fun w h => List.mem_cons_of_mem _ h) q_1155 q_1156 q_1157 q_14 q_1158) rfl rfl rfl hv_d_monthTwice ⟨Nat.le_of_ble_eq_true rfl, Nat.le_of_ble_eq_true rfl⟩) rfl) ?_
  refine rcons (ro_istore (dca dc_l28 36 rfl) rfl) ?_
  refine rcons (ro_goto (off := 942) (dca dc_l28 37 rfl) rfl) ?_
  refine rcons (ro_stop) ?_
  exact rnil
def dl_l29 : List (Nat × Instr × Nat) := [(1512, .aload_n 1, 1), (1513, .aload_n 0, 1), (1514, .iload 4, 2), (1516, .iconst 1, 1), (1517, .iadd, 1), (1518, .iaload, 1), (1519, .aload_n 0, 1), (1520, .iload 4, 2), (1522, .iconst 2, 1), (1523, .iadd, 1), (1524, .iaload, 1), (1525, .aload_n 3, 1), (1526, .invokestatic 278, 3), (1529, .istore 5, 2), (1531, .aload_n 2, 1), (1532, .aload_n 0, 1), (1533, .iload 4, 2), (1535, .iconst 1, 1), (1536, .iadd, 1), (1537, .iaload, 1), (1538, .aload_n 0, 1), (1539, .iload 4, 2), (1541, .iconst 2, 1), (1542, .iadd, 1), (1543, .iaload, 1), (1544, .invokevirtual 280, 3), (1547, .istore 6, 2), (1549, .goto 902, 3)]
theorem dc_l29 : ∀ (k : Nat) (q : Nat × Instr × Nat), dl_l29[k]? = some q → decode code q.1 = .ok q.2 := dchk_at (a := 1512) (by decide +kernel)
def ps_l29 : List Nat := [1512, 1513, 1514, 1516, 1517, 1518, 1519, 1520, 1522, 1523, 1524, 1525, 1526, 1529, 1531, 1532, 1533, 1535, 1536, 1537, 1538, 1539, 1541, 1542, 1543, 1544, 1547, 1549, 2451]
def tb_l29 (L : Nat) (xs : Nat → Int32) (i : Int32) (g1 : Bool) (v1 : Int32) (g2 : Bool) (v2 : Int32) (g3 : Bool) (v3 : Int32) (g4 : Bool) (v4 : Int32) (z2 z3 z4 : Bool) : List RT := [tq_al 1, tq_al 0, tq_il 4, tq_ic 1, tq_i2 (fun x y => x + y), tq_isc L xs g1 v1, tq_al 0, tq_il 4, tq_ic 2, tq_i2 (fun x y => x + y), tq_isc L xs g2 v2, tq_al 3, tq_callH m_w_monthCopy 4 2 1000 [], tq_is 7 5, tq_al 2, tq_al 0, tq_il 4, tq_ic 1, tq_i2 (fun x y => x + y), tq_isc L xs g1 v1, tq_al 0, tq_il 4, tq_ic 2, tq_i2 (fun x y => x + y), tq_isc L xs g2 v2, tq_callH (rV 1 m_d_monthCopy) 3 0 1000 [], tq_is 7 6, tq_go 28, tq_stop i]
set_option maxHeartbeats 4000000 in
set_option maxRecDepth 20000 in
theorem ok_l29 (L : Nat) (xs : Nat → Int32) (i : Int32) (g1 : Bool) (v1 : Int32) (g2 : Bool) (v2 : Int32) (g3 : Bool) (v3 : Int32) (g4 : Bool) (v4 : Int32) (z2 z3 z4 : Bool) : rAll (rOk (fun G => rSc G = (L, xs)) code "RingdaysLaw" 7 rTL room_1 [] 1000 (.inr (2451, i)) (fun o => ps_l29.getD o 0)) ps_l29 (tb_l29 L xs i g1 v1 g2 v2 g3 v3 g4 v4 z2 z3 z4) := by
  refine rcons (ro_aload_n (k := 1) rfl (dca dc_l29 0 rfl) rfl) ?_
  refine rcons (ro_aload_n (k := 0) rfl (dca dc_l29 1 rfl) rfl) ?_
  refine rcons (ro_iload (dca dc_l29 2 rfl) rfl) ?_
  refine rcons (ro_iconst (n := 1) (dca dc_l29 3 rfl) rfl rfl) ?_
  refine rcons (ro_iadd (dca dc_l29 4 rfl) rfl) ?_
  refine rcons (ro_isc (fun _ h => h) (dca dc_l29 5 rfl) rfl) ?_
  refine rcons (ro_aload_n (k := 0) rfl (dca dc_l29 6 rfl) rfl) ?_
  refine rcons (ro_iload (dca dc_l29 7 rfl) rfl) ?_
  refine rcons (ro_iconst (n := 2) (dca dc_l29 8 rfl) rfl rfl) ?_
  refine rcons (ro_iadd (dca dc_l29 9 rfl) rfl) ?_
  refine rcons (ro_isc (fun _ h => h) (dca dc_l29 10 rfl) rfl) ?_
  refine rcons (ro_aload_n (k := 3) rfl (dca dc_l29 11 rfl) rfl) ?_
  refine rcons (ro_callSX ok_w_monthCopy (dca dc_l29 12 rfl) rfl (fun s args ht => vx_cwSW 4 ht (rgoodS (fun w h => List.mem_cons_of_mem _ h) q_823 q_824 q_12 q_825) rfl rfl rfl hy_w_monthCopy ⟨Nat.le_of_ble_eq_true rfl, Nat.le_of_ble_eq_true rfl⟩) rfl) ?_
  refine rcons (ro_istore (dca dc_l29 13 rfl) rfl) ?_
  refine rcons (ro_aload_n (k := 2) rfl (dca dc_l29 14 rfl) rfl) ?_
  refine rcons (ro_aload_n (k := 0) rfl (dca dc_l29 15 rfl) rfl) ?_
  refine rcons (ro_iload (dca dc_l29 16 rfl) rfl) ?_
  refine rcons (ro_iconst (n := 1) (dca dc_l29 17 rfl) rfl rfl) ?_
  refine rcons (ro_iadd (dca dc_l29 18 rfl) rfl) ?_
  refine rcons (ro_isc (fun _ h => h) (dca dc_l29 19 rfl) rfl) ?_
  refine rcons (ro_aload_n (k := 0) rfl (dca dc_l29 20 rfl) rfl) ?_
  refine rcons (ro_iload (dca dc_l29 21 rfl) rfl) ?_
  refine rcons (ro_iconst (n := 2) (dca dc_l29 22 rfl) rfl rfl) ?_
  refine rcons (ro_iadd (dca dc_l29 23 rfl) rfl) ?_
  refine rcons (ro_isc (fun _ h => h) (dca dc_l29 24 rfl) rfl) ?_
  refine rcons (ro_callVH (C := rN1) (T := rF1) (N := 7) rfl ok_d_monthCopy (dca dc_l29 25 rfl) trivial (by decide) (fun s args ht => cwV (C := rN1) 2 ht (rgoodV (C := rN1) (fun w h => List.mem_cons_of_mem _ h) q_1159 q_1160 q_1161 q_14 q_1162) rfl rfl rfl hv_d_monthCopy ⟨Nat.le_of_ble_eq_true rfl, Nat.le_of_ble_eq_true rfl⟩) rfl) ?_
  refine rcons (ro_istore (dca dc_l29 26 rfl) rfl) ?_
  refine rcons (ro_goto (off := 902) (dca dc_l29 27 rfl) rfl) ?_
  refine rcons (ro_stop) ?_
  exact rnil
def dl_l30 : List (Nat × Instr × Nat) := [(1552, .aload_n 1, 1), (1553, .aload_n 0, 1), (1554, .iload 4, 2), (1556, .iconst 1, 1), (1557, .iadd, 1), (1558, .iaload, 1), (1559, .aload_n 0, 1), (1560, .iload 4, 2), (1562, .iconst 2, 1), (1563, .iadd, 1), (1564, .iaload, 1), (1565, .aload_n 3, 1), (1566, .invokestatic 281, 3), (1569, .istore 5, 2), (1571, .aload_n 2, 1), (1572, .aload_n 0, 1), (1573, .iload 4, 2), (1575, .iconst 1, 1), (1576, .iadd, 1), (1577, .iaload, 1), (1578, .aload_n 0, 1), (1579, .iload 4, 2), (1581, .iconst 2, 1), (1582, .iadd, 1), (1583, .iaload, 1), (1584, .invokevirtual 283, 3), (1587, .istore 6, 2), (1589, .goto 862, 3)]
theorem dc_l30 : ∀ (k : Nat) (q : Nat × Instr × Nat), dl_l30[k]? = some q → decode code q.1 = .ok q.2 := dchk_at (a := 1552) (by decide +kernel)
def ps_l30 : List Nat := [1552, 1553, 1554, 1556, 1557, 1558, 1559, 1560, 1562, 1563, 1564, 1565, 1566, 1569, 1571, 1572, 1573, 1575, 1576, 1577, 1578, 1579, 1581, 1582, 1583, 1584, 1587, 1589, 2451]
def tb_l30 (L : Nat) (xs : Nat → Int32) (i : Int32) (g1 : Bool) (v1 : Int32) (g2 : Bool) (v2 : Int32) (g3 : Bool) (v3 : Int32) (g4 : Bool) (v4 : Int32) (z2 z3 z4 : Bool) : List RT := [tq_al 1, tq_al 0, tq_il 4, tq_ic 1, tq_i2 (fun x y => x + y), tq_isc L xs g1 v1, tq_al 0, tq_il 4, tq_ic 2, tq_i2 (fun x y => x + y), tq_isc L xs g2 v2, tq_al 3, tq_callH m_w_monthSwap 4 4 1000 [], tq_is 7 5, tq_al 2, tq_al 0, tq_il 4, tq_ic 1, tq_i2 (fun x y => x + y), tq_isc L xs g1 v1, tq_al 0, tq_il 4, tq_ic 2, tq_i2 (fun x y => x + y), tq_isc L xs g2 v2, tq_callH (rV 1 m_d_monthSwap) 3 0 1000 [], tq_is 7 6, tq_go 28, tq_stop i]
set_option maxHeartbeats 4000000 in
set_option maxRecDepth 20000 in
theorem ok_l30 (L : Nat) (xs : Nat → Int32) (i : Int32) (g1 : Bool) (v1 : Int32) (g2 : Bool) (v2 : Int32) (g3 : Bool) (v3 : Int32) (g4 : Bool) (v4 : Int32) (z2 z3 z4 : Bool) : rAll (rOk (fun G => rSc G = (L, xs)) code "RingdaysLaw" 7 rTL room_1 [] 1000 (.inr (2451, i)) (fun o => ps_l30.getD o 0)) ps_l30 (tb_l30 L xs i g1 v1 g2 v2 g3 v3 g4 v4 z2 z3 z4) := by
  refine rcons (ro_aload_n (k := 1) rfl (dca dc_l30 0 rfl) rfl) ?_
  refine rcons (ro_aload_n (k := 0) rfl (dca dc_l30 1 rfl) rfl) ?_
  refine rcons (ro_iload (dca dc_l30 2 rfl) rfl) ?_
  refine rcons (ro_iconst (n := 1) (dca dc_l30 3 rfl) rfl rfl) ?_
  refine rcons (ro_iadd (dca dc_l30 4 rfl) rfl) ?_
  refine rcons (ro_isc (fun _ h => h) (dca dc_l30 5 rfl) rfl) ?_
  refine rcons (ro_aload_n (k := 0) rfl (dca dc_l30 6 rfl) rfl) ?_
  refine rcons (ro_iload (dca dc_l30 7 rfl) rfl) ?_
  refine rcons (ro_iconst (n := 2) (dca dc_l30 8 rfl) rfl rfl) ?_
  refine rcons (ro_iadd (dca dc_l30 9 rfl) rfl) ?_
  refine rcons (ro_isc (fun _ h => h) (dca dc_l30 10 rfl) rfl) ?_
  refine rcons (ro_aload_n (k := 3) rfl (dca dc_l30 11 rfl) rfl) ?_
  refine rcons (ro_callSX ok_w_monthSwap (dca dc_l30 12 rfl) rfl (fun s args ht => vx_cwSW 4 ht (rgoodS (fun w h => List.mem_cons_of_mem _ h) q_830 q_831 q_12 q_832) rfl rfl rfl hy_w_monthSwap ⟨Nat.le_of_ble_eq_true rfl, Nat.le_of_ble_eq_true rfl⟩) rfl) ?_
  refine rcons (ro_istore (dca dc_l30 13 rfl) rfl) ?_
  refine rcons (ro_aload_n (k := 2) rfl (dca dc_l30 14 rfl) rfl) ?_
  refine rcons (ro_aload_n (k := 0) rfl (dca dc_l30 15 rfl) rfl) ?_
  refine rcons (ro_iload (dca dc_l30 16 rfl) rfl) ?_
  refine rcons (ro_iconst (n := 1) (dca dc_l30 17 rfl) rfl rfl) ?_
  refine rcons (ro_iadd (dca dc_l30 18 rfl) rfl) ?_
  refine rcons (ro_isc (fun _ h => h) (dca dc_l30 19 rfl) rfl) ?_
  refine rcons (ro_aload_n (k := 0) rfl (dca dc_l30 20 rfl) rfl) ?_
  refine rcons (ro_iload (dca dc_l30 21 rfl) rfl) ?_
  refine rcons (ro_iconst (n := 2) (dca dc_l30 22 rfl) rfl rfl) ?_
  refine rcons (ro_iadd (dca dc_l30 23 rfl) rfl) ?_
  refine rcons (ro_isc (fun _ h => h) (dca dc_l30 24 rfl) rfl) ?_
  refine rcons (ro_callVH (C := rN1) (T := rF1) (N := 7) rfl ok_d_monthSwap (dca dc_l30 25 rfl) trivial (by decide) (fun s args ht => cwV (C := rN1) 2 ht (rgoodV (C := rN1) (fun w h => List.mem_cons_of_mem _ h) q_1163 q_1164 q_1165 q_14 q_1166) rfl rfl rfl hv_d_monthSwap ⟨Nat.le_of_ble_eq_true rfl, Nat.le_of_ble_eq_true rfl⟩) rfl) ?_
  refine rcons (ro_istore (dca dc_l30 26 rfl) rfl) ?_
  refine rcons (ro_goto (off := 862) (dca dc_l30 27 rfl) rfl) ?_
  refine rcons (ro_stop) ?_
  exact rnil
def dl_l31 : List (Nat × Instr × Nat) := [(1592, .aload_n 1, 1), (1593, .aload_n 0, 1), (1594, .iload 4, 2), (1596, .iconst 1, 1), (1597, .iadd, 1), (1598, .iaload, 1), (1599, .aload_n 0, 1), (1600, .iload 4, 2), (1602, .iconst 2, 1), (1603, .iadd, 1), (1604, .iaload, 1), (1605, .aload_n 3, 1), (1606, .invokestatic 284, 3), (1609, .istore 5, 2), (1611, .aload_n 2, 1), (1612, .aload_n 0, 1), (1613, .iload 4, 2), (1615, .iconst 1, 1), (1616, .iadd, 1), (1617, .iaload, 1), (1618, .aload_n 0, 1), (1619, .iload 4, 2), (1621, .iconst 2, 1), (1622, .iadd, 1), (1623, .iaload, 1), (1624, .invokevirtual 286, 3), (1627, .istore 6, 2), (1629, .goto 822, 3)]
theorem dc_l31 : ∀ (k : Nat) (q : Nat × Instr × Nat), dl_l31[k]? = some q → decode code q.1 = .ok q.2 := dchk_at (a := 1592) (by decide +kernel)
def ps_l31 : List Nat := [1592, 1593, 1594, 1596, 1597, 1598, 1599, 1600, 1602, 1603, 1604, 1605, 1606, 1609, 1611, 1612, 1613, 1615, 1616, 1617, 1618, 1619, 1621, 1622, 1623, 1624, 1627, 1629, 2451]
def tb_l31 (L : Nat) (xs : Nat → Int32) (i : Int32) (g1 : Bool) (v1 : Int32) (g2 : Bool) (v2 : Int32) (g3 : Bool) (v3 : Int32) (g4 : Bool) (v4 : Int32) (z2 z3 z4 : Bool) : List RT := [tq_al 1, tq_al 0, tq_il 4, tq_ic 1, tq_i2 (fun x y => x + y), tq_isc L xs g1 v1, tq_al 0, tq_il 4, tq_ic 2, tq_i2 (fun x y => x + y), tq_isc L xs g2 v2, tq_al 3, tq_callH m_w_monthOrder 4 2 1000 [], tq_is 7 5, tq_al 2, tq_al 0, tq_il 4, tq_ic 1, tq_i2 (fun x y => x + y), tq_isc L xs g1 v1, tq_al 0, tq_il 4, tq_ic 2, tq_i2 (fun x y => x + y), tq_isc L xs g2 v2, tq_callH (rV 1 m_d_monthOrder) 3 0 1000 [], tq_is 7 6, tq_go 28, tq_stop i]
set_option maxHeartbeats 4000000 in
set_option maxRecDepth 20000 in
theorem ok_l31 (L : Nat) (xs : Nat → Int32) (i : Int32) (g1 : Bool) (v1 : Int32) (g2 : Bool) (v2 : Int32) (g3 : Bool) (v3 : Int32) (g4 : Bool) (v4 : Int32) (z2 z3 z4 : Bool) : rAll (rOk (fun G => rSc G = (L, xs)) code "RingdaysLaw" 7 rTL room_1 [] 1000 (.inr (2451, i)) (fun o => ps_l31.getD o 0)) ps_l31 (tb_l31 L xs i g1 v1 g2 v2 g3 v3 g4 v4 z2 z3 z4) := by
  refine rcons (ro_aload_n (k := 1) rfl (dca dc_l31 0 rfl) rfl) ?_
  refine rcons (ro_aload_n (k := 0) rfl (dca dc_l31 1 rfl) rfl) ?_
  refine rcons (ro_iload (dca dc_l31 2 rfl) rfl) ?_
  refine rcons (ro_iconst (n := 1) (dca dc_l31 3 rfl) rfl rfl) ?_
  refine rcons (ro_iadd (dca dc_l31 4 rfl) rfl) ?_
  refine rcons (ro_isc (fun _ h => h) (dca dc_l31 5 rfl) rfl) ?_
  refine rcons (ro_aload_n (k := 0) rfl (dca dc_l31 6 rfl) rfl) ?_
  refine rcons (ro_iload (dca dc_l31 7 rfl) rfl) ?_
  refine rcons (ro_iconst (n := 2) (dca dc_l31 8 rfl) rfl rfl) ?_
  refine rcons (ro_iadd (dca dc_l31 9 rfl) rfl) ?_
  refine rcons (ro_isc (fun _ h => h) (dca dc_l31 10 rfl) rfl) ?_
  refine rcons (ro_aload_n (k := 3) rfl (dca dc_l31 11 rfl) rfl) ?_
  refine rcons (ro_callSX ok_w_monthOrder (dca dc_l31 12 rfl) rfl (fun s args ht => vx_cwSW 4 ht (rgoodS (fun w h => List.mem_cons_of_mem _ h) q_837 q_838 q_12 q_839) rfl rfl rfl hy_w_monthOrder ⟨Nat.le_of_ble_eq_true rfl, Nat.le_of_ble_eq_true rfl⟩) rfl) ?_
  refine rcons (ro_istore (dca dc_l31 13 rfl) rfl) ?_
  refine rcons (ro_aload_n (k := 2) rfl (dca dc_l31 14 rfl) rfl) ?_
  refine rcons (ro_aload_n (k := 0) rfl (dca dc_l31 15 rfl) rfl) ?_
  refine rcons (ro_iload (dca dc_l31 16 rfl) rfl) ?_
  refine rcons (ro_iconst (n := 1) (dca dc_l31 17 rfl) rfl rfl) ?_
  refine rcons (ro_iadd (dca dc_l31 18 rfl) rfl) ?_
  refine rcons (ro_isc (fun _ h => h) (dca dc_l31 19 rfl) rfl) ?_
  refine rcons (ro_aload_n (k := 0) rfl (dca dc_l31 20 rfl) rfl) ?_
  refine rcons (ro_iload (dca dc_l31 21 rfl) rfl) ?_
  refine rcons (ro_iconst (n := 2) (dca dc_l31 22 rfl) rfl rfl) ?_
  refine rcons (ro_iadd (dca dc_l31 23 rfl) rfl) ?_
  refine rcons (ro_isc (fun _ h => h) (dca dc_l31 24 rfl) rfl) ?_
  refine rcons (ro_callVH (C := rN1) (T := rF1) (N := 7) rfl ok_d_monthOrder (dca dc_l31 25 rfl) trivial (by decide) (fun s args ht => cwV (C := rN1) 2 ht (rgoodV (C := rN1) (fun w h => List.mem_cons_of_mem _ h) q_1167 q_1168 q_1169 q_14 q_1170) rfl rfl rfl hv_d_monthOrder ⟨Nat.le_of_ble_eq_true rfl, Nat.le_of_ble_eq_true rfl⟩) rfl) ?_
  refine rcons (ro_istore (dca dc_l31 26 rfl) rfl) ?_
  refine rcons (ro_goto (off := 822) (dca dc_l31 27 rfl) rfl) ?_
  refine rcons (ro_stop) ?_
  exact rnil
def dl_l32 : List (Nat × Instr × Nat) := [(1632, .aload_n 1, 1), (1633, .aload_n 0, 1), (1634, .iload 4, 2), (1636, .iconst 1, 1), (1637, .iadd, 1), (1638, .iaload, 1), (1639, .aload_n 0, 1), (1640, .iload 4, 2), (1642, .iconst 2, 1), (1643, .iadd, 1), (1644, .iaload, 1), (1645, .aload_n 3, 1), (1646, .invokestatic 287, 3), (1649, .istore 5, 2), (1651, .aload_n 2, 1), (1652, .aload_n 0, 1), (1653, .iload 4, 2), (1655, .iconst 1, 1), (1656, .iadd, 1), (1657, .iaload, 1), (1658, .aload_n 0, 1), (1659, .iload 4, 2), (1661, .iconst 2, 1), (1662, .iadd, 1), (1663, .iaload, 1), (1664, .invokevirtual 289, 3), (1667, .istore 6, 2), (1669, .goto 782, 3)]
theorem dc_l32 : ∀ (k : Nat) (q : Nat × Instr × Nat), dl_l32[k]? = some q → decode code q.1 = .ok q.2 := dchk_at (a := 1632) (by decide +kernel)
def ps_l32 : List Nat := [1632, 1633, 1634, 1636, 1637, 1638, 1639, 1640, 1642, 1643, 1644, 1645, 1646, 1649, 1651, 1652, 1653, 1655, 1656, 1657, 1658, 1659, 1661, 1662, 1663, 1664, 1667, 1669, 2451]
def tb_l32 (L : Nat) (xs : Nat → Int32) (i : Int32) (g1 : Bool) (v1 : Int32) (g2 : Bool) (v2 : Int32) (g3 : Bool) (v3 : Int32) (g4 : Bool) (v4 : Int32) (z2 z3 z4 : Bool) : List RT := [tq_al 1, tq_al 0, tq_il 4, tq_ic 1, tq_i2 (fun x y => x + y), tq_isc L xs g1 v1, tq_al 0, tq_il 4, tq_ic 2, tq_i2 (fun x y => x + y), tq_isc L xs g2 v2, tq_al 3, tq_callH m_w_isSameMonth 4 2 1000 [], tq_is 7 5, tq_al 2, tq_al 0, tq_il 4, tq_ic 1, tq_i2 (fun x y => x + y), tq_isc L xs g1 v1, tq_al 0, tq_il 4, tq_ic 2, tq_i2 (fun x y => x + y), tq_isc L xs g2 v2, tq_callH (rV 1 m_d_isSameMonth) 3 0 1000 [], tq_is 7 6, tq_go 28, tq_stop i]
set_option maxHeartbeats 4000000 in
set_option maxRecDepth 20000 in
theorem ok_l32 (L : Nat) (xs : Nat → Int32) (i : Int32) (g1 : Bool) (v1 : Int32) (g2 : Bool) (v2 : Int32) (g3 : Bool) (v3 : Int32) (g4 : Bool) (v4 : Int32) (z2 z3 z4 : Bool) : rAll (rOk (fun G => rSc G = (L, xs)) code "RingdaysLaw" 7 rTL room_1 [] 1000 (.inr (2451, i)) (fun o => ps_l32.getD o 0)) ps_l32 (tb_l32 L xs i g1 v1 g2 v2 g3 v3 g4 v4 z2 z3 z4) := by
  refine rcons (ro_aload_n (k := 1) rfl (dca dc_l32 0 rfl) rfl) ?_
  refine rcons (ro_aload_n (k := 0) rfl (dca dc_l32 1 rfl) rfl) ?_
  refine rcons (ro_iload (dca dc_l32 2 rfl) rfl) ?_
  refine rcons (ro_iconst (n := 1) (dca dc_l32 3 rfl) rfl rfl) ?_
  refine rcons (ro_iadd (dca dc_l32 4 rfl) rfl) ?_
  refine rcons (ro_isc (fun _ h => h) (dca dc_l32 5 rfl) rfl) ?_
  refine rcons (ro_aload_n (k := 0) rfl (dca dc_l32 6 rfl) rfl) ?_
  refine rcons (ro_iload (dca dc_l32 7 rfl) rfl) ?_
  refine rcons (ro_iconst (n := 2) (dca dc_l32 8 rfl) rfl rfl) ?_
  refine rcons (ro_iadd (dca dc_l32 9 rfl) rfl) ?_
  refine rcons (ro_isc (fun _ h => h) (dca dc_l32 10 rfl) rfl) ?_
  refine rcons (ro_aload_n (k := 3) rfl (dca dc_l32 11 rfl) rfl) ?_
  refine rcons (ro_callSX ok_w_isSameMonth (dca dc_l32 12 rfl) rfl (fun s args ht => vx_cwSW 4 ht (rgoodS (fun w h => List.mem_cons_of_mem _ h) q_841 q_842 q_12 q_843) rfl rfl rfl hy_w_isSameMonth ⟨Nat.le_of_ble_eq_true rfl, Nat.le_of_ble_eq_true rfl⟩) rfl) ?_
  refine rcons (ro_istore (dca dc_l32 13 rfl) rfl) ?_
  refine rcons (ro_aload_n (k := 2) rfl (dca dc_l32 14 rfl) rfl) ?_
  refine rcons (ro_aload_n (k := 0) rfl (dca dc_l32 15 rfl) rfl) ?_
  refine rcons (ro_iload (dca dc_l32 16 rfl) rfl) ?_
  refine rcons (ro_iconst (n := 1) (dca dc_l32 17 rfl) rfl rfl) ?_
  refine rcons (ro_iadd (dca dc_l32 18 rfl) rfl) ?_
  refine rcons (ro_isc (fun _ h => h) (dca dc_l32 19 rfl) rfl) ?_
  refine rcons (ro_aload_n (k := 0) rfl (dca dc_l32 20 rfl) rfl) ?_
  refine rcons (ro_iload (dca dc_l32 21 rfl) rfl) ?_
  refine rcons (ro_iconst (n := 2) (dca dc_l32 22 rfl) rfl rfl) ?_
  refine rcons (ro_iadd (dca dc_l32 23 rfl) rfl) ?_
  refine rcons (ro_isc (fun _ h => h) (dca dc_l32 24 rfl) rfl) ?_
  refine rcons (ro_callVH (C := rN1) (T := rF1) (N := 7) rfl ok_d_isSameMonth (dca dc_l32 25 rfl) trivial (by decide) (fun s args ht => cwV (C := rN1) 2 ht (rgoodV (C := rN1) (fun w h => List.mem_cons_of_mem _ h) q_1171 q_1172 q_1173 q_14 q_1174) rfl rfl rfl hv_d_isSameMonth ⟨Nat.le_of_ble_eq_true rfl, Nat.le_of_ble_eq_true rfl⟩) rfl) ?_
  refine rcons (ro_istore (dca dc_l32 26 rfl) rfl) ?_
  refine rcons (ro_goto (off := 782) (dca dc_l32 27 rfl) rfl) ?_
  refine rcons (ro_stop) ?_
  exact rnil
def dl_l33 : List (Nat × Instr × Nat) := [(1672, .aload_n 1, 1), (1673, .aload_n 0, 1), (1674, .iload 4, 2), (1676, .iconst 1, 1), (1677, .iadd, 1), (1678, .iaload, 1), (1679, .aload_n 0, 1), (1680, .iload 4, 2), (1682, .iconst 2, 1), (1683, .iadd, 1), (1684, .iaload, 1), (1685, .aload_n 3, 1), (1686, .invokestatic 290, 3), (1689, .istore 5, 2), (1691, .aload_n 2, 1), (1692, .aload_n 0, 1), (1693, .iload 4, 2), (1695, .iconst 1, 1), (1696, .iadd, 1), (1697, .iaload, 1), (1698, .aload_n 0, 1), (1699, .iload 4, 2), (1701, .iconst 2, 1), (1702, .iadd, 1), (1703, .iaload, 1), (1704, .invokevirtual 292, 3), (1707, .istore 6, 2), (1709, .goto 742, 3)]
theorem dc_l33 : ∀ (k : Nat) (q : Nat × Instr × Nat), dl_l33[k]? = some q → decode code q.1 = .ok q.2 := dchk_at (a := 1672) (by decide +kernel)
def ps_l33 : List Nat := [1672, 1673, 1674, 1676, 1677, 1678, 1679, 1680, 1682, 1683, 1684, 1685, 1686, 1689, 1691, 1692, 1693, 1695, 1696, 1697, 1698, 1699, 1701, 1702, 1703, 1704, 1707, 1709, 2451]
def tb_l33 (L : Nat) (xs : Nat → Int32) (i : Int32) (g1 : Bool) (v1 : Int32) (g2 : Bool) (v2 : Int32) (g3 : Bool) (v3 : Int32) (g4 : Bool) (v4 : Int32) (z2 z3 z4 : Bool) : List RT := [tq_al 1, tq_al 0, tq_il 4, tq_ic 1, tq_i2 (fun x y => x + y), tq_isc L xs g1 v1, tq_al 0, tq_il 4, tq_ic 2, tq_i2 (fun x y => x + y), tq_isc L xs g2 v2, tq_al 3, tq_callH m_w_isMonth 4 2 1000 [], tq_is 7 5, tq_al 2, tq_al 0, tq_il 4, tq_ic 1, tq_i2 (fun x y => x + y), tq_isc L xs g1 v1, tq_al 0, tq_il 4, tq_ic 2, tq_i2 (fun x y => x + y), tq_isc L xs g2 v2, tq_callH (rV 1 m_d_isMonth) 3 0 1000 [], tq_is 7 6, tq_go 28, tq_stop i]
set_option maxHeartbeats 4000000 in
set_option maxRecDepth 20000 in
theorem ok_l33 (L : Nat) (xs : Nat → Int32) (i : Int32) (g1 : Bool) (v1 : Int32) (g2 : Bool) (v2 : Int32) (g3 : Bool) (v3 : Int32) (g4 : Bool) (v4 : Int32) (z2 z3 z4 : Bool) : rAll (rOk (fun G => rSc G = (L, xs)) code "RingdaysLaw" 7 rTL room_1 [] 1000 (.inr (2451, i)) (fun o => ps_l33.getD o 0)) ps_l33 (tb_l33 L xs i g1 v1 g2 v2 g3 v3 g4 v4 z2 z3 z4) := by
  refine rcons (ro_aload_n (k := 1) rfl (dca dc_l33 0 rfl) rfl) ?_
  refine rcons (ro_aload_n (k := 0) rfl (dca dc_l33 1 rfl) rfl) ?_
  refine rcons (ro_iload (dca dc_l33 2 rfl) rfl) ?_
  refine rcons (ro_iconst (n := 1) (dca dc_l33 3 rfl) rfl rfl) ?_
  refine rcons (ro_iadd (dca dc_l33 4 rfl) rfl) ?_
  refine rcons (ro_isc (fun _ h => h) (dca dc_l33 5 rfl) rfl) ?_
  refine rcons (ro_aload_n (k := 0) rfl (dca dc_l33 6 rfl) rfl) ?_
  refine rcons (ro_iload (dca dc_l33 7 rfl) rfl) ?_
  refine rcons (ro_iconst (n := 2) (dca dc_l33 8 rfl) rfl rfl) ?_
  refine rcons (ro_iadd (dca dc_l33 9 rfl) rfl) ?_
  refine rcons (ro_isc (fun _ h => h) (dca dc_l33 10 rfl) rfl) ?_
  refine rcons (ro_aload_n (k := 3) rfl (dca dc_l33 11 rfl) rfl) ?_
  refine rcons (ro_callSX ok_w_isMonth (dca dc_l33 12 rfl) rfl (fun s args ht => vx_cwSW 4 ht (rgoodS (fun w h => List.mem_cons_of_mem _ h) q_848 q_849 q_12 q_850) rfl rfl rfl hy_w_isMonth ⟨Nat.le_of_ble_eq_true rfl, Nat.le_of_ble_eq_true rfl⟩) rfl) ?_
  refine rcons (ro_istore (dca dc_l33 13 rfl) rfl) ?_
  refine rcons (ro_aload_n (k := 2) rfl (dca dc_l33 14 rfl) rfl) ?_
  refine rcons (ro_aload_n (k := 0) rfl (dca dc_l33 15 rfl) rfl) ?_
  refine rcons (ro_iload (dca dc_l33 16 rfl) rfl) ?_
  refine rcons (ro_iconst (n := 1) (dca dc_l33 17 rfl) rfl rfl) ?_
  refine rcons (ro_iadd (dca dc_l33 18 rfl) rfl) ?_
  refine rcons (ro_isc (fun _ h => h) (dca dc_l33 19 rfl) rfl) ?_
  refine rcons (ro_aload_n (k := 0) rfl (dca dc_l33 20 rfl) rfl) ?_
  refine rcons (ro_iload (dca dc_l33 21 rfl) rfl) ?_
  refine rcons (ro_iconst (n := 2) (dca dc_l33 22 rfl) rfl rfl) ?_
  refine rcons (ro_iadd (dca dc_l33 23 rfl) rfl) ?_
  refine rcons (ro_isc (fun _ h => h) (dca dc_l33 24 rfl) rfl) ?_
  refine rcons (ro_callVH (C := rN1) (T := rF1) (N := 7) rfl ok_d_isMonth (dca dc_l33 25 rfl) trivial (by decide) (fun s args ht => cwV (C := rN1) 2 ht (rgoodV (C := rN1) (fun w h => List.mem_cons_of_mem _ h) q_1175 q_1176 q_1177 q_14 q_1178) rfl rfl rfl hv_d_isMonth ⟨Nat.le_of_ble_eq_true rfl, Nat.le_of_ble_eq_true rfl⟩) rfl) ?_
  refine rcons (ro_istore (dca dc_l33 26 rfl) rfl) ?_
  refine rcons (ro_goto (off := 742) (dca dc_l33 27 rfl) rfl) ?_
  refine rcons (ro_stop) ?_
  exact rnil
def dl_l34 : List (Nat × Instr × Nat) := [(1712, .aload_n 1, 1), (1713, .aload_n 0, 1), (1714, .iload 4, 2), (1716, .iconst 1, 1), (1717, .iadd, 1), (1718, .iaload, 1), (1719, .aload_n 0, 1), (1720, .iload 4, 2), (1722, .iconst 2, 1), (1723, .iadd, 1), (1724, .iaload, 1), (1725, .ifCond .eq 7, 3), (1728, .iconst 1, 1), (1729, .goto 4, 3), (1732, .iconst 0, 1), (1733, .aload_n 3, 1), (1734, .invokestatic 293, 3), (1737, .istore 5, 2), (1739, .aload_n 2, 1), (1740, .aload_n 0, 1), (1741, .iload 4, 2), (1743, .iconst 1, 1), (1744, .iadd, 1), (1745, .iaload, 1), (1746, .aload_n 0, 1), (1747, .iload 4, 2), (1749, .iconst 2, 1), (1750, .iadd, 1), (1751, .iaload, 1), (1752, .ifCond .eq 7, 3), (1755, .iconst 1, 1), (1756, .goto 4, 3), (1759, .iconst 0, 1), (1760, .invokevirtual 296, 3), (1763, .istore 6, 2), (1765, .goto 686, 3)]
theorem dc_l34 : ∀ (k : Nat) (q : Nat × Instr × Nat), dl_l34[k]? = some q → decode code q.1 = .ok q.2 := dchk_at (a := 1712) (by decide +kernel)
def ps_l34 : List Nat := [1712, 1713, 1714, 1716, 1717, 1718, 1719, 1720, 1722, 1723, 1724, 1725, 1728, 1729, 1732, 1733, 1734, 1737, 1739, 1740, 1741, 1743, 1744, 1745, 1746, 1747, 1749, 1750, 1751, 1752, 1755, 1756, 1759, 1760, 1763, 1765, 2451]
def tb_l34 (L : Nat) (xs : Nat → Int32) (i : Int32) (g1 : Bool) (v1 : Int32) (g2 : Bool) (v2 : Int32) (g3 : Bool) (v3 : Int32) (g4 : Bool) (v4 : Int32) (z2 z3 z4 : Bool) : List RT := [tq_al 1, tq_al 0, tq_il 4, tq_ic 1, tq_i2 (fun x y => x + y), tq_isc L xs g1 v1, tq_al 0, tq_il 4, tq_ic 2, tq_i2 (fun x y => x + y), tq_isc L xs g2 v2, tq_sv (fun x => decide (x = 0)) z2 1 0 15, tq_ic 1, tq_go 15, tq_ic 0, tq_al 3, tq_callH m_w_length 4 1 1000 [], tq_is 7 5, tq_al 2, tq_al 0, tq_il 4, tq_ic 1, tq_i2 (fun x y => x + y), tq_isc L xs g1 v1, tq_al 0, tq_il 4, tq_ic 2, tq_i2 (fun x y => x + y), tq_isc L xs g2 v2, tq_sv (fun x => decide (x = 0)) z2 1 0 33, tq_ic 1, tq_go 33, tq_ic 0, tq_callH (rV 1 m_d_length) 3 0 1000 [], tq_is 7 6, tq_go 36, tq_stop i]
set_option maxHeartbeats 4000000 in
set_option maxRecDepth 20000 in
theorem ok_l34 (L : Nat) (xs : Nat → Int32) (i : Int32) (g1 : Bool) (v1 : Int32) (g2 : Bool) (v2 : Int32) (g3 : Bool) (v3 : Int32) (g4 : Bool) (v4 : Int32) (z2 z3 z4 : Bool) : rAll (rOk (fun G => rSc G = (L, xs)) code "RingdaysLaw" 7 rTL room_1 [] 1000 (.inr (2451, i)) (fun o => ps_l34.getD o 0)) ps_l34 (tb_l34 L xs i g1 v1 g2 v2 g3 v3 g4 v4 z2 z3 z4) := by
  refine rcons (ro_aload_n (k := 1) rfl (dca dc_l34 0 rfl) rfl) ?_
  refine rcons (ro_aload_n (k := 0) rfl (dca dc_l34 1 rfl) rfl) ?_
  refine rcons (ro_iload (dca dc_l34 2 rfl) rfl) ?_
  refine rcons (ro_iconst (n := 1) (dca dc_l34 3 rfl) rfl rfl) ?_
  refine rcons (ro_iadd (dca dc_l34 4 rfl) rfl) ?_
  refine rcons (ro_isc (fun _ h => h) (dca dc_l34 5 rfl) rfl) ?_
  refine rcons (ro_aload_n (k := 0) rfl (dca dc_l34 6 rfl) rfl) ?_
  refine rcons (ro_iload (dca dc_l34 7 rfl) rfl) ?_
  refine rcons (ro_iconst (n := 2) (dca dc_l34 8 rfl) rfl rfl) ?_
  refine rcons (ro_iadd (dca dc_l34 9 rfl) rfl) ?_
  refine rcons (ro_isc (fun _ h => h) (dca dc_l34 10 rfl) rfl) ?_
  refine rcons (ro_sv (ro_s1_eq (off := 7) (off2 := 4) (n1 := 1) (n2 := 0) (dca dc_l34 11 rfl) (dca dc_l34 12 rfl) rfl (dca dc_l34 13 rfl) (dca dc_l34 14 rfl) rfl rfl rfl rfl)) ?_
  refine rcons (ro_iconst (n := 1) (dca dc_l34 12 rfl) rfl rfl) ?_
  refine rcons (ro_goto (off := 4) (dca dc_l34 13 rfl) rfl) ?_
  refine rcons (ro_iconst (n := 0) (dca dc_l34 14 rfl) rfl rfl) ?_
  refine rcons (ro_aload_n (k := 3) rfl (dca dc_l34 15 rfl) rfl) ?_
  refine rcons (ro_callSX ok_w_length (dca dc_l34 16 rfl) rfl (fun s args ht => vx_cwSW 4 ht (rgoodS (fun w h => List.mem_cons_of_mem _ h) q_855 q_856 q_12 q_857) rfl rfl rfl hy_w_length ⟨Nat.le_of_ble_eq_true rfl, Nat.le_of_ble_eq_true rfl⟩) rfl) ?_
  refine rcons (ro_istore (dca dc_l34 17 rfl) rfl) ?_
  refine rcons (ro_aload_n (k := 2) rfl (dca dc_l34 18 rfl) rfl) ?_
  refine rcons (ro_aload_n (k := 0) rfl (dca dc_l34 19 rfl) rfl) ?_
  refine rcons (ro_iload (dca dc_l34 20 rfl) rfl) ?_
  refine rcons (ro_iconst (n := 1) (dca dc_l34 21 rfl) rfl rfl) ?_
  refine rcons (ro_iadd (dca dc_l34 22 rfl) rfl) ?_
  refine rcons (ro_isc (fun _ h => h) (dca dc_l34 23 rfl) rfl) ?_
  refine rcons (ro_aload_n (k := 0) rfl (dca dc_l34 24 rfl) rfl) ?_
  refine rcons (ro_iload (dca dc_l34 25 rfl) rfl) ?_
  refine rcons (ro_iconst (n := 2) (dca dc_l34 26 rfl) rfl rfl) ?_
  refine rcons (ro_iadd (dca dc_l34 27 rfl) rfl) ?_
  refine rcons (ro_isc (fun _ h => h) (dca dc_l34 28 rfl) rfl) ?_
  refine rcons (ro_sv (ro_s1_eq (off := 7) (off2 := 4) (n1 := 1) (n2 := 0) (dca dc_l34 29 rfl) (dca dc_l34 30 rfl) rfl (dca dc_l34 31 rfl) (dca dc_l34 32 rfl) rfl rfl rfl rfl)) ?_
  refine rcons (ro_iconst (n := 1) (dca dc_l34 30 rfl) rfl rfl) ?_
  refine rcons (ro_goto (off := 4) (dca dc_l34 31 rfl) rfl) ?_
  refine rcons (ro_iconst (n := 0) (dca dc_l34 32 rfl) rfl rfl) ?_
  refine rcons (ro_callVH (C := rN1) (T := rF1) (N := 7) rfl ok_d_length (dca dc_l34 33 rfl) trivial (by decide) (fun s args ht => cwV (C := rN1) 2 ht (rgoodV (C := rN1) (fun w h => List.mem_cons_of_mem _ h) q_1179 q_1180 q_1181 q_14 q_1182) rfl rfl rfl hv_d_length ⟨Nat.le_of_ble_eq_true rfl, Nat.le_of_ble_eq_true rfl⟩) rfl) ?_
  refine rcons (ro_istore (dca dc_l34 34 rfl) rfl) ?_
  refine rcons (ro_goto (off := 686) (dca dc_l34 35 rfl) rfl) ?_
  refine rcons (ro_stop) ?_
  exact rnil
def dl_l35 : List (Nat × Instr × Nat) := [(1768, .aload_n 1, 1), (1769, .aload_n 0, 1), (1770, .iload 4, 2), (1772, .iconst 1, 1), (1773, .iadd, 1), (1774, .iaload, 1), (1775, .aload_n 3, 1), (1776, .invokestatic 297, 3), (1779, .istore 5, 2), (1781, .aload_n 2, 1), (1782, .aload_n 0, 1), (1783, .iload 4, 2), (1785, .iconst 1, 1), (1786, .iadd, 1), (1787, .iaload, 1), (1788, .invokevirtual 299, 3), (1791, .istore 6, 2), (1793, .goto 658, 3)]
theorem dc_l35 : ∀ (k : Nat) (q : Nat × Instr × Nat), dl_l35[k]? = some q → decode code q.1 = .ok q.2 := dchk_at (a := 1768) (by decide +kernel)
def ps_l35 : List Nat := [1768, 1769, 1770, 1772, 1773, 1774, 1775, 1776, 1779, 1781, 1782, 1783, 1785, 1786, 1787, 1788, 1791, 1793, 2451]
def tb_l35 (L : Nat) (xs : Nat → Int32) (i : Int32) (g1 : Bool) (v1 : Int32) (g2 : Bool) (v2 : Int32) (g3 : Bool) (v3 : Int32) (g4 : Bool) (v4 : Int32) (z2 z3 z4 : Bool) : List RT := [tq_al 1, tq_al 0, tq_il 4, tq_ic 1, tq_i2 (fun x y => x + y), tq_isc L xs g1 v1, tq_al 3, tq_callH m_w_least 3 1 1000 [], tq_is 7 5, tq_al 2, tq_al 0, tq_il 4, tq_ic 1, tq_i2 (fun x y => x + y), tq_isc L xs g1 v1, tq_callH (rV 1 m_d_least) 2 0 1000 [], tq_is 7 6, tq_go 18, tq_stop i]
set_option maxHeartbeats 4000000 in
set_option maxRecDepth 20000 in
theorem ok_l35 (L : Nat) (xs : Nat → Int32) (i : Int32) (g1 : Bool) (v1 : Int32) (g2 : Bool) (v2 : Int32) (g3 : Bool) (v3 : Int32) (g4 : Bool) (v4 : Int32) (z2 z3 z4 : Bool) : rAll (rOk (fun G => rSc G = (L, xs)) code "RingdaysLaw" 7 rTL room_1 [] 1000 (.inr (2451, i)) (fun o => ps_l35.getD o 0)) ps_l35 (tb_l35 L xs i g1 v1 g2 v2 g3 v3 g4 v4 z2 z3 z4) := by
  refine rcons (ro_aload_n (k := 1) rfl (dca dc_l35 0 rfl) rfl) ?_
  refine rcons (ro_aload_n (k := 0) rfl (dca dc_l35 1 rfl) rfl) ?_
  refine rcons (ro_iload (dca dc_l35 2 rfl) rfl) ?_
  refine rcons (ro_iconst (n := 1) (dca dc_l35 3 rfl) rfl rfl) ?_
  refine rcons (ro_iadd (dca dc_l35 4 rfl) rfl) ?_
  refine rcons (ro_isc (fun _ h => h) (dca dc_l35 5 rfl) rfl) ?_
  refine rcons (ro_aload_n (k := 3) rfl (dca dc_l35 6 rfl) rfl) ?_
  refine rcons (ro_callSX ok_w_least (dca dc_l35 7 rfl) rfl (fun s args ht => vx_cwSW 3 ht (rgoodS (fun w h => List.mem_cons_of_mem _ h) q_862 q_863 q_12 q_864) rfl rfl rfl hy_w_least ⟨Nat.le_of_ble_eq_true rfl, Nat.le_of_ble_eq_true rfl⟩) rfl) ?_
  refine rcons (ro_istore (dca dc_l35 8 rfl) rfl) ?_
  refine rcons (ro_aload_n (k := 2) rfl (dca dc_l35 9 rfl) rfl) ?_
  refine rcons (ro_aload_n (k := 0) rfl (dca dc_l35 10 rfl) rfl) ?_
  refine rcons (ro_iload (dca dc_l35 11 rfl) rfl) ?_
  refine rcons (ro_iconst (n := 1) (dca dc_l35 12 rfl) rfl rfl) ?_
  refine rcons (ro_iadd (dca dc_l35 13 rfl) rfl) ?_
  refine rcons (ro_isc (fun _ h => h) (dca dc_l35 14 rfl) rfl) ?_
  refine rcons (ro_callVH (C := rN1) (T := rF1) (N := 7) rfl ok_d_least (dca dc_l35 15 rfl) trivial (by decide) (fun s args ht => cwV (C := rN1) 1 ht (rgoodV (C := rN1) (fun w h => List.mem_cons_of_mem _ h) q_1188 q_1189 q_1190 q_14 q_1191) rfl rfl rfl hv_d_least ⟨Nat.le_of_ble_eq_true rfl, Nat.le_of_ble_eq_true rfl⟩) rfl) ?_
  refine rcons (ro_istore (dca dc_l35 16 rfl) rfl) ?_
  refine rcons (ro_goto (off := 658) (dca dc_l35 17 rfl) rfl) ?_
  refine rcons (ro_stop) ?_
  exact rnil
end RKM
