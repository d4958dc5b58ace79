section RKM
def dl_l18 : List (Nat × Instr × Nat) := [(1068, .aload_n 1, 1), (1069, .aload_n 0, 1), (1070, .iload 4, 2), (1072, .iconst 1, 1), (1073, .iadd, 1), (1074, .iaload, 1), (1075, .aload_n 3, 1), (1076, .invokestatic 249, 3), (1079, .istore 5, 2), (1081, .aload_n 2, 1), (1082, .aload_n 0, 1), (1083, .iload 4, 2), (1085, .iconst 1, 1), (1086, .iadd, 1), (1087, .iaload, 1), (1088, .invokevirtual 251, 3), (1091, .istore 6, 2), (1093, .goto 1393, 3)]
theorem dc_l18 : ∀ (k : Nat) (q : Nat × Instr × Nat), dl_l18[k]? = some q → decode code q.1 = .ok q.2 := dchk_at (a := 1068) (by decide +kernel)
def ps_l18 : List Nat := [1068, 1069, 1070, 1072, 1073, 1074, 1075, 1076, 1079, 1081, 1082, 1083, 1085, 1086, 1087, 1088, 1091, 1093, 2486]
def tb_l18 (L : Nat) (xs : Nat → Int32) (i : Int32) (g1 : Bool) (v1 : Int32) (g2 : Bool) (v2 : Int32) (g3 : Bool) (v3 : Int32) (g4 : Bool) (v4 : Int32) (z2 z3 z4 : Bool) : List RT := [tq_al 1, tq_al 0, tq_il 4, tq_ic 1, tq_i2 (fun x y => x + y), tq_isc L xs g1 v1, tq_al 3, tq_callH m_w_monthNumber 3 1 1000 [], tq_is 7 5, tq_al 2, tq_al 0, tq_il 4, tq_ic 1, tq_i2 (fun x y => x + y), tq_isc L xs g1 v1, tq_callH (rV 1 m_d_monthNumber) 2 0 1000 [], tq_is 7 6, tq_go 18, tq_stop i]
set_option maxHeartbeats 4000000 in
set_option maxRecDepth 20000 in
theorem ok_l18 (L : Nat) (xs : Nat → Int32) (i : Int32) (g1 : Bool) (v1 : Int32) (g2 : Bool) (v2 : Int32) (g3 : Bool) (v3 : Int32) (g4 : Bool) (v4 : Int32) (z2 z3 z4 : Bool) : rAll (rOk (fun G => rSc G = (L, xs)) code "RingdaysLaw" 7 rTL room_1 [] 1000 (.inr (2486, i)) (fun o => ps_l18.getD o 0)) ps_l18 (tb_l18 L xs i g1 v1 g2 v2 g3 v3 g4 v4 z2 z3 z4) := by
  refine rcons (ro_aload_n (k := 1) rfl (dca dc_l18 0 rfl) rfl) ?_
  refine rcons (ro_aload_n (k := 0) rfl (dca dc_l18 1 rfl) rfl) ?_
  refine rcons (ro_iload (dca dc_l18 2 rfl) rfl) ?_
  refine rcons (ro_iconst (n := 1) (dca dc_l18 3 rfl) rfl rfl) ?_
  refine rcons (ro_iadd (dca dc_l18 4 rfl) rfl) ?_
  refine rcons (ro_isc (fun _ h => h) (dca dc_l18 5 rfl) rfl) ?_
  refine rcons (ro_aload_n (k := 3) rfl (dca dc_l18 6 rfl) rfl) ?_
  refine rcons (ro_callSX ok_w_monthNumber (dca dc_l18 7 rfl) rfl (fun s args ht => vx_cwSW 3 ht (rgoodS (fun w h => List.mem_cons_of_mem _ h) q_743 q_744 q_12 q_745) rfl rfl rfl hy_w_monthNumber ⟨Nat.le_of_ble_eq_true rfl, Nat.le_of_ble_eq_true rfl⟩) rfl) ?_
  refine rcons (ro_istore (dca dc_l18 8 rfl) rfl) ?_
  refine rcons (ro_aload_n (k := 2) rfl (dca dc_l18 9 rfl) rfl) ?_
  refine rcons (ro_aload_n (k := 0) rfl (dca dc_l18 10 rfl) rfl) ?_
  refine rcons (ro_iload (dca dc_l18 11 rfl) rfl) ?_
  refine rcons (ro_iconst (n := 1) (dca dc_l18 12 rfl) rfl rfl) ?_
  refine rcons (ro_iadd (dca dc_l18 13 rfl) rfl) ?_
  refine rcons (ro_isc (fun _ h => h) (dca dc_l18 14 rfl) rfl) ?_
  refine rcons (ro_callVH (C := rN1) (T := rF1) (N := 7) rfl ok_d_monthNumber (dca dc_l18 15 rfl) trivial (by decide) (fun s args ht => cwV (C := rN1) 1 ht (rgoodV (C := rN1) (fun w h => List.mem_cons_of_mem _ h) q_1113 q_1114 q_1115 q_14 q_1116) rfl rfl rfl hv_d_monthNumber ⟨Nat.le_of_ble_eq_true rfl, Nat.le_of_ble_eq_true rfl⟩) rfl) ?_
  refine rcons (ro_istore (dca dc_l18 16 rfl) rfl) ?_
  refine rcons (ro_goto (off := 1393) (dca dc_l18 17 rfl) rfl) ?_
  refine rcons (ro_stop) ?_
  exact rnil
def dl_l19 : List (Nat × Instr × Nat) := [(1096, .aload_n 1, 1), (1097, .aload_n 0, 1), (1098, .iload 4, 2), (1100, .iconst 1, 1), (1101, .iadd, 1), (1102, .iaload, 1), (1103, .aload_n 3, 1), (1104, .invokestatic 252, 3), (1107, .istore 5, 2), (1109, .aload_n 2, 1), (1110, .aload_n 0, 1), (1111, .iload 4, 2), (1113, .iconst 1, 1), (1114, .iadd, 1), (1115, .iaload, 1), (1116, .invokevirtual 254, 3), (1119, .istore 6, 2), (1121, .goto 1365, 3)]
theorem dc_l19 : ∀ (k : Nat) (q : Nat × Instr × Nat), dl_l19[k]? = some q → decode code q.1 = .ok q.2 := dchk_at (a := 1096) (by decide +kernel)
def ps_l19 : List Nat := [1096, 1097, 1098, 1100, 1101, 1102, 1103, 1104, 1107, 1109, 1110, 1111, 1113, 1114, 1115, 1116, 1119, 1121, 2486]
def tb_l19 (L : Nat) (xs : Nat → Int32) (i : Int32) (g1 : Bool) (v1 : Int32) (g2 : Bool) (v2 : Int32) (g3 : Bool) (v3 : Int32) (g4 : Bool) (v4 : Int32) (z2 z3 z4 : Bool) : List RT := [tq_al 1, tq_al 0, tq_il 4, tq_ic 1, tq_i2 (fun x y => x + y), tq_isc L xs g1 v1, tq_al 3, tq_callH m_w_monthPlace 3 1 1000 [], tq_is 7 5, tq_al 2, tq_al 0, tq_il 4, tq_ic 1, tq_i2 (fun x y => x + y), tq_isc L xs g1 v1, tq_callH (rV 1 m_d_monthPlace) 2 0 1000 [], tq_is 7 6, tq_go 18, tq_stop i]
set_option maxHeartbeats 4000000 in
set_option maxRecDepth 20000 in
theorem ok_l19 (L : Nat) (xs : Nat → Int32) (i : Int32) (g1 : Bool) (v1 : Int32) (g2 : Bool) (v2 : Int32) (g3 : Bool) (v3 : Int32) (g4 : Bool) (v4 : Int32) (z2 z3 z4 : Bool) : rAll (rOk (fun G => rSc G = (L, xs)) code "RingdaysLaw" 7 rTL room_1 [] 1000 (.inr (2486, i)) (fun o => ps_l19.getD o 0)) ps_l19 (tb_l19 L xs i g1 v1 g2 v2 g3 v3 g4 v4 z2 z3 z4) := by
  refine rcons (ro_aload_n (k := 1) rfl (dca dc_l19 0 rfl) rfl) ?_
  refine rcons (ro_aload_n (k := 0) rfl (dca dc_l19 1 rfl) rfl) ?_
  refine rcons (ro_iload (dca dc_l19 2 rfl) rfl) ?_
  refine rcons (ro_iconst (n := 1) (dca dc_l19 3 rfl) rfl rfl) ?_
  refine rcons (ro_iadd (dca dc_l19 4 rfl) rfl) ?_
  refine rcons (ro_isc (fun _ h => h) (dca dc_l19 5 rfl) rfl) ?_
  refine rcons (ro_aload_n (k := 3) rfl (dca dc_l19 6 rfl) rfl) ?_
  refine rcons (ro_callSX ok_w_monthPlace (dca dc_l19 7 rfl) rfl (fun s args ht => vx_cwSW 3 ht (rgoodS (fun w h => List.mem_cons_of_mem _ h) q_750 q_751 q_12 q_752) rfl rfl rfl hy_w_monthPlace ⟨Nat.le_of_ble_eq_true rfl, Nat.le_of_ble_eq_true rfl⟩) rfl) ?_
  refine rcons (ro_istore (dca dc_l19 8 rfl) rfl) ?_
  refine rcons (ro_aload_n (k := 2) rfl (dca dc_l19 9 rfl) rfl) ?_
  refine rcons (ro_aload_n (k := 0) rfl (dca dc_l19 10 rfl) rfl) ?_
  refine rcons (ro_iload (dca dc_l19 11 rfl) rfl) ?_
  refine rcons (ro_iconst (n := 1) (dca dc_l19 12 rfl) rfl rfl) ?_
  refine rcons (ro_iadd (dca dc_l19 13 rfl) rfl) ?_
  refine rcons (ro_isc (fun _ h => h) (dca dc_l19 14 rfl) rfl) ?_
  refine rcons (ro_callVH (C := rN1) (T := rF1) (N := 7) rfl ok_d_monthPlace (dca dc_l19 15 rfl) trivial (by decide) (fun s args ht => cwV (C := rN1) 1 ht (rgoodV (C := rN1) (fun w h => List.mem_cons_of_mem _ h) q_1117 q_1118 q_1119 q_14 q_1120) rfl rfl rfl hv_d_monthPlace ⟨Nat.le_of_ble_eq_true rfl, Nat.le_of_ble_eq_true rfl⟩) rfl) ?_
  refine rcons (ro_istore (dca dc_l19 16 rfl) rfl) ?_
  refine rcons (ro_goto (off := 1365) (dca dc_l19 17 rfl) rfl) ?_
  refine rcons (ro_stop) ?_
  exact rnil
def dl_l20 : List (Nat × Instr × Nat) := [(1124, .aload_n 1, 1), (1125, .aload_n 0, 1), (1126, .iload 4, 2), (1128, .iconst 1, 1), (1129, .iadd, 1), (1130, .iaload, 1), (1131, .aload_n 3, 1), (1132, .invokestatic 255, 3), (1135, .istore 5, 2), (1137, .aload_n 2, 1), (1138, .aload_n 0, 1), (1139, .iload 4, 2), (1141, .iconst 1, 1), (1142, .iadd, 1), (1143, .iaload, 1), (1144, .invokevirtual 257, 3), (1147, .astore 6, 2), (1149, .goto 1337, 3)]
theorem dc_l20 : ∀ (k : Nat) (q : Nat × Instr × Nat), dl_l20[k]? = some q → decode code q.1 = .ok q.2 := dchk_at (a := 1124) (by decide +kernel)
def ps_l20 : List Nat := [1124, 1125, 1126, 1128, 1129, 1130, 1131, 1132, 1135, 1137, 1138, 1139, 1141, 1142, 1143, 1144, 1147, 1149, 2486]
def tb_l20 (L : Nat) (xs : Nat → Int32) (i : Int32) (g1 : Bool) (v1 : Int32) (g2 : Bool) (v2 : Int32) (g3 : Bool) (v3 : Int32) (g4 : Bool) (v4 : Int32) (z2 z3 z4 : Bool) : List RT := [tq_al 1, tq_al 0, tq_il 4, tq_ic 1, tq_i2 (fun x y => x + y), tq_isc L xs g1 v1, tq_al 3, tq_callH m_w_monthName 3 1 1000 [], tq_is 7 5, tq_al 2, tq_al 0, tq_il 4, tq_ic 1, tq_i2 (fun x y => x + y), tq_isc L xs g1 v1, tq_callH (rV 1 m_d_monthName) 2 0 1000 [], tq_as 7 6, tq_go 18, tq_stop i]
set_option maxHeartbeats 4000000 in
set_option maxRecDepth 20000 in
theorem ok_l20 (L : Nat) (xs : Nat → Int32) (i : Int32) (g1 : Bool) (v1 : Int32) (g2 : Bool) (v2 : Int32) (g3 : Bool) (v3 : Int32) (g4 : Bool) (v4 : Int32) (z2 z3 z4 : Bool) : rAll (rOk (fun G => rSc G = (L, xs)) code "RingdaysLaw" 7 rTL room_1 [] 1000 (.inr (2486, i)) (fun o => ps_l20.getD o 0)) ps_l20 (tb_l20 L xs i g1 v1 g2 v2 g3 v3 g4 v4 z2 z3 z4) := by
  refine rcons (ro_aload_n (k := 1) rfl (dca dc_l20 0 rfl) rfl) ?_
  refine rcons (ro_aload_n (k := 0) rfl (dca dc_l20 1 rfl) rfl) ?_
  refine rcons (ro_iload (dca dc_l20 2 rfl) rfl) ?_
  refine rcons (ro_iconst (n := 1) (dca dc_l20 3 rfl) rfl rfl) ?_
  refine rcons (ro_iadd (dca dc_l20 4 rfl) rfl) ?_
  refine rcons (ro_isc (fun _ h => h) (dca dc_l20 5 rfl) rfl) ?_
  refine rcons (ro_aload_n (k := 3) rfl (dca dc_l20 6 rfl) rfl) ?_
  refine rcons (ro_callSX ok_w_monthName (dca dc_l20 7 rfl) rfl (fun s args ht => vx_cwSW 3 ht (rgoodS (fun w h => List.mem_cons_of_mem _ h) q_757 q_758 q_12 q_759) rfl rfl rfl hy_w_monthName ⟨Nat.le_of_ble_eq_true rfl, Nat.le_of_ble_eq_true rfl⟩) rfl) ?_
  refine rcons (ro_istore (dca dc_l20 8 rfl) rfl) ?_
  refine rcons (ro_aload_n (k := 2) rfl (dca dc_l20 9 rfl) rfl) ?_
  refine rcons (ro_aload_n (k := 0) rfl (dca dc_l20 10 rfl) rfl) ?_
  refine rcons (ro_iload (dca dc_l20 11 rfl) rfl) ?_
  refine rcons (ro_iconst (n := 1) (dca dc_l20 12 rfl) rfl rfl) ?_
  refine rcons (ro_iadd (dca dc_l20 13 rfl) rfl) ?_
  refine rcons (ro_isc (fun _ h => h) (dca dc_l20 14 rfl) rfl) ?_
  refine rcons (ro_callVH (C := rN1) (T := rF1) (N := 7) rfl ok_d_monthName (dca dc_l20 15 rfl) trivial (by decide) (fun s args ht => cwV (C := rN1) 1 ht (rgoodV (C := rN1) (fun w h => List.mem_cons_of_mem _ h) q_1121 q_1122 q_1123 q_14 q_1124) rfl rfl rfl hv_d_monthName ⟨Nat.le_of_ble_eq_true rfl, Nat.le_of_ble_eq_true rfl⟩) rfl) ?_
  refine rcons (ro_astore (dca dc_l20 16 rfl) rfl) ?_
  refine rcons (ro_goto (off := 1337) (dca dc_l20 17 rfl) rfl) ?_
  refine rcons (ro_stop) ?_
  exact rnil
def dl_l21 : List (Nat × Instr × Nat) := [(1152, .aload_n 1, 1), (1153, .aload_n 0, 1), (1154, .iload 4, 2), (1156, .iconst 1, 1), (1157, .iadd, 1), (1158, .iaload, 1), (1159, .aload_n 0, 1), (1160, .iload 4, 2), (1162, .iconst 2, 1), (1163, .iadd, 1), (1164, .iaload, 1), (1165, .aload_n 3, 1), (1166, .invokestatic 258, 3), (1169, .istore 5, 2), (1171, .aload_n 2, 1), (1172, .aload_n 0, 1), (1173, .iload 4, 2), (1175, .iconst 1, 1), (1176, .iadd, 1), (1177, .iaload, 1), (1178, .aload_n 0, 1), (1179, .iload 4, 2), (1181, .iconst 2, 1), (1182, .iadd, 1), (1183, .iaload, 1), (1184, .invokevirtual 260, 3), (1187, .istore 6, 2), (1189, .goto 1297, 3)]
theorem dc_l21 : ∀ (k : Nat) (q : Nat × Instr × Nat), dl_l21[k]? = some q → decode code q.1 = .ok q.2 := dchk_at (a := 1152) (by decide +kernel)
def ps_l21 : List Nat := [1152, 1153, 1154, 1156, 1157, 1158, 1159, 1160, 1162, 1163, 1164, 1165, 1166, 1169, 1171, 1172, 1173, 1175, 1176, 1177, 1178, 1179, 1181, 1182, 1183, 1184, 1187, 1189, 2486]
def tb_l21 (L : Nat) (xs : Nat → Int32) (i : Int32) (g1 : Bool) (v1 : Int32) (g2 : Bool) (v2 : Int32) (g3 : Bool) (v3 : Int32) (g4 : Bool) (v4 : Int32) (z2 z3 z4 : Bool) : List RT := [tq_al 1, tq_al 0, tq_il 4, tq_ic 1, tq_i2 (fun x y => x + y), tq_isc L xs g1 v1, tq_al 0, tq_il 4, tq_ic 2, tq_i2 (fun x y => x + y), tq_isc L xs g2 v2, tq_al 3, tq_callH m_w_monthOn 4 2 1000 [], tq_is 7 5, tq_al 2, tq_al 0, tq_il 4, tq_ic 1, tq_i2 (fun x y => x + y), tq_isc L xs g1 v1, tq_al 0, tq_il 4, tq_ic 2, tq_i2 (fun x y => x + y), tq_isc L xs g2 v2, tq_callH (rV 1 m_d_monthOn) 3 0 1000 [], tq_is 7 6, tq_go 28, tq_stop i]
set_option maxHeartbeats 4000000 in
set_option maxRecDepth 20000 in
theorem ok_l21 (L : Nat) (xs : Nat → Int32) (i : Int32) (g1 : Bool) (v1 : Int32) (g2 : Bool) (v2 : Int32) (g3 : Bool) (v3 : Int32) (g4 : Bool) (v4 : Int32) (z2 z3 z4 : Bool) : rAll (rOk (fun G => rSc G = (L, xs)) code "RingdaysLaw" 7 rTL room_1 [] 1000 (.inr (2486, i)) (fun o => ps_l21.getD o 0)) ps_l21 (tb_l21 L xs i g1 v1 g2 v2 g3 v3 g4 v4 z2 z3 z4) := by
  refine rcons (ro_aload_n (k := 1) rfl (dca dc_l21 0 rfl) rfl) ?_
  refine rcons (ro_aload_n (k := 0) rfl (dca dc_l21 1 rfl) rfl) ?_
  refine rcons (ro_iload (dca dc_l21 2 rfl) rfl) ?_
  refine rcons (ro_iconst (n := 1) (dca dc_l21 3 rfl) rfl rfl) ?_
  refine rcons (ro_iadd (dca dc_l21 4 rfl) rfl) ?_
  refine rcons (ro_isc (fun _ h => h) (dca dc_l21 5 rfl) rfl) ?_
  refine rcons (ro_aload_n (k := 0) rfl (dca dc_l21 6 rfl) rfl) ?_
  refine rcons (ro_iload (dca dc_l21 7 rfl) rfl) ?_
  refine rcons (ro_iconst (n := 2) (dca dc_l21 8 rfl) rfl rfl) ?_
  refine rcons (ro_iadd (dca dc_l21 9 rfl) rfl) ?_
  refine rcons (ro_isc (fun _ h => h) (dca dc_l21 10 rfl) rfl) ?_
  refine rcons (ro_aload_n (k := 3) rfl (dca dc_l21 11 rfl) rfl) ?_
  refine rcons (ro_callSX ok_w_monthOn (dca dc_l21 12 rfl) rfl (fun s args ht => vx_cwSW 4 ht (rgoodS (fun w h => List.mem_cons_of_mem _ h) q_764 q_765 q_12 q_766) rfl rfl rfl hy_w_monthOn ⟨Nat.le_of_ble_eq_true rfl, Nat.le_of_ble_eq_true rfl⟩) rfl) ?_
  refine rcons (ro_istore (dca dc_l21 13 rfl) rfl) ?_
  refine rcons (ro_aload_n (k := 2) rfl (dca dc_l21 14 rfl) rfl) ?_
  refine rcons (ro_aload_n (k := 0) rfl (dca dc_l21 15 rfl) rfl) ?_
  refine rcons (ro_iload (dca dc_l21 16 rfl) rfl) ?_
  refine rcons (ro_iconst (n := 1) (dca dc_l21 17 rfl) rfl rfl) ?_
  refine rcons (ro_iadd (dca dc_l21 18 rfl) rfl) ?_
  refine rcons (ro_isc (fun _ h => h) (dca dc_l21 19 rfl) rfl) ?_
  refine rcons (ro_aload_n (k := 0) rfl (dca dc_l21 20 rfl) rfl) ?_
  refine rcons (ro_iload (dca dc_l21 21 rfl) rfl) ?_
  refine rcons (ro_iconst (n := 2) (dca dc_l21 22 rfl) rfl rfl) ?_
  refine rcons (ro_iadd (dca dc_l21 23 rfl) rfl) ?_
  refine rcons (ro_isc (fun _ h => h) (dca dc_l21 24 rfl) rfl) ?_
  refine rcons (ro_callVH (C := rN1) (T := rF1) (N := 7) rfl ok_d_monthOn (dca dc_l21 25 rfl) trivial (by decide) (fun s args ht => cwV (C := rN1) 2 ht (rgoodV (C := rN1) (fun w h => List.mem_cons_of_mem _ h) q_1127 q_1128 q_1129 q_14 q_1130) rfl rfl rfl hv_d_monthOn ⟨Nat.le_of_ble_eq_true rfl, Nat.le_of_ble_eq_true rfl⟩) rfl) ?_
  refine rcons (ro_istore (dca dc_l21 26 rfl) rfl) ?_
  refine rcons (ro_goto (off := 1297) (dca dc_l21 27 rfl) rfl) ?_
  refine rcons (ro_stop) ?_
  exact rnil
def dl_l22 : List (Nat × Instr × Nat) := [(1192, .aload_n 1, 1), (1193, .aload_n 0, 1), (1194, .iload 4, 2), (1196, .iconst 1, 1), (1197, .iadd, 1), (1198, .iaload, 1), (1199, .aload_n 0, 1), (1200, .iload 4, 2), (1202, .iconst 2, 1), (1203, .iadd, 1), (1204, .iaload, 1), (1205, .aload_n 3, 1), (1206, .invokestatic 261, 3), (1209, .istore 5, 2), (1211, .aload_n 2, 1), (1212, .aload_n 0, 1), (1213, .iload 4, 2), (1215, .iconst 1, 1), (1216, .iadd, 1), (1217, .iaload, 1), (1218, .aload_n 0, 1), (1219, .iload 4, 2), (1221, .iconst 2, 1), (1222, .iadd, 1), (1223, .iaload, 1), (1224, .invokevirtual 263, 3), (1227, .istore 6, 2), (1229, .goto 1257, 3)]
theorem dc_l22 : ∀ (k : Nat) (q : Nat × Instr × Nat), dl_l22[k]? = some q → decode code q.1 = .ok q.2 := dchk_at (a := 1192) (by decide +kernel)
def ps_l22 : List Nat := [1192, 1193, 1194, 1196, 1197, 1198, 1199, 1200, 1202, 1203, 1204, 1205, 1206, 1209, 1211, 1212, 1213, 1215, 1216, 1217, 1218, 1219, 1221, 1222, 1223, 1224, 1227, 1229, 2486]
def tb_l22 (L : Nat) (xs : Nat → Int32) (i : Int32) (g1 : Bool) (v1 : Int32) (g2 : Bool) (v2 : Int32) (g3 : Bool) (v3 : Int32) (g4 : Bool) (v4 : Int32) (z2 z3 z4 : Bool) : List RT := [tq_al 1, tq_al 0, tq_il 4, tq_ic 1, tq_i2 (fun x y => x + y), tq_isc L xs g1 v1, tq_al 0, tq_il 4, tq_ic 2, tq_i2 (fun x y => x + y), tq_isc L xs g2 v2, tq_al 3, tq_callH m_w_monthBack 4 2 1000 [], tq_is 7 5, tq_al 2, tq_al 0, tq_il 4, tq_ic 1, tq_i2 (fun x y => x + y), tq_isc L xs g1 v1, tq_al 0, tq_il 4, tq_ic 2, tq_i2 (fun x y => x + y), tq_isc L xs g2 v2, tq_callH (rV 1 m_d_monthBack) 3 0 1000 [], tq_is 7 6, tq_go 28, tq_stop i]
set_option maxHeartbeats 4000000 in
set_option maxRecDepth 20000 in
theorem ok_l22 (L : Nat) (xs : Nat → Int32) (i : Int32) (g1 : Bool) (v1 : Int32) (g2 : Bool) (v2 : Int32) (g3 : Bool) (v3 : Int32) (g4 : Bool) (v4 : Int32) (z2 z3 z4 : Bool) : rAll (rOk (fun G => rSc G = (L, xs)) code "RingdaysLaw" 7 rTL room_1 [] 1000 (.inr (2486, i)) (fun o => ps_l22.getD o 0)) ps_l22 (tb_l22 L xs i g1 v1 g2 v2 g3 v3 g4 v4 z2 z3 z4) := by
  refine rcons (ro_aload_n (k := 1) rfl (dca dc_l22 0 rfl) rfl) ?_
  refine rcons (ro_aload_n (k := 0) rfl (dca dc_l22 1 rfl) rfl) ?_
  refine rcons (ro_iload (dca dc_l22 2 rfl) rfl) ?_
  refine rcons (ro_iconst (n := 1) (dca dc_l22 3 rfl) rfl rfl) ?_
  refine rcons (ro_iadd (dca dc_l22 4 rfl) rfl) ?_
  refine rcons (ro_isc (fun _ h => h) (dca dc_l22 5 rfl) rfl) ?_
  refine rcons (ro_aload_n (k := 0) rfl (dca dc_l22 6 rfl) rfl) ?_
  refine rcons (ro_iload (dca dc_l22 7 rfl) rfl) ?_
  refine rcons (ro_iconst (n := 2) (dca dc_l22 8 rfl) rfl rfl) ?_
  refine rcons (ro_iadd (dca dc_l22 9 rfl) rfl) ?_
  refine rcons (ro_isc (fun _ h => h) (dca dc_l22 10 rfl) rfl) ?_
  refine rcons (ro_aload_n (k := 3) rfl (dca dc_l22 11 rfl) rfl) ?_
  refine rcons (ro_callSX ok_w_monthBack (dca dc_l22 12 rfl) rfl (fun s args ht => vx_cwSW 4 ht (rgoodS (fun w h => List.mem_cons_of_mem _ h) q_775 q_776 q_12 q_777) rfl rfl rfl hy_w_monthBack ⟨Nat.le_of_ble_eq_true rfl, Nat.le_of_ble_eq_true rfl⟩) rfl) ?_
  refine rcons (ro_istore (dca dc_l22 13 rfl) rfl) ?_
  refine rcons (ro_aload_n (k := 2) rfl (dca dc_l22 14 rfl) rfl) ?_
  refine rcons (ro_aload_n (k := 0) rfl (dca dc_l22 15 rfl) rfl) ?_
  refine rcons (ro_iload (dca dc_l22 16 rfl) rfl) ?_
  refine rcons (ro_iconst (n := 1) (dca dc_l22 17 rfl) rfl rfl) ?_
  refine rcons (ro_iadd (dca dc_l22 18 rfl) rfl) ?_
  refine rcons (ro_isc (fun _ h => h) (dca dc_l22 19 rfl) rfl) ?_
  refine rcons (ro_aload_n (k := 0) rfl (dca dc_l22 20 rfl) rfl) ?_
  refine rcons (ro_iload (dca dc_l22 21 rfl) rfl) ?_
  refine rcons (ro_iconst (n := 2) (dca dc_l22 22 rfl) rfl rfl) ?_
  refine rcons (ro_iadd (dca dc_l22 23 rfl) rfl) ?_
  refine rcons (ro_isc (fun _ h => h) (dca dc_l22 24 rfl) rfl) ?_
  refine rcons (ro_callVH (C := rN1) (T := rF1) (N := 7) rfl ok_d_monthBack (dca dc_l22 25 rfl) trivial (by decide) (fun s args ht => cwV (C := rN1) 2 ht (rgoodV (C := rN1) (fun w h => List.mem_cons_of_mem _ h) q_1135 q_1136 q_1137 q_14 q_1138) rfl rfl rfl hv_d_monthBack ⟨Nat.le_of_ble_eq_true rfl, Nat.le_of_ble_eq_true rfl⟩) rfl) ?_
  refine rcons (ro_istore (dca dc_l22 26 rfl) rfl) ?_
  refine rcons (ro_goto (off := 1257) (dca dc_l22 27 rfl) rfl) ?_
  refine rcons (ro_stop) ?_
  exact rnil
def dl_l23 : List (Nat × Instr × Nat) := [(1232, .aload_n 1, 1), (1233, .aload_n 0, 1), (1234, .iload 4, 2), (1236, .iconst 1, 1), (1237, .iadd, 1), (1238, .iaload, 1), (1239, .aload_n 0, 1), (1240, .iload 4, 2), (1242, .iconst 2, 1), (1243, .iadd, 1), (1244, .iaload, 1), (1245, .aload_n 0, 1), (1246, .iload 4, 2), (1248, .iconst 3, 1), (1249, .iadd, 1), (1250, .iaload, 1), (1251, .aload_n 3, 1), (1252, .invokestatic 264, 3), (1255, .istore 5, 2), (1257, .aload_n 2, 1), (1258, .aload_n 0, 1), (1259, .iload 4, 2), (1261, .iconst 1, 1), (1262, .iadd, 1), (1263, .iaload, 1), (1264, .aload_n 0, 1), (1265, .iload 4, 2), (1267, .iconst 2, 1), (1268, .iadd, 1), (1269, .iaload, 1), (1270, .aload_n 0, 1), (1271, .iload 4, 2), (1273, .iconst 3, 1), (1274, .iadd, 1), (1275, .iaload, 1), (1276, .invokevirtual 266, 3), (1279, .istore 6, 2), (1281, .goto 1205, 3)]
theorem dc_l23 : ∀ (k : Nat) (q : Nat × Instr × Nat), dl_l23[k]? = some q → decode code q.1 = .ok q.2 := dchk_at (a := 1232) (by decide +kernel)
def ps_l23 : List Nat := [1232, 1233, 1234, 1236, 1237, 1238, 1239, 1240, 1242, 1243, 1244, 1245, 1246, 1248, 1249, 1250, 1251, 1252, 1255, 1257, 1258, 1259, 1261, 1262, 1263, 1264, 1265, 1267, 1268, 1269, 1270, 1271, 1273, 1274, 1275, 1276, 1279, 1281, 2486]
def tb_l23 (L : Nat) (xs : Nat → Int32) (i : Int32) (g1 : Bool) (v1 : Int32) (g2 : Bool) (v2 : Int32) (g3 : Bool) (v3 : Int32) (g4 : Bool) (v4 : Int32) (z2 z3 z4 : Bool) : List RT := [tq_al 1, tq_al 0, tq_il 4, tq_ic 1, tq_i2 (fun x y => x + y), tq_isc L xs g1 v1, tq_al 0, tq_il 4, tq_ic 2, tq_i2 (fun x y => x + y), tq_isc L xs g2 v2, tq_al 0, tq_il 4, tq_ic 3, tq_i2 (fun x y => x + y), tq_isc L xs g3 v3, tq_al 3, tq_callH m_w_monthOnFar 5 2 1000 [], tq_is 7 5, tq_al 2, tq_al 0, tq_il 4, tq_ic 1, tq_i2 (fun x y => x + y), tq_isc L xs g1 v1, tq_al 0, tq_il 4, tq_ic 2, tq_i2 (fun x y => x + y), tq_isc L xs g2 v2, tq_al 0, tq_il 4, tq_ic 3, tq_i2 (fun x y => x + y), tq_isc L xs g3 v3, tq_callH (rV 1 m_d_monthOnFar) 4 0 1000 [], tq_is 7 6, tq_go 38, tq_stop i]
set_option maxHeartbeats 4000000 in
set_option maxRecDepth 20000 in
theorem ok_l23 (L : Nat) (xs : Nat → Int32) (i : Int32) (g1 : Bool) (v1 : Int32) (g2 : Bool) (v2 : Int32) (g3 : Bool) (v3 : Int32) (g4 : Bool) (v4 : Int32) (z2 z3 z4 : Bool) : rAll (rOk (fun G => rSc G = (L, xs)) code "RingdaysLaw" 7 rTL room_1 [] 1000 (.inr (2486, i)) (fun o => ps_l23.getD o 0)) ps_l23 (tb_l23 L xs i g1 v1 g2 v2 g3 v3 g4 v4 z2 z3 z4) := by
  refine rcons (ro_aload_n (k := 1) rfl (dca dc_l23 0 rfl) rfl) ?_
  refine rcons (ro_aload_n (k := 0) rfl (dca dc_l23 1 rfl) rfl) ?_
  refine rcons (ro_iload (dca dc_l23 2 rfl) rfl) ?_
  refine rcons (ro_iconst (n := 1) (dca dc_l23 3 rfl) rfl rfl) ?_
  refine rcons (ro_iadd (dca dc_l23 4 rfl) rfl) ?_
  refine rcons (ro_isc (fun _ h => h) (dca dc_l23 5 rfl) rfl) ?_
  refine rcons (ro_aload_n (k := 0) rfl (dca dc_l23 6 rfl) rfl) ?_
  refine rcons (ro_iload (dca dc_l23 7 rfl) rfl) ?_
  refine rcons (ro_iconst (n := 2) (dca dc_l23 8 rfl) rfl rfl) ?_
  refine rcons (ro_iadd (dca dc_l23 9 rfl) rfl) ?_
  refine rcons (ro_isc (fun _ h => h) (dca dc_l23 10 rfl) rfl) ?_
  refine rcons (ro_aload_n (k := 0) rfl (dca dc_l23 11 rfl) rfl) ?_
  refine rcons (ro_iload (dca dc_l23 12 rfl) rfl) ?_
  refine rcons (ro_iconst (n := 3) (dca dc_l23 13 rfl) rfl rfl) ?_
  refine rcons (ro_iadd (dca dc_l23 14 rfl) rfl) ?_
  refine rcons (ro_isc (fun _ h => h) (dca dc_l23 15 rfl) rfl) ?_
  refine rcons (ro_aload_n (k := 3) rfl (dca dc_l23 16 rfl) rfl) ?_
  refine rcons (ro_callSX ok_w_monthOnFar (dca dc_l23 17 rfl) rfl (fun s args ht => vx_cwSW 5 ht (rgoodS (fun w h => List.mem_cons_of_mem _ h) q_786 q_787 q_12 q_788) rfl rfl rfl hy_w_monthOnFar ⟨Nat.le_of_ble_eq_true rfl, Nat.le_of_ble_eq_true rfl⟩) rfl) ?_
  refine rcons (ro_istore (dca dc_l23 18 rfl) rfl) ?_
  refine rcons (ro_aload_n (k := 2) rfl (dca dc_l23 19 rfl) rfl) ?_
  refine rcons (ro_aload_n (k := 0) rfl (dca dc_l23 20 rfl) rfl) ?_
  refine rcons (ro_iload (dca dc_l23 21 rfl) rfl) ?_
  refine rcons (ro_iconst (n := 1) (dca dc_l23 22 rfl) rfl rfl) ?_
  refine rcons (ro_iadd (dca dc_l23 23 rfl) rfl) ?_
  refine rcons (ro_isc (fun _ h => h) (dca dc_l23 24 rfl) rfl) ?_
  refine rcons (ro_aload_n (k := 0) rfl (dca dc_l23 25 rfl) rfl) ?_
  refine rcons (ro_iload (dca dc_l23 26 rfl) rfl) ?_
  refine rcons (ro_iconst (n := 2) (dca dc_l23 27 rfl) rfl rfl) ?_
  refine rcons (ro_iadd (dca dc_l23 28 rfl) rfl) ?_
  refine rcons (ro_isc (fun _ h => h) (dca dc_l23 29 rfl) rfl) ?_
  refine rcons (ro_aload_n (k := 0) rfl (dca dc_l23 30 rfl) rfl) ?_
  refine rcons (ro_iload (dca dc_l23 31 rfl) rfl) ?_
  refine rcons (ro_iconst (n := 3) (dca dc_l23 32 rfl) rfl rfl) ?_
  refine rcons (ro_iadd (dca dc_l23 33 rfl) rfl) ?_
  refine rcons (ro_isc (fun _ h => h) (dca dc_l23 34 rfl) rfl) ?_
  refine rcons (ro_callVH (C := rN1) (T := rF1) (N := 7) rfl ok_d_monthOnFar (dca dc_l23 35 rfl) trivial (by decide) (fun s args ht => cwV (C := rN1) 3 ht (rgoodV (C := rN1) (fun w h => List.mem_cons_of_mem _ h) q_1139 q_1140 q_1141 q_14 q_1142) rfl rfl rfl hv_d_monthOnFar ⟨Nat.le_of_ble_eq_true rfl, Nat.le_of_ble_eq_true rfl⟩) rfl) ?_
  refine rcons (ro_istore (dca dc_l23 36 rfl) rfl) ?_
  refine rcons (ro_goto (off := 1205) (dca dc_l23 37 rfl) rfl) ?_
  refine rcons (ro_stop) ?_
  exact rnil
def dl_l24 : List (Nat × Instr × Nat) := [(1284, .aload_n 1, 1), (1285, .aload_n 0, 1), (1286, .iload 4, 2), (1288, .iconst 1, 1), (1289, .iadd, 1), (1290, .iaload, 1), (1291, .aload_n 0, 1), (1292, .iload 4, 2), (1294, .iconst 2, 1), (1295, .iadd, 1), (1296, .iaload, 1), (1297, .aload_n 0, 1), (1298, .iload 4, 2), (1300, .iconst 3, 1), (1301, .iadd, 1), (1302, .iaload, 1), (1303, .aload_n 3, 1), (1304, .invokestatic 267, 3), (1307, .istore 5, 2), (1309, .aload_n 2, 1), (1310, .aload_n 0, 1), (1311, .iload 4, 2), (1313, .iconst 1, 1), (1314, .iadd, 1), (1315, .iaload, 1), (1316, .aload_n 0, 1), (1317, .iload 4, 2), (1319, .iconst 2, 1), (1320, .iadd, 1), (1321, .iaload, 1), (1322, .aload_n 0, 1), (1323, .iload 4, 2), (1325, .iconst 3, 1), (1326, .iadd, 1), (1327, .iaload, 1), (1328, .invokevirtual 269, 3), (1331, .istore 6, 2), (1333, .goto 1153, 3)]
theorem dc_l24 : ∀ (k : Nat) (q : Nat × Instr × Nat), dl_l24[k]? = some q → decode code q.1 = .ok q.2 := dchk_at (a := 1284) (by decide +kernel)
def ps_l24 : List Nat := [1284, 1285, 1286, 1288, 1289, 1290, 1291, 1292, 1294, 1295, 1296, 1297, 1298, 1300, 1301, 1302, 1303, 1304, 1307, 1309, 1310, 1311, 1313, 1314, 1315, 1316, 1317, 1319, 1320, 1321, 1322, 1323, 1325, 1326, 1327, 1328, 1331, 1333, 2486]
def tb_l24 (L : Nat) (xs : Nat → Int32) (i : Int32) (g1 : Bool) (v1 : Int32) (g2 : Bool) (v2 : Int32) (g3 : Bool) (v3 : Int32) (g4 : Bool) (v4 : Int32) (z2 z3 z4 : Bool) : List RT := [tq_al 1, tq_al 0, tq_il 4, tq_ic 1, tq_i2 (fun x y => x + y), tq_isc L xs g1 v1, tq_al 0, tq_il 4, tq_ic 2, tq_i2 (fun x y => x + y), tq_isc L xs g2 v2, tq_al 0, tq_il 4, tq_ic 3, tq_i2 (fun x y => x + y), tq_isc L xs g3 v3, tq_al 3, tq_callH m_w_monthBackFar 5 2 1000 [], tq_is 7 5, tq_al 2, tq_al 0, tq_il 4, tq_ic 1, tq_i2 (fun x y => x + y), tq_isc L xs g1 v1, tq_al 0, tq_il 4, tq_ic 2, tq_i2 (fun x y => x + y), tq_isc L xs g2 v2, tq_al 0, tq_il 4, tq_ic 3, tq_i2 (fun x y => x + y), tq_isc L xs g3 v3, tq_callH (rV 1 m_d_monthBackFar) 4 0 1000 [], tq_is 7 6, tq_go 38, tq_stop i]
set_option maxHeartbeats 4000000 in
set_option maxRecDepth 20000 in
theorem ok_l24 (L : Nat) (xs : Nat → Int32) (i : Int32) (g1 : Bool) (v1 : Int32) (g2 : Bool) (v2 : Int32) (g3 : Bool) (v3 : Int32) (g4 : Bool) (v4 : Int32) (z2 z3 z4 : Bool) : rAll (rOk (fun G => rSc G = (L, xs)) code "RingdaysLaw" 7 rTL room_1 [] 1000 (.inr (2486, i)) (fun o => ps_l24.getD o 0)) ps_l24 (tb_l24 L xs i g1 v1 g2 v2 g3 v3 g4 v4 z2 z3 z4) := by
  refine rcons (ro_aload_n (k := 1) rfl (dca dc_l24 0 rfl) rfl) ?_
  refine rcons (ro_aload_n (k := 0) rfl (dca dc_l24 1 rfl) rfl) ?_
  refine rcons (ro_iload (dca dc_l24 2 rfl) rfl) ?_
  refine rcons (ro_iconst (n := 1) (dca dc_l24 3 rfl) rfl rfl) ?_
  refine rcons (ro_iadd (dca dc_l24 4 rfl) rfl) ?_
  refine rcons (ro_isc (fun _ h => h) (dca dc_l24 5 rfl) rfl) ?_
  refine rcons (ro_aload_n (k := 0) rfl (dca dc_l24 6 rfl) rfl) ?_
  refine rcons (ro_iload (dca dc_l24 7 rfl) rfl) ?_
  refine rcons (ro_iconst (n := 2) (dca dc_l24 8 rfl) rfl rfl) ?_
  refine rcons (ro_iadd (dca dc_l24 9 rfl) rfl) ?_
  refine rcons (ro_isc (fun _ h => h) (dca dc_l24 10 rfl) rfl) ?_
  refine rcons (ro_aload_n (k := 0) rfl (dca dc_l24 11 rfl) rfl) ?_
  refine rcons (ro_iload (dca dc_l24 12 rfl) rfl) ?_
  refine rcons (ro_iconst (n := 3) (dca dc_l24 13 rfl) rfl rfl) ?_
  refine rcons (ro_iadd (dca dc_l24 14 rfl) rfl) ?_
  refine rcons (ro_isc (fun _ h => h) (dca dc_l24 15 rfl) rfl) ?_
  refine rcons (ro_aload_n (k := 3) rfl (dca dc_l24 16 rfl) rfl) ?_
  refine rcons (ro_callSX ok_w_monthBackFar (dca dc_l24 17 rfl) rfl (fun s args ht => vx_cwSW 5 ht (rgoodS (fun w h => List.mem_cons_of_mem _ h) q_797 q_798 q_12 q_799) rfl rfl rfl hy_w_monthBackFar ⟨Nat.le_of_ble_eq_true rfl, Nat.le_of_ble_eq_true rfl⟩) rfl) ?_
  refine rcons (ro_istore (dca dc_l24 18 rfl) rfl) ?_
  refine rcons (ro_aload_n (k := 2) rfl (dca dc_l24 19 rfl) rfl) ?_
  refine rcons (ro_aload_n (k := 0) rfl (dca dc_l24 20 rfl) rfl) ?_
  refine rcons (ro_iload (dca dc_l24 21 rfl) rfl) ?_
  refine rcons (ro_iconst (n := 1) (dca dc_l24 22 rfl) rfl rfl) ?_
  refine rcons (ro_iadd (dca dc_l24 23 rfl) rfl) ?_
  refine rcons (ro_isc (fun _ h => h) (dca dc_l24 24 rfl) rfl) ?_
  refine rcons (ro_aload_n (k := 0) rfl (dca dc_l24 25 rfl) rfl) ?_
  refine rcons (ro_iload (dca dc_l24 26 rfl) rfl) ?_
  refine rcons (ro_iconst (n := 2) (dca dc_l24 27 rfl) rfl rfl) ?_
  refine rcons (ro_iadd (dca dc_l24 28 rfl) rfl) ?_
  refine rcons (ro_isc (fun _ h => h) (dca dc_l24 29 rfl) rfl) ?_
  refine rcons (ro_aload_n (k := 0) rfl (dca dc_l24 30 rfl) rfl) ?_
  refine rcons (ro_iload (dca dc_l24 31 rfl) rfl) ?_
  refine rcons (ro_iconst (n := 3) (dca dc_l24 32 rfl) rfl rfl) ?_
  refine rcons (ro_iadd (dca dc_l24 33 rfl) rfl) ?_
  refine rcons (ro_isc (fun _ h => h) (dca dc_l24 34 rfl) rfl) ?_
  refine rcons (ro_callVH (C := rN1) (T := rF1) (N := 7) rfl ok_d_monthBackFar (dca dc_l24 35 rfl) trivial (by decide) (fun s args ht => cwV (C := rN1) 3 ht (rgoodV (C := rN1) (fun w h => List.mem_cons_of_mem _ h) q_1143 q_1144 q_1145 q_14 q_1146) rfl rfl rfl hv_d_monthBackFar ⟨Nat.le_of_ble_eq_true rfl, Nat.le_of_ble_eq_true rfl⟩) rfl) ?_
  refine rcons (ro_istore (dca dc_l24 36 rfl) rfl) ?_
  refine rcons (ro_goto (off := 1153) (dca dc_l24 37 rfl) rfl) ?_
  refine rcons (ro_stop) ?_
  exact rnil
def dl_l25 : List (Nat × Instr × Nat) := [(1336, .aload_n 1, 1), (1337, .aload_n 0, 1), (1338, .iload 4, 2), (1340, .iconst 1, 1), (1341, .iadd, 1), (1342, .iaload, 1), (1343, .aload_n 0, 1), (1344, .iload 4, 2), (1346, .iconst 2, 1), (1347, .iadd, 1), (1348, .iaload, 1), (1349, .aload_n 3, 1), (1350, .invokestatic 270, 3), (1353, .istore 5, 2), (1355, .aload_n 2, 1), (1356, .aload_n 0, 1), (1357, .iload 4, 2), (1359, .iconst 1, 1), (1360, .iadd, 1), (1361, .iaload, 1), (1362, .aload_n 0, 1), (1363, .iload 4, 2), (1365, .iconst 2, 1), (1366, .iadd, 1), (1367, .iaload, 1), (1368, .invokevirtual 272, 3), (1371, .istore 6, 2), (1373, .goto 1113, 3)]
theorem dc_l25 : ∀ (k : Nat) (q : Nat × Instr × Nat), dl_l25[k]? = some q → decode code q.1 = .ok q.2 := dchk_at (a := 1336) (by decide +kernel)
def ps_l25 : List Nat := [1336, 1337, 1338, 1340, 1341, 1342, 1343, 1344, 1346, 1347, 1348, 1349, 1350, 1353, 1355, 1356, 1357, 1359, 1360, 1361, 1362, 1363, 1365, 1366, 1367, 1368, 1371, 1373, 2486]
def tb_l25 (L : Nat) (xs : Nat → Int32) (i : Int32) (g1 : Bool) (v1 : Int32) (g2 : Bool) (v2 : Int32) (g3 : Bool) (v3 : Int32) (g4 : Bool) (v4 : Int32) (z2 z3 z4 : Bool) : List RT := [tq_al 1, tq_al 0, tq_il 4, tq_ic 1, tq_i2 (fun x y => x + y), tq_isc L xs g1 v1, tq_al 0, tq_il 4, tq_ic 2, tq_i2 (fun x y => x + y), tq_isc L xs g2 v2, tq_al 3, tq_callH m_w_monthAt 4 1 1000 [], tq_is 7 5, tq_al 2, tq_al 0, tq_il 4, tq_ic 1, tq_i2 (fun x y => x + y), tq_isc L xs g1 v1, tq_al 0, tq_il 4, tq_ic 2, tq_i2 (fun x y => x + y), tq_isc L xs g2 v2, tq_callH (rV 1 m_d_monthAt) 3 0 1000 [], tq_is 7 6, tq_go 28, tq_stop i]
set_option maxHeartbeats 4000000 in
set_option maxRecDepth 20000 in
theorem ok_l25 (L : Nat) (xs : Nat → Int32) (i : Int32) (g1 : Bool) (v1 : Int32) (g2 : Bool) (v2 : Int32) (g3 : Bool) (v3 : Int32) (g4 : Bool) (v4 : Int32) (z2 z3 z4 : Bool) : rAll (rOk (fun G => rSc G = (L, xs)) code "RingdaysLaw" 7 rTL room_1 [] 1000 (.inr (2486, i)) (fun o => ps_l25.getD o 0)) ps_l25 (tb_l25 L xs i g1 v1 g2 v2 g3 v3 g4 v4 z2 z3 z4) := by
  refine rcons (ro_aload_n (k := 1) rfl (dca dc_l25 0 rfl) rfl) ?_
  refine rcons (ro_aload_n (k := 0) rfl (dca dc_l25 1 rfl) rfl) ?_
  refine rcons (ro_iload (dca dc_l25 2 rfl) rfl) ?_
  refine rcons (ro_iconst (n := 1) (dca dc_l25 3 rfl) rfl rfl) ?_
  refine rcons (ro_iadd (dca dc_l25 4 rfl) rfl) ?_
  refine rcons (ro_isc (fun _ h => h) (dca dc_l25 5 rfl) rfl) ?_
  refine rcons (ro_aload_n (k := 0) rfl (dca dc_l25 6 rfl) rfl) ?_
  refine rcons (ro_iload (dca dc_l25 7 rfl) rfl) ?_
  refine rcons (ro_iconst (n := 2) (dca dc_l25 8 rfl) rfl rfl) ?_
  refine rcons (ro_iadd (dca dc_l25 9 rfl) rfl) ?_
  refine rcons (ro_isc (fun _ h => h) (dca dc_l25 10 rfl) rfl) ?_
  refine rcons (ro_aload_n (k := 3) rfl (dca dc_l25 11 rfl) rfl) ?_
  refine rcons (ro_callSX ok_w_monthAt (dca dc_l25 12 rfl) rfl (fun s args ht => vx_cwSW 4 ht (rgoodS (fun w h => List.mem_cons_of_mem _ h) q_804 q_805 q_12 q_806) rfl rfl rfl hy_w_monthAt ⟨Nat.le_of_ble_eq_true rfl, Nat.le_of_ble_eq_true rfl⟩) rfl) ?_
  refine rcons (ro_istore (dca dc_l25 13 rfl) rfl) ?_
  refine rcons (ro_aload_n (k := 2) rfl (dca dc_l25 14 rfl) rfl) ?_
  refine rcons (ro_aload_n (k := 0) rfl (dca dc_l25 15 rfl) rfl) ?_
  refine rcons (ro_iload (dca dc_l25 16 rfl) rfl) ?_
  refine rcons (ro_iconst (n := 1) (dca dc_l25 17 rfl) rfl rfl) ?_
  refine rcons (ro_iadd (dca dc_l25 18 rfl) rfl) ?_
  refine rcons (ro_isc (fun _ h => h) (dca dc_l25 19 rfl) rfl) ?_
  refine rcons (ro_aload_n (k := 0) rfl (dca dc_l25 20 rfl) rfl) ?_
  refine rcons (ro_iload (dca dc_l25 21 rfl) rfl) ?_
  refine rcons (ro_iconst (n := 2) (dca dc_l25 22 rfl) rfl rfl) ?_
  refine rcons (ro_iadd (dca dc_l25 23 rfl) rfl) ?_
  refine rcons (ro_isc (fun _ h => h) (dca dc_l25 24 rfl) rfl) ?_
  refine rcons (ro_callVH (C := rN1) (T := rF1) (N := 7) rfl ok_d_monthAt (dca dc_l25 25 rfl) trivial (by decide) (fun s args ht => cwV (C := rN1) 2 ht (rgoodV (C := rN1) (fun w h => List.mem_cons_of_mem _ h) q_1147 q_1148 q_1149 q_14 q_1150) rfl rfl rfl hv_d_monthAt ⟨Nat.le_of_ble_eq_true rfl, Nat.le_of_ble_eq_true rfl⟩) rfl) ?_
  refine rcons (ro_istore (dca dc_l25 26 rfl) rfl) ?_
  refine rcons (ro_goto (off := 1113) (dca dc_l25 27 rfl) rfl) ?_
  refine rcons (ro_stop) ?_
  exact rnil
def dl_l26 : List (Nat × Instr × Nat) := [(1376, .aload_n 1, 1), (1377, .aload_n 0, 1), (1378, .iload 4, 2), (1380, .iconst 1, 1), (1381, .iadd, 1), (1382, .iaload, 1), (1383, .aload_n 0, 1), (1384, .iload 4, 2), (1386, .iconst 2, 1), (1387, .iadd, 1), (1388, .iaload, 1), (1389, .aload_n 3, 1), (1390, .invokestatic 273, 3), (1393, .istore 5, 2), (1395, .aload_n 2, 1), (1396, .aload_n 0, 1), (1397, .iload 4, 2), (1399, .iconst 1, 1), (1400, .iadd, 1), (1401, .iaload, 1), (1402, .aload_n 0, 1), (1403, .iload 4, 2), (1405, .iconst 2, 1), (1406, .iadd, 1), (1407, .iaload, 1), (1408, .invokevirtual 275, 3), (1411, .istore 6, 2), (1413, .goto 1073, 3)]
theorem dc_l26 : ∀ (k : Nat) (q : Nat × Instr × Nat), dl_l26[k]? = some q → decode code q.1 = .ok q.2 := dchk_at (a := 1376) (by decide +kernel)
def ps_l26 : List Nat := [1376, 1377, 1378, 1380, 1381, 1382, 1383, 1384, 1386, 1387, 1388, 1389, 1390, 1393, 1395, 1396, 1397, 1399, 1400, 1401, 1402, 1403, 1405, 1406, 1407, 1408, 1411, 1413, 2486]
def tb_l26 (L : Nat) (xs : Nat → Int32) (i : Int32) (g1 : Bool) (v1 : Int32) (g2 : Bool) (v2 : Int32) (g3 : Bool) (v3 : Int32) (g4 : Bool) (v4 : Int32) (z2 z3 z4 : Bool) : List RT := [tq_al 1, tq_al 0, tq_il 4, tq_ic 1, tq_i2 (fun x y => x + y), tq_isc L xs g1 v1, tq_al 0, tq_il 4, tq_ic 2, tq_i2 (fun x y => x + y), tq_isc L xs g2 v2, tq_al 3, tq_callH m_w_monthAhead 4 1 1000 [], tq_is 7 5, tq_al 2, tq_al 0, tq_il 4, tq_ic 1, tq_i2 (fun x y => x + y), tq_isc L xs g1 v1, tq_al 0, tq_il 4, tq_ic 2, tq_i2 (fun x y => x + y), tq_isc L xs g2 v2, tq_callH (rV 1 m_d_monthAhead) 3 0 1000 [], tq_is 7 6, tq_go 28, tq_stop i]
set_option maxHeartbeats 4000000 in
set_option maxRecDepth 20000 in
theorem ok_l26 (L : Nat) (xs : Nat → Int32) (i : Int32) (g1 : Bool) (v1 : Int32) (g2 : Bool) (v2 : Int32) (g3 : Bool) (v3 : Int32) (g4 : Bool) (v4 : Int32) (z2 z3 z4 : Bool) : rAll (rOk (fun G => rSc G = (L, xs)) code "RingdaysLaw" 7 rTL room_1 [] 1000 (.inr (2486, i)) (fun o => ps_l26.getD o 0)) ps_l26 (tb_l26 L xs i g1 v1 g2 v2 g3 v3 g4 v4 z2 z3 z4) := by
  refine rcons (ro_aload_n (k := 1) rfl (dca dc_l26 0 rfl) rfl) ?_
  refine rcons (ro_aload_n (k := 0) rfl (dca dc_l26 1 rfl) rfl) ?_
  refine rcons (ro_iload (dca dc_l26 2 rfl) rfl) ?_
  refine rcons (ro_iconst (n := 1) (dca dc_l26 3 rfl) rfl rfl) ?_
  refine rcons (ro_iadd (dca dc_l26 4 rfl) rfl) ?_
  refine rcons (ro_isc (fun _ h => h) (dca dc_l26 5 rfl) rfl) ?_
  refine rcons (ro_aload_n (k := 0) rfl (dca dc_l26 6 rfl) rfl) ?_
  refine rcons (ro_iload (dca dc_l26 7 rfl) rfl) ?_
  refine rcons (ro_iconst (n := 2) (dca dc_l26 8 rfl) rfl rfl) ?_
  refine rcons (ro_iadd (dca dc_l26 9 rfl) rfl) ?_
  refine rcons (ro_isc (fun _ h => h) (dca dc_l26 10 rfl) rfl) ?_
  refine rcons (ro_aload_n (k := 3) rfl (dca dc_l26 11 rfl) rfl) ?_
  refine rcons (ro_callSX ok_w_monthAhead (dca dc_l26 12 rfl) rfl (fun s args ht => vx_cwSW 4 ht (rgoodS (fun w h => List.mem_cons_of_mem _ h) q_808 q_809 q_12 q_810) rfl rfl rfl hy_w_monthAhead ⟨Nat.le_of_ble_eq_true rfl, Nat.le_of_ble_eq_true rfl⟩) rfl) ?_
  refine rcons (ro_istore (dca dc_l26 13 rfl) rfl) ?_
  refine rcons (ro_aload_n (k := 2) rfl (dca dc_l26 14 rfl) rfl) ?_
  refine rcons (ro_aload_n (k := 0) rfl (dca dc_l26 15 rfl) rfl) ?_
  refine rcons (ro_iload (dca dc_l26 16 rfl) rfl) ?_
  refine rcons (ro_iconst (n := 1) (dca dc_l26 17 rfl) rfl rfl) ?_
  refine rcons (ro_iadd (dca dc_l26 18 rfl) rfl) ?_
  refine rcons (ro_isc (fun _ h => h) (dca dc_l26 19 rfl) rfl) ?_
  refine rcons (ro_aload_n (k := 0) rfl (dca dc_l26 20 rfl) rfl) ?_
  refine rcons (ro_iload (dca dc_l26 21 rfl) rfl) ?_
  refine rcons (ro_iconst (n := 2) (dca dc_l26 22 rfl) rfl rfl) ?_
  refine rcons (ro_iadd (dca dc_l26 23 rfl) rfl) ?_
  refine rcons (ro_isc (fun _ h => h) (dca dc_l26 24 rfl) rfl) ?_
  refine rcons (ro_callVH (C := rN1) (T := rF1) (N := 7) rfl ok_d_monthAhead (dca dc_l26 25 rfl) trivial (by decide) (fun s args ht => cwV (C := rN1) 2 ht (rgoodV (C := rN1) (fun w h => List.mem_cons_of_mem _ h) q_1151 q_1152 q_1153 q_14 q_1154) rfl rfl rfl hv_d_monthAhead ⟨Nat.le_of_ble_eq_true rfl, Nat.le_of_ble_eq_true rfl⟩) rfl) ?_
  refine rcons (ro_istore (dca dc_l26 26 rfl) rfl) ?_
  refine rcons (ro_goto (off := 1073) (dca dc_l26 27 rfl) rfl) ?_
  refine rcons (ro_stop) ?_
  exact rnil
def dl_l27 : List (Nat × Instr × Nat) := [(1416, .aload_n 1, 1), (1417, .aload_n 0, 1), (1418, .iload 4, 2), (1420, .iconst 1, 1), (1421, .iadd, 1), (1422, .iaload, 1), (1423, .aload_n 0, 1), (1424, .iload 4, 2), (1426, .iconst 2, 1), (1427, .iadd, 1), (1428, .iaload, 1), (1429, .aload_n 0, 1), (1430, .iload 4, 2), (1432, .iconst 3, 1), (1433, .iadd, 1), (1434, .iaload, 1), (1435, .aload_n 0, 1), (1436, .iload 4, 2), (1438, .iconst 4, 1), (1439, .iadd, 1), (1440, .iaload, 1), (1441, .ifCond .eq 7, 3), (1444, .iconst 1, 1), (1445, .goto 4, 3), (1448, .iconst 0, 1), (1449, .aload_n 3, 1), (1450, .invokestatic 276, 3), (1453, .istore 5, 2), (1455, .aload_n 2, 1), (1456, .aload_n 0, 1), (1457, .iload 4, 2), (1459, .iconst 1, 1), (1460, .iadd, 1), (1461, .iaload, 1), (1462, .aload_n 0, 1), (1463, .iload 4, 2), (1465, .iconst 2, 1), (1466, .iadd, 1), (1467, .iaload, 1), (1468, .aload_n 0, 1), (1469, .iload 4, 2), (1471, .iconst 3, 1), (1472, .iadd, 1), (1473, .iaload, 1), (1474, .aload_n 0, 1), (1475, .iload 4, 2), (1477, .iconst 4, 1), (1478, .iadd, 1), (1479, .iaload, 1), (1480, .ifCond .eq 7, 3), (1483, .iconst 1, 1), (1484, .goto 4, 3), (1487, .iconst 0, 1), (1488, .invokevirtual 278, 3), (1491, .istore 6, 2), (1493, .goto 993, 3)]
theorem dc_l27 : ∀ (k : Nat) (q : Nat × Instr × Nat), dl_l27[k]? = some q → decode code q.1 = .ok q.2 := dchk_at (a := 1416) (by decide +kernel)
def ps_l27 : List Nat := [1416, 1417, 1418, 1420, 1421, 1422, 1423, 1424, 1426, 1427, 1428, 1429, 1430, 1432, 1433, 1434, 1435, 1436, 1438, 1439, 1440, 1441, 1444, 1445, 1448, 1449, 1450, 1453, 1455, 1456, 1457, 1459, 1460, 1461, 1462, 1463, 1465, 1466, 1467, 1468, 1469, 1471, 1472, 1473, 1474, 1475, 1477, 1478, 1479, 1480, 1483, 1484, 1487, 1488, 1491, 1493, 2486]
def tb_l27 (L : Nat) (xs : Nat → Int32) (i : Int32) (g1 : Bool) (v1 : Int32) (g2 : Bool) (v2 : Int32) (g3 : Bool) (v3 : Int32) (g4 : Bool) (v4 : Int32) (z2 z3 z4 : Bool) : List RT := [tq_al 1, tq_al 0, tq_il 4, tq_ic 1, tq_i2 (fun x y => x + y), tq_isc L xs g1 v1, tq_al 0, tq_il 4, tq_ic 2, tq_i2 (fun x y => x + y), tq_isc L xs g2 v2, tq_al 0, tq_il 4, tq_ic 3, tq_i2 (fun x y => x + y), tq_isc L xs g3 v3, tq_al 0, tq_il 4, tq_ic 4, tq_i2 (fun x y => x + y), tq_isc L xs g4 v4, tq_sv (fun x => decide (x = 0)) z4 1 0 25, tq_ic 1, tq_go 25, tq_ic 0, tq_al 3, tq_callH m_w_monthAtFar 6 1 1000 [], tq_is 7 5, tq_al 2, tq_al 0, tq_il 4, tq_ic 1, tq_i2 (fun x y => x + y), tq_isc L xs g1 v1, tq_al 0, tq_il 4, tq_ic 2, tq_i2 (fun x y => x + y), tq_isc L xs g2 v2, tq_al 0, tq_il 4, tq_ic 3, tq_i2 (fun x y => x + y), tq_isc L xs g3 v3, tq_al 0, tq_il 4, tq_ic 4, tq_i2 (fun x y => x + y), tq_isc L xs g4 v4, tq_sv (fun x => decide (x = 0)) z4 1 0 53, tq_ic 1, tq_go 53, tq_ic 0, tq_callH (rV 1 m_d_monthAtFar) 5 0 1000 [], tq_is 7 6, tq_go 56, tq_stop i]
set_option maxHeartbeats 4000000 in
set_option maxRecDepth 20000 in
theorem ok_l27 (L : Nat) (xs : Nat → Int32) (i : Int32) (g1 : Bool) (v1 : Int32) (g2 : Bool) (v2 : Int32) (g3 : Bool) (v3 : Int32) (g4 : Bool) (v4 : Int32) (z2 z3 z4 : Bool) : rAll (rOk (fun G => rSc G = (L, xs)) code "RingdaysLaw" 7 rTL room_1 [] 1000 (.inr (2486, i)) (fun o => ps_l27.getD o 0)) ps_l27 (tb_l27 L xs i g1 v1 g2 v2 g3 v3 g4 v4 z2 z3 z4) := by
  refine rcons (ro_aload_n (k := 1) rfl (dca dc_l27 0 rfl) rfl) ?_
  refine rcons (ro_aload_n (k := 0) rfl (dca dc_l27 1 rfl) rfl) ?_
  refine rcons (ro_iload (dca dc_l27 2 rfl) rfl) ?_
  refine rcons (ro_iconst (n := 1) (dca dc_l27 3 rfl) rfl rfl) ?_
  refine rcons (ro_iadd (dca dc_l27 4 rfl) rfl) ?_
  refine rcons (ro_isc (fun _ h => h) (dca dc_l27 5 rfl) rfl) ?_
  refine rcons (ro_aload_n (k := 0) rfl (dca dc_l27 6 rfl) rfl) ?_
  refine rcons (ro_iload (dca dc_l27 7 rfl) rfl) ?_
  refine rcons (ro_iconst (n := 2) (dca dc_l27 8 rfl) rfl rfl) ?_
  refine rcons (ro_iadd (dca dc_l27 9 rfl) rfl) ?_
  refine rcons (ro_isc (fun _ h => h) (dca dc_l27 10 rfl) rfl) ?_
  refine rcons (ro_aload_n (k := 0) rfl (dca dc_l27 11 rfl) rfl) ?_
  refine rcons (ro_iload (dca dc_l27 12 rfl) rfl) ?_
  refine rcons (ro_iconst (n := 3) (dca dc_l27 13 rfl) rfl rfl) ?_
  refine rcons (ro_iadd (dca dc_l27 14 rfl) rfl) ?_
  refine rcons (ro_isc (fun _ h => h) (dca dc_l27 15 rfl) rfl) ?_
  refine rcons (ro_aload_n (k := 0) rfl (dca dc_l27 16 rfl) rfl) ?_
  refine rcons (ro_iload (dca dc_l27 17 rfl) rfl) ?_
  refine rcons (ro_iconst (n := 4) (dca dc_l27 18 rfl) rfl rfl) ?_
  refine rcons (ro_iadd (dca dc_l27 19 rfl) rfl) ?_
  refine rcons (ro_isc (fun _ h => h) (dca dc_l27 20 rfl) rfl) ?_
  refine rcons (ro_sv (ro_s1_eq (off := 7) (off2 := 4) (n1 := 1) (n2 := 0) (dca dc_l27 21 rfl) (dca dc_l27 22 rfl) rfl (dca dc_l27 23 rfl) (dca dc_l27 24 rfl) rfl rfl rfl rfl)) ?_
  refine rcons (ro_iconst (n := 1) (dca dc_l27 22 rfl) rfl rfl) ?_
  refine rcons (ro_goto (off := 4) (dca dc_l27 23 rfl) rfl) ?_
  refine rcons (ro_iconst (n := 0) (dca dc_l27 24 rfl) rfl rfl) ?_
  refine rcons (ro_aload_n (k := 3) rfl (dca dc_l27 25 rfl) rfl) ?_
  refine rcons (ro_callSX ok_w_monthAtFar (dca dc_l27 26 rfl) rfl (fun s args ht => vx_cwSW 6 ht (rgoodS (fun w h => List.mem_cons_of_mem _ h) q_812 q_813 q_12 q_814) rfl rfl rfl hy_w_monthAtFar ⟨Nat.le_of_ble_eq_true rfl, Nat.le_of_ble_eq_true rfl⟩) rfl) ?_
  refine rcons (ro_istore (dca dc_l27 27 rfl) rfl) ?_
  refine rcons (ro_aload_n (k := 2) rfl (dca dc_l27 28 rfl) rfl) ?_
  refine rcons (ro_aload_n (k := 0) rfl (dca dc_l27 29 rfl) rfl) ?_
  refine rcons (ro_iload (dca dc_l27 30 rfl) rfl) ?_
  refine rcons (ro_iconst (n := 1) (dca dc_l27 31 rfl) rfl rfl) ?_
  refine rcons (ro_iadd (dca dc_l27 32 rfl) rfl) ?_
  refine rcons (ro_isc (fun _ h => h) (dca dc_l27 33 rfl) rfl) ?_
  refine rcons (ro_aload_n (k := 0) rfl (dca dc_l27 34 rfl) rfl) ?_
  refine rcons (ro_iload (dca dc_l27 35 rfl) rfl) ?_
  refine rcons (ro_iconst (n := 2) (dca dc_l27 36 rfl) rfl rfl) ?_
  refine rcons (ro_iadd (dca dc_l27 37 rfl) rfl) ?_
  refine rcons (ro_isc (fun _ h => h) (dca dc_l27 38 rfl) rfl) ?_
  refine rcons (ro_aload_n (k := 0) rfl (dca dc_l27 39 rfl) rfl) ?_
  refine rcons (ro_iload (dca dc_l27 40 rfl) rfl) ?_
  refine rcons (ro_iconst (n := 3) (dca dc_l27 41 rfl) rfl rfl) ?_
  refine rcons (ro_iadd (dca dc_l27 42 rfl) rfl) ?_
  refine rcons (ro_isc (fun _ h => h) (dca dc_l27 43 rfl) rfl) ?_
  refine rcons (ro_aload_n (k := 0) rfl (dca dc_l27 44 rfl) rfl) ?_
  refine rcons (ro_iload (dca dc_l27 45 rfl) rfl) ?_
  refine rcons (ro_iconst (n := 4) (dca dc_l27 46 rfl) rfl rfl) ?_
  refine rcons (ro_iadd (dca dc_l27 47 rfl) rfl) ?_
  refine rcons (ro_isc (fun _ h => h) (dca dc_l27 48 rfl) rfl) ?_
  refine rcons (ro_sv (ro_s1_eq (off := 7) (off2 := 4) (n1 := 1) (n2 := 0) (dca dc_l27 49 rfl) (dca dc_l27 50 rfl) rfl (dca dc_l27 51 rfl) (dca dc_l27 52 rfl) rfl rfl rfl rfl)) ?_
  refine rcons (ro_iconst (n := 1) (dca dc_l27 50 rfl) rfl rfl) ?_
  refine rcons (ro_goto (off := 4) (dca dc_l27 51 rfl) rfl) ?_
  refine rcons (ro_iconst (n := 0) (dca dc_l27 52 rfl) rfl rfl) ?_
  refine rcons (ro_callVH (C := rN1) (T := rF1) (N := 7) rfl ok_d_monthAtFar (dca dc_l27 53 rfl) trivial (by decide) (fun s args ht => cwV (C := rN1) 4 ht (rgoodV (C := rN1) (fun w h => List.mem_cons_of_mem _ h) q_1155 q_1156 q_1157 q_14 q_1158) rfl rfl rfl hv_d_monthAtFar ⟨Nat.le_of_ble_eq_true rfl, Nat.le_of_ble_eq_true rfl⟩) rfl) ?_
  refine rcons (ro_istore (dca dc_l27 54 rfl) rfl) ?_
  refine rcons (ro_goto (off := 993) (dca dc_l27 55 rfl) rfl) ?_
  refine rcons (ro_stop) ?_
  exact rnil
def dl_l28 : List (Nat × Instr × Nat) := [(1496, .aload_n 1, 1), (1497, .aload_n 0, 1), (1498, .iload 4, 2), (1500, .iconst 1, 1), (1501, .iadd, 1), (1502, .iaload, 1), (1503, .aload_n 0, 1), (1504, .iload 4, 2), (1506, .iconst 2, 1), (1507, .iadd, 1), (1508, .iaload, 1), (1509, .aload_n 0, 1), (1510, .iload 4, 2), (1512, .iconst 3, 1), (1513, .iadd, 1), (1514, .iaload, 1), (1515, .aload_n 3, 1), (1516, .invokestatic 279, 3), (1519, .istore 5, 2), (1521, .aload_n 2, 1), (1522, .aload_n 0, 1), (1523, .iload 4, 2), (1525, .iconst 1, 1), (1526, .iadd, 1), (1527, .iaload, 1), (1528, .aload_n 0, 1), (1529, .iload 4, 2), (1531, .iconst 2, 1), (1532, .iadd, 1), (1533, .iaload, 1), (1534, .aload_n 0, 1), (1535, .iload 4, 2), (1537, .iconst 3, 1), (1538, .iadd, 1), (1539, .iaload, 1), (1540, .invokevirtual 281, 3), (1543, .istore 6, 2), (1545, .goto 941, 3)]
theorem dc_l28 : ∀ (k : Nat) (q : Nat × Instr × Nat), dl_l28[k]? = some q → decode code q.1 = .ok q.2 := dchk_at (a := 1496) (by decide +kernel)
def ps_l28 : List Nat := [1496, 1497, 1498, 1500, 1501, 1502, 1503, 1504, 1506, 1507, 1508, 1509, 1510, 1512, 1513, 1514, 1515, 1516, 1519, 1521, 1522, 1523, 1525, 1526, 1527, 1528, 1529, 1531, 1532, 1533, 1534, 1535, 1537, 1538, 1539, 1540, 1543, 1545, 2486]
def tb_l28 (L : Nat) (xs : Nat → Int32) (i : Int32) (g1 : Bool) (v1 : Int32) (g2 : Bool) (v2 : Int32) (g3 : Bool) (v3 : Int32) (g4 : Bool) (v4 : Int32) (z2 z3 z4 : Bool) : List RT := [tq_al 1, tq_al 0, tq_il 4, tq_ic 1, tq_i2 (fun x y => x + y), tq_isc L xs g1 v1, tq_al 0, tq_il 4, tq_ic 2, tq_i2 (fun x y => x + y), tq_isc L xs g2 v2, tq_al 0, tq_il 4, tq_ic 3, tq_i2 (fun x y => x + y), tq_isc L xs g3 v3, tq_al 3, tq_callH m_w_monthTwice 5 1 1000 [], tq_is 7 5, tq_al 2, tq_al 0, tq_il 4, tq_ic 1, tq_i2 (fun x y => x + y), tq_isc L xs g1 v1, tq_al 0, tq_il 4, tq_ic 2, tq_i2 (fun x y => x + y), tq_isc L xs g2 v2, tq_al 0, tq_il 4, tq_ic 3, tq_i2 (fun x y => x + y), tq_isc L xs g3 v3, tq_callH (rV 1 m_d_monthTwice) 4 0 1000 [], tq_is 7 6, tq_go 38, tq_stop i]
set_option maxHeartbeats 4000000 in
set_option maxRecDepth 20000 in
theorem ok_l28 (L : Nat) (xs : Nat → Int32) (i : Int32) (g1 : Bool) (v1 : Int32) (g2 : Bool) (v2 : Int32) (g3 : Bool) (v3 : Int32) (g4 : Bool) (v4 : Int32) (z2 z3 z4 : Bool) : rAll (rOk (fun G => rSc G = (L, xs)) code "RingdaysLaw" 7 rTL room_1 [] 1000 (.inr (2486, i)) (fun o => ps_l28.getD o 0)) ps_l28 (tb_l28 L xs i g1 v1 g2 v2 g3 v3 g4 v4 z2 z3 z4) := by
  refine rcons (ro_aload_n (k := 1) rfl (dca dc_l28 0 rfl) rfl) ?_
  refine rcons (ro_aload_n (k := 0) rfl (dca dc_l28 1 rfl) rfl) ?_
  refine rcons (ro_iload (dca dc_l28 2 rfl) rfl) ?_
  refine rcons (ro_iconst (n := 1) (dca dc_l28 3 rfl) rfl rfl) ?_
  refine rcons (ro_iadd (dca dc_l28 4 rfl) rfl) ?_
  refine rcons (ro_isc (fun _ h => h) (dca dc_l28 5 rfl) rfl) ?_
  refine rcons (ro_aload_n (k := 0) rfl (dca dc_l28 6 rfl) rfl) ?_
  refine rcons (ro_iload (dca dc_l28 7 rfl) rfl) ?_
  refine rcons (ro_iconst (n := 2) (dca dc_l28 8 rfl) rfl rfl) ?_
  refine rcons (ro_iadd (dca dc_l28 9 rfl) rfl) ?_
  refine rcons (ro_isc (fun _ h => h) (dca dc_l28 10 rfl) rfl) ?_
  refine rcons (ro_aload_n (k := 0) rfl (dca dc_l28 11 rfl) rfl) ?_
  refine rcons (ro_iload (dca dc_l28 12 rfl) rfl) ?_
  refine rcons (ro_iconst (n := 3) (dca dc_l28 13 rfl) rfl rfl) ?_
  refine rcons (ro_iadd (dca dc_l28 14 rfl) rfl) ?_
  refine rcons (ro_isc (fun _ h => h) (dca dc_l28 15 rfl) rfl) ?_
  refine rcons (ro_aload_n (k := 3) rfl (dca dc_l28 16 rfl) rfl) ?_
  refine rcons (ro_callSX ok_w_monthTwice (dca dc_l28 17 rfl) rfl (fun s args ht => vx_cwSW 5 ht (rgoodS (fun w h => List.mem_cons_of_mem _ h) q_816 q_817 q_12 q_818) rfl rfl rfl hy_w_monthTwice ⟨Nat.le_of_ble_eq_true rfl, Nat.le_of_ble_eq_true rfl⟩) rfl) ?_
  refine rcons (ro_istore (dca dc_l28 18 rfl) rfl) ?_
  refine rcons (ro_aload_n (k := 2) rfl (dca dc_l28 19 rfl) rfl) ?_
  refine rcons (ro_aload_n (k := 0) rfl (dca dc_l28 20 rfl) rfl) ?_
  refine rcons (ro_iload (dca dc_l28 21 rfl) rfl) ?_
  refine rcons (ro_iconst (n := 1) (dca dc_l28 22 rfl) rfl rfl) ?_
  refine rcons (ro_iadd (dca dc_l28 23 rfl) rfl) ?_
  refine rcons (ro_isc (fun _ h => h) (dca dc_l28 24 rfl) rfl) ?_
  refine rcons (ro_aload_n (k := 0) rfl (dca dc_l28 25 rfl) rfl) ?_
  refine rcons (ro_iload (dca dc_l28 26 rfl) rfl) ?_
  refine rcons (ro_iconst (n := 2) (dca dc_l28 27 rfl) rfl rfl) ?_
  refine rcons (ro_iadd (dca dc_l28 28 rfl) rfl) ?_
  refine rcons (ro_isc (fun _ h => h) (dca dc_l28 29 rfl) rfl) ?_
  refine rcons (ro_aload_n (k := 0) rfl (dca dc_l28 30 rfl) rfl) ?_
  refine rcons (ro_iload (dca dc_l28 31 rfl) rfl) ?_
  refine rcons (ro_iconst (n := 3) (dca dc_l28 32 rfl) rfl rfl) ?_
  refine rcons (ro_iadd (dca dc_l28 33 rfl) rfl) ?_
  refine rcons (ro_isc (fun _ h => h) (dca dc_l28 34 rfl) rfl) ?_
  refine rcons (ro_callVH (C := rN1) (T := rF1) (N := 7) rfl ok_d_monthTwice (dca dc_l28 35 rfl) trivial (by decide) (fun s args ht => cwV (C := rN1) 3 ht (rgoodV (C := rN1) (fun w h => List.mem_cons_of_mem _ h) q_1159 q_1160 q_1161 q_14 q_1162) rfl rfl rfl hv_d_monthTwice ⟨Nat.le_of_ble_eq_true rfl, Nat.le_of_ble_eq_true rfl⟩) rfl) ?_
  refine rcons (ro_istore (dca dc_l28 36 rfl) rfl) ?_
  refine rcons (ro_goto (off := 941) (dca dc_l28 37 rfl) rfl) ?_
  refine rcons (ro_stop) ?_
  exact rnil
def dl_l29 : List (Nat × Instr × Nat) := [(1548, .aload_n 1, 1), (1549, .aload_n 0, 1), (1550, .iload 4, 2), (1552, .iconst 1, 1), (1553, .iadd, 1), (1554, .iaload, 1), (1555, .aload_n 0, 1), (1556, .iload 4, 2), (1558, .iconst 2, 1), (1559, .iadd, 1), (1560, .iaload, 1), (1561, .aload_n 3, 1), (1562, .invokestatic 282, 3), (1565, .istore 5, 2), (1567, .aload_n 2, 1), (1568, .aload_n 0, 1), (1569, .iload 4, 2), (1571, .iconst 1, 1), (1572, .iadd, 1), (1573, .iaload, 1), (1574, .aload_n 0, 1), (1575, .iload 4, 2), (1577, .iconst 2, 1), (1578, .iadd, 1), (1579, .iaload, 1), (1580, .invokevirtual 284, 3), (1583, .istore 6, 2), (1585, .goto 901, 3)]
theorem dc_l29 : ∀ (k : Nat) (q : Nat × Instr × Nat), dl_l29[k]? = some q → decode code q.1 = .ok q.2 := dchk_at (a := 1548) (by decide +kernel)
def ps_l29 : List Nat := [1548, 1549, 1550, 1552, 1553, 1554, 1555, 1556, 1558, 1559, 1560, 1561, 1562, 1565, 1567, 1568, 1569, 1571, 1572, 1573, 1574, 1575, 1577, 1578, 1579, 1580, 1583, 1585, 2486]
def tb_l29 (L : Nat) (xs : Nat → Int32) (i : Int32) (g1 : Bool) (v1 : Int32) (g2 : Bool) (v2 : Int32) (g3 : Bool) (v3 : Int32) (g4 : Bool) (v4 : Int32) (z2 z3 z4 : Bool) : List RT := [tq_al 1, tq_al 0, tq_il 4, tq_ic 1, tq_i2 (fun x y => x + y), tq_isc L xs g1 v1, tq_al 0, tq_il 4, tq_ic 2, tq_i2 (fun x y => x + y), tq_isc L xs g2 v2, tq_al 3, tq_callH m_w_monthCopy 4 2 1000 [], tq_is 7 5, tq_al 2, tq_al 0, tq_il 4, tq_ic 1, tq_i2 (fun x y => x + y), tq_isc L xs g1 v1, tq_al 0, tq_il 4, tq_ic 2, tq_i2 (fun x y => x + y), tq_isc L xs g2 v2, tq_callH (rV 1 m_d_monthCopy) 3 0 1000 [], tq_is 7 6, tq_go 28, tq_stop i]
set_option maxHeartbeats 4000000 in
set_option maxRecDepth 20000 in
theorem ok_l29 (L : Nat) (xs : Nat → Int32) (i : Int32) (g1 : Bool) (v1 : Int32) (g2 : Bool) (v2 : Int32) (g3 : Bool) (v3 : Int32) (g4 : Bool) (v4 : Int32) (z2 z3 z4 : Bool) : rAll (rOk (fun G => rSc G = (L, xs)) code "RingdaysLaw" 7 rTL room_1 [] 1000 (.inr (2486, i)) (fun o => ps_l29.getD o 0)) ps_l29 (tb_l29 L xs i g1 v1 g2 v2 g3 v3 g4 v4 z2 z3 z4) := by
  refine rcons (ro_aload_n (k := 1) rfl (dca dc_l29 0 rfl) rfl) ?_
  refine rcons (ro_aload_n (k := 0) rfl (dca dc_l29 1 rfl) rfl) ?_
  refine rcons (ro_iload (dca dc_l29 2 rfl) rfl) ?_
  refine rcons (ro_iconst (n := 1) (dca dc_l29 3 rfl) rfl rfl) ?_
  refine rcons (ro_iadd (dca dc_l29 4 rfl) rfl) ?_
  refine rcons (ro_isc (fun _ h => h) (dca dc_l29 5 rfl) rfl) ?_
  refine rcons (ro_aload_n (k := 0) rfl (dca dc_l29 6 rfl) rfl) ?_
  refine rcons (ro_iload (dca dc_l29 7 rfl) rfl) ?_
  refine rcons (ro_iconst (n := 2) (dca dc_l29 8 rfl) rfl rfl) ?_
  refine rcons (ro_iadd (dca dc_l29 9 rfl) rfl) ?_
  refine rcons (ro_isc (fun _ h => h) (dca dc_l29 10 rfl) rfl) ?_
  refine rcons (ro_aload_n (k := 3) rfl (dca dc_l29 11 rfl) rfl) ?_
  refine rcons (ro_callSX ok_w_monthCopy (dca dc_l29 12 rfl) rfl (fun s args ht => vx_cwSW 4 ht (rgoodS (fun w h => List.mem_cons_of_mem _ h) q_823 q_824 q_12 q_825) rfl rfl rfl hy_w_monthCopy ⟨Nat.le_of_ble_eq_true rfl, Nat.le_of_ble_eq_true rfl⟩) rfl) ?_
  refine rcons (ro_istore (dca dc_l29 13 rfl) rfl) ?_
  refine rcons (ro_aload_n (k := 2) rfl (dca dc_l29 14 rfl) rfl) ?_
  refine rcons (ro_aload_n (k := 0) rfl (dca dc_l29 15 rfl) rfl) ?_
  refine rcons (ro_iload (dca dc_l29 16 rfl) rfl) ?_
  refine rcons (ro_iconst (n := 1) (dca dc_l29 17 rfl) rfl rfl) ?_
  refine rcons (ro_iadd (dca dc_l29 18 rfl) rfl) ?_
  refine rcons (ro_isc (fun _ h => h) (dca dc_l29 19 rfl) rfl) ?_
  refine rcons (ro_aload_n (k := 0) rfl (dca dc_l29 20 rfl) rfl) ?_
  refine rcons (ro_iload (dca dc_l29 21 rfl) rfl) ?_
  refine rcons (ro_iconst (n := 2) (dca dc_l29 22 rfl) rfl rfl) ?_
  refine rcons (ro_iadd (dca dc_l29 23 rfl) rfl) ?_
  refine rcons (ro_isc (fun _ h => h) (dca dc_l29 24 rfl) rfl) ?_
  refine rcons (ro_callVH (C := rN1) (T := rF1) (N := 7) rfl ok_d_monthCopy (dca dc_l29 25 rfl) trivial (by decide) (fun s args ht => cwV (C := rN1) 2 ht (rgoodV (C := rN1) (fun w h => List.mem_cons_of_mem _ h) q_1163 q_1164 q_1165 q_14 q_1166) rfl rfl rfl hv_d_monthCopy ⟨Nat.le_of_ble_eq_true rfl, Nat.le_of_ble_eq_true rfl⟩) rfl) ?_
  refine rcons (ro_istore (dca dc_l29 26 rfl) rfl) ?_
  refine rcons (ro_goto (off := 901) (dca dc_l29 27 rfl) rfl) ?_
  refine rcons (ro_stop) ?_
  exact rnil
def dl_l30 : List (Nat × Instr × Nat) := [(1588, .aload_n 1, 1), (1589, .aload_n 0, 1), (1590, .iload 4, 2), (1592, .iconst 1, 1), (1593, .iadd, 1), (1594, .iaload, 1), (1595, .aload_n 0, 1), (1596, .iload 4, 2), (1598, .iconst 2, 1), (1599, .iadd, 1), (1600, .iaload, 1), (1601, .aload_n 3, 1), (1602, .invokestatic 285, 3), (1605, .istore 5, 2), (1607, .aload_n 2, 1), (1608, .aload_n 0, 1), (1609, .iload 4, 2), (1611, .iconst 1, 1), (1612, .iadd, 1), (1613, .iaload, 1), (1614, .aload_n 0, 1), (1615, .iload 4, 2), (1617, .iconst 2, 1), (1618, .iadd, 1), (1619, .iaload, 1), (1620, .invokevirtual 287, 3), (1623, .istore 6, 2), (1625, .goto 861, 3)]
theorem dc_l30 : ∀ (k : Nat) (q : Nat × Instr × Nat), dl_l30[k]? = some q → decode code q.1 = .ok q.2 := dchk_at (a := 1588) (by decide +kernel)
def ps_l30 : List Nat := [1588, 1589, 1590, 1592, 1593, 1594, 1595, 1596, 1598, 1599, 1600, 1601, 1602, 1605, 1607, 1608, 1609, 1611, 1612, 1613, 1614, 1615, 1617, 1618, 1619, 1620, 1623, 1625, 2486]
def tb_l30 (L : Nat) (xs : Nat → Int32) (i : Int32) (g1 : Bool) (v1 : Int32) (g2 : Bool) (v2 : Int32) (g3 : Bool) (v3 : Int32) (g4 : Bool) (v4 : Int32) (z2 z3 z4 : Bool) : List RT := [tq_al 1, tq_al 0, tq_il 4, tq_ic 1, tq_i2 (fun x y => x + y), tq_isc L xs g1 v1, tq_al 0, tq_il 4, tq_ic 2, tq_i2 (fun x y => x + y), tq_isc L xs g2 v2, tq_al 3, tq_callH m_w_monthSwap 4 4 1000 [], tq_is 7 5, tq_al 2, tq_al 0, tq_il 4, tq_ic 1, tq_i2 (fun x y => x + y), tq_isc L xs g1 v1, tq_al 0, tq_il 4, tq_ic 2, tq_i2 (fun x y => x + y), tq_isc L xs g2 v2, tq_callH (rV 1 m_d_monthSwap) 3 0 1000 [], tq_is 7 6, tq_go 28, tq_stop i]
set_option maxHeartbeats 4000000 in
set_option maxRecDepth 20000 in
theorem ok_l30 (L : Nat) (xs : Nat → Int32) (i : Int32) (g1 : Bool) (v1 : Int32) (g2 : Bool) (v2 : Int32) (g3 : Bool) (v3 : Int32) (g4 : Bool) (v4 : Int32) (z2 z3 z4 : Bool) : rAll (rOk (fun G => rSc G = (L, xs)) code "RingdaysLaw" 7 rTL room_1 [] 1000 (.inr (2486, i)) (fun o => ps_l30.getD o 0)) ps_l30 (tb_l30 L xs i g1 v1 g2 v2 g3 v3 g4 v4 z2 z3 z4) := by
  refine rcons (ro_aload_n (k := 1) rfl (dca dc_l30 0 rfl) rfl) ?_
  refine rcons (ro_aload_n (k := 0) rfl (dca dc_l30 1 rfl) rfl) ?_
  refine rcons (ro_iload (dca dc_l30 2 rfl) rfl) ?_
  refine rcons (ro_iconst (n := 1) (dca dc_l30 3 rfl) rfl rfl) ?_
  refine rcons (ro_iadd (dca dc_l30 4 rfl) rfl) ?_
  refine rcons (ro_isc (fun _ h => h) (dca dc_l30 5 rfl) rfl) ?_
  refine rcons (ro_aload_n (k := 0) rfl (dca dc_l30 6 rfl) rfl) ?_
  refine rcons (ro_iload (dca dc_l30 7 rfl) rfl) ?_
  refine rcons (ro_iconst (n := 2) (dca dc_l30 8 rfl) rfl rfl) ?_
  refine rcons (ro_iadd (dca dc_l30 9 rfl) rfl) ?_
  refine rcons (ro_isc (fun _ h => h) (dca dc_l30 10 rfl) rfl) ?_
  refine rcons (ro_aload_n (k := 3) rfl (dca dc_l30 11 rfl) rfl) ?_
  refine rcons (ro_callSX ok_w_monthSwap (dca dc_l30 12 rfl) rfl (fun s args ht => vx_cwSW 4 ht (rgoodS (fun w h => List.mem_cons_of_mem _ h) q_830 q_831 q_12 q_832) rfl rfl rfl hy_w_monthSwap ⟨Nat.le_of_ble_eq_true rfl, Nat.le_of_ble_eq_true rfl⟩) rfl) ?_
  refine rcons (ro_istore (dca dc_l30 13 rfl) rfl) ?_
  refine rcons (ro_aload_n (k := 2) rfl (dca dc_l30 14 rfl) rfl) ?_
  refine rcons (ro_aload_n (k := 0) rfl (dca dc_l30 15 rfl) rfl) ?_
  refine rcons (ro_iload (dca dc_l30 16 rfl) rfl) ?_
  refine rcons (ro_iconst (n := 1) (dca dc_l30 17 rfl) rfl rfl) ?_
  refine rcons (ro_iadd (dca dc_l30 18 rfl) rfl) ?_
  refine rcons (ro_isc (fun _ h => h) (dca dc_l30 19 rfl) rfl) ?_
  refine rcons (ro_aload_n (k := 0) rfl (dca dc_l30 20 rfl) rfl) ?_
  refine rcons (ro_iload (dca dc_l30 21 rfl) rfl) ?_
  refine rcons (ro_iconst (n := 2) (dca dc_l30 22 rfl) rfl rfl) ?_
  refine rcons (ro_iadd (dca dc_l30 23 rfl) rfl) ?_
  refine rcons (ro_isc (fun _ h => h) (dca dc_l30 24 rfl) rfl) ?_
  refine rcons (ro_callVH (C := rN1) (T := rF1) (N := 7) rfl ok_d_monthSwap (dca dc_l30 25 rfl) trivial (by decide) (fun s args ht => cwV (C := rN1) 2 ht (rgoodV (C := rN1) (fun w h => List.mem_cons_of_mem _ h) q_1167 q_1168 q_1169 q_14 q_1170) rfl rfl rfl hv_d_monthSwap ⟨Nat.le_of_ble_eq_true rfl, Nat.le_of_ble_eq_true rfl⟩) rfl) ?_
  refine rcons (ro_istore (dca dc_l30 26 rfl) rfl) ?_
  refine rcons (ro_goto (off := 861) (dca dc_l30 27 rfl) rfl) ?_
  refine rcons (ro_stop) ?_
  exact rnil
def dl_l31 : List (Nat × Instr × Nat) := [(1628, .aload_n 1, 1), (1629, .aload_n 0, 1), (1630, .iload 4, 2), (1632, .iconst 1, 1), (1633, .iadd, 1), (1634, .iaload, 1), (1635, .aload_n 0, 1), (1636, .iload 4, 2), (1638, .iconst 2, 1), (1639, .iadd, 1), (1640, .iaload, 1), (1641, .aload_n 3, 1), (1642, .invokestatic 288, 3), (1645, .istore 5, 2), (1647, .aload_n 2, 1), (1648, .aload_n 0, 1), (1649, .iload 4, 2), (1651, .iconst 1, 1), (1652, .iadd, 1), (1653, .iaload, 1), (1654, .aload_n 0, 1), (1655, .iload 4, 2), (1657, .iconst 2, 1), (1658, .iadd, 1), (1659, .iaload, 1), (1660, .invokevirtual 290, 3), (1663, .istore 6, 2), (1665, .goto 821, 3)]
theorem dc_l31 : ∀ (k : Nat) (q : Nat × Instr × Nat), dl_l31[k]? = some q → decode code q.1 = .ok q.2 := dchk_at (a := 1628) (by decide +kernel)
def ps_l31 : List Nat := [1628, 1629, 1630, 1632, 1633, 1634, 1635, 1636, 1638, 1639, 1640, 1641, 1642, 1645, 1647, 1648, 1649, 1651, 1652, 1653, 1654, 1655, 1657, 1658, 1659, 1660, 1663, 1665, 2486]
def tb_l31 (L : Nat) (xs : Nat → Int32) (i : Int32) (g1 : Bool) (v1 : Int32) (g2 : Bool) (v2 : Int32) (g3 : Bool) (v3 : Int32) (g4 : Bool) (v4 : Int32) (z2 z3 z4 : Bool) : List RT := [tq_al 1, tq_al 0, tq_il 4, tq_ic 1, tq_i2 (fun x y => x + y), tq_isc L xs g1 v1, tq_al 0, tq_il 4, tq_ic 2, tq_i2 (fun x y => x + y), tq_isc L xs g2 v2, tq_al 3, tq_callH m_w_monthOrder 4 2 1000 [], tq_is 7 5, tq_al 2, tq_al 0, tq_il 4, tq_ic 1, tq_i2 (fun x y => x + y), tq_isc L xs g1 v1, tq_al 0, tq_il 4, tq_ic 2, tq_i2 (fun x y => x + y), tq_isc L xs g2 v2, tq_callH (rV 1 m_d_monthOrder) 3 0 1000 [], tq_is 7 6, tq_go 28, tq_stop i]
set_option maxHeartbeats 4000000 in
set_option maxRecDepth 20000 in
theorem ok_l31 (L : Nat) (xs : Nat → Int32) (i : Int32) (g1 : Bool) (v1 : Int32) (g2 : Bool) (v2 : Int32) (g3 : Bool) (v3 : Int32) (g4 : Bool) (v4 : Int32) (z2 z3 z4 : Bool) : rAll (rOk (fun G => rSc G = (L, xs)) code "RingdaysLaw" 7 rTL room_1 [] 1000 (.inr (2486, i)) (fun o => ps_l31.getD o 0)) ps_l31 (tb_l31 L xs i g1 v1 g2 v2 g3 v3 g4 v4 z2 z3 z4) := by
  refine rcons (ro_aload_n (k := 1) rfl (dca dc_l31 0 rfl) rfl) ?_
  refine rcons (ro_aload_n (k := 0) rfl (dca dc_l31 1 rfl) rfl) ?_
  refine rcons (ro_iload (dca dc_l31 2 rfl) rfl) ?_
  refine rcons (ro_iconst (n := 1) (dca dc_l31 3 rfl) rfl rfl) ?_
  refine rcons (ro_iadd (dca dc_l31 4 rfl) rfl) ?_
  refine rcons (ro_isc (fun _ h => h) (dca dc_l31 5 rfl) rfl) ?_
  refine rcons (ro_aload_n (k := 0) rfl (dca dc_l31 6 rfl) rfl) ?_
  refine rcons (ro_iload (dca dc_l31 7 rfl) rfl) ?_
  refine rcons (ro_iconst (n := 2) (dca dc_l31 8 rfl) rfl rfl) ?_
  refine rcons (ro_iadd (dca dc_l31 9 rfl) rfl) ?_
  refine rcons (ro_isc (fun _ h => h) (dca dc_l31 10 rfl) rfl) ?_
  refine rcons (ro_aload_n (k := 3) rfl (dca dc_l31 11 rfl) rfl) ?_
  refine rcons (ro_callSX ok_w_monthOrder (dca dc_l31 12 rfl) rfl (fun s args ht => vx_cwSW 4 ht (rgoodS (fun w h => List.mem_cons_of_mem _ h) q_837 q_838 q_12 q_839) rfl rfl rfl hy_w_monthOrder ⟨Nat.le_of_ble_eq_true rfl, Nat.le_of_ble_eq_true rfl⟩) rfl) ?_
  refine rcons (ro_istore (dca dc_l31 13 rfl) rfl) ?_
  refine rcons (ro_aload_n (k := 2) rfl (dca dc_l31 14 rfl) rfl) ?_
  refine rcons (ro_aload_n (k := 0) rfl (dca dc_l31 15 rfl) rfl) ?_
  refine rcons (ro_iload (dca dc_l31 16 rfl) rfl) ?_
  refine rcons (ro_iconst (n := 1) (dca dc_l31 17 rfl) rfl rfl) ?_
  refine rcons (ro_iadd (dca dc_l31 18 rfl) rfl) ?_
  refine rcons (ro_isc (fun _ h => h) (dca dc_l31 19 rfl) rfl) ?_
  refine rcons (ro_aload_n (k := 0) rfl (dca dc_l31 20 rfl) rfl) ?_
  refine rcons (ro_iload (dca dc_l31 21 rfl) rfl) ?_
  refine rcons (ro_iconst (n := 2) (dca dc_l31 22 rfl) rfl rfl) ?_
  refine rcons (ro_iadd (dca dc_l31 23 rfl) rfl) ?_
  refine rcons (ro_isc (fun _ h => h) (dca dc_l31 24 rfl) rfl) ?_
  refine rcons (ro_callVH (C := rN1) (T := rF1) (N := 7) rfl ok_d_monthOrder (dca dc_l31 25 rfl) trivial (by decide) (fun s args ht => cwV (C := rN1) 2 ht (rgoodV (C := rN1) (fun w h => List.mem_cons_of_mem _ h) q_1171 q_1172 q_1173 q_14 q_1174) rfl rfl rfl hv_d_monthOrder ⟨Nat.le_of_ble_eq_true rfl, Nat.le_of_ble_eq_true rfl⟩) rfl) ?_
  refine rcons (ro_istore (dca dc_l31 26 rfl) rfl) ?_
  refine rcons (ro_goto (off := 821) (dca dc_l31 27 rfl) rfl) ?_
  refine rcons (ro_stop) ?_
  exact rnil
def dl_l32 : List (Nat × Instr × Nat) := [(1668, .aload_n 1, 1), (1669, .aload_n 0, 1), (1670, .iload 4, 2), (1672, .iconst 1, 1), (1673, .iadd, 1), (1674, .iaload, 1), (1675, .aload_n 0, 1), (1676, .iload 4, 2), (1678, .iconst 2, 1), (1679, .iadd, 1), (1680, .iaload, 1), (1681, .aload_n 3, 1), (1682, .invokestatic 291, 3), (1685, .istore 5, 2), (1687, .aload_n 2, 1), (1688, .aload_n 0, 1), (1689, .iload 4, 2), (1691, .iconst 1, 1), (1692, .iadd, 1), (1693, .iaload, 1), (1694, .aload_n 0, 1), (1695, .iload 4, 2), (1697, .iconst 2, 1), (1698, .iadd, 1), (1699, .iaload, 1), (1700, .invokevirtual 293, 3), (1703, .istore 6, 2), (1705, .goto 781, 3)]
theorem dc_l32 : ∀ (k : Nat) (q : Nat × Instr × Nat), dl_l32[k]? = some q → decode code q.1 = .ok q.2 := dchk_at (a := 1668) (by decide +kernel)
def ps_l32 : List Nat := [1668, 1669, 1670, 1672, 1673, 1674, 1675, 1676, 1678, 1679, 1680, 1681, 1682, 1685, 1687, 1688, 1689, 1691, 1692, 1693, 1694, 1695, 1697, 1698, 1699, 1700, 1703, 1705, 2486]
def tb_l32 (L : Nat) (xs : Nat → Int32) (i : Int32) (g1 : Bool) (v1 : Int32) (g2 : Bool) (v2 : Int32) (g3 : Bool) (v3 : Int32) (g4 : Bool) (v4 : Int32) (z2 z3 z4 : Bool) : List RT := [tq_al 1, tq_al 0, tq_il 4, tq_ic 1, tq_i2 (fun x y => x + y), tq_isc L xs g1 v1, tq_al 0, tq_il 4, tq_ic 2, tq_i2 (fun x y => x + y), tq_isc L xs g2 v2, tq_al 3, tq_callH m_w_isSameMonth 4 2 1000 [], tq_is 7 5, tq_al 2, tq_al 0, tq_il 4, tq_ic 1, tq_i2 (fun x y => x + y), tq_isc L xs g1 v1, tq_al 0, tq_il 4, tq_ic 2, tq_i2 (fun x y => x + y), tq_isc L xs g2 v2, tq_callH (rV 1 m_d_isSameMonth) 3 0 1000 [], tq_is 7 6, tq_go 28, tq_stop i]
set_option maxHeartbeats 4000000 in
set_option maxRecDepth 20000 in
theorem ok_l32 (L : Nat) (xs : Nat → Int32) (i : Int32) (g1 : Bool) (v1 : Int32) (g2 : Bool) (v2 : Int32) (g3 : Bool) (v3 : Int32) (g4 : Bool) (v4 : Int32) (z2 z3 z4 : Bool) : rAll (rOk (fun G => rSc G = (L, xs)) code "RingdaysLaw" 7 rTL room_1 [] 1000 (.inr (2486, i)) (fun o => ps_l32.getD o 0)) ps_l32 (tb_l32 L xs i g1 v1 g2 v2 g3 v3 g4 v4 z2 z3 z4) := by
  refine rcons (ro_aload_n (k := 1) rfl (dca dc_l32 0 rfl) rfl) ?_
  refine rcons (ro_aload_n (k := 0) rfl (dca dc_l32 1 rfl) rfl) ?_
  refine rcons (ro_iload (dca dc_l32 2 rfl) rfl) ?_
  refine rcons (ro_iconst (n := 1) (dca dc_l32 3 rfl) rfl rfl) ?_
  refine rcons (ro_iadd (dca dc_l32 4 rfl) rfl) ?_
  refine rcons (ro_isc (fun _ h => h) (dca dc_l32 5 rfl) rfl) ?_
  refine rcons (ro_aload_n (k := 0) rfl (dca dc_l32 6 rfl) rfl) ?_
  refine rcons (ro_iload (dca dc_l32 7 rfl) rfl) ?_
  refine rcons (ro_iconst (n := 2) (dca dc_l32 8 rfl) rfl rfl) ?_
  refine rcons (ro_iadd (dca dc_l32 9 rfl) rfl) ?_
  refine rcons (ro_isc (fun _ h => h) (dca dc_l32 10 rfl) rfl) ?_
  refine rcons (ro_aload_n (k := 3) rfl (dca dc_l32 11 rfl) rfl) ?_
  refine rcons (ro_callSX ok_w_isSameMonth (dca dc_l32 12 rfl) rfl (fun s args ht => vx_cwSW 4 ht (rgoodS (fun w h => List.mem_cons_of_mem _ h) q_841 q_842 q_12 q_843) rfl rfl rfl hy_w_isSameMonth ⟨Nat.le_of_ble_eq_true rfl, Nat.le_of_ble_eq_true rfl⟩) rfl) ?_
  refine rcons (ro_istore (dca dc_l32 13 rfl) rfl) ?_
  refine rcons (ro_aload_n (k := 2) rfl (dca dc_l32 14 rfl) rfl) ?_
  refine rcons (ro_aload_n (k := 0) rfl (dca dc_l32 15 rfl) rfl) ?_
  refine rcons (ro_iload (dca dc_l32 16 rfl) rfl) ?_
  refine rcons (ro_iconst (n := 1) (dca dc_l32 17 rfl) rfl rfl) ?_
  refine rcons (ro_iadd (dca dc_l32 18 rfl) rfl) ?_
  refine rcons (ro_isc (fun _ h => h) (dca dc_l32 19 rfl) rfl) ?_
  refine rcons (ro_aload_n (k := 0) rfl (dca dc_l32 20 rfl) rfl) ?_
  refine rcons (ro_iload (dca dc_l32 21 rfl) rfl) ?_
  refine rcons (ro_iconst (n := 2) (dca dc_l32 22 rfl) rfl rfl) ?_
  refine rcons (ro_iadd (dca dc_l32 23 rfl) rfl) ?_
  refine rcons (ro_isc (fun _ h => h) (dca dc_l32 24 rfl) rfl) ?_
  refine rcons (ro_callVH (C := rN1) (T := rF1) (N := 7) rfl ok_d_isSameMonth (dca dc_l32 25 rfl) trivial (by decide) (fun s args ht => cwV (C := rN1) 2 ht (rgoodV (C := rN1) (fun w h => List.mem_cons_of_mem _ h) q_1175 q_1176 q_1177 q_14 q_1178) rfl rfl rfl hv_d_isSameMonth ⟨Nat.le_of_ble_eq_true rfl, Nat.le_of_ble_eq_true rfl⟩) rfl) ?_
  refine rcons (ro_istore (dca dc_l32 26 rfl) rfl) ?_
  refine rcons (ro_goto (off := 781) (dca dc_l32 27 rfl) rfl) ?_
  refine rcons (ro_stop) ?_
  exact rnil
def dl_l33 : List (Nat × Instr × Nat) := [(1708, .aload_n 1, 1), (1709, .aload_n 0, 1), (1710, .iload 4, 2), (1712, .iconst 1, 1), (1713, .iadd, 1), (1714, .iaload, 1), (1715, .aload_n 0, 1), (1716, .iload 4, 2), (1718, .iconst 2, 1), (1719, .iadd, 1), (1720, .iaload, 1), (1721, .aload_n 3, 1), (1722, .invokestatic 294, 3), (1725, .istore 5, 2), (1727, .aload_n 2, 1), (1728, .aload_n 0, 1), (1729, .iload 4, 2), (1731, .iconst 1, 1), (1732, .iadd, 1), (1733, .iaload, 1), (1734, .aload_n 0, 1), (1735, .iload 4, 2), (1737, .iconst 2, 1), (1738, .iadd, 1), (1739, .iaload, 1), (1740, .invokevirtual 296, 3), (1743, .istore 6, 2), (1745, .goto 741, 3)]
theorem dc_l33 : ∀ (k : Nat) (q : Nat × Instr × Nat), dl_l33[k]? = some q → decode code q.1 = .ok q.2 := dchk_at (a := 1708) (by decide +kernel)
def ps_l33 : List Nat := [1708, 1709, 1710, 1712, 1713, 1714, 1715, 1716, 1718, 1719, 1720, 1721, 1722, 1725, 1727, 1728, 1729, 1731, 1732, 1733, 1734, 1735, 1737, 1738, 1739, 1740, 1743, 1745, 2486]
def tb_l33 (L : Nat) (xs : Nat → Int32) (i : Int32) (g1 : Bool) (v1 : Int32) (g2 : Bool) (v2 : Int32) (g3 : Bool) (v3 : Int32) (g4 : Bool) (v4 : Int32) (z2 z3 z4 : Bool) : List RT := [tq_al 1, tq_al 0, tq_il 4, tq_ic 1, tq_i2 (fun x y => x + y), tq_isc L xs g1 v1, tq_al 0, tq_il 4, tq_ic 2, tq_i2 (fun x y => x + y), tq_isc L xs g2 v2, tq_al 3, tq_callH m_w_isMonth 4 2 1000 [], tq_is 7 5, tq_al 2, tq_al 0, tq_il 4, tq_ic 1, tq_i2 (fun x y => x + y), tq_isc L xs g1 v1, tq_al 0, tq_il 4, tq_ic 2, tq_i2 (fun x y => x + y), tq_isc L xs g2 v2, tq_callH (rV 1 m_d_isMonth) 3 0 1000 [], tq_is 7 6, tq_go 28, tq_stop i]
set_option maxHeartbeats 4000000 in
set_option maxRecDepth 20000 in
theorem ok_l33 (L : Nat) (xs : Nat → Int32) (i : Int32) (g1 : Bool) (v1 : Int32) (g2 : Bool) (v2 : Int32) (g3 : Bool) (v3 : Int32) (g4 : Bool) (v4 : Int32) (z2 z3 z4 : Bool) : rAll (rOk (fun G => rSc G = (L, xs)) code "RingdaysLaw" 7 rTL room_1 [] 1000 (.inr (2486, i)) (fun o => ps_l33.getD o 0)) ps_l33 (tb_l33 L xs i g1 v1 g2 v2 g3 v3 g4 v4 z2 z3 z4) := by
  refine rcons (ro_aload_n (k := 1) rfl (dca dc_l33 0 rfl) rfl) ?_
  refine rcons (ro_aload_n (k := 0) rfl (dca dc_l33 1 rfl) rfl) ?_
  refine rcons (ro_iload (dca dc_l33 2 rfl) rfl) ?_
  refine rcons (ro_iconst (n := 1) (dca dc_l33 3 rfl) rfl rfl) ?_
  refine rcons (ro_iadd (dca dc_l33 4 rfl) rfl) ?_
  refine rcons (ro_isc (fun _ h => h) (dca dc_l33 5 rfl) rfl) ?_
  refine rcons (ro_aload_n (k := 0) rfl (dca dc_l33 6 rfl) rfl) ?_
  refine rcons (ro_iload (dca dc_l33 7 rfl) rfl) ?_
  refine rcons (ro_iconst (n := 2) (dca dc_l33 8 rfl) rfl rfl) ?_
  refine rcons (ro_iadd (dca dc_l33 9 rfl) rfl) ?_
  refine rcons (ro_isc (fun _ h => h) (dca dc_l33 10 rfl) rfl) ?_
  refine rcons (ro_aload_n (k := 3) rfl (dca dc_l33 11 rfl) rfl) ?_
  refine rcons (ro_callSX ok_w_isMonth (dca dc_l33 12 rfl) rfl (fun s args ht => vx_cwSW 4 ht (rgoodS (fun w h => List.mem_cons_of_mem _ h) q_848 q_849 q_12 q_850) rfl rfl rfl hy_w_isMonth ⟨Nat.le_of_ble_eq_true rfl, Nat.le_of_ble_eq_true rfl⟩) rfl) ?_
  refine rcons (ro_istore (dca dc_l33 13 rfl) rfl) ?_
  refine rcons (ro_aload_n (k := 2) rfl (dca dc_l33 14 rfl) rfl) ?_
  refine rcons (ro_aload_n (k := 0) rfl (dca dc_l33 15 rfl) rfl) ?_
  refine rcons (ro_iload (dca dc_l33 16 rfl) rfl) ?_
  refine rcons (ro_iconst (n := 1) (dca dc_l33 17 rfl) rfl rfl) ?_
  refine rcons (ro_iadd (dca dc_l33 18 rfl) rfl) ?_
  refine rcons (ro_isc (fun _ h => h) (dca dc_l33 19 rfl) rfl) ?_
  refine rcons (ro_aload_n (k := 0) rfl (dca dc_l33 20 rfl) rfl) ?_
  refine rcons (ro_iload (dca dc_l33 21 rfl) rfl) ?_
  refine rcons (ro_iconst (n := 2) (dca dc_l33 22 rfl) rfl rfl) ?_
  refine rcons (ro_iadd (dca dc_l33 23 rfl) rfl) ?_
  refine rcons (ro_isc (fun _ h => h) (dca dc_l33 24 rfl) rfl) ?_
  refine rcons (ro_callVH (C := rN1) (T := rF1) (N := 7) rfl ok_d_isMonth (dca dc_l33 25 rfl) trivial (by decide) (fun s args ht => cwV (C := rN1) 2 ht (rgoodV (C := rN1) (fun w h => List.mem_cons_of_mem _ h) q_1179 q_1180 q_1181 q_14 q_1182) rfl rfl rfl hv_d_isMonth ⟨Nat.le_of_ble_eq_true rfl, Nat.le_of_ble_eq_true rfl⟩) rfl) ?_
  refine rcons (ro_istore (dca dc_l33 26 rfl) rfl) ?_
  refine rcons (ro_goto (off := 741) (dca dc_l33 27 rfl) rfl) ?_
  refine rcons (ro_stop) ?_
  exact rnil
def dl_l34 : List (Nat × Instr × Nat) := [(1748, .aload_n 1, 1), (1749, .aload_n 0, 1), (1750, .iload 4, 2), (1752, .iconst 1, 1), (1753, .iadd, 1), (1754, .iaload, 1), (1755, .aload_n 0, 1), (1756, .iload 4, 2), (1758, .iconst 2, 1), (1759, .iadd, 1), (1760, .iaload, 1), (1761, .ifCond .eq 7, 3), (1764, .iconst 1, 1), (1765, .goto 4, 3), (1768, .iconst 0, 1), (1769, .aload_n 3, 1), (1770, .invokestatic 297, 3), (1773, .istore 5, 2), (1775, .aload_n 2, 1), (1776, .aload_n 0, 1), (1777, .iload 4, 2), (1779, .iconst 1, 1), (1780, .iadd, 1), (1781, .iaload, 1), (1782, .aload_n 0, 1), (1783, .iload 4, 2), (1785, .iconst 2, 1), (1786, .iadd, 1), (1787, .iaload, 1), (1788, .ifCond .eq 7, 3), (1791, .iconst 1, 1), (1792, .goto 4, 3), (1795, .iconst 0, 1), (1796, .invokevirtual 300, 3), (1799, .istore 6, 2), (1801, .goto 685, 3)]
theorem dc_l34 : ∀ (k : Nat) (q : Nat × Instr × Nat), dl_l34[k]? = some q → decode code q.1 = .ok q.2 := dchk_at (a := 1748) (by decide +kernel)
def ps_l34 : List Nat := [1748, 1749, 1750, 1752, 1753, 1754, 1755, 1756, 1758, 1759, 1760, 1761, 1764, 1765, 1768, 1769, 1770, 1773, 1775, 1776, 1777, 1779, 1780, 1781, 1782, 1783, 1785, 1786, 1787, 1788, 1791, 1792, 1795, 1796, 1799, 1801, 2486]
def tb_l34 (L : Nat) (xs : Nat → Int32) (i : Int32) (g1 : Bool) (v1 : Int32) (g2 : Bool) (v2 : Int32) (g3 : Bool) (v3 : Int32) (g4 : Bool) (v4 : Int32) (z2 z3 z4 : Bool) : List RT := [tq_al 1, tq_al 0, tq_il 4, tq_ic 1, tq_i2 (fun x y => x + y), tq_isc L xs g1 v1, tq_al 0, tq_il 4, tq_ic 2, tq_i2 (fun x y => x + y), tq_isc L xs g2 v2, tq_sv (fun x => decide (x = 0)) z2 1 0 15, tq_ic 1, tq_go 15, tq_ic 0, tq_al 3, tq_callH m_w_length 4 1 1000 [], tq_is 7 5, tq_al 2, tq_al 0, tq_il 4, tq_ic 1, tq_i2 (fun x y => x + y), tq_isc L xs g1 v1, tq_al 0, tq_il 4, tq_ic 2, tq_i2 (fun x y => x + y), tq_isc L xs g2 v2, tq_sv (fun x => decide (x = 0)) z2 1 0 33, tq_ic 1, tq_go 33, tq_ic 0, tq_callH (rV 1 m_d_length) 3 0 1000 [], tq_is 7 6, tq_go 36, tq_stop i]
set_option maxHeartbeats 4000000 in
set_option maxRecDepth 20000 in
theorem ok_l34 (L : Nat) (xs : Nat → Int32) (i : Int32) (g1 : Bool) (v1 : Int32) (g2 : Bool) (v2 : Int32) (g3 : Bool) (v3 : Int32) (g4 : Bool) (v4 : Int32) (z2 z3 z4 : Bool) : rAll (rOk (fun G => rSc G = (L, xs)) code "RingdaysLaw" 7 rTL room_1 [] 1000 (.inr (2486, i)) (fun o => ps_l34.getD o 0)) ps_l34 (tb_l34 L xs i g1 v1 g2 v2 g3 v3 g4 v4 z2 z3 z4) := by
  refine rcons (ro_aload_n (k := 1) rfl (dca dc_l34 0 rfl) rfl) ?_
  refine rcons (ro_aload_n (k := 0) rfl (dca dc_l34 1 rfl) rfl) ?_
  refine rcons (ro_iload (dca dc_l34 2 rfl) rfl) ?_
  refine rcons (ro_iconst (n := 1) (dca dc_l34 3 rfl) rfl rfl) ?_
  refine rcons (ro_iadd (dca dc_l34 4 rfl) rfl) ?_
  refine rcons (ro_isc (fun _ h => h) (dca dc_l34 5 rfl) rfl) ?_
  refine rcons (ro_aload_n (k := 0) rfl (dca dc_l34 6 rfl) rfl) ?_
  refine rcons (ro_iload (dca dc_l34 7 rfl) rfl) ?_
  refine rcons (ro_iconst (n := 2) (dca dc_l34 8 rfl) rfl rfl) ?_
  refine rcons (ro_iadd (dca dc_l34 9 rfl) rfl) ?_
  refine rcons (ro_isc (fun _ h => h) (dca dc_l34 10 rfl) rfl) ?_
  refine rcons (ro_sv (ro_s1_eq (off := 7) (off2 := 4) (n1 := 1) (n2 := 0) (dca dc_l34 11 rfl) (dca dc_l34 12 rfl) rfl (dca dc_l34 13 rfl) (dca dc_l34 14 rfl) rfl rfl rfl rfl)) ?_
  refine rcons (ro_iconst (n := 1) (dca dc_l34 12 rfl) rfl rfl) ?_
  refine rcons (ro_goto (off := 4) (dca dc_l34 13 rfl) rfl) ?_
  refine rcons (ro_iconst (n := 0) (dca dc_l34 14 rfl) rfl rfl) ?_
  refine rcons (ro_aload_n (k := 3) rfl (dca dc_l34 15 rfl) rfl) ?_
  refine rcons (ro_callSX ok_w_length (dca dc_l34 16 rfl) rfl (fun s args ht => vx_cwSW 4 ht (rgoodS (fun w h => List.mem_cons_of_mem _ h) q_855 q_856 q_12 q_857) rfl rfl rfl hy_w_length ⟨Nat.le_of_ble_eq_true rfl, Nat.le_of_ble_eq_true rfl⟩) rfl) ?_
  refine rcons (ro_istore (dca dc_l34 17 rfl) rfl) ?_
  refine rcons (ro_aload_n (k := 2) rfl (dca dc_l34 18 rfl) rfl) ?_
  refine rcons (ro_aload_n (k := 0) rfl (dca dc_l34 19 rfl) rfl) ?_
  refine rcons (ro_iload (dca dc_l34 20 rfl) rfl) ?_
  refine rcons (ro_iconst (n := 1) (dca dc_l34 21 rfl) rfl rfl) ?_
  refine rcons (ro_iadd (dca dc_l34 22 rfl) rfl) ?_
  refine rcons (ro_isc (fun _ h => h) (dca dc_l34 23 rfl) rfl) ?_
  refine rcons (ro_aload_n (k := 0) rfl (dca dc_l34 24 rfl) rfl) ?_
  refine rcons (ro_iload (dca dc_l34 25 rfl) rfl) ?_
  refine rcons (ro_iconst (n := 2) (dca dc_l34 26 rfl) rfl rfl) ?_
  refine rcons (ro_iadd (dca dc_l34 27 rfl) rfl) ?_
  refine rcons (ro_isc (fun _ h => h) (dca dc_l34 28 rfl) rfl) ?_
  refine rcons (ro_sv (ro_s1_eq (off := 7) (off2 := 4) (n1 := 1) (n2 := 0) (dca dc_l34 29 rfl) (dca dc_l34 30 rfl) rfl (dca dc_l34 31 rfl) (dca dc_l34 32 rfl) rfl rfl rfl rfl)) ?_
  refine rcons (ro_iconst (n := 1) (dca dc_l34 30 rfl) rfl rfl) ?_
  refine rcons (ro_goto (off := 4) (dca dc_l34 31 rfl) rfl) ?_
  refine rcons (ro_iconst (n := 0) (dca dc_l34 32 rfl) rfl rfl) ?_
  refine rcons (ro_callVH (C := rN1) (T := rF1) (N := 7) rfl ok_d_length (dca dc_l34 33 rfl) trivial (by decide) (fun s args ht => cwV (C := rN1) 2 ht (rgoodV (C := rN1) (fun w h => List.mem_cons_of_mem _ h) q_1183 q_1184 q_1185 q_14 q_1186) rfl rfl rfl hv_d_length ⟨Nat.le_of_ble_eq_true rfl, Nat.le_of_ble_eq_true rfl⟩) rfl) ?_
  refine rcons (ro_istore (dca dc_l34 34 rfl) rfl) ?_
  refine rcons (ro_goto (off := 685) (dca dc_l34 35 rfl) rfl) ?_
  refine rcons (ro_stop) ?_
  exact rnil
def dl_l35 : List (Nat × Instr × Nat) := [(1804, .aload_n 1, 1), (1805, .aload_n 0, 1), (1806, .iload 4, 2), (1808, .iconst 1, 1), (1809, .iadd, 1), (1810, .iaload, 1), (1811, .aload_n 3, 1), (1812, .invokestatic 301, 3), (1815, .istore 5, 2), (1817, .aload_n 2, 1), (1818, .aload_n 0, 1), (1819, .iload 4, 2), (1821, .iconst 1, 1), (1822, .iadd, 1), (1823, .iaload, 1), (1824, .invokevirtual 303, 3), (1827, .istore 6, 2), (1829, .goto 657, 3)]
theorem dc_l35 : ∀ (k : Nat) (q : Nat × Instr × Nat), dl_l35[k]? = some q → decode code q.1 = .ok q.2 := dchk_at (a := 1804) (by decide +kernel)
def ps_l35 : List Nat := [1804, 1805, 1806, 1808, 1809, 1810, 1811, 1812, 1815, 1817, 1818, 1819, 1821, 1822, 1823, 1824, 1827, 1829, 2486]
def tb_l35 (L : Nat) (xs : Nat → Int32) (i : Int32) (g1 : Bool) (v1 : Int32) (g2 : Bool) (v2 : Int32) (g3 : Bool) (v3 : Int32) (g4 : Bool) (v4 : Int32) (z2 z3 z4 : Bool) : List RT := [tq_al 1, tq_al 0, tq_il 4, tq_ic 1, tq_i2 (fun x y => x + y), tq_isc L xs g1 v1, tq_al 3, tq_callH m_w_least 3 1 1000 [], tq_is 7 5, tq_al 2, tq_al 0, tq_il 4, tq_ic 1, tq_i2 (fun x y => x + y), tq_isc L xs g1 v1, tq_callH (rV 1 m_d_least) 2 0 1000 [], tq_is 7 6, tq_go 18, tq_stop i]
set_option maxHeartbeats 4000000 in
set_option maxRecDepth 20000 in
theorem ok_l35 (L : Nat) (xs : Nat → Int32) (i : Int32) (g1 : Bool) (v1 : Int32) (g2 : Bool) (v2 : Int32) (g3 : Bool) (v3 : Int32) (g4 : Bool) (v4 : Int32) (z2 z3 z4 : Bool) : rAll (rOk (fun G => rSc G = (L, xs)) code "RingdaysLaw" 7 rTL room_1 [] 1000 (.inr (2486, i)) (fun o => ps_l35.getD o 0)) ps_l35 (tb_l35 L xs i g1 v1 g2 v2 g3 v3 g4 v4 z2 z3 z4) := by
  refine rcons (ro_aload_n (k := 1) rfl (dca dc_l35 0 rfl) rfl) ?_
  refine rcons (ro_aload_n (k := 0) rfl (dca dc_l35 1 rfl) rfl) ?_
  refine rcons (ro_iload (dca dc_l35 2 rfl) rfl) ?_
  refine rcons (ro_iconst (n := 1) (dca dc_l35 3 rfl) rfl rfl) ?_
  refine rcons (ro_iadd (dca dc_l35 4 rfl) rfl) ?_
  refine rcons (ro_isc (fun _ h => h) (dca dc_l35 5 rfl) rfl) ?_
  refine rcons (ro_aload_n (k := 3) rfl (dca dc_l35 6 rfl) rfl) ?_
  refine rcons (ro_callSX ok_w_least (dca dc_l35 7 rfl) rfl (fun s args ht => vx_cwSW 3 ht (rgoodS (fun w h => List.mem_cons_of_mem _ h) q_862 q_863 q_12 q_864) rfl rfl rfl hy_w_least ⟨Nat.le_of_ble_eq_true rfl, Nat.le_of_ble_eq_true rfl⟩) rfl) ?_
  refine rcons (ro_istore (dca dc_l35 8 rfl) rfl) ?_
  refine rcons (ro_aload_n (k := 2) rfl (dca dc_l35 9 rfl) rfl) ?_
  refine rcons (ro_aload_n (k := 0) rfl (dca dc_l35 10 rfl) rfl) ?_
  refine rcons (ro_iload (dca dc_l35 11 rfl) rfl) ?_
  refine rcons (ro_iconst (n := 1) (dca dc_l35 12 rfl) rfl rfl) ?_
  refine rcons (ro_iadd (dca dc_l35 13 rfl) rfl) ?_
  refine rcons (ro_isc (fun _ h => h) (dca dc_l35 14 rfl) rfl) ?_
  refine rcons (ro_callVH (C := rN1) (T := rF1) (N := 7) rfl ok_d_least (dca dc_l35 15 rfl) trivial (by decide) (fun s args ht => cwV (C := rN1) 1 ht (rgoodV (C := rN1) (fun w h => List.mem_cons_of_mem _ h) q_1192 q_1193 q_1194 q_14 q_1195) rfl rfl rfl hv_d_least ⟨Nat.le_of_ble_eq_true rfl, Nat.le_of_ble_eq_true rfl⟩) rfl) ?_
  refine rcons (ro_istore (dca dc_l35 16 rfl) rfl) ?_
  refine rcons (ro_goto (off := 657) (dca dc_l35 17 rfl) rfl) ?_
  refine rcons (ro_stop) ?_
  exact rnil
end RKM
