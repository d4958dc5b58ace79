section RKM
def ps_l18 : List Nat := [1032, 1033, 1034, 1036, 1037, 1038, 1039, 1040, 1043, 1045, 1046, 1047, 1049, 1050, 1051, 1052, 1055, 1057, 2450]
def tb_l18 (L : Nat) (xs : Nat → Int32) (i : Int32) (g1 : Bool) (v1 : Int32) (g2 : Bool) (v2 : Int32) (g3 : Bool) (v3 : Int32) (g4 : Bool) (v4 : Int32) (z2 z3 z4 : Bool) : List RT := [tq_al 1, tq_al 0, tq_il 4, tq_ic 1, tq_i2 (fun x y => x + y), tq_isc L xs g1 v1, tq_al 3, tq_callH m_w_monthNumber 3 1 1171 [], tq_is 7 5, tq_al 2, tq_al 0, tq_il 4, tq_ic 1, tq_i2 (fun x y => x + y), tq_isc L xs g1 v1, tq_callH (rV 1 m_d_monthNumber) 2 0 1171 [], tq_is 7 6, tq_go 18, tq_stop i]
set_option maxHeartbeats 4000000 in
set_option maxRecDepth 20000 in
theorem ok_l18 (L : Nat) (xs : Nat → Int32) (i : Int32) (g1 : Bool) (v1 : Int32) (g2 : Bool) (v2 : Int32) (g3 : Bool) (v3 : Int32) (g4 : Bool) (v4 : Int32) (z2 z3 z4 : Bool) : rAll (rOk (fun G => rSc G = (L, xs)) code "RingdaysLaw" 7 rTL room_1 [] 1171 (.inr (2450, i)) (fun o => ps_l18.getD o 0)) ps_l18 (tb_l18 L xs i g1 v1 g2 v2 g3 v3 g4 v4 z2 z3 z4) := by
  refine rcons (ro_aload_n (k := 1) rfl (by decide +kernel) rfl) ?_
  refine rcons (ro_aload_n (k := 0) rfl (by decide +kernel) rfl) ?_
  refine rcons (ro_iload (by decide +kernel) rfl) ?_
  refine rcons (ro_iconst (n := 1) (by decide +kernel) rfl rfl) ?_
  refine rcons (ro_iadd (by decide +kernel) rfl) ?_
  refine rcons (ro_isc (fun _ h => h) (by decide +kernel) rfl) ?_
  refine rcons (ro_aload_n (k := 3) rfl (by decide +kernel) rfl) ?_
  refine rcons (ro_callSX ok_w_monthNumber (by decide +kernel) rfl (fun s args ht => vx_cwSW 3 ht (rgoodS (fun w h => List.mem_cons_of_mem _ h) q_743 q_744 q_12 q_745) rfl rfl rfl hy_w_monthNumber ⟨Nat.le_of_ble_eq_true rfl, Nat.le_of_ble_eq_true rfl⟩) rfl) ?_
  refine rcons (ro_istore (by decide +kernel) rfl) ?_
  refine rcons (ro_aload_n (k := 2) rfl (by decide +kernel) rfl) ?_
  refine rcons (ro_aload_n (k := 0) rfl (by decide +kernel) rfl) ?_
  refine rcons (ro_iload (by decide +kernel) rfl) ?_
  refine rcons (ro_iconst (n := 1) (by decide +kernel) rfl rfl) ?_
  refine rcons (ro_iadd (by decide +kernel) rfl) ?_
  refine rcons (ro_isc (fun _ h => h) (by decide +kernel) rfl) ?_
  refine rcons (ro_callVH (C := rN1) (T := rF1) (N := 7) rfl ok_d_monthNumber (by decide +kernel) trivial (by decide) (fun s args ht => cwV (C := rN1) 1 ht (rgoodV (C := rN1) (fun w h => List.mem_cons_of_mem _ h) q_1109 q_1110 q_1111 q_14 q_1112) rfl rfl rfl hv_d_monthNumber ⟨Nat.le_of_ble_eq_true rfl, Nat.le_of_ble_eq_true rfl⟩) rfl) ?_
  refine rcons (ro_istore (by decide +kernel) rfl) ?_
  refine rcons (ro_goto (off := 1393) (by decide +kernel) rfl) ?_
  refine rcons (ro_stop) ?_
  exact rnil
def ps_l19 : List Nat := [1060, 1061, 1062, 1064, 1065, 1066, 1067, 1068, 1071, 1073, 1074, 1075, 1077, 1078, 1079, 1080, 1083, 1085, 2450]
def tb_l19 (L : Nat) (xs : Nat → Int32) (i : Int32) (g1 : Bool) (v1 : Int32) (g2 : Bool) (v2 : Int32) (g3 : Bool) (v3 : Int32) (g4 : Bool) (v4 : Int32) (z2 z3 z4 : Bool) : List RT := [tq_al 1, tq_al 0, tq_il 4, tq_ic 1, tq_i2 (fun x y => x + y), tq_isc L xs g1 v1, tq_al 3, tq_callH m_w_monthPlace 3 1 1171 [], tq_is 7 5, tq_al 2, tq_al 0, tq_il 4, tq_ic 1, tq_i2 (fun x y => x + y), tq_isc L xs g1 v1, tq_callH (rV 1 m_d_monthPlace) 2 0 1171 [], tq_is 7 6, tq_go 18, tq_stop i]
set_option maxHeartbeats 4000000 in
set_option maxRecDepth 20000 in
theorem ok_l19 (L : Nat) (xs : Nat → Int32) (i : Int32) (g1 : Bool) (v1 : Int32) (g2 : Bool) (v2 : Int32) (g3 : Bool) (v3 : Int32) (g4 : Bool) (v4 : Int32) (z2 z3 z4 : Bool) : rAll (rOk (fun G => rSc G = (L, xs)) code "RingdaysLaw" 7 rTL room_1 [] 1171 (.inr (2450, i)) (fun o => ps_l19.getD o 0)) ps_l19 (tb_l19 L xs i g1 v1 g2 v2 g3 v3 g4 v4 z2 z3 z4) := by
  refine rcons (ro_aload_n (k := 1) rfl (by decide +kernel) rfl) ?_
  refine rcons (ro_aload_n (k := 0) rfl (by decide +kernel) rfl) ?_
  refine rcons (ro_iload (by decide +kernel) rfl) ?_
  refine rcons (ro_iconst (n := 1) (by decide +kernel) rfl rfl) ?_
  refine rcons (ro_iadd (by decide +kernel) rfl) ?_
  refine rcons (ro_isc (fun _ h => h) (by decide +kernel) rfl) ?_
  refine rcons (ro_aload_n (k := 3) rfl (by decide +kernel) rfl) ?_
  refine rcons (ro_callSX ok_w_monthPlace (by decide +kernel) rfl (fun s args ht => vx_cwSW 3 ht (rgoodS (fun w h => List.mem_cons_of_mem _ h) q_750 q_751 q_12 q_752) rfl rfl rfl hy_w_monthPlace ⟨Nat.le_of_ble_eq_true rfl, Nat.le_of_ble_eq_true rfl⟩) rfl) ?_
  refine rcons (ro_istore (by decide +kernel) rfl) ?_
  refine rcons (ro_aload_n (k := 2) rfl (by decide +kernel) rfl) ?_
  refine rcons (ro_aload_n (k := 0) rfl (by decide +kernel) rfl) ?_
  refine rcons (ro_iload (by decide +kernel) rfl) ?_
  refine rcons (ro_iconst (n := 1) (by decide +kernel) rfl rfl) ?_
  refine rcons (ro_iadd (by decide +kernel) rfl) ?_
  refine rcons (ro_isc (fun _ h => h) (by decide +kernel) rfl) ?_
  refine rcons (ro_callVH (C := rN1) (T := rF1) (N := 7) rfl ok_d_monthPlace (by decide +kernel) trivial (by decide) (fun s args ht => cwV (C := rN1) 1 ht (rgoodV (C := rN1) (fun w h => List.mem_cons_of_mem _ h) q_1113 q_1114 q_1115 q_14 q_1116) rfl rfl rfl hv_d_monthPlace ⟨Nat.le_of_ble_eq_true rfl, Nat.le_of_ble_eq_true rfl⟩) rfl) ?_
  refine rcons (ro_istore (by decide +kernel) rfl) ?_
  refine rcons (ro_goto (off := 1365) (by decide +kernel) rfl) ?_
  refine rcons (ro_stop) ?_
  exact rnil
def ps_l20 : List Nat := [1088, 1089, 1090, 1092, 1093, 1094, 1095, 1096, 1099, 1101, 1102, 1103, 1105, 1106, 1107, 1108, 1111, 1113, 2450]
def tb_l20 (L : Nat) (xs : Nat → Int32) (i : Int32) (g1 : Bool) (v1 : Int32) (g2 : Bool) (v2 : Int32) (g3 : Bool) (v3 : Int32) (g4 : Bool) (v4 : Int32) (z2 z3 z4 : Bool) : List RT := [tq_al 1, tq_al 0, tq_il 4, tq_ic 1, tq_i2 (fun x y => x + y), tq_isc L xs g1 v1, tq_al 3, tq_callH m_w_monthName 3 1 1171 [], tq_is 7 5, tq_al 2, tq_al 0, tq_il 4, tq_ic 1, tq_i2 (fun x y => x + y), tq_isc L xs g1 v1, tq_callH (rV 1 m_d_monthName) 2 0 1171 [], tq_as 7 6, tq_go 18, tq_stop i]
set_option maxHeartbeats 4000000 in
set_option maxRecDepth 20000 in
theorem ok_l20 (L : Nat) (xs : Nat → Int32) (i : Int32) (g1 : Bool) (v1 : Int32) (g2 : Bool) (v2 : Int32) (g3 : Bool) (v3 : Int32) (g4 : Bool) (v4 : Int32) (z2 z3 z4 : Bool) : rAll (rOk (fun G => rSc G = (L, xs)) code "RingdaysLaw" 7 rTL room_1 [] 1171 (.inr (2450, i)) (fun o => ps_l20.getD o 0)) ps_l20 (tb_l20 L xs i g1 v1 g2 v2 g3 v3 g4 v4 z2 z3 z4) := by
  refine rcons (ro_aload_n (k := 1) rfl (by decide +kernel) rfl) ?_
  refine rcons (ro_aload_n (k := 0) rfl (by decide +kernel) rfl) ?_
  refine rcons (ro_iload (by decide +kernel) rfl) ?_
  refine rcons (ro_iconst (n := 1) (by decide +kernel) rfl rfl) ?_
  refine rcons (ro_iadd (by decide +kernel) rfl) ?_
  refine rcons (ro_isc (fun _ h => h) (by decide +kernel) rfl) ?_
  refine rcons (ro_aload_n (k := 3) rfl (by decide +kernel) rfl) ?_
  refine rcons (ro_callSX ok_w_monthName (by decide +kernel) rfl (fun s args ht => vx_cwSW 3 ht (rgoodS (fun w h => List.mem_cons_of_mem _ h) q_757 q_758 q_12 q_759) rfl rfl rfl hy_w_monthName ⟨Nat.le_of_ble_eq_true rfl, Nat.le_of_ble_eq_true rfl⟩) rfl) ?_
  refine rcons (ro_istore (by decide +kernel) rfl) ?_
  refine rcons (ro_aload_n (k := 2) rfl (by decide +kernel) rfl) ?_
  refine rcons (ro_aload_n (k := 0) rfl (by decide +kernel) rfl) ?_
  refine rcons (ro_iload (by decide +kernel) rfl) ?_
  refine rcons (ro_iconst (n := 1) (by decide +kernel) rfl rfl) ?_
  refine rcons (ro_iadd (by decide +kernel) rfl) ?_
  refine rcons (ro_isc (fun _ h => h) (by decide +kernel) rfl) ?_
  refine rcons (ro_callVH (C := rN1) (T := rF1) (N := 7) rfl ok_d_monthName (by decide +kernel) trivial (by decide) (fun s args ht => cwV (C := rN1) 1 ht (rgoodV (C := rN1) (fun w h => List.mem_cons_of_mem _ h) q_1117 q_1118 q_1119 q_14 q_1120) rfl rfl rfl hv_d_monthName ⟨Nat.le_of_ble_eq_true rfl, Nat.le_of_ble_eq_true rfl⟩) rfl) ?_
  refine rcons (ro_astore (by decide +kernel) rfl) ?_
  refine rcons (ro_goto (off := 1337) (by decide +kernel) rfl) ?_
  refine rcons (ro_stop) ?_
  exact rnil
def ps_l21 : List Nat := [1116, 1117, 1118, 1120, 1121, 1122, 1123, 1124, 1126, 1127, 1128, 1129, 1130, 1133, 1135, 1136, 1137, 1139, 1140, 1141, 1142, 1143, 1145, 1146, 1147, 1148, 1151, 1153, 2450]
def tb_l21 (L : Nat) (xs : Nat → Int32) (i : Int32) (g1 : Bool) (v1 : Int32) (g2 : Bool) (v2 : Int32) (g3 : Bool) (v3 : Int32) (g4 : Bool) (v4 : Int32) (z2 z3 z4 : Bool) : List RT := [tq_al 1, tq_al 0, tq_il 4, tq_ic 1, tq_i2 (fun x y => x + y), tq_isc L xs g1 v1, tq_al 0, tq_il 4, tq_ic 2, tq_i2 (fun x y => x + y), tq_isc L xs g2 v2, tq_al 3, tq_callH m_w_monthOn 4 2 1171 [], tq_is 7 5, tq_al 2, tq_al 0, tq_il 4, tq_ic 1, tq_i2 (fun x y => x + y), tq_isc L xs g1 v1, tq_al 0, tq_il 4, tq_ic 2, tq_i2 (fun x y => x + y), tq_isc L xs g2 v2, tq_callH (rV 1 m_d_monthOn) 3 0 1171 [], tq_is 7 6, tq_go 28, tq_stop i]
set_option maxHeartbeats 4000000 in
set_option maxRecDepth 20000 in
theorem ok_l21 (L : Nat) (xs : Nat → Int32) (i : Int32) (g1 : Bool) (v1 : Int32) (g2 : Bool) (v2 : Int32) (g3 : Bool) (v3 : Int32) (g4 : Bool) (v4 : Int32) (z2 z3 z4 : Bool) : rAll (rOk (fun G => rSc G = (L, xs)) code "RingdaysLaw" 7 rTL room_1 [] 1171 (.inr (2450, i)) (fun o => ps_l21.getD o 0)) ps_l21 (tb_l21 L xs i g1 v1 g2 v2 g3 v3 g4 v4 z2 z3 z4) := by
  refine rcons (ro_aload_n (k := 1) rfl (by decide +kernel) rfl) ?_
  refine rcons (ro_aload_n (k := 0) rfl (by decide +kernel) rfl) ?_
  refine rcons (ro_iload (by decide +kernel) rfl) ?_
  refine rcons (ro_iconst (n := 1) (by decide +kernel) rfl rfl) ?_
  refine rcons (ro_iadd (by decide +kernel) rfl) ?_
  refine rcons (ro_isc (fun _ h => h) (by decide +kernel) rfl) ?_
  refine rcons (ro_aload_n (k := 0) rfl (by decide +kernel) rfl) ?_
  refine rcons (ro_iload (by decide +kernel) rfl) ?_
  refine rcons (ro_iconst (n := 2) (by decide +kernel) rfl rfl) ?_
  refine rcons (ro_iadd (by decide +kernel) rfl) ?_
  refine rcons (ro_isc (fun _ h => h) (by decide +kernel) rfl) ?_
  refine rcons (ro_aload_n (k := 3) rfl (by decide +kernel) rfl) ?_
  refine rcons (ro_callSX ok_w_monthOn (by decide +kernel) rfl (fun s args ht => vx_cwSW 4 ht (rgoodS (fun w h => List.mem_cons_of_mem _ h) q_764 q_765 q_12 q_766) rfl rfl rfl hy_w_monthOn ⟨Nat.le_of_ble_eq_true rfl, Nat.le_of_ble_eq_true rfl⟩) rfl) ?_
  refine rcons (ro_istore (by decide +kernel) rfl) ?_
  refine rcons (ro_aload_n (k := 2) rfl (by decide +kernel) rfl) ?_
  refine rcons (ro_aload_n (k := 0) rfl (by decide +kernel) rfl) ?_
  refine rcons (ro_iload (by decide +kernel) rfl) ?_
  refine rcons (ro_iconst (n := 1) (by decide +kernel) rfl rfl) ?_
  refine rcons (ro_iadd (by decide +kernel) rfl) ?_
  refine rcons (ro_isc (fun _ h => h) (by decide +kernel) rfl) ?_
  refine rcons (ro_aload_n (k := 0) rfl (by decide +kernel) rfl) ?_
  refine rcons (ro_iload (by decide +kernel) rfl) ?_
  refine rcons (ro_iconst (n := 2) (by decide +kernel) rfl rfl) ?_
  refine rcons (ro_iadd (by decide +kernel) rfl) ?_
  refine rcons (ro_isc (fun _ h => h) (by decide +kernel) rfl) ?_
  refine rcons (ro_callVH (C := rN1) (T := rF1) (N := 7) rfl ok_d_monthOn (by decide +kernel) trivial (by decide) (fun s args ht => cwV (C := rN1) 2 ht (rgoodV (C := rN1) (fun w h => List.mem_cons_of_mem _ h) q_1123 q_1124 q_1125 q_14 q_1126) rfl rfl rfl hv_d_monthOn ⟨Nat.le_of_ble_eq_true rfl, Nat.le_of_ble_eq_true rfl⟩) rfl) ?_
  refine rcons (ro_istore (by decide +kernel) rfl) ?_
  refine rcons (ro_goto (off := 1297) (by decide +kernel) rfl) ?_
  refine rcons (ro_stop) ?_
  exact rnil
def ps_l22 : List Nat := [1156, 1157, 1158, 1160, 1161, 1162, 1163, 1164, 1166, 1167, 1168, 1169, 1170, 1173, 1175, 1176, 1177, 1179, 1180, 1181, 1182, 1183, 1185, 1186, 1187, 1188, 1191, 1193, 2450]
def tb_l22 (L : Nat) (xs : Nat → Int32) (i : Int32) (g1 : Bool) (v1 : Int32) (g2 : Bool) (v2 : Int32) (g3 : Bool) (v3 : Int32) (g4 : Bool) (v4 : Int32) (z2 z3 z4 : Bool) : List RT := [tq_al 1, tq_al 0, tq_il 4, tq_ic 1, tq_i2 (fun x y => x + y), tq_isc L xs g1 v1, tq_al 0, tq_il 4, tq_ic 2, tq_i2 (fun x y => x + y), tq_isc L xs g2 v2, tq_al 3, tq_callH m_w_monthBack 4 2 1171 [], tq_is 7 5, tq_al 2, tq_al 0, tq_il 4, tq_ic 1, tq_i2 (fun x y => x + y), tq_isc L xs g1 v1, tq_al 0, tq_il 4, tq_ic 2, tq_i2 (fun x y => x + y), tq_isc L xs g2 v2, tq_callH (rV 1 m_d_monthBack) 3 0 1171 [], tq_is 7 6, tq_go 28, tq_stop i]
set_option maxHeartbeats 4000000 in
set_option maxRecDepth 20000 in
theorem ok_l22 (L : Nat) (xs : Nat → Int32) (i : Int32) (g1 : Bool) (v1 : Int32) (g2 : Bool) (v2 : Int32) (g3 : Bool) (v3 : Int32) (g4 : Bool) (v4 : Int32) (z2 z3 z4 : Bool) : rAll (rOk (fun G => rSc G = (L, xs)) code "RingdaysLaw" 7 rTL room_1 [] 1171 (.inr (2450, i)) (fun o => ps_l22.getD o 0)) ps_l22 (tb_l22 L xs i g1 v1 g2 v2 g3 v3 g4 v4 z2 z3 z4) := by
  refine rcons (ro_aload_n (k := 1) rfl (by decide +kernel) rfl) ?_
  refine rcons (ro_aload_n (k := 0) rfl (by decide +kernel) rfl) ?_
  refine rcons (ro_iload (by decide +kernel) rfl) ?_
  refine rcons (ro_iconst (n := 1) (by decide +kernel) rfl rfl) ?_
  refine rcons (ro_iadd (by decide +kernel) rfl) ?_
  refine rcons (ro_isc (fun _ h => h) (by decide +kernel) rfl) ?_
  refine rcons (ro_aload_n (k := 0) rfl (by decide +kernel) rfl) ?_
  refine rcons (ro_iload (by decide +kernel) rfl) ?_
  refine rcons (ro_iconst (n := 2) (by decide +kernel) rfl rfl) ?_
  refine rcons (ro_iadd (by decide +kernel) rfl) ?_
  refine rcons (ro_isc (fun _ h => h) (by decide +kernel) rfl) ?_
  refine rcons (ro_aload_n (k := 3) rfl (by decide +kernel) rfl) ?_
  refine rcons (ro_callSX ok_w_monthBack (by decide +kernel) rfl (fun s args ht => vx_cwSW 4 ht (rgoodS (fun w h => List.mem_cons_of_mem _ h) q_775 q_776 q_12 q_777) rfl rfl rfl hy_w_monthBack ⟨Nat.le_of_ble_eq_true rfl, Nat.le_of_ble_eq_true rfl⟩) rfl) ?_
  refine rcons (ro_istore (by decide +kernel) rfl) ?_
  refine rcons (ro_aload_n (k := 2) rfl (by decide +kernel) rfl) ?_
  refine rcons (ro_aload_n (k := 0) rfl (by decide +kernel) rfl) ?_
  refine rcons (ro_iload (by decide +kernel) rfl) ?_
  refine rcons (ro_iconst (n := 1) (by decide +kernel) rfl rfl) ?_
  refine rcons (ro_iadd (by decide +kernel) rfl) ?_
  refine rcons (ro_isc (fun _ h => h) (by decide +kernel) rfl) ?_
  refine rcons (ro_aload_n (k := 0) rfl (by decide +kernel) rfl) ?_
  refine rcons (ro_iload (by decide +kernel) rfl) ?_
  refine rcons (ro_iconst (n := 2) (by decide +kernel) rfl rfl) ?_
  refine rcons (ro_iadd (by decide +kernel) rfl) ?_
  refine rcons (ro_isc (fun _ h => h) (by decide +kernel) rfl) ?_
  refine rcons (ro_callVH (C := rN1) (T := rF1) (N := 7) rfl ok_d_monthBack (by decide +kernel) trivial (by decide) (fun s args ht => cwV (C := rN1) 2 ht (rgoodV (C := rN1) (fun w h => List.mem_cons_of_mem _ h) q_1131 q_1132 q_1133 q_14 q_1134) rfl rfl rfl hv_d_monthBack ⟨Nat.le_of_ble_eq_true rfl, Nat.le_of_ble_eq_true rfl⟩) rfl) ?_
  refine rcons (ro_istore (by decide +kernel) rfl) ?_
  refine rcons (ro_goto (off := 1257) (by decide +kernel) rfl) ?_
  refine rcons (ro_stop) ?_
  exact rnil
def ps_l23 : List Nat := [1196, 1197, 1198, 1200, 1201, 1202, 1203, 1204, 1206, 1207, 1208, 1209, 1210, 1212, 1213, 1214, 1215, 1216, 1219, 1221, 1222, 1223, 1225, 1226, 1227, 1228, 1229, 1231, 1232, 1233, 1234, 1235, 1237, 1238, 1239, 1240, 1243, 1245, 2450]
def tb_l23 (L : Nat) (xs : Nat → Int32) (i : Int32) (g1 : Bool) (v1 : Int32) (g2 : Bool) (v2 : Int32) (g3 : Bool) (v3 : Int32) (g4 : Bool) (v4 : Int32) (z2 z3 z4 : Bool) : List RT := [tq_al 1, tq_al 0, tq_il 4, tq_ic 1, tq_i2 (fun x y => x + y), tq_isc L xs g1 v1, tq_al 0, tq_il 4, tq_ic 2, tq_i2 (fun x y => x + y), tq_isc L xs g2 v2, tq_al 0, tq_il 4, tq_ic 3, tq_i2 (fun x y => x + y), tq_isc L xs g3 v3, tq_al 3, tq_callH m_w_monthOnFar 5 2 1171 [], tq_is 7 5, tq_al 2, tq_al 0, tq_il 4, tq_ic 1, tq_i2 (fun x y => x + y), tq_isc L xs g1 v1, tq_al 0, tq_il 4, tq_ic 2, tq_i2 (fun x y => x + y), tq_isc L xs g2 v2, tq_al 0, tq_il 4, tq_ic 3, tq_i2 (fun x y => x + y), tq_isc L xs g3 v3, tq_callH (rV 1 m_d_monthOnFar) 4 0 1171 [], tq_is 7 6, tq_go 38, tq_stop i]
set_option maxHeartbeats 4000000 in
set_option maxRecDepth 20000 in
theorem ok_l23 (L : Nat) (xs : Nat → Int32) (i : Int32) (g1 : Bool) (v1 : Int32) (g2 : Bool) (v2 : Int32) (g3 : Bool) (v3 : Int32) (g4 : Bool) (v4 : Int32) (z2 z3 z4 : Bool) : rAll (rOk (fun G => rSc G = (L, xs)) code "RingdaysLaw" 7 rTL room_1 [] 1171 (.inr (2450, i)) (fun o => ps_l23.getD o 0)) ps_l23 (tb_l23 L xs i g1 v1 g2 v2 g3 v3 g4 v4 z2 z3 z4) := by
  refine rcons (ro_aload_n (k := 1) rfl (by decide +kernel) rfl) ?_
  refine rcons (ro_aload_n (k := 0) rfl (by decide +kernel) rfl) ?_
  refine rcons (ro_iload (by decide +kernel) rfl) ?_
  refine rcons (ro_iconst (n := 1) (by decide +kernel) rfl rfl) ?_
  refine rcons (ro_iadd (by decide +kernel) rfl) ?_
  refine rcons (ro_isc (fun _ h => h) (by decide +kernel) rfl) ?_
  refine rcons (ro_aload_n (k := 0) rfl (by decide +kernel) rfl) ?_
  refine rcons (ro_iload (by decide +kernel) rfl) ?_
  refine rcons (ro_iconst (n := 2) (by decide +kernel) rfl rfl) ?_
  refine rcons (ro_iadd (by decide +kernel) rfl) ?_
  refine rcons (ro_isc (fun _ h => h) (by decide +kernel) rfl) ?_
  refine rcons (ro_aload_n (k := 0) rfl (by decide +kernel) rfl) ?_
  refine rcons (ro_iload (by decide +kernel) rfl) ?_
  refine rcons (ro_iconst (n := 3) (by decide +kernel) rfl rfl) ?_
  refine rcons (ro_iadd (by decide +kernel) rfl) ?_
  refine rcons (ro_isc (fun _ h => h) (by decide +kernel) rfl) ?_
  refine rcons (ro_aload_n (k := 3) rfl (by decide +kernel) rfl) ?_
  refine rcons (ro_callSX ok_w_monthOnFar (by decide +kernel) rfl (fun s args ht => vx_cwSW 5 ht (rgoodS (fun w h => List.mem_cons_of_mem _ h) q_786 q_787 q_12 q_788) rfl rfl rfl hy_w_monthOnFar ⟨Nat.le_of_ble_eq_true rfl, Nat.le_of_ble_eq_true rfl⟩) rfl) ?_
  refine rcons (ro_istore (by decide +kernel) rfl) ?_
  refine rcons (ro_aload_n (k := 2) rfl (by decide +kernel) rfl) ?_
  refine rcons (ro_aload_n (k := 0) rfl (by decide +kernel) rfl) ?_
  refine rcons (ro_iload (by decide +kernel) rfl) ?_
  refine rcons (ro_iconst (n := 1) (by decide +kernel) rfl rfl) ?_
  refine rcons (ro_iadd (by decide +kernel) rfl) ?_
  refine rcons (ro_isc (fun _ h => h) (by decide +kernel) rfl) ?_
  refine rcons (ro_aload_n (k := 0) rfl (by decide +kernel) rfl) ?_
  refine rcons (ro_iload (by decide +kernel) rfl) ?_
  refine rcons (ro_iconst (n := 2) (by decide +kernel) rfl rfl) ?_
  refine rcons (ro_iadd (by decide +kernel) rfl) ?_
  refine rcons (ro_isc (fun _ h => h) (by decide +kernel) rfl) ?_
  refine rcons (ro_aload_n (k := 0) rfl (by decide +kernel) rfl) ?_
  refine rcons (ro_iload (by decide +kernel) rfl) ?_
  refine rcons (ro_iconst (n := 3) (by decide +kernel) rfl rfl) ?_
  refine rcons (ro_iadd (by decide +kernel) rfl) ?_
  refine rcons (ro_isc (fun _ h => h) (by decide +kernel) rfl) ?_
  refine rcons (ro_callVH (C := rN1) (T := rF1) (N := 7) rfl ok_d_monthOnFar (by decide +kernel) trivial (by decide) (fun s args ht => cwV (C := rN1) 3 ht (rgoodV (C := rN1) (fun w h => List.mem_cons_of_mem _ h) q_1135 q_1136 q_1137 q_14 q_1138) rfl rfl rfl hv_d_monthOnFar ⟨Nat.le_of_ble_eq_true rfl, Nat.le_of_ble_eq_true rfl⟩) rfl) ?_
  refine rcons (ro_istore (by decide +kernel) rfl) ?_
  refine rcons (ro_goto (off := 1205) (by decide +kernel) rfl) ?_
  refine rcons (ro_stop) ?_
  exact rnil
def ps_l24 : List Nat := [1248, 1249, 1250, 1252, 1253, 1254, 1255, 1256, 1258, 1259, 1260, 1261, 1262, 1264, 1265, 1266, 1267, 1268, 1271, 1273, 1274, 1275, 1277, 1278, 1279, 1280, 1281, 1283, 1284, 1285, 1286, 1287, 1289, 1290, 1291, 1292, 1295, 1297, 2450]
def tb_l24 (L : Nat) (xs : Nat → Int32) (i : Int32) (g1 : Bool) (v1 : Int32) (g2 : Bool) (v2 : Int32) (g3 : Bool) (v3 : Int32) (g4 : Bool) (v4 : Int32) (z2 z3 z4 : Bool) : List RT := [tq_al 1, tq_al 0, tq_il 4, tq_ic 1, tq_i2 (fun x y => x + y), tq_isc L xs g1 v1, tq_al 0, tq_il 4, tq_ic 2, tq_i2 (fun x y => x + y), tq_isc L xs g2 v2, tq_al 0, tq_il 4, tq_ic 3, tq_i2 (fun x y => x + y), tq_isc L xs g3 v3, tq_al 3, tq_callH m_w_monthBackFar 5 2 1171 [], tq_is 7 5, tq_al 2, tq_al 0, tq_il 4, tq_ic 1, tq_i2 (fun x y => x + y), tq_isc L xs g1 v1, tq_al 0, tq_il 4, tq_ic 2, tq_i2 (fun x y => x + y), tq_isc L xs g2 v2, tq_al 0, tq_il 4, tq_ic 3, tq_i2 (fun x y => x + y), tq_isc L xs g3 v3, tq_callH (rV 1 m_d_monthBackFar) 4 0 1171 [], tq_is 7 6, tq_go 38, tq_stop i]
set_option maxHeartbeats 4000000 in
set_option maxRecDepth 20000 in
theorem ok_l24 (L : Nat) (xs : Nat → Int32) (i : Int32) (g1 : Bool) (v1 : Int32) (g2 : Bool) (v2 : Int32) (g3 : Bool) (v3 : Int32) (g4 : Bool) (v4 : Int32) (z2 z3 z4 : Bool) : rAll (rOk (fun G => rSc G = (L, xs)) code "RingdaysLaw" 7 rTL room_1 [] 1171 (.inr (2450, i)) (fun o => ps_l24.getD o 0)) ps_l24 (tb_l24 L xs i g1 v1 g2 v2 g3 v3 g4 v4 z2 z3 z4) := by
  refine rcons (ro_aload_n (k := 1) rfl (by decide +kernel) rfl) ?_
  refine rcons (ro_aload_n (k := 0) rfl (by decide +kernel) rfl) ?_
  refine rcons (ro_iload (by decide +kernel) rfl) ?_
  refine rcons (ro_iconst (n := 1) (by decide +kernel) rfl rfl) ?_
  refine rcons (ro_iadd (by decide +kernel) rfl) ?_
  refine rcons (ro_isc (fun _ h => h) (by decide +kernel) rfl) ?_
  refine rcons (ro_aload_n (k := 0) rfl (by decide +kernel) rfl) ?_
  refine rcons (ro_iload (by decide +kernel) rfl) ?_
  refine rcons (ro_iconst (n := 2) (by decide +kernel) rfl rfl) ?_
  refine rcons (ro_iadd (by decide +kernel) rfl) ?_
  refine rcons (ro_isc (fun _ h => h) (by decide +kernel) rfl) ?_
  refine rcons (ro_aload_n (k := 0) rfl (by decide +kernel) rfl) ?_
  refine rcons (ro_iload (by decide +kernel) rfl) ?_
  refine rcons (ro_iconst (n := 3) (by decide +kernel) rfl rfl) ?_
  refine rcons (ro_iadd (by decide +kernel) rfl) ?_
  refine rcons (ro_isc (fun _ h => h) (by decide +kernel) rfl) ?_
  refine rcons (ro_aload_n (k := 3) rfl (by decide +kernel) rfl) ?_
  refine rcons (ro_callSX ok_w_monthBackFar (by decide +kernel) rfl (fun s args ht => vx_cwSW 5 ht (rgoodS (fun w h => List.mem_cons_of_mem _ h) q_797 q_798 q_12 q_799) rfl rfl rfl hy_w_monthBackFar ⟨Nat.le_of_ble_eq_true rfl, Nat.le_of_ble_eq_true rfl⟩) rfl) ?_
  refine rcons (ro_istore (by decide +kernel) rfl) ?_
  refine rcons (ro_aload_n (k := 2) rfl (by decide +kernel) rfl) ?_
  refine rcons (ro_aload_n (k := 0) rfl (by decide +kernel) rfl) ?_
  refine rcons (ro_iload (by decide +kernel) rfl) ?_
  refine rcons (ro_iconst (n := 1) (by decide +kernel) rfl rfl) ?_
  refine rcons (ro_iadd (by decide +kernel) rfl) ?_
  refine rcons (ro_isc (fun _ h => h) (by decide +kernel) rfl) ?_
  refine rcons (ro_aload_n (k := 0) rfl (by decide +kernel) rfl) ?_
  refine rcons (ro_iload (by decide +kernel) rfl) ?_
  refine rcons (ro_iconst (n := 2) (by decide +kernel) rfl rfl) ?_
  refine rcons (ro_iadd (by decide +kernel) rfl) ?_
  refine rcons (ro_isc (fun _ h => h) (by decide +kernel) rfl) ?_
  refine rcons (ro_aload_n (k := 0) rfl (by decide +kernel) rfl) ?_
  refine rcons (ro_iload (by decide +kernel) rfl) ?_
  refine rcons (ro_iconst (n := 3) (by decide +kernel) rfl rfl) ?_
  refine rcons (ro_iadd (by decide +kernel) rfl) ?_
  refine rcons (ro_isc (fun _ h => h) (by decide +kernel) rfl) ?_
  refine rcons (ro_callVH (C := rN1) (T := rF1) (N := 7) rfl ok_d_monthBackFar (by decide +kernel) trivial (by decide) (fun s args ht => cwV (C := rN1) 3 ht (rgoodV (C := rN1) (fun w h => List.mem_cons_of_mem _ h) q_1139 q_1140 q_1141 q_14 q_1142) rfl rfl rfl hv_d_monthBackFar ⟨Nat.le_of_ble_eq_true rfl, Nat.le_of_ble_eq_true rfl⟩) rfl) ?_
  refine rcons (ro_istore (by decide +kernel) rfl) ?_
  refine rcons (ro_goto (off := 1153) (by decide +kernel) rfl) ?_
  refine rcons (ro_stop) ?_
  exact rnil
def ps_l25 : List Nat := [1300, 1301, 1302, 1304, 1305, 1306, 1307, 1308, 1310, 1311, 1312, 1313, 1314, 1317, 1319, 1320, 1321, 1323, 1324, 1325, 1326, 1327, 1329, 1330, 1331, 1332, 1335, 1337, 2450]
def tb_l25 (L : Nat) (xs : Nat → Int32) (i : Int32) (g1 : Bool) (v1 : Int32) (g2 : Bool) (v2 : Int32) (g3 : Bool) (v3 : Int32) (g4 : Bool) (v4 : Int32) (z2 z3 z4 : Bool) : List RT := [tq_al 1, tq_al 0, tq_il 4, tq_ic 1, tq_i2 (fun x y => x + y), tq_isc L xs g1 v1, tq_al 0, tq_il 4, tq_ic 2, tq_i2 (fun x y => x + y), tq_isc L xs g2 v2, tq_al 3, tq_callH m_w_monthAt 4 1 1171 [], tq_is 7 5, tq_al 2, tq_al 0, tq_il 4, tq_ic 1, tq_i2 (fun x y => x + y), tq_isc L xs g1 v1, tq_al 0, tq_il 4, tq_ic 2, tq_i2 (fun x y => x + y), tq_isc L xs g2 v2, tq_callH (rV 1 m_d_monthAt) 3 0 1171 [], tq_is 7 6, tq_go 28, tq_stop i]
set_option maxHeartbeats 4000000 in
set_option maxRecDepth 20000 in
theorem ok_l25 (L : Nat) (xs : Nat → Int32) (i : Int32) (g1 : Bool) (v1 : Int32) (g2 : Bool) (v2 : Int32) (g3 : Bool) (v3 : Int32) (g4 : Bool) (v4 : Int32) (z2 z3 z4 : Bool) : rAll (rOk (fun G => rSc G = (L, xs)) code "RingdaysLaw" 7 rTL room_1 [] 1171 (.inr (2450, i)) (fun o => ps_l25.getD o 0)) ps_l25 (tb_l25 L xs i g1 v1 g2 v2 g3 v3 g4 v4 z2 z3 z4) := by
  refine rcons (ro_aload_n (k := 1) rfl (by decide +kernel) rfl) ?_
  refine rcons (ro_aload_n (k := 0) rfl (by decide +kernel) rfl) ?_
  refine rcons (ro_iload (by decide +kernel) rfl) ?_
  refine rcons (ro_iconst (n := 1) (by decide +kernel) rfl rfl) ?_
  refine rcons (ro_iadd (by decide +kernel) rfl) ?_
  refine rcons (ro_isc (fun _ h => h) (by decide +kernel) rfl) ?_
  refine rcons (ro_aload_n (k := 0) rfl (by decide +kernel) rfl) ?_
  refine rcons (ro_iload (by decide +kernel) rfl) ?_
  refine rcons (ro_iconst (n := 2) (by decide +kernel) rfl rfl) ?_
  refine rcons (ro_iadd (by decide +kernel) rfl) ?_
  refine rcons (ro_isc (fun _ h => h) (by decide +kernel) rfl) ?_
  refine rcons (ro_aload_n (k := 3) rfl (by decide +kernel) rfl) ?_
  refine rcons (ro_callSX ok_w_monthAt (by decide +kernel) rfl (fun s args ht => vx_cwSW 4 ht (rgoodS (fun w h => List.mem_cons_of_mem _ h) q_804 q_805 q_12 q_806) rfl rfl rfl hy_w_monthAt ⟨Nat.le_of_ble_eq_true rfl, Nat.le_of_ble_eq_true rfl⟩) rfl) ?_
  refine rcons (ro_istore (by decide +kernel) rfl) ?_
  refine rcons (ro_aload_n (k := 2) rfl (by decide +kernel) rfl) ?_
  refine rcons (ro_aload_n (k := 0) rfl (by decide +kernel) rfl) ?_
  refine rcons (ro_iload (by decide +kernel) rfl) ?_
  refine rcons (ro_iconst (n := 1) (by decide +kernel) rfl rfl) ?_
  refine rcons (ro_iadd (by decide +kernel) rfl) ?_
  refine rcons (ro_isc (fun _ h => h) (by decide +kernel) rfl) ?_
  refine rcons (ro_aload_n (k := 0) rfl (by decide +kernel) rfl) ?_
  refine rcons (ro_iload (by decide +kernel) rfl) ?_
  refine rcons (ro_iconst (n := 2) (by decide +kernel) rfl rfl) ?_
  refine rcons (ro_iadd (by decide +kernel) rfl) ?_
  refine rcons (ro_isc (fun _ h => h) (by decide +kernel) rfl) ?_
  refine rcons (ro_callVH (C := rN1) (T := rF1) (N := 7) rfl ok_d_monthAt (by decide +kernel) trivial (by decide) (fun s args ht => cwV (C := rN1) 2 ht (rgoodV (C := rN1) (fun w h => List.mem_cons_of_mem _ h) q_1143 q_1144 q_1145 q_14 q_1146) rfl rfl rfl hv_d_monthAt ⟨Nat.le_of_ble_eq_true rfl, Nat.le_of_ble_eq_true rfl⟩) rfl) ?_
  refine rcons (ro_istore (by decide +kernel) rfl) ?_
  refine rcons (ro_goto (off := 1113) (by decide +kernel) rfl) ?_
  refine rcons (ro_stop) ?_
  exact rnil
def ps_l26 : List Nat := [1340, 1341, 1342, 1344, 1345, 1346, 1347, 1348, 1350, 1351, 1352, 1353, 1354, 1357, 1359, 1360, 1361, 1363, 1364, 1365, 1366, 1367, 1369, 1370, 1371, 1372, 1375, 1377, 2450]
def tb_l26 (L : Nat) (xs : Nat → Int32) (i : Int32) (g1 : Bool) (v1 : Int32) (g2 : Bool) (v2 : Int32) (g3 : Bool) (v3 : Int32) (g4 : Bool) (v4 : Int32) (z2 z3 z4 : Bool) : List RT := [tq_al 1, tq_al 0, tq_il 4, tq_ic 1, tq_i2 (fun x y => x + y), tq_isc L xs g1 v1, tq_al 0, tq_il 4, tq_ic 2, tq_i2 (fun x y => x + y), tq_isc L xs g2 v2, tq_al 3, tq_callH m_w_monthAhead 4 1 1171 [], tq_is 7 5, tq_al 2, tq_al 0, tq_il 4, tq_ic 1, tq_i2 (fun x y => x + y), tq_isc L xs g1 v1, tq_al 0, tq_il 4, tq_ic 2, tq_i2 (fun x y => x + y), tq_isc L xs g2 v2, tq_callH (rV 1 m_d_monthAhead) 3 0 1171 [], tq_is 7 6, tq_go 28, tq_stop i]
set_option maxHeartbeats 4000000 in
set_option maxRecDepth 20000 in
theorem ok_l26 (L : Nat) (xs : Nat → Int32) (i : Int32) (g1 : Bool) (v1 : Int32) (g2 : Bool) (v2 : Int32) (g3 : Bool) (v3 : Int32) (g4 : Bool) (v4 : Int32) (z2 z3 z4 : Bool) : rAll (rOk (fun G => rSc G = (L, xs)) code "RingdaysLaw" 7 rTL room_1 [] 1171 (.inr (2450, i)) (fun o => ps_l26.getD o 0)) ps_l26 (tb_l26 L xs i g1 v1 g2 v2 g3 v3 g4 v4 z2 z3 z4) := by
  refine rcons (ro_aload_n (k := 1) rfl (by decide +kernel) rfl) ?_
  refine rcons (ro_aload_n (k := 0) rfl (by decide +kernel) rfl) ?_
  refine rcons (ro_iload (by decide +kernel) rfl) ?_
  refine rcons (ro_iconst (n := 1) (by decide +kernel) rfl rfl) ?_
  refine rcons (ro_iadd (by decide +kernel) rfl) ?_
  refine rcons (ro_isc (fun _ h => h) (by decide +kernel) rfl) ?_
  refine rcons (ro_aload_n (k := 0) rfl (by decide +kernel) rfl) ?_
  refine rcons (ro_iload (by decide +kernel) rfl) ?_
  refine rcons (ro_iconst (n := 2) (by decide +kernel) rfl rfl) ?_
  refine rcons (ro_iadd (by decide +kernel) rfl) ?_
  refine rcons (ro_isc (fun _ h => h) (by decide +kernel) rfl) ?_
  refine rcons (ro_aload_n (k := 3) rfl (by decide +kernel) rfl) ?_
  refine rcons (ro_callSX ok_w_monthAhead (by decide +kernel) rfl (fun s args ht => vx_cwSW 4 ht (rgoodS (fun w h => List.mem_cons_of_mem _ h) q_808 q_809 q_12 q_810) rfl rfl rfl hy_w_monthAhead ⟨Nat.le_of_ble_eq_true rfl, Nat.le_of_ble_eq_true rfl⟩) rfl) ?_
  refine rcons (ro_istore (by decide +kernel) rfl) ?_
  refine rcons (ro_aload_n (k := 2) rfl (by decide +kernel) rfl) ?_
  refine rcons (ro_aload_n (k := 0) rfl (by decide +kernel) rfl) ?_
  refine rcons (ro_iload (by decide +kernel) rfl) ?_
  refine rcons (ro_iconst (n := 1) (by decide +kernel) rfl rfl) ?_
  refine rcons (ro_iadd (by decide +kernel) rfl) ?_
  refine rcons (ro_isc (fun _ h => h) (by decide +kernel) rfl) ?_
  refine rcons (ro_aload_n (k := 0) rfl (by decide +kernel) rfl) ?_
  refine rcons (ro_iload (by decide +kernel) rfl) ?_
  refine rcons (ro_iconst (n := 2) (by decide +kernel) rfl rfl) ?_
  refine rcons (ro_iadd (by decide +kernel) rfl) ?_
  refine rcons (ro_isc (fun _ h => h) (by decide +kernel) rfl) ?_
  refine rcons (ro_callVH (C := rN1) (T := rF1) (N := 7) rfl ok_d_monthAhead (by decide +kernel) trivial (by decide) (fun s args ht => cwV (C := rN1) 2 ht (rgoodV (C := rN1) (fun w h => List.mem_cons_of_mem _ h) q_1147 q_1148 q_1149 q_14 q_1150) rfl rfl rfl hv_d_monthAhead ⟨Nat.le_of_ble_eq_true rfl, Nat.le_of_ble_eq_true rfl⟩) rfl) ?_
  refine rcons (ro_istore (by decide +kernel) rfl) ?_
  refine rcons (ro_goto (off := 1073) (by decide +kernel) rfl) ?_
  refine rcons (ro_stop) ?_
  exact rnil
def ps_l27 : List Nat := [1380, 1381, 1382, 1384, 1385, 1386, 1387, 1388, 1390, 1391, 1392, 1393, 1394, 1396, 1397, 1398, 1399, 1400, 1402, 1403, 1404, 1405, 1408, 1409, 1412, 1413, 1414, 1417, 1419, 1420, 1421, 1423, 1424, 1425, 1426, 1427, 1429, 1430, 1431, 1432, 1433, 1435, 1436, 1437, 1438, 1439, 1441, 1442, 1443, 1444, 1447, 1448, 1451, 1452, 1455, 1457, 2450]
def tb_l27 (L : Nat) (xs : Nat → Int32) (i : Int32) (g1 : Bool) (v1 : Int32) (g2 : Bool) (v2 : Int32) (g3 : Bool) (v3 : Int32) (g4 : Bool) (v4 : Int32) (z2 z3 z4 : Bool) : List RT := [tq_al 1, tq_al 0, tq_il 4, tq_ic 1, tq_i2 (fun x y => x + y), tq_isc L xs g1 v1, tq_al 0, tq_il 4, tq_ic 2, tq_i2 (fun x y => x + y), tq_isc L xs g2 v2, tq_al 0, tq_il 4, tq_ic 3, tq_i2 (fun x y => x + y), tq_isc L xs g3 v3, tq_al 0, tq_il 4, tq_ic 4, tq_i2 (fun x y => x + y), tq_isc L xs g4 v4, tq_sv (fun x => decide (x = 0)) z4 1 0 25, tq_ic 1, tq_go 25, tq_ic 0, tq_al 3, tq_callH m_w_monthAtFar 6 1 1171 [], tq_is 7 5, tq_al 2, tq_al 0, tq_il 4, tq_ic 1, tq_i2 (fun x y => x + y), tq_isc L xs g1 v1, tq_al 0, tq_il 4, tq_ic 2, tq_i2 (fun x y => x + y), tq_isc L xs g2 v2, tq_al 0, tq_il 4, tq_ic 3, tq_i2 (fun x y => x + y), tq_isc L xs g3 v3, tq_al 0, tq_il 4, tq_ic 4, tq_i2 (fun x y => x + y), tq_isc L xs g4 v4, tq_sv (fun x => decide (x = 0)) z4 1 0 53, tq_ic 1, tq_go 53, tq_ic 0, tq_callH (rV 1 m_d_monthAtFar) 5 0 1171 [], tq_is 7 6, tq_go 56, tq_stop i]
set_option maxHeartbeats 4000000 in
set_option maxRecDepth 20000 in
theorem ok_l27 (L : Nat) (xs : Nat → Int32) (i : Int32) (g1 : Bool) (v1 : Int32) (g2 : Bool) (v2 : Int32) (g3 : Bool) (v3 : Int32) (g4 : Bool) (v4 : Int32) (z2 z3 z4 : Bool) : rAll (rOk (fun G => rSc G = (L, xs)) code "RingdaysLaw" 7 rTL room_1 [] 1171 (.inr (2450, i)) (fun o => ps_l27.getD o 0)) ps_l27 (tb_l27 L xs i g1 v1 g2 v2 g3 v3 g4 v4 z2 z3 z4) := by
  refine rcons (ro_aload_n (k := 1) rfl (by decide +kernel) rfl) ?_
  refine rcons (ro_aload_n (k := 0) rfl (by decide +kernel) rfl) ?_
  refine rcons (ro_iload (by decide +kernel) rfl) ?_
  refine rcons (ro_iconst (n := 1) (by decide +kernel) rfl rfl) ?_
  refine rcons (ro_iadd (by decide +kernel) rfl) ?_
  refine rcons (ro_isc (fun _ h => h) (by decide +kernel) rfl) ?_
  refine rcons (ro_aload_n (k := 0) rfl (by decide +kernel) rfl) ?_
  refine rcons (ro_iload (by decide +kernel) rfl) ?_
  refine rcons (ro_iconst (n := 2) (by decide +kernel) rfl rfl) ?_
  refine rcons (ro_iadd (by decide +kernel) rfl) ?_
  refine rcons (ro_isc (fun _ h => h) (by decide +kernel) rfl) ?_
  refine rcons (ro_aload_n (k := 0) rfl (by decide +kernel) rfl) ?_
  refine rcons (ro_iload (by decide +kernel) rfl) ?_
  refine rcons (ro_iconst (n := 3) (by decide +kernel) rfl rfl) ?_
  refine rcons (ro_iadd (by decide +kernel) rfl) ?_
  refine rcons (ro_isc (fun _ h => h) (by decide +kernel) rfl) ?_
  refine rcons (ro_aload_n (k := 0) rfl (by decide +kernel) rfl) ?_
  refine rcons (ro_iload (by decide +kernel) rfl) ?_
  refine rcons (ro_iconst (n := 4) (by decide +kernel) rfl rfl) ?_
  refine rcons (ro_iadd (by decide +kernel) rfl) ?_
  refine rcons (ro_isc (fun _ h => h) (by decide +kernel) rfl) ?_
  refine rcons (ro_sv (ro_s1_eq (off := 7) (off2 := 4) (n1 := 1) (n2 := 0) (by decide +kernel) (by decide +kernel) rfl (by decide +kernel) (by decide +kernel) rfl rfl rfl rfl)) ?_
  refine rcons (ro_iconst (n := 1) (by decide +kernel) rfl rfl) ?_
  refine rcons (ro_goto (off := 4) (by decide +kernel) rfl) ?_
  refine rcons (ro_iconst (n := 0) (by decide +kernel) rfl rfl) ?_
  refine rcons (ro_aload_n (k := 3) rfl (by decide +kernel) rfl) ?_
  refine rcons (ro_callSX ok_w_monthAtFar (by decide +kernel) rfl (fun s args ht => vx_cwSW 6 ht (rgoodS (fun w h => List.mem_cons_of_mem _ h) q_812 q_813 q_12 q_814) rfl rfl rfl hy_w_monthAtFar ⟨Nat.le_of_ble_eq_true rfl, Nat.le_of_ble_eq_true rfl⟩) rfl) ?_
  refine rcons (ro_istore (by decide +kernel) rfl) ?_
  refine rcons (ro_aload_n (k := 2) rfl (by decide +kernel) rfl) ?_
  refine rcons (ro_aload_n (k := 0) rfl (by decide +kernel) rfl) ?_
  refine rcons (ro_iload (by decide +kernel) rfl) ?_
  refine rcons (ro_iconst (n := 1) (by decide +kernel) rfl rfl) ?_
  refine rcons (ro_iadd (by decide +kernel) rfl) ?_
  refine rcons (ro_isc (fun _ h => h) (by decide +kernel) rfl) ?_
  refine rcons (ro_aload_n (k := 0) rfl (by decide +kernel) rfl) ?_
  refine rcons (ro_iload (by decide +kernel) rfl) ?_
  refine rcons (ro_iconst (n := 2) (by decide +kernel) rfl rfl) ?_
  refine rcons (ro_iadd (by decide +kernel) rfl) ?_
  refine rcons (ro_isc (fun _ h => h) (by decide +kernel) rfl) ?_
  refine rcons (ro_aload_n (k := 0) rfl (by decide +kernel) rfl) ?_
  refine rcons (ro_iload (by decide +kernel) rfl) ?_
  refine rcons (ro_iconst (n := 3) (by decide +kernel) rfl rfl) ?_
  refine rcons (ro_iadd (by decide +kernel) rfl) ?_
  refine rcons (ro_isc (fun _ h => h) (by decide +kernel) rfl) ?_
  refine rcons (ro_aload_n (k := 0) rfl (by decide +kernel) rfl) ?_
  refine rcons (ro_iload (by decide +kernel) rfl) ?_
  refine rcons (ro_iconst (n := 4) (by decide +kernel) rfl rfl) ?_
  refine rcons (ro_iadd (by decide +kernel) rfl) ?_
  refine rcons (ro_isc (fun _ h => h) (by decide +kernel) rfl) ?_
  refine rcons (ro_sv (ro_s1_eq (off := 7) (off2 := 4) (n1 := 1) (n2 := 0) (by decide +kernel) (by decide +kernel) rfl (by decide +kernel) (by decide +kernel) rfl rfl rfl rfl)) ?_
  refine rcons (ro_iconst (n := 1) (by decide +kernel) rfl rfl) ?_
  refine rcons (ro_goto (off := 4) (by decide +kernel) rfl) ?_
  refine rcons (ro_iconst (n := 0) (by decide +kernel) rfl rfl) ?_
  refine rcons (ro_callVH (C := rN1) (T := rF1) (N := 7) rfl ok_d_monthAtFar (by decide +kernel) trivial (by decide) (fun s args ht => cwV (C := rN1) 4 ht (rgoodV (C := rN1) (fun w h => List.mem_cons_of_mem _ h) q_1151 q_1152 q_1153 q_14 q_1154) rfl rfl rfl hv_d_monthAtFar ⟨Nat.le_of_ble_eq_true rfl, Nat.le_of_ble_eq_true rfl⟩) rfl) ?_
  refine rcons (ro_istore (by decide +kernel) rfl) ?_
  refine rcons (ro_goto (off := 993) (by decide +kernel) rfl) ?_
  refine rcons (ro_stop) ?_
  exact rnil
def ps_l28 : List Nat := [1460, 1461, 1462, 1464, 1465, 1466, 1467, 1468, 1470, 1471, 1472, 1473, 1474, 1476, 1477, 1478, 1479, 1480, 1483, 1485, 1486, 1487, 1489, 1490, 1491, 1492, 1493, 1495, 1496, 1497, 1498, 1499, 1501, 1502, 1503, 1504, 1507, 1509, 2450]
def tb_l28 (L : Nat) (xs : Nat → Int32) (i : Int32) (g1 : Bool) (v1 : Int32) (g2 : Bool) (v2 : Int32) (g3 : Bool) (v3 : Int32) (g4 : Bool) (v4 : Int32) (z2 z3 z4 : Bool) : List RT := [tq_al 1, tq_al 0, tq_il 4, tq_ic 1, tq_i2 (fun x y => x + y), tq_isc L xs g1 v1, tq_al 0, tq_il 4, tq_ic 2, tq_i2 (fun x y => x + y), tq_isc L xs g2 v2, tq_al 0, tq_il 4, tq_ic 3, tq_i2 (fun x y => x + y), tq_isc L xs g3 v3, tq_al 3, tq_callH m_w_monthTwice 5 1 1171 [], tq_is 7 5, tq_al 2, tq_al 0, tq_il 4, tq_ic 1, tq_i2 (fun x y => x + y), tq_isc L xs g1 v1, tq_al 0, tq_il 4, tq_ic 2, tq_i2 (fun x y => x + y), tq_isc L xs g2 v2, tq_al 0, tq_il 4, tq_ic 3, tq_i2 (fun x y => x + y), tq_isc L xs g3 v3, tq_callH (rV 1 m_d_monthTwice) 4 0 1171 [], tq_is 7 6, tq_go 38, tq_stop i]
set_option maxHeartbeats 4000000 in
set_option maxRecDepth 20000 in
theorem ok_l28 (L : Nat) (xs : Nat → Int32) (i : Int32) (g1 : Bool) (v1 : Int32) (g2 : Bool) (v2 : Int32) (g3 : Bool) (v3 : Int32) (g4 : Bool) (v4 : Int32) (z2 z3 z4 : Bool) : rAll (rOk (fun G => rSc G = (L, xs)) code "RingdaysLaw" 7 rTL room_1 [] 1171 (.inr (2450, i)) (fun o => ps_l28.getD o 0)) ps_l28 (tb_l28 L xs i g1 v1 g2 v2 g3 v3 g4 v4 z2 z3 z4) := by
  refine rcons (ro_aload_n (k := 1) rfl (by decide +kernel) rfl) ?_
  refine rcons (ro_aload_n (k := 0) rfl (by decide +kernel) rfl) ?_
  refine rcons (ro_iload (by decide +kernel) rfl) ?_
  refine rcons (ro_iconst (n := 1) (by decide +kernel) rfl rfl) ?_
  refine rcons (ro_iadd (by decide +kernel) rfl) ?_
  refine rcons (ro_isc (fun _ h => h) (by decide +kernel) rfl) ?_
  refine rcons (ro_aload_n (k := 0) rfl (by decide +kernel) rfl) ?_
  refine rcons (ro_iload (by decide +kernel) rfl) ?_
  refine rcons (ro_iconst (n := 2) (by decide +kernel) rfl rfl) ?_
  refine rcons (ro_iadd (by decide +kernel) rfl) ?_
  refine rcons (ro_isc (fun _ h => h) (by decide +kernel) rfl) ?_
  refine rcons (ro_aload_n (k := 0) rfl (by decide +kernel) rfl) ?_
  refine rcons (ro_iload (by decide +kernel) rfl) ?_
  refine rcons (ro_iconst (n := 3) (by decide +kernel) rfl rfl) ?_
  refine rcons (ro_iadd (by decide +kernel) rfl) ?_
  refine rcons (ro_isc (fun _ h => h) (by decide +kernel) rfl) ?_
  refine rcons (ro_aload_n (k := 3) rfl (by decide +kernel) rfl) ?_
  refine rcons (ro_callSX ok_w_monthTwice (by decide +kernel) rfl (fun s args ht => vx_cwSW 5 ht (rgoodS (fun w h => List.mem_cons_of_mem _ h) q_816 q_817 q_12 q_818) rfl rfl rfl hy_w_monthTwice ⟨Nat.le_of_ble_eq_true rfl, Nat.le_of_ble_eq_true rfl⟩) rfl) ?_
  refine rcons (ro_istore (by decide +kernel) rfl) ?_
  refine rcons (ro_aload_n (k := 2) rfl (by decide +kernel) rfl) ?_
  refine rcons (ro_aload_n (k := 0) rfl (by decide +kernel) rfl) ?_
  refine rcons (ro_iload (by decide +kernel) rfl) ?_
  refine rcons (ro_iconst (n := 1) (by decide +kernel) rfl rfl) ?_
  refine rcons (ro_iadd (by decide +kernel) rfl) ?_
  refine rcons (ro_isc (fun _ h => h) (by decide +kernel) rfl) ?_
  refine rcons (ro_aload_n (k := 0) rfl (by decide +kernel) rfl) ?_
  refine rcons (ro_iload (by decide +kernel) rfl) ?_
  refine rcons (ro_iconst (n := 2) (by decide +kernel) rfl rfl) ?_
  refine rcons (ro_iadd (by decide +kernel) rfl) ?_
  refine rcons (ro_isc (fun _ h => h) (by decide +kernel) rfl) ?_
  refine rcons (ro_aload_n (k := 0) rfl (by decide +kernel) rfl) ?_
  refine rcons (ro_iload (by decide +kernel) rfl) ?_
  refine rcons (ro_iconst (n := 3) (by decide +kernel) rfl rfl) ?_
  refine rcons (ro_iadd (by decide +kernel) rfl) ?_
  refine rcons (ro_isc (fun _ h => h) (by decide +kernel) rfl) ?_
  refine rcons (ro_callVH (C := rN1) (T := rF1) (N := 7) rfl ok_d_monthTwice (by decide +kernel) trivial (by decide) (fun s args ht => cwV (C := rN1) 3 ht (rgoodV (C := rN1) (fun w h => List.mem_cons_of_mem _ h) q_1155 q_1156 q_1157 q_14 q_1158) rfl rfl rfl hv_d_monthTwice ⟨Nat.le_of_ble_eq_true rfl, Nat.le_of_ble_eq_true rfl⟩) rfl) ?_
  refine rcons (ro_istore (by decide +kernel) rfl) ?_
  refine rcons (ro_goto (off := 941) (by decide +kernel) rfl) ?_
  refine rcons (ro_stop) ?_
  exact rnil
def ps_l29 : List Nat := [1512, 1513, 1514, 1516, 1517, 1518, 1519, 1520, 1522, 1523, 1524, 1525, 1526, 1529, 1531, 1532, 1533, 1535, 1536, 1537, 1538, 1539, 1541, 1542, 1543, 1544, 1547, 1549, 2450]
def tb_l29 (L : Nat) (xs : Nat → Int32) (i : Int32) (g1 : Bool) (v1 : Int32) (g2 : Bool) (v2 : Int32) (g3 : Bool) (v3 : Int32) (g4 : Bool) (v4 : Int32) (z2 z3 z4 : Bool) : List RT := [tq_al 1, tq_al 0, tq_il 4, tq_ic 1, tq_i2 (fun x y => x + y), tq_isc L xs g1 v1, tq_al 0, tq_il 4, tq_ic 2, tq_i2 (fun x y => x + y), tq_isc L xs g2 v2, tq_al 3, tq_callH m_w_monthCopy 4 2 1171 [], tq_is 7 5, tq_al 2, tq_al 0, tq_il 4, tq_ic 1, tq_i2 (fun x y => x + y), tq_isc L xs g1 v1, tq_al 0, tq_il 4, tq_ic 2, tq_i2 (fun x y => x + y), tq_isc L xs g2 v2, tq_callH (rV 1 m_d_monthCopy) 3 0 1171 [], tq_is 7 6, tq_go 28, tq_stop i]
set_option maxHeartbeats 4000000 in
set_option maxRecDepth 20000 in
theorem ok_l29 (L : Nat) (xs : Nat → Int32) (i : Int32) (g1 : Bool) (v1 : Int32) (g2 : Bool) (v2 : Int32) (g3 : Bool) (v3 : Int32) (g4 : Bool) (v4 : Int32) (z2 z3 z4 : Bool) : rAll (rOk (fun G => rSc G = (L, xs)) code "RingdaysLaw" 7 rTL room_1 [] 1171 (.inr (2450, i)) (fun o => ps_l29.getD o 0)) ps_l29 (tb_l29 L xs i g1 v1 g2 v2 g3 v3 g4 v4 z2 z3 z4) := by
  refine rcons (ro_aload_n (k := 1) rfl (by decide +kernel) rfl) ?_
  refine rcons (ro_aload_n (k := 0) rfl (by decide +kernel) rfl) ?_
  refine rcons (ro_iload (by decide +kernel) rfl) ?_
  refine rcons (ro_iconst (n := 1) (by decide +kernel) rfl rfl) ?_
  refine rcons (ro_iadd (by decide +kernel) rfl) ?_
  refine rcons (ro_isc (fun _ h => h) (by decide +kernel) rfl) ?_
  refine rcons (ro_aload_n (k := 0) rfl (by decide +kernel) rfl) ?_
  refine rcons (ro_iload (by decide +kernel) rfl) ?_
  refine rcons (ro_iconst (n := 2) (by decide +kernel) rfl rfl) ?_
  refine rcons (ro_iadd (by decide +kernel) rfl) ?_
  refine rcons (ro_isc (fun _ h => h) (by decide +kernel) rfl) ?_
  refine rcons (ro_aload_n (k := 3) rfl (by decide +kernel) rfl) ?_
  refine rcons (ro_callSX ok_w_monthCopy (by decide +kernel) rfl (fun s args ht => vx_cwSW 4 ht (rgoodS (fun w h => List.mem_cons_of_mem _ h) q_823 q_824 q_12 q_825) rfl rfl rfl hy_w_monthCopy ⟨Nat.le_of_ble_eq_true rfl, Nat.le_of_ble_eq_true rfl⟩) rfl) ?_
  refine rcons (ro_istore (by decide +kernel) rfl) ?_
  refine rcons (ro_aload_n (k := 2) rfl (by decide +kernel) rfl) ?_
  refine rcons (ro_aload_n (k := 0) rfl (by decide +kernel) rfl) ?_
  refine rcons (ro_iload (by decide +kernel) rfl) ?_
  refine rcons (ro_iconst (n := 1) (by decide +kernel) rfl rfl) ?_
  refine rcons (ro_iadd (by decide +kernel) rfl) ?_
  refine rcons (ro_isc (fun _ h => h) (by decide +kernel) rfl) ?_
  refine rcons (ro_aload_n (k := 0) rfl (by decide +kernel) rfl) ?_
  refine rcons (ro_iload (by decide +kernel) rfl) ?_
  refine rcons (ro_iconst (n := 2) (by decide +kernel) rfl rfl) ?_
  refine rcons (ro_iadd (by decide +kernel) rfl) ?_
  refine rcons (ro_isc (fun _ h => h) (by decide +kernel) rfl) ?_
  refine rcons (ro_callVH (C := rN1) (T := rF1) (N := 7) rfl ok_d_monthCopy (by decide +kernel) trivial (by decide) (fun s args ht => cwV (C := rN1) 2 ht (rgoodV (C := rN1) (fun w h => List.mem_cons_of_mem _ h) q_1159 q_1160 q_1161 q_14 q_1162) rfl rfl rfl hv_d_monthCopy ⟨Nat.le_of_ble_eq_true rfl, Nat.le_of_ble_eq_true rfl⟩) rfl) ?_
  refine rcons (ro_istore (by decide +kernel) rfl) ?_
  refine rcons (ro_goto (off := 901) (by decide +kernel) rfl) ?_
  refine rcons (ro_stop) ?_
  exact rnil
def ps_l30 : List Nat := [1552, 1553, 1554, 1556, 1557, 1558, 1559, 1560, 1562, 1563, 1564, 1565, 1566, 1569, 1571, 1572, 1573, 1575, 1576, 1577, 1578, 1579, 1581, 1582, 1583, 1584, 1587, 1589, 2450]
def tb_l30 (L : Nat) (xs : Nat → Int32) (i : Int32) (g1 : Bool) (v1 : Int32) (g2 : Bool) (v2 : Int32) (g3 : Bool) (v3 : Int32) (g4 : Bool) (v4 : Int32) (z2 z3 z4 : Bool) : List RT := [tq_al 1, tq_al 0, tq_il 4, tq_ic 1, tq_i2 (fun x y => x + y), tq_isc L xs g1 v1, tq_al 0, tq_il 4, tq_ic 2, tq_i2 (fun x y => x + y), tq_isc L xs g2 v2, tq_al 3, tq_callH m_w_monthSwap 4 4 1171 [], tq_is 7 5, tq_al 2, tq_al 0, tq_il 4, tq_ic 1, tq_i2 (fun x y => x + y), tq_isc L xs g1 v1, tq_al 0, tq_il 4, tq_ic 2, tq_i2 (fun x y => x + y), tq_isc L xs g2 v2, tq_callH (rV 1 m_d_monthSwap) 3 0 1171 [], tq_is 7 6, tq_go 28, tq_stop i]
set_option maxHeartbeats 4000000 in
set_option maxRecDepth 20000 in
theorem ok_l30 (L : Nat) (xs : Nat → Int32) (i : Int32) (g1 : Bool) (v1 : Int32) (g2 : Bool) (v2 : Int32) (g3 : Bool) (v3 : Int32) (g4 : Bool) (v4 : Int32) (z2 z3 z4 : Bool) : rAll (rOk (fun G => rSc G = (L, xs)) code "RingdaysLaw" 7 rTL room_1 [] 1171 (.inr (2450, i)) (fun o => ps_l30.getD o 0)) ps_l30 (tb_l30 L xs i g1 v1 g2 v2 g3 v3 g4 v4 z2 z3 z4) := by
  refine rcons (ro_aload_n (k := 1) rfl (by decide +kernel) rfl) ?_
  refine rcons (ro_aload_n (k := 0) rfl (by decide +kernel) rfl) ?_
  refine rcons (ro_iload (by decide +kernel) rfl) ?_
  refine rcons (ro_iconst (n := 1) (by decide +kernel) rfl rfl) ?_
  refine rcons (ro_iadd (by decide +kernel) rfl) ?_
  refine rcons (ro_isc (fun _ h => h) (by decide +kernel) rfl) ?_
  refine rcons (ro_aload_n (k := 0) rfl (by decide +kernel) rfl) ?_
  refine rcons (ro_iload (by decide +kernel) rfl) ?_
  refine rcons (ro_iconst (n := 2) (by decide +kernel) rfl rfl) ?_
  refine rcons (ro_iadd (by decide +kernel) rfl) ?_
  refine rcons (ro_isc (fun _ h => h) (by decide +kernel) rfl) ?_
  refine rcons (ro_aload_n (k := 3) rfl (by decide +kernel) rfl) ?_
  refine rcons (ro_callSX ok_w_monthSwap (by decide +kernel) rfl (fun s args ht => vx_cwSW 4 ht (rgoodS (fun w h => List.mem_cons_of_mem _ h) q_830 q_831 q_12 q_832) rfl rfl rfl hy_w_monthSwap ⟨Nat.le_of_ble_eq_true rfl, Nat.le_of_ble_eq_true rfl⟩) rfl) ?_
  refine rcons (ro_istore (by decide +kernel) rfl) ?_
  refine rcons (ro_aload_n (k := 2) rfl (by decide +kernel) rfl) ?_
  refine rcons (ro_aload_n (k := 0) rfl (by decide +kernel) rfl) ?_
  refine rcons (ro_iload (by decide +kernel) rfl) ?_
  refine rcons (ro_iconst (n := 1) (by decide +kernel) rfl rfl) ?_
  refine rcons (ro_iadd (by decide +kernel) rfl) ?_
  refine rcons (ro_isc (fun _ h => h) (by decide +kernel) rfl) ?_
  refine rcons (ro_aload_n (k := 0) rfl (by decide +kernel) rfl) ?_
  refine rcons (ro_iload (by decide +kernel) rfl) ?_
  refine rcons (ro_iconst (n := 2) (by decide +kernel) rfl rfl) ?_
  refine rcons (ro_iadd (by decide +kernel) rfl) ?_
  refine rcons (ro_isc (fun _ h => h) (by decide +kernel) rfl) ?_
  refine rcons (ro_callVH (C := rN1) (T := rF1) (N := 7) rfl ok_d_monthSwap (by decide +kernel) trivial (by decide) (fun s args ht => cwV (C := rN1) 2 ht (rgoodV (C := rN1) (fun w h => List.mem_cons_of_mem _ h) q_1163 q_1164 q_1165 q_14 q_1166) rfl rfl rfl hv_d_monthSwap ⟨Nat.le_of_ble_eq_true rfl, Nat.le_of_ble_eq_true rfl⟩) rfl) ?_
  refine rcons (ro_istore (by decide +kernel) rfl) ?_
  refine rcons (ro_goto (off := 861) (by decide +kernel) rfl) ?_
  refine rcons (ro_stop) ?_
  exact rnil
def ps_l31 : List Nat := [1592, 1593, 1594, 1596, 1597, 1598, 1599, 1600, 1602, 1603, 1604, 1605, 1606, 1609, 1611, 1612, 1613, 1615, 1616, 1617, 1618, 1619, 1621, 1622, 1623, 1624, 1627, 1629, 2450]
def tb_l31 (L : Nat) (xs : Nat → Int32) (i : Int32) (g1 : Bool) (v1 : Int32) (g2 : Bool) (v2 : Int32) (g3 : Bool) (v3 : Int32) (g4 : Bool) (v4 : Int32) (z2 z3 z4 : Bool) : List RT := [tq_al 1, tq_al 0, tq_il 4, tq_ic 1, tq_i2 (fun x y => x + y), tq_isc L xs g1 v1, tq_al 0, tq_il 4, tq_ic 2, tq_i2 (fun x y => x + y), tq_isc L xs g2 v2, tq_al 3, tq_callH m_w_monthOrder 4 2 1171 [], tq_is 7 5, tq_al 2, tq_al 0, tq_il 4, tq_ic 1, tq_i2 (fun x y => x + y), tq_isc L xs g1 v1, tq_al 0, tq_il 4, tq_ic 2, tq_i2 (fun x y => x + y), tq_isc L xs g2 v2, tq_callH (rV 1 m_d_monthOrder) 3 0 1171 [], tq_is 7 6, tq_go 28, tq_stop i]
set_option maxHeartbeats 4000000 in
set_option maxRecDepth 20000 in
theorem ok_l31 (L : Nat) (xs : Nat → Int32) (i : Int32) (g1 : Bool) (v1 : Int32) (g2 : Bool) (v2 : Int32) (g3 : Bool) (v3 : Int32) (g4 : Bool) (v4 : Int32) (z2 z3 z4 : Bool) : rAll (rOk (fun G => rSc G = (L, xs)) code "RingdaysLaw" 7 rTL room_1 [] 1171 (.inr (2450, i)) (fun o => ps_l31.getD o 0)) ps_l31 (tb_l31 L xs i g1 v1 g2 v2 g3 v3 g4 v4 z2 z3 z4) := by
  refine rcons (ro_aload_n (k := 1) rfl (by decide +kernel) rfl) ?_
  refine rcons (ro_aload_n (k := 0) rfl (by decide +kernel) rfl) ?_
  refine rcons (ro_iload (by decide +kernel) rfl) ?_
  refine rcons (ro_iconst (n := 1) (by decide +kernel) rfl rfl) ?_
  refine rcons (ro_iadd (by decide +kernel) rfl) ?_
  refine rcons (ro_isc (fun _ h => h) (by decide +kernel) rfl) ?_
  refine rcons (ro_aload_n (k := 0) rfl (by decide +kernel) rfl) ?_
  refine rcons (ro_iload (by decide +kernel) rfl) ?_
  refine rcons (ro_iconst (n := 2) (by decide +kernel) rfl rfl) ?_
  refine rcons (ro_iadd (by decide +kernel) rfl) ?_
  refine rcons (ro_isc (fun _ h => h) (by decide +kernel) rfl) ?_
  refine rcons (ro_aload_n (k := 3) rfl (by decide +kernel) rfl) ?_
  refine rcons (ro_callSX ok_w_monthOrder (by decide +kernel) rfl (fun s args ht => vx_cwSW 4 ht (rgoodS (fun w h => List.mem_cons_of_mem _ h) q_837 q_838 q_12 q_839) rfl rfl rfl hy_w_monthOrder ⟨Nat.le_of_ble_eq_true rfl, Nat.le_of_ble_eq_true rfl⟩) rfl) ?_
  refine rcons (ro_istore (by decide +kernel) rfl) ?_
  refine rcons (ro_aload_n (k := 2) rfl (by decide +kernel) rfl) ?_
  refine rcons (ro_aload_n (k := 0) rfl (by decide +kernel) rfl) ?_
  refine rcons (ro_iload (by decide +kernel) rfl) ?_
  refine rcons (ro_iconst (n := 1) (by decide +kernel) rfl rfl) ?_
  refine rcons (ro_iadd (by decide +kernel) rfl) ?_
  refine rcons (ro_isc (fun _ h => h) (by decide +kernel) rfl) ?_
  refine rcons (ro_aload_n (k := 0) rfl (by decide +kernel) rfl) ?_
  refine rcons (ro_iload (by decide +kernel) rfl) ?_
  refine rcons (ro_iconst (n := 2) (by decide +kernel) rfl rfl) ?_
  refine rcons (ro_iadd (by decide +kernel) rfl) ?_
  refine rcons (ro_isc (fun _ h => h) (by decide +kernel) rfl) ?_
  refine rcons (ro_callVH (C := rN1) (T := rF1) (N := 7) rfl ok_d_monthOrder (by decide +kernel) trivial (by decide) (fun s args ht => cwV (C := rN1) 2 ht (rgoodV (C := rN1) (fun w h => List.mem_cons_of_mem _ h) q_1167 q_1168 q_1169 q_14 q_1170) rfl rfl rfl hv_d_monthOrder ⟨Nat.le_of_ble_eq_true rfl, Nat.le_of_ble_eq_true rfl⟩) rfl) ?_
  refine rcons (ro_istore (by decide +kernel) rfl) ?_
  refine rcons (ro_goto (off := 821) (by decide +kernel) rfl) ?_
  refine rcons (ro_stop) ?_
  exact rnil
def ps_l32 : List Nat := [1632, 1633, 1634, 1636, 1637, 1638, 1639, 1640, 1642, 1643, 1644, 1645, 1646, 1649, 1651, 1652, 1653, 1655, 1656, 1657, 1658, 1659, 1661, 1662, 1663, 1664, 1667, 1669, 2450]
def tb_l32 (L : Nat) (xs : Nat → Int32) (i : Int32) (g1 : Bool) (v1 : Int32) (g2 : Bool) (v2 : Int32) (g3 : Bool) (v3 : Int32) (g4 : Bool) (v4 : Int32) (z2 z3 z4 : Bool) : List RT := [tq_al 1, tq_al 0, tq_il 4, tq_ic 1, tq_i2 (fun x y => x + y), tq_isc L xs g1 v1, tq_al 0, tq_il 4, tq_ic 2, tq_i2 (fun x y => x + y), tq_isc L xs g2 v2, tq_al 3, tq_callH m_w_isSameMonth 4 2 1171 [], tq_is 7 5, tq_al 2, tq_al 0, tq_il 4, tq_ic 1, tq_i2 (fun x y => x + y), tq_isc L xs g1 v1, tq_al 0, tq_il 4, tq_ic 2, tq_i2 (fun x y => x + y), tq_isc L xs g2 v2, tq_callH (rV 1 m_d_isSameMonth) 3 0 1171 [], tq_is 7 6, tq_go 28, tq_stop i]
set_option maxHeartbeats 4000000 in
set_option maxRecDepth 20000 in
theorem ok_l32 (L : Nat) (xs : Nat → Int32) (i : Int32) (g1 : Bool) (v1 : Int32) (g2 : Bool) (v2 : Int32) (g3 : Bool) (v3 : Int32) (g4 : Bool) (v4 : Int32) (z2 z3 z4 : Bool) : rAll (rOk (fun G => rSc G = (L, xs)) code "RingdaysLaw" 7 rTL room_1 [] 1171 (.inr (2450, i)) (fun o => ps_l32.getD o 0)) ps_l32 (tb_l32 L xs i g1 v1 g2 v2 g3 v3 g4 v4 z2 z3 z4) := by
  refine rcons (ro_aload_n (k := 1) rfl (by decide +kernel) rfl) ?_
  refine rcons (ro_aload_n (k := 0) rfl (by decide +kernel) rfl) ?_
  refine rcons (ro_iload (by decide +kernel) rfl) ?_
  refine rcons (ro_iconst (n := 1) (by decide +kernel) rfl rfl) ?_
  refine rcons (ro_iadd (by decide +kernel) rfl) ?_
  refine rcons (ro_isc (fun _ h => h) (by decide +kernel) rfl) ?_
  refine rcons (ro_aload_n (k := 0) rfl (by decide +kernel) rfl) ?_
  refine rcons (ro_iload (by decide +kernel) rfl) ?_
  refine rcons (ro_iconst (n := 2) (by decide +kernel) rfl rfl) ?_
  refine rcons (ro_iadd (by decide +kernel) rfl) ?_
  refine rcons (ro_isc (fun _ h => h) (by decide +kernel) rfl) ?_
  refine rcons (ro_aload_n (k := 3) rfl (by decide +kernel) rfl) ?_
  refine rcons (ro_callSX ok_w_isSameMonth (by decide +kernel) rfl (fun s args ht => vx_cwSW 4 ht (rgoodS (fun w h => List.mem_cons_of_mem _ h) q_841 q_842 q_12 q_843) rfl rfl rfl hy_w_isSameMonth ⟨Nat.le_of_ble_eq_true rfl, Nat.le_of_ble_eq_true rfl⟩) rfl) ?_
  refine rcons (ro_istore (by decide +kernel) rfl) ?_
  refine rcons (ro_aload_n (k := 2) rfl (by decide +kernel) rfl) ?_
  refine rcons (ro_aload_n (k := 0) rfl (by decide +kernel) rfl) ?_
  refine rcons (ro_iload (by decide +kernel) rfl) ?_
  refine rcons (ro_iconst (n := 1) (by decide +kernel) rfl rfl) ?_
  refine rcons (ro_iadd (by decide +kernel) rfl) ?_
  refine rcons (ro_isc (fun _ h => h) (by decide +kernel) rfl) ?_
  refine rcons (ro_aload_n (k := 0) rfl (by decide +kernel) rfl) ?_
  refine rcons (ro_iload (by decide +kernel) rfl) ?_
  refine rcons (ro_iconst (n := 2) (by decide +kernel) rfl rfl) ?_
  refine rcons (ro_iadd (by decide +kernel) rfl) ?_
  refine rcons (ro_isc (fun _ h => h) (by decide +kernel) rfl) ?_
  refine rcons (ro_callVH (C := rN1) (T := rF1) (N := 7) rfl ok_d_isSameMonth (by decide +kernel) trivial (by decide) (fun s args ht => cwV (C := rN1) 2 ht (rgoodV (C := rN1) (fun w h => List.mem_cons_of_mem _ h) q_1171 q_1172 q_1173 q_14 q_1174) rfl rfl rfl hv_d_isSameMonth ⟨Nat.le_of_ble_eq_true rfl, Nat.le_of_ble_eq_true rfl⟩) rfl) ?_
  refine rcons (ro_istore (by decide +kernel) rfl) ?_
  refine rcons (ro_goto (off := 781) (by decide +kernel) rfl) ?_
  refine rcons (ro_stop) ?_
  exact rnil
def ps_l33 : List Nat := [1672, 1673, 1674, 1676, 1677, 1678, 1679, 1680, 1682, 1683, 1684, 1685, 1686, 1689, 1691, 1692, 1693, 1695, 1696, 1697, 1698, 1699, 1701, 1702, 1703, 1704, 1707, 1709, 2450]
def tb_l33 (L : Nat) (xs : Nat → Int32) (i : Int32) (g1 : Bool) (v1 : Int32) (g2 : Bool) (v2 : Int32) (g3 : Bool) (v3 : Int32) (g4 : Bool) (v4 : Int32) (z2 z3 z4 : Bool) : List RT := [tq_al 1, tq_al 0, tq_il 4, tq_ic 1, tq_i2 (fun x y => x + y), tq_isc L xs g1 v1, tq_al 0, tq_il 4, tq_ic 2, tq_i2 (fun x y => x + y), tq_isc L xs g2 v2, tq_al 3, tq_callH m_w_isMonth 4 2 1171 [], tq_is 7 5, tq_al 2, tq_al 0, tq_il 4, tq_ic 1, tq_i2 (fun x y => x + y), tq_isc L xs g1 v1, tq_al 0, tq_il 4, tq_ic 2, tq_i2 (fun x y => x + y), tq_isc L xs g2 v2, tq_callH (rV 1 m_d_isMonth) 3 0 1171 [], tq_is 7 6, tq_go 28, tq_stop i]
set_option maxHeartbeats 4000000 in
set_option maxRecDepth 20000 in
theorem ok_l33 (L : Nat) (xs : Nat → Int32) (i : Int32) (g1 : Bool) (v1 : Int32) (g2 : Bool) (v2 : Int32) (g3 : Bool) (v3 : Int32) (g4 : Bool) (v4 : Int32) (z2 z3 z4 : Bool) : rAll (rOk (fun G => rSc G = (L, xs)) code "RingdaysLaw" 7 rTL room_1 [] 1171 (.inr (2450, i)) (fun o => ps_l33.getD o 0)) ps_l33 (tb_l33 L xs i g1 v1 g2 v2 g3 v3 g4 v4 z2 z3 z4) := by
  refine rcons (ro_aload_n (k := 1) rfl (by decide +kernel) rfl) ?_
  refine rcons (ro_aload_n (k := 0) rfl (by decide +kernel) rfl) ?_
  refine rcons (ro_iload (by decide +kernel) rfl) ?_
  refine rcons (ro_iconst (n := 1) (by decide +kernel) rfl rfl) ?_
  refine rcons (ro_iadd (by decide +kernel) rfl) ?_
  refine rcons (ro_isc (fun _ h => h) (by decide +kernel) rfl) ?_
  refine rcons (ro_aload_n (k := 0) rfl (by decide +kernel) rfl) ?_
  refine rcons (ro_iload (by decide +kernel) rfl) ?_
  refine rcons (ro_iconst (n := 2) (by decide +kernel) rfl rfl) ?_
  refine rcons (ro_iadd (by decide +kernel) rfl) ?_
  refine rcons (ro_isc (fun _ h => h) (by decide +kernel) rfl) ?_
  refine rcons (ro_aload_n (k := 3) rfl (by decide +kernel) rfl) ?_
  refine rcons (ro_callSX ok_w_isMonth (by decide +kernel) rfl (fun s args ht => vx_cwSW 4 ht (rgoodS (fun w h => List.mem_cons_of_mem _ h) q_848 q_849 q_12 q_850) rfl rfl rfl hy_w_isMonth ⟨Nat.le_of_ble_eq_true rfl, Nat.le_of_ble_eq_true rfl⟩) rfl) ?_
  refine rcons (ro_istore (by decide +kernel) rfl) ?_
  refine rcons (ro_aload_n (k := 2) rfl (by decide +kernel) rfl) ?_
  refine rcons (ro_aload_n (k := 0) rfl (by decide +kernel) rfl) ?_
  refine rcons (ro_iload (by decide +kernel) rfl) ?_
  refine rcons (ro_iconst (n := 1) (by decide +kernel) rfl rfl) ?_
  refine rcons (ro_iadd (by decide +kernel) rfl) ?_
  refine rcons (ro_isc (fun _ h => h) (by decide +kernel) rfl) ?_
  refine rcons (ro_aload_n (k := 0) rfl (by decide +kernel) rfl) ?_
  refine rcons (ro_iload (by decide +kernel) rfl) ?_
  refine rcons (ro_iconst (n := 2) (by decide +kernel) rfl rfl) ?_
  refine rcons (ro_iadd (by decide +kernel) rfl) ?_
  refine rcons (ro_isc (fun _ h => h) (by decide +kernel) rfl) ?_
  refine rcons (ro_callVH (C := rN1) (T := rF1) (N := 7) rfl ok_d_isMonth (by decide +kernel) trivial (by decide) (fun s args ht => cwV (C := rN1) 2 ht (rgoodV (C := rN1) (fun w h => List.mem_cons_of_mem _ h) q_1175 q_1176 q_1177 q_14 q_1178) rfl rfl rfl hv_d_isMonth ⟨Nat.le_of_ble_eq_true rfl, Nat.le_of_ble_eq_true rfl⟩) rfl) ?_
  refine rcons (ro_istore (by decide +kernel) rfl) ?_
  refine rcons (ro_goto (off := 741) (by decide +kernel) rfl) ?_
  refine rcons (ro_stop) ?_
  exact rnil
def ps_l34 : List Nat := [1712, 1713, 1714, 1716, 1717, 1718, 1719, 1720, 1722, 1723, 1724, 1725, 1728, 1729, 1732, 1733, 1734, 1737, 1739, 1740, 1741, 1743, 1744, 1745, 1746, 1747, 1749, 1750, 1751, 1752, 1755, 1756, 1759, 1760, 1763, 1765, 2450]
def tb_l34 (L : Nat) (xs : Nat → Int32) (i : Int32) (g1 : Bool) (v1 : Int32) (g2 : Bool) (v2 : Int32) (g3 : Bool) (v3 : Int32) (g4 : Bool) (v4 : Int32) (z2 z3 z4 : Bool) : List RT := [tq_al 1, tq_al 0, tq_il 4, tq_ic 1, tq_i2 (fun x y => x + y), tq_isc L xs g1 v1, tq_al 0, tq_il 4, tq_ic 2, tq_i2 (fun x y => x + y), tq_isc L xs g2 v2, tq_sv (fun x => decide (x = 0)) z2 1 0 15, tq_ic 1, tq_go 15, tq_ic 0, tq_al 3, tq_callH m_w_length 4 1 1171 [], tq_is 7 5, tq_al 2, tq_al 0, tq_il 4, tq_ic 1, tq_i2 (fun x y => x + y), tq_isc L xs g1 v1, tq_al 0, tq_il 4, tq_ic 2, tq_i2 (fun x y => x + y), tq_isc L xs g2 v2, tq_sv (fun x => decide (x = 0)) z2 1 0 33, tq_ic 1, tq_go 33, tq_ic 0, tq_callH (rV 1 m_d_length) 3 0 1171 [], tq_is 7 6, tq_go 36, tq_stop i]
set_option maxHeartbeats 4000000 in
set_option maxRecDepth 20000 in
theorem ok_l34 (L : Nat) (xs : Nat → Int32) (i : Int32) (g1 : Bool) (v1 : Int32) (g2 : Bool) (v2 : Int32) (g3 : Bool) (v3 : Int32) (g4 : Bool) (v4 : Int32) (z2 z3 z4 : Bool) : rAll (rOk (fun G => rSc G = (L, xs)) code "RingdaysLaw" 7 rTL room_1 [] 1171 (.inr (2450, i)) (fun o => ps_l34.getD o 0)) ps_l34 (tb_l34 L xs i g1 v1 g2 v2 g3 v3 g4 v4 z2 z3 z4) := by
  refine rcons (ro_aload_n (k := 1) rfl (by decide +kernel) rfl) ?_
  refine rcons (ro_aload_n (k := 0) rfl (by decide +kernel) rfl) ?_
  refine rcons (ro_iload (by decide +kernel) rfl) ?_
  refine rcons (ro_iconst (n := 1) (by decide +kernel) rfl rfl) ?_
  refine rcons (ro_iadd (by decide +kernel) rfl) ?_
  refine rcons (ro_isc (fun _ h => h) (by decide +kernel) rfl) ?_
  refine rcons (ro_aload_n (k := 0) rfl (by decide +kernel) rfl) ?_
  refine rcons (ro_iload (by decide +kernel) rfl) ?_
  refine rcons (ro_iconst (n := 2) (by decide +kernel) rfl rfl) ?_
  refine rcons (ro_iadd (by decide +kernel) rfl) ?_
  refine rcons (ro_isc (fun _ h => h) (by decide +kernel) rfl) ?_
  refine rcons (ro_sv (ro_s1_eq (off := 7) (off2 := 4) (n1 := 1) (n2 := 0) (by decide +kernel) (by decide +kernel) rfl (by decide +kernel) (by decide +kernel) rfl rfl rfl rfl)) ?_
  refine rcons (ro_iconst (n := 1) (by decide +kernel) rfl rfl) ?_
  refine rcons (ro_goto (off := 4) (by decide +kernel) rfl) ?_
  refine rcons (ro_iconst (n := 0) (by decide +kernel) rfl rfl) ?_
  refine rcons (ro_aload_n (k := 3) rfl (by decide +kernel) rfl) ?_
  refine rcons (ro_callSX ok_w_length (by decide +kernel) rfl (fun s args ht => vx_cwSW 4 ht (rgoodS (fun w h => List.mem_cons_of_mem _ h) q_855 q_856 q_12 q_857) rfl rfl rfl hy_w_length ⟨Nat.le_of_ble_eq_true rfl, Nat.le_of_ble_eq_true rfl⟩) rfl) ?_
  refine rcons (ro_istore (by decide +kernel) rfl) ?_
  refine rcons (ro_aload_n (k := 2) rfl (by decide +kernel) rfl) ?_
  refine rcons (ro_aload_n (k := 0) rfl (by decide +kernel) rfl) ?_
  refine rcons (ro_iload (by decide +kernel) rfl) ?_
  refine rcons (ro_iconst (n := 1) (by decide +kernel) rfl rfl) ?_
  refine rcons (ro_iadd (by decide +kernel) rfl) ?_
  refine rcons (ro_isc (fun _ h => h) (by decide +kernel) rfl) ?_
  refine rcons (ro_aload_n (k := 0) rfl (by decide +kernel) rfl) ?_
  refine rcons (ro_iload (by decide +kernel) rfl) ?_
  refine rcons (ro_iconst (n := 2) (by decide +kernel) rfl rfl) ?_
  refine rcons (ro_iadd (by decide +kernel) rfl) ?_
  refine rcons (ro_isc (fun _ h => h) (by decide +kernel) rfl) ?_
  refine rcons (ro_sv (ro_s1_eq (off := 7) (off2 := 4) (n1 := 1) (n2 := 0) (by decide +kernel) (by decide +kernel) rfl (by decide +kernel) (by decide +kernel) rfl rfl rfl rfl)) ?_
  refine rcons (ro_iconst (n := 1) (by decide +kernel) rfl rfl) ?_
  refine rcons (ro_goto (off := 4) (by decide +kernel) rfl) ?_
  refine rcons (ro_iconst (n := 0) (by decide +kernel) rfl rfl) ?_
  refine rcons (ro_callVH (C := rN1) (T := rF1) (N := 7) rfl ok_d_length (by decide +kernel) trivial (by decide) (fun s args ht => cwV (C := rN1) 2 ht (rgoodV (C := rN1) (fun w h => List.mem_cons_of_mem _ h) q_1179 q_1180 q_1181 q_14 q_1182) rfl rfl rfl hv_d_length ⟨Nat.le_of_ble_eq_true rfl, Nat.le_of_ble_eq_true rfl⟩) rfl) ?_
  refine rcons (ro_istore (by decide +kernel) rfl) ?_
  refine rcons (ro_goto (off := 685) (by decide +kernel) rfl) ?_
  refine rcons (ro_stop) ?_
  exact rnil
def ps_l35 : List Nat := [1768, 1769, 1770, 1772, 1773, 1774, 1775, 1776, 1779, 1781, 1782, 1783, 1785, 1786, 1787, 1788, 1791, 1793, 2450]
def tb_l35 (L : Nat) (xs : Nat → Int32) (i : Int32) (g1 : Bool) (v1 : Int32) (g2 : Bool) (v2 : Int32) (g3 : Bool) (v3 : Int32) (g4 : Bool) (v4 : Int32) (z2 z3 z4 : Bool) : List RT := [tq_al 1, tq_al 0, tq_il 4, tq_ic 1, tq_i2 (fun x y => x + y), tq_isc L xs g1 v1, tq_al 3, tq_callH m_w_least 3 1 1171 [], tq_is 7 5, tq_al 2, tq_al 0, tq_il 4, tq_ic 1, tq_i2 (fun x y => x + y), tq_isc L xs g1 v1, tq_callH (rV 1 m_d_least) 2 0 1171 [], tq_is 7 6, tq_go 18, tq_stop i]
set_option maxHeartbeats 4000000 in
set_option maxRecDepth 20000 in
theorem ok_l35 (L : Nat) (xs : Nat → Int32) (i : Int32) (g1 : Bool) (v1 : Int32) (g2 : Bool) (v2 : Int32) (g3 : Bool) (v3 : Int32) (g4 : Bool) (v4 : Int32) (z2 z3 z4 : Bool) : rAll (rOk (fun G => rSc G = (L, xs)) code "RingdaysLaw" 7 rTL room_1 [] 1171 (.inr (2450, i)) (fun o => ps_l35.getD o 0)) ps_l35 (tb_l35 L xs i g1 v1 g2 v2 g3 v3 g4 v4 z2 z3 z4) := by
  refine rcons (ro_aload_n (k := 1) rfl (by decide +kernel) rfl) ?_
  refine rcons (ro_aload_n (k := 0) rfl (by decide +kernel) rfl) ?_
  refine rcons (ro_iload (by decide +kernel) rfl) ?_
  refine rcons (ro_iconst (n := 1) (by decide +kernel) rfl rfl) ?_
  refine rcons (ro_iadd (by decide +kernel) rfl) ?_
  refine rcons (ro_isc (fun _ h => h) (by decide +kernel) rfl) ?_
  refine rcons (ro_aload_n (k := 3) rfl (by decide +kernel) rfl) ?_
  refine rcons (ro_callSX ok_w_least (by decide +kernel) rfl (fun s args ht => vx_cwSW 3 ht (rgoodS (fun w h => List.mem_cons_of_mem _ h) q_862 q_863 q_12 q_864) rfl rfl rfl hy_w_least ⟨Nat.le_of_ble_eq_true rfl, Nat.le_of_ble_eq_true rfl⟩) rfl) ?_
  refine rcons (ro_istore (by decide +kernel) rfl) ?_
  refine rcons (ro_aload_n (k := 2) rfl (by decide +kernel) rfl) ?_
  refine rcons (ro_aload_n (k := 0) rfl (by decide +kernel) rfl) ?_
  refine rcons (ro_iload (by decide +kernel) rfl) ?_
  refine rcons (ro_iconst (n := 1) (by decide +kernel) rfl rfl) ?_
  refine rcons (ro_iadd (by decide +kernel) rfl) ?_
  refine rcons (ro_isc (fun _ h => h) (by decide +kernel) rfl) ?_
  refine rcons (ro_callVH (C := rN1) (T := rF1) (N := 7) rfl ok_d_least (by decide +kernel) trivial (by decide) (fun s args ht => cwV (C := rN1) 1 ht (rgoodV (C := rN1) (fun w h => List.mem_cons_of_mem _ h) q_1188 q_1189 q_1190 q_14 q_1191) rfl rfl rfl hv_d_least ⟨Nat.le_of_ble_eq_true rfl, Nat.le_of_ble_eq_true rfl⟩) rfl) ?_
  refine rcons (ro_istore (by decide +kernel) rfl) ?_
  refine rcons (ro_goto (off := 657) (by decide +kernel) rfl) ?_
  refine rcons (ro_stop) ?_
  exact rnil
end RKM
