section RKM
def dl_l0 : List (Nat × Instr × Nat) := [(272, .aload_n 1, 1), (273, .aload_n 0, 1), (274, .iload 4, 2), (276, .iconst 1, 1), (277, .iadd, 1), (278, .iaload, 1), (279, .aload_n 0, 1), (280, .iload 4, 2), (282, .iconst 2, 1), (283, .iadd, 1), (284, .iaload, 1), (285, .aload_n 3, 1), (286, .invokestatic 185, 3), (289, .istore 5, 2), (291, .aload_n 2, 1), (292, .aload_n 0, 1), (293, .iload 4, 2), (295, .iconst 1, 1), (296, .iadd, 1), (297, .iaload, 1), (298, .aload_n 0, 1), (299, .iload 4, 2), (301, .iconst 2, 1), (302, .iadd, 1), (303, .iaload, 1), (304, .invokevirtual 190, 3), (307, .istore 6, 2), (309, .goto 2142, 3)]
theorem dc_l0 : ∀ (k : Nat) (q : Nat × Instr × Nat), dl_l0[k]? = some q → decode code q.1 = .ok q.2 := dchk_at (a := 272) (by decide +kernel)
def ps_l0 : List Nat := [272, 273, 274, 276, 277, 278, 279, 280, 282, 283, 284, 285, 286, 289, 291, 292, 293, 295, 296, 297, 298, 299, 301, 302, 303, 304, 307, 309, 2451]
def tb_l0 (L : Nat) (xs : Nat → Int32) (i : Int32) (g1 : Bool) (v1 : Int32) (g2 : Bool) (v2 : Int32) (g3 : Bool) (v3 : Int32) (g4 : Bool) (v4 : Int32) (z2 z3 z4 : Bool) : List RT := [tq_al 1, tq_al 0, tq_il 4, tq_ic 1, tq_i2 (fun x y => x + y), tq_isc L xs g1 v1, tq_al 0, tq_il 4, tq_ic 2, tq_i2 (fun x y => x + y), tq_isc L xs g2 v2, tq_al 3, tq_callH m_w_day 4 3 1000 [], tq_is 7 5, tq_al 2, tq_al 0, tq_il 4, tq_ic 1, tq_i2 (fun x y => x + y), tq_isc L xs g1 v1, tq_al 0, tq_il 4, tq_ic 2, tq_i2 (fun x y => x + y), tq_isc L xs g2 v2, tq_callH (rV 1 m_d_day) 3 0 1000 [], tq_is 7 6, tq_go 28, tq_stop i]
set_option maxHeartbeats 4000000 in
set_option maxRecDepth 20000 in
theorem ok_l0 (L : Nat) (xs : Nat → Int32) (i : Int32) (g1 : Bool) (v1 : Int32) (g2 : Bool) (v2 : Int32) (g3 : Bool) (v3 : Int32) (g4 : Bool) (v4 : Int32) (z2 z3 z4 : Bool) : rAll (rOk (fun G => rSc G = (L, xs)) code "RingdaysLaw" 7 rTL room_1 [] 1000 (.inr (2451, i)) (fun o => ps_l0.getD o 0)) ps_l0 (tb_l0 L xs i g1 v1 g2 v2 g3 v3 g4 v4 z2 z3 z4) := by
  refine rcons (ro_aload_n (k := 1) rfl (dca dc_l0 0 rfl) rfl) ?_
  refine rcons (ro_aload_n (k := 0) rfl (dca dc_l0 1 rfl) rfl) ?_
  refine rcons (ro_iload (dca dc_l0 2 rfl) rfl) ?_
  refine rcons (ro_iconst (n := 1) (dca dc_l0 3 rfl) rfl rfl) ?_
  refine rcons (ro_iadd (dca dc_l0 4 rfl) rfl) ?_
  refine rcons (ro_isc (fun _ h => h) (dca dc_l0 5 rfl) rfl) ?_
  refine rcons (ro_aload_n (k := 0) rfl (dca dc_l0 6 rfl) rfl) ?_
  refine rcons (ro_iload (dca dc_l0 7 rfl) rfl) ?_
  refine rcons (ro_iconst (n := 2) (dca dc_l0 8 rfl) rfl rfl) ?_
  refine rcons (ro_iadd (dca dc_l0 9 rfl) rfl) ?_
  refine rcons (ro_isc (fun _ h => h) (dca dc_l0 10 rfl) rfl) ?_
  refine rcons (ro_aload_n (k := 3) rfl (dca dc_l0 11 rfl) rfl) ?_
  refine rcons (ro_callSX ok_w_day (dca dc_l0 12 rfl) rfl (fun s args ht => vx_cwSW 4 ht (rgoodS (fun w h => List.mem_cons_of_mem _ h) q_583 q_584 q_12 q_585) rfl rfl rfl hy_w_day ⟨Nat.le_of_ble_eq_true rfl, Nat.le_of_ble_eq_true rfl⟩) rfl) ?_
  refine rcons (ro_istore (dca dc_l0 13 rfl) rfl) ?_
  refine rcons (ro_aload_n (k := 2) rfl (dca dc_l0 14 rfl) rfl) ?_
  refine rcons (ro_aload_n (k := 0) rfl (dca dc_l0 15 rfl) rfl) ?_
  refine rcons (ro_iload (dca dc_l0 16 rfl) rfl) ?_
  refine rcons (ro_iconst (n := 1) (dca dc_l0 17 rfl) rfl rfl) ?_
  refine rcons (ro_iadd (dca dc_l0 18 rfl) rfl) ?_
  refine rcons (ro_isc (fun _ h => h) (dca dc_l0 19 rfl) rfl) ?_
  refine rcons (ro_aload_n (k := 0) rfl (dca dc_l0 20 rfl) rfl) ?_
  refine rcons (ro_iload (dca dc_l0 21 rfl) rfl) ?_
  refine rcons (ro_iconst (n := 2) (dca dc_l0 22 rfl) rfl rfl) ?_
  refine rcons (ro_iadd (dca dc_l0 23 rfl) rfl) ?_
  refine rcons (ro_isc (fun _ h => h) (dca dc_l0 24 rfl) rfl) ?_
  refine rcons (ro_callVH (C := rN1) (T := rF1) (N := 7) rfl ok_d_day (dca dc_l0 25 rfl) trivial (by decide) (fun s args ht => cwV (C := rN1) 2 ht (rgoodV (C := rN1) (fun w h => List.mem_cons_of_mem _ h) q_1006 q_1007 q_1008 q_14 q_1009) rfl rfl rfl hv_d_day ⟨Nat.le_of_ble_eq_true rfl, Nat.le_of_ble_eq_true rfl⟩) rfl) ?_
  refine rcons (ro_istore (dca dc_l0 26 rfl) rfl) ?_
  refine rcons (ro_goto (off := 2142) (dca dc_l0 27 rfl) rfl) ?_
  refine rcons (ro_stop) ?_
  exact rnil
def dl_l1 : List (Nat × Instr × Nat) := [(312, .aload_n 1, 1), (313, .aload_n 0, 1), (314, .iload 4, 2), (316, .iconst 1, 1), (317, .iadd, 1), (318, .iaload, 1), (319, .aload_n 3, 1), (320, .invokestatic 191, 3), (323, .istore 5, 2), (325, .aload_n 2, 1), (326, .aload_n 0, 1), (327, .iload 4, 2), (329, .iconst 1, 1), (330, .iadd, 1), (331, .iaload, 1), (332, .invokevirtual 194, 3), (335, .istore 6, 2), (337, .goto 2114, 3)]
theorem dc_l1 : ∀ (k : Nat) (q : Nat × Instr × Nat), dl_l1[k]? = some q → decode code q.1 = .ok q.2 := dchk_at (a := 312) (by decide +kernel)
def ps_l1 : List Nat := [312, 313, 314, 316, 317, 318, 319, 320, 323, 325, 326, 327, 329, 330, 331, 332, 335, 337, 2451]
def tb_l1 (L : Nat) (xs : Nat → Int32) (i : Int32) (g1 : Bool) (v1 : Int32) (g2 : Bool) (v2 : Int32) (g3 : Bool) (v3 : Int32) (g4 : Bool) (v4 : Int32) (z2 z3 z4 : Bool) : List RT := [tq_al 1, tq_al 0, tq_il 4, tq_ic 1, tq_i2 (fun x y => x + y), tq_isc L xs g1 v1, tq_al 3, tq_callH m_w_dayNumber 3 1 1000 [], tq_is 7 5, tq_al 2, tq_al 0, tq_il 4, tq_ic 1, tq_i2 (fun x y => x + y), tq_isc L xs g1 v1, tq_callH (rV 1 m_d_dayNumber) 2 0 1000 [], tq_is 7 6, tq_go 18, tq_stop i]
set_option maxHeartbeats 4000000 in
set_option maxRecDepth 20000 in
theorem ok_l1 (L : Nat) (xs : Nat → Int32) (i : Int32) (g1 : Bool) (v1 : Int32) (g2 : Bool) (v2 : Int32) (g3 : Bool) (v3 : Int32) (g4 : Bool) (v4 : Int32) (z2 z3 z4 : Bool) : rAll (rOk (fun G => rSc G = (L, xs)) code "RingdaysLaw" 7 rTL room_1 [] 1000 (.inr (2451, i)) (fun o => ps_l1.getD o 0)) ps_l1 (tb_l1 L xs i g1 v1 g2 v2 g3 v3 g4 v4 z2 z3 z4) := by
  refine rcons (ro_aload_n (k := 1) rfl (dca dc_l1 0 rfl) rfl) ?_
  refine rcons (ro_aload_n (k := 0) rfl (dca dc_l1 1 rfl) rfl) ?_
  refine rcons (ro_iload (dca dc_l1 2 rfl) rfl) ?_
  refine rcons (ro_iconst (n := 1) (dca dc_l1 3 rfl) rfl rfl) ?_
  refine rcons (ro_iadd (dca dc_l1 4 rfl) rfl) ?_
  refine rcons (ro_isc (fun _ h => h) (dca dc_l1 5 rfl) rfl) ?_
  refine rcons (ro_aload_n (k := 3) rfl (dca dc_l1 6 rfl) rfl) ?_
  refine rcons (ro_callSX ok_w_dayNumber (dca dc_l1 7 rfl) rfl (fun s args ht => vx_cwSW 3 ht (rgoodS (fun w h => List.mem_cons_of_mem _ h) q_609 q_610 q_12 q_611) rfl rfl rfl hy_w_dayNumber ⟨Nat.le_of_ble_eq_true rfl, Nat.le_of_ble_eq_true rfl⟩) rfl) ?_
  refine rcons (ro_istore (dca dc_l1 8 rfl) rfl) ?_
  refine rcons (ro_aload_n (k := 2) rfl (dca dc_l1 9 rfl) rfl) ?_
  refine rcons (ro_aload_n (k := 0) rfl (dca dc_l1 10 rfl) rfl) ?_
  refine rcons (ro_iload (dca dc_l1 11 rfl) rfl) ?_
  refine rcons (ro_iconst (n := 1) (dca dc_l1 12 rfl) rfl rfl) ?_
  refine rcons (ro_iadd (dca dc_l1 13 rfl) rfl) ?_
  refine rcons (ro_isc (fun _ h => h) (dca dc_l1 14 rfl) rfl) ?_
  refine rcons (ro_callVH (C := rN1) (T := rF1) (N := 7) rfl ok_d_dayNumber (dca dc_l1 15 rfl) trivial (by decide) (fun s args ht => cwV (C := rN1) 1 ht (rgoodV (C := rN1) (fun w h => List.mem_cons_of_mem _ h) q_1021 q_1022 q_1023 q_14 q_1024) rfl rfl rfl hv_d_dayNumber ⟨Nat.le_of_ble_eq_true rfl, Nat.le_of_ble_eq_true rfl⟩) rfl) ?_
  refine rcons (ro_istore (dca dc_l1 16 rfl) rfl) ?_
  refine rcons (ro_goto (off := 2114) (dca dc_l1 17 rfl) rfl) ?_
  refine rcons (ro_stop) ?_
  exact rnil
def dl_l2 : List (Nat × Instr × Nat) := [(340, .aload_n 1, 1), (341, .aload_n 0, 1), (342, .iload 4, 2), (344, .iconst 1, 1), (345, .iadd, 1), (346, .iaload, 1), (347, .aload_n 3, 1), (348, .invokestatic 195, 3), (351, .istore 5, 2), (353, .aload_n 2, 1), (354, .aload_n 0, 1), (355, .iload 4, 2), (357, .iconst 1, 1), (358, .iadd, 1), (359, .iaload, 1), (360, .invokevirtual 197, 3), (363, .istore 6, 2), (365, .goto 2086, 3)]
theorem dc_l2 : ∀ (k : Nat) (q : Nat × Instr × Nat), dl_l2[k]? = some q → decode code q.1 = .ok q.2 := dchk_at (a := 340) (by decide +kernel)
def ps_l2 : List Nat := [340, 341, 342, 344, 345, 346, 347, 348, 351, 353, 354, 355, 357, 358, 359, 360, 363, 365, 2451]
def tb_l2 (L : Nat) (xs : Nat → Int32) (i : Int32) (g1 : Bool) (v1 : Int32) (g2 : Bool) (v2 : Int32) (g3 : Bool) (v3 : Int32) (g4 : Bool) (v4 : Int32) (z2 z3 z4 : Bool) : List RT := [tq_al 1, tq_al 0, tq_il 4, tq_ic 1, tq_i2 (fun x y => x + y), tq_isc L xs g1 v1, tq_al 3, tq_callH m_w_dayPlace 3 1 1000 [], tq_is 7 5, tq_al 2, tq_al 0, tq_il 4, tq_ic 1, tq_i2 (fun x y => x + y), tq_isc L xs g1 v1, tq_callH (rV 1 m_d_dayPlace) 2 0 1000 [], tq_is 7 6, tq_go 18, tq_stop i]
set_option maxHeartbeats 4000000 in
set_option maxRecDepth 20000 in
theorem ok_l2 (L : Nat) (xs : Nat → Int32) (i : Int32) (g1 : Bool) (v1 : Int32) (g2 : Bool) (v2 : Int32) (g3 : Bool) (v3 : Int32) (g4 : Bool) (v4 : Int32) (z2 z3 z4 : Bool) : rAll (rOk (fun G => rSc G = (L, xs)) code "RingdaysLaw" 7 rTL room_1 [] 1000 (.inr (2451, i)) (fun o => ps_l2.getD o 0)) ps_l2 (tb_l2 L xs i g1 v1 g2 v2 g3 v3 g4 v4 z2 z3 z4) := by
  refine rcons (ro_aload_n (k := 1) rfl (dca dc_l2 0 rfl) rfl) ?_
  refine rcons (ro_aload_n (k := 0) rfl (dca dc_l2 1 rfl) rfl) ?_
  refine rcons (ro_iload (dca dc_l2 2 rfl) rfl) ?_
  refine rcons (ro_iconst (n := 1) (dca dc_l2 3 rfl) rfl rfl) ?_
  refine rcons (ro_iadd (dca dc_l2 4 rfl) rfl) ?_
  refine rcons (ro_isc (fun _ h => h) (dca dc_l2 5 rfl) rfl) ?_
  refine rcons (ro_aload_n (k := 3) rfl (dca dc_l2 6 rfl) rfl) ?_
  refine rcons (ro_callSX ok_w_dayPlace (dca dc_l2 7 rfl) rfl (fun s args ht => vx_cwSW 3 ht (rgoodS (fun w h => List.mem_cons_of_mem _ h) q_616 q_617 q_12 q_618) rfl rfl rfl hy_w_dayPlace ⟨Nat.le_of_ble_eq_true rfl, Nat.le_of_ble_eq_true rfl⟩) rfl) ?_
  refine rcons (ro_istore (dca dc_l2 8 rfl) rfl) ?_
  refine rcons (ro_aload_n (k := 2) rfl (dca dc_l2 9 rfl) rfl) ?_
  refine rcons (ro_aload_n (k := 0) rfl (dca dc_l2 10 rfl) rfl) ?_
  refine rcons (ro_iload (dca dc_l2 11 rfl) rfl) ?_
  refine rcons (ro_iconst (n := 1) (dca dc_l2 12 rfl) rfl rfl) ?_
  refine rcons (ro_iadd (dca dc_l2 13 rfl) rfl) ?_
  refine rcons (ro_isc (fun _ h => h) (dca dc_l2 14 rfl) rfl) ?_
  refine rcons (ro_callVH (C := rN1) (T := rF1) (N := 7) rfl ok_d_dayPlace (dca dc_l2 15 rfl) trivial (by decide) (fun s args ht => cwV (C := rN1) 1 ht (rgoodV (C := rN1) (fun w h => List.mem_cons_of_mem _ h) q_1025 q_1026 q_1027 q_14 q_1028) rfl rfl rfl hv_d_dayPlace ⟨Nat.le_of_ble_eq_true rfl, Nat.le_of_ble_eq_true rfl⟩) rfl) ?_
  refine rcons (ro_istore (dca dc_l2 16 rfl) rfl) ?_
  refine rcons (ro_goto (off := 2086) (dca dc_l2 17 rfl) rfl) ?_
  refine rcons (ro_stop) ?_
  exact rnil
def dl_l3 : List (Nat × Instr × Nat) := [(368, .aload_n 1, 1), (369, .aload_n 0, 1), (370, .iload 4, 2), (372, .iconst 1, 1), (373, .iadd, 1), (374, .iaload, 1), (375, .aload_n 3, 1), (376, .invokestatic 198, 3), (379, .istore 5, 2), (381, .aload_n 2, 1), (382, .aload_n 0, 1), (383, .iload 4, 2), (385, .iconst 1, 1), (386, .iadd, 1), (387, .iaload, 1), (388, .invokevirtual 200, 3), (391, .astore 6, 2), (393, .goto 2058, 3)]
theorem dc_l3 : ∀ (k : Nat) (q : Nat × Instr × Nat), dl_l3[k]? = some q → decode code q.1 = .ok q.2 := dchk_at (a := 368) (by decide +kernel)
def ps_l3 : List Nat := [368, 369, 370, 372, 373, 374, 375, 376, 379, 381, 382, 383, 385, 386, 387, 388, 391, 393, 2451]
def tb_l3 (L : Nat) (xs : Nat → Int32) (i : Int32) (g1 : Bool) (v1 : Int32) (g2 : Bool) (v2 : Int32) (g3 : Bool) (v3 : Int32) (g4 : Bool) (v4 : Int32) (z2 z3 z4 : Bool) : List RT := [tq_al 1, tq_al 0, tq_il 4, tq_ic 1, tq_i2 (fun x y => x + y), tq_isc L xs g1 v1, tq_al 3, tq_callH m_w_dayName 3 1 1000 [], tq_is 7 5, tq_al 2, tq_al 0, tq_il 4, tq_ic 1, tq_i2 (fun x y => x + y), tq_isc L xs g1 v1, tq_callH (rV 1 m_d_dayName) 2 0 1000 [], tq_as 7 6, tq_go 18, tq_stop i]
set_option maxHeartbeats 4000000 in
set_option maxRecDepth 20000 in
theorem ok_l3 (L : Nat) (xs : Nat → Int32) (i : Int32) (g1 : Bool) (v1 : Int32) (g2 : Bool) (v2 : Int32) (g3 : Bool) (v3 : Int32) (g4 : Bool) (v4 : Int32) (z2 z3 z4 : Bool) : rAll (rOk (fun G => rSc G = (L, xs)) code "RingdaysLaw" 7 rTL room_1 [] 1000 (.inr (2451, i)) (fun o => ps_l3.getD o 0)) ps_l3 (tb_l3 L xs i g1 v1 g2 v2 g3 v3 g4 v4 z2 z3 z4) := by
  refine rcons (ro_aload_n (k := 1) rfl (dca dc_l3 0 rfl) rfl) ?_
  refine rcons (ro_aload_n (k := 0) rfl (dca dc_l3 1 rfl) rfl) ?_
  refine rcons (ro_iload (dca dc_l3 2 rfl) rfl) ?_
  refine rcons (ro_iconst (n := 1) (dca dc_l3 3 rfl) rfl rfl) ?_
  refine rcons (ro_iadd (dca dc_l3 4 rfl) rfl) ?_
  refine rcons (ro_isc (fun _ h => h) (dca dc_l3 5 rfl) rfl) ?_
  refine rcons (ro_aload_n (k := 3) rfl (dca dc_l3 6 rfl) rfl) ?_
  refine rcons (ro_callSX ok_w_dayName (dca dc_l3 7 rfl) rfl (fun s args ht => vx_cwSW 3 ht (rgoodS (fun w h => List.mem_cons_of_mem _ h) q_623 q_624 q_12 q_625) rfl rfl rfl hy_w_dayName ⟨Nat.le_of_ble_eq_true rfl, Nat.le_of_ble_eq_true rfl⟩) rfl) ?_
  refine rcons (ro_istore (dca dc_l3 8 rfl) rfl) ?_
  refine rcons (ro_aload_n (k := 2) rfl (dca dc_l3 9 rfl) rfl) ?_
  refine rcons (ro_aload_n (k := 0) rfl (dca dc_l3 10 rfl) rfl) ?_
  refine rcons (ro_iload (dca dc_l3 11 rfl) rfl) ?_
  refine rcons (ro_iconst (n := 1) (dca dc_l3 12 rfl) rfl rfl) ?_
  refine rcons (ro_iadd (dca dc_l3 13 rfl) rfl) ?_
  refine rcons (ro_isc (fun _ h => h) (dca dc_l3 14 rfl) rfl) ?_
  refine rcons (ro_callVH (C := rN1) (T := rF1) (N := 7) rfl ok_d_dayName (dca dc_l3 15 rfl) trivial (by decide) (fun s args ht => cwV (C := rN1) 1 ht (rgoodV (C := rN1) (fun w h => List.mem_cons_of_mem _ h) q_1029 q_1030 q_1031 q_14 q_1032) rfl rfl rfl hv_d_dayName ⟨Nat.le_of_ble_eq_true rfl, Nat.le_of_ble_eq_true rfl⟩) rfl) ?_
  refine rcons (ro_astore (dca dc_l3 16 rfl) rfl) ?_
  refine rcons (ro_goto (off := 2058) (dca dc_l3 17 rfl) rfl) ?_
  refine rcons (ro_stop) ?_
  exact rnil
def dl_l4 : List (Nat × Instr × Nat) := [(396, .aload_n 1, 1), (397, .aload_n 0, 1), (398, .iload 4, 2), (400, .iconst 1, 1), (401, .iadd, 1), (402, .iaload, 1), (403, .aload_n 0, 1), (404, .iload 4, 2), (406, .iconst 2, 1), (407, .iadd, 1), (408, .iaload, 1), (409, .aload_n 3, 1), (410, .invokestatic 201, 3), (413, .istore 5, 2), (415, .aload_n 2, 1), (416, .aload_n 0, 1), (417, .iload 4, 2), (419, .iconst 1, 1), (420, .iadd, 1), (421, .iaload, 1), (422, .aload_n 0, 1), (423, .iload 4, 2), (425, .iconst 2, 1), (426, .iadd, 1), (427, .iaload, 1), (428, .invokevirtual 203, 3), (431, .istore 6, 2), (433, .goto 2018, 3)]
theorem dc_l4 : ∀ (k : Nat) (q : Nat × Instr × Nat), dl_l4[k]? = some q → decode code q.1 = .ok q.2 := dchk_at (a := 396) (by decide +kernel)
def ps_l4 : List Nat := [396, 397, 398, 400, 401, 402, 403, 404, 406, 407, 408, 409, 410, 413, 415, 416, 417, 419, 420, 421, 422, 423, 425, 426, 427, 428, 431, 433, 2451]
def tb_l4 (L : Nat) (xs : Nat → Int32) (i : Int32) (g1 : Bool) (v1 : Int32) (g2 : Bool) (v2 : Int32) (g3 : Bool) (v3 : Int32) (g4 : Bool) (v4 : Int32) (z2 z3 z4 : Bool) : List RT := [tq_al 1, tq_al 0, tq_il 4, tq_ic 1, tq_i2 (fun x y => x + y), tq_isc L xs g1 v1, tq_al 0, tq_il 4, tq_ic 2, tq_i2 (fun x y => x + y), tq_isc L xs g2 v2, tq_al 3, tq_callH m_w_dayOn 4 2 1000 [], tq_is 7 5, tq_al 2, tq_al 0, tq_il 4, tq_ic 1, tq_i2 (fun x y => x + y), tq_isc L xs g1 v1, tq_al 0, tq_il 4, tq_ic 2, tq_i2 (fun x y => x + y), tq_isc L xs g2 v2, tq_callH (rV 1 m_d_dayOn) 3 0 1000 [], tq_is 7 6, tq_go 28, tq_stop i]
set_option maxHeartbeats 4000000 in
set_option maxRecDepth 20000 in
theorem ok_l4 (L : Nat) (xs : Nat → Int32) (i : Int32) (g1 : Bool) (v1 : Int32) (g2 : Bool) (v2 : Int32) (g3 : Bool) (v3 : Int32) (g4 : Bool) (v4 : Int32) (z2 z3 z4 : Bool) : rAll (rOk (fun G => rSc G = (L, xs)) code "RingdaysLaw" 7 rTL room_1 [] 1000 (.inr (2451, i)) (fun o => ps_l4.getD o 0)) ps_l4 (tb_l4 L xs i g1 v1 g2 v2 g3 v3 g4 v4 z2 z3 z4) := by
  refine rcons (ro_aload_n (k := 1) rfl (dca dc_l4 0 rfl) rfl) ?_
  refine rcons (ro_aload_n (k := 0) rfl (dca dc_l4 1 rfl) rfl) ?_
  refine rcons (ro_iload (dca dc_l4 2 rfl) rfl) ?_
  refine rcons (ro_iconst (n := 1) (dca dc_l4 3 rfl) rfl rfl) ?_
  refine rcons (ro_iadd (dca dc_l4 4 rfl) rfl) ?_
  refine rcons (ro_isc (fun _ h => h) (dca dc_l4 5 rfl) rfl) ?_
  refine rcons (ro_aload_n (k := 0) rfl (dca dc_l4 6 rfl) rfl) ?_
  refine rcons (ro_iload (dca dc_l4 7 rfl) rfl) ?_
  refine rcons (ro_iconst (n := 2) (dca dc_l4 8 rfl) rfl rfl) ?_
  refine rcons (ro_iadd (dca dc_l4 9 rfl) rfl) ?_
  refine rcons (ro_isc (fun _ h => h) (dca dc_l4 10 rfl) rfl) ?_
  refine rcons (ro_aload_n (k := 3) rfl (dca dc_l4 11 rfl) rfl) ?_
  refine rcons (ro_callSX ok_w_dayOn (dca dc_l4 12 rfl) rfl (fun s args ht => vx_cwSW 4 ht (rgoodS (fun w h => List.mem_cons_of_mem _ h) q_630 q_631 q_12 q_632) rfl rfl rfl hy_w_dayOn ⟨Nat.le_of_ble_eq_true rfl, Nat.le_of_ble_eq_true rfl⟩) rfl) ?_
  refine rcons (ro_istore (dca dc_l4 13 rfl) rfl) ?_
  refine rcons (ro_aload_n (k := 2) rfl (dca dc_l4 14 rfl) rfl) ?_
  refine rcons (ro_aload_n (k := 0) rfl (dca dc_l4 15 rfl) rfl) ?_
  refine rcons (ro_iload (dca dc_l4 16 rfl) rfl) ?_
  refine rcons (ro_iconst (n := 1) (dca dc_l4 17 rfl) rfl rfl) ?_
  refine rcons (ro_iadd (dca dc_l4 18 rfl) rfl) ?_
  refine rcons (ro_isc (fun _ h => h) (dca dc_l4 19 rfl) rfl) ?_
  refine rcons (ro_aload_n (k := 0) rfl (dca dc_l4 20 rfl) rfl) ?_
  refine rcons (ro_iload (dca dc_l4 21 rfl) rfl) ?_
  refine rcons (ro_iconst (n := 2) (dca dc_l4 22 rfl) rfl rfl) ?_
  refine rcons (ro_iadd (dca dc_l4 23 rfl) rfl) ?_
  refine rcons (ro_isc (fun _ h => h) (dca dc_l4 24 rfl) rfl) ?_
  refine rcons (ro_callVH (C := rN1) (T := rF1) (N := 7) rfl ok_d_dayOn (dca dc_l4 25 rfl) trivial (by decide) (fun s args ht => cwV (C := rN1) 2 ht (rgoodV (C := rN1) (fun w h => List.mem_cons_of_mem _ h) q_1036 q_1037 q_1038 q_14 q_1039) rfl rfl rfl hv_d_dayOn ⟨Nat.le_of_ble_eq_true rfl, Nat.le_of_ble_eq_true rfl⟩) rfl) ?_
  refine rcons (ro_istore (dca dc_l4 26 rfl) rfl) ?_
  refine rcons (ro_goto (off := 2018) (dca dc_l4 27 rfl) rfl) ?_
  refine rcons (ro_stop) ?_
  exact rnil
def dl_l5 : List (Nat × Instr × Nat) := [(436, .aload_n 1, 1), (437, .aload_n 0, 1), (438, .iload 4, 2), (440, .iconst 1, 1), (441, .iadd, 1), (442, .iaload, 1), (443, .aload_n 0, 1), (444, .iload 4, 2), (446, .iconst 2, 1), (447, .iadd, 1), (448, .iaload, 1), (449, .aload_n 3, 1), (450, .invokestatic 204, 3), (453, .istore 5, 2), (455, .aload_n 2, 1), (456, .aload_n 0, 1), (457, .iload 4, 2), (459, .iconst 1, 1), (460, .iadd, 1), (461, .iaload, 1), (462, .aload_n 0, 1), (463, .iload 4, 2), (465, .iconst 2, 1), (466, .iadd, 1), (467, .iaload, 1), (468, .invokevirtual 206, 3), (471, .istore 6, 2), (473, .goto 1978, 3)]
theorem dc_l5 : ∀ (k : Nat) (q : Nat × Instr × Nat), dl_l5[k]? = some q → decode code q.1 = .ok q.2 := dchk_at (a := 436) (by decide +kernel)
def ps_l5 : List Nat := [436, 437, 438, 440, 441, 442, 443, 444, 446, 447, 448, 449, 450, 453, 455, 456, 457, 459, 460, 461, 462, 463, 465, 466, 467, 468, 471, 473, 2451]
def tb_l5 (L : Nat) (xs : Nat → Int32) (i : Int32) (g1 : Bool) (v1 : Int32) (g2 : Bool) (v2 : Int32) (g3 : Bool) (v3 : Int32) (g4 : Bool) (v4 : Int32) (z2 z3 z4 : Bool) : List RT := [tq_al 1, tq_al 0, tq_il 4, tq_ic 1, tq_i2 (fun x y => x + y), tq_isc L xs g1 v1, tq_al 0, tq_il 4, tq_ic 2, tq_i2 (fun x y => x + y), tq_isc L xs g2 v2, tq_al 3, tq_callH m_w_dayBack 4 2 1000 [], tq_is 7 5, tq_al 2, tq_al 0, tq_il 4, tq_ic 1, tq_i2 (fun x y => x + y), tq_isc L xs g1 v1, tq_al 0, tq_il 4, tq_ic 2, tq_i2 (fun x y => x + y), tq_isc L xs g2 v2, tq_callH (rV 1 m_d_dayBack) 3 0 1000 [], tq_is 7 6, tq_go 28, tq_stop i]
set_option maxHeartbeats 4000000 in
set_option maxRecDepth 20000 in
theorem ok_l5 (L : Nat) (xs : Nat → Int32) (i : Int32) (g1 : Bool) (v1 : Int32) (g2 : Bool) (v2 : Int32) (g3 : Bool) (v3 : Int32) (g4 : Bool) (v4 : Int32) (z2 z3 z4 : Bool) : rAll (rOk (fun G => rSc G = (L, xs)) code "RingdaysLaw" 7 rTL room_1 [] 1000 (.inr (2451, i)) (fun o => ps_l5.getD o 0)) ps_l5 (tb_l5 L xs i g1 v1 g2 v2 g3 v3 g4 v4 z2 z3 z4) := by
  refine rcons (ro_aload_n (k := 1) rfl (dca dc_l5 0 rfl) rfl) ?_
  refine rcons (ro_aload_n (k := 0) rfl (dca dc_l5 1 rfl) rfl) ?_
  refine rcons (ro_iload (dca dc_l5 2 rfl) rfl) ?_
  refine rcons (ro_iconst (n := 1) (dca dc_l5 3 rfl) rfl rfl) ?_
  refine rcons (ro_iadd (dca dc_l5 4 rfl) rfl) ?_
  refine rcons (ro_isc (fun _ h => h) (dca dc_l5 5 rfl) rfl) ?_
  refine rcons (ro_aload_n (k := 0) rfl (dca dc_l5 6 rfl) rfl) ?_
  refine rcons (ro_iload (dca dc_l5 7 rfl) rfl) ?_
  refine rcons (ro_iconst (n := 2) (dca dc_l5 8 rfl) rfl rfl) ?_
  refine rcons (ro_iadd (dca dc_l5 9 rfl) rfl) ?_
  refine rcons (ro_isc (fun _ h => h) (dca dc_l5 10 rfl) rfl) ?_
  refine rcons (ro_aload_n (k := 3) rfl (dca dc_l5 11 rfl) rfl) ?_
  refine rcons (ro_callSX ok_w_dayBack (dca dc_l5 12 rfl) rfl (fun s args ht => vx_cwSW 4 ht (rgoodS (fun w h => List.mem_cons_of_mem _ h) q_641 q_642 q_12 q_643) rfl rfl rfl hy_w_dayBack ⟨Nat.le_of_ble_eq_true rfl, Nat.le_of_ble_eq_true rfl⟩) rfl) ?_
  refine rcons (ro_istore (dca dc_l5 13 rfl) rfl) ?_
  refine rcons (ro_aload_n (k := 2) rfl (dca dc_l5 14 rfl) rfl) ?_
  refine rcons (ro_aload_n (k := 0) rfl (dca dc_l5 15 rfl) rfl) ?_
  refine rcons (ro_iload (dca dc_l5 16 rfl) rfl) ?_
  refine rcons (ro_iconst (n := 1) (dca dc_l5 17 rfl) rfl rfl) ?_
  refine rcons (ro_iadd (dca dc_l5 18 rfl) rfl) ?_
  refine rcons (ro_isc (fun _ h => h) (dca dc_l5 19 rfl) rfl) ?_
  refine rcons (ro_aload_n (k := 0) rfl (dca dc_l5 20 rfl) rfl) ?_
  refine rcons (ro_iload (dca dc_l5 21 rfl) rfl) ?_
  refine rcons (ro_iconst (n := 2) (dca dc_l5 22 rfl) rfl rfl) ?_
  refine rcons (ro_iadd (dca dc_l5 23 rfl) rfl) ?_
  refine rcons (ro_isc (fun _ h => h) (dca dc_l5 24 rfl) rfl) ?_
  refine rcons (ro_callVH (C := rN1) (T := rF1) (N := 7) rfl ok_d_dayBack (dca dc_l5 25 rfl) trivial (by decide) (fun s args ht => cwV (C := rN1) 2 ht (rgoodV (C := rN1) (fun w h => List.mem_cons_of_mem _ h) q_1047 q_1048 q_1049 q_14 q_1050) rfl rfl rfl hv_d_dayBack ⟨Nat.le_of_ble_eq_true rfl, Nat.le_of_ble_eq_true rfl⟩) rfl) ?_
  refine rcons (ro_istore (dca dc_l5 26 rfl) rfl) ?_
  refine rcons (ro_goto (off := 1978) (dca dc_l5 27 rfl) rfl) ?_
  refine rcons (ro_stop) ?_
  exact rnil
def dl_l6 : List (Nat × Instr × Nat) := [(476, .aload_n 1, 1), (477, .aload_n 0, 1), (478, .iload 4, 2), (480, .iconst 1, 1), (481, .iadd, 1), (482, .iaload, 1), (483, .aload_n 0, 1), (484, .iload 4, 2), (486, .iconst 2, 1), (487, .iadd, 1), (488, .iaload, 1), (489, .aload_n 0, 1), (490, .iload 4, 2), (492, .iconst 3, 1), (493, .iadd, 1), (494, .iaload, 1), (495, .aload_n 3, 1), (496, .invokestatic 207, 3), (499, .istore 5, 2), (501, .aload_n 2, 1), (502, .aload_n 0, 1), (503, .iload 4, 2), (505, .iconst 1, 1), (506, .iadd, 1), (507, .iaload, 1), (508, .aload_n 0, 1), (509, .iload 4, 2), (511, .iconst 2, 1), (512, .iadd, 1), (513, .iaload, 1), (514, .aload_n 0, 1), (515, .iload 4, 2), (517, .iconst 3, 1), (518, .iadd, 1), (519, .iaload, 1), (520, .invokevirtual 210, 3), (523, .istore 6, 2), (525, .goto 1926, 3)]
theorem dc_l6 : ∀ (k : Nat) (q : Nat × Instr × Nat), dl_l6[k]? = some q → decode code q.1 = .ok q.2 := dchk_at (a := 476) (by decide +kernel)
def ps_l6 : List Nat := [476, 477, 478, 480, 481, 482, 483, 484, 486, 487, 488, 489, 490, 492, 493, 494, 495, 496, 499, 501, 502, 503, 505, 506, 507, 508, 509, 511, 512, 513, 514, 515, 517, 518, 519, 520, 523, 525, 2451]
def tb_l6 (L : Nat) (xs : Nat → Int32) (i : Int32) (g1 : Bool) (v1 : Int32) (g2 : Bool) (v2 : Int32) (g3 : Bool) (v3 : Int32) (g4 : Bool) (v4 : Int32) (z2 z3 z4 : Bool) : List RT := [tq_al 1, tq_al 0, tq_il 4, tq_ic 1, tq_i2 (fun x y => x + y), tq_isc L xs g1 v1, tq_al 0, tq_il 4, tq_ic 2, tq_i2 (fun x y => x + y), tq_isc L xs g2 v2, tq_al 0, tq_il 4, tq_ic 3, tq_i2 (fun x y => x + y), tq_isc L xs g3 v3, tq_al 3, tq_callH m_w_dayOnFar 5 2 1000 [], tq_is 7 5, tq_al 2, tq_al 0, tq_il 4, tq_ic 1, tq_i2 (fun x y => x + y), tq_isc L xs g1 v1, tq_al 0, tq_il 4, tq_ic 2, tq_i2 (fun x y => x + y), tq_isc L xs g2 v2, tq_al 0, tq_il 4, tq_ic 3, tq_i2 (fun x y => x + y), tq_isc L xs g3 v3, tq_callH (rV 1 m_d_dayOnFar) 4 0 1000 [], tq_is 7 6, tq_go 38, tq_stop i]
set_option maxHeartbeats 4000000 in
set_option maxRecDepth 20000 in
theorem ok_l6 (L : Nat) (xs : Nat → Int32) (i : Int32) (g1 : Bool) (v1 : Int32) (g2 : Bool) (v2 : Int32) (g3 : Bool) (v3 : Int32) (g4 : Bool) (v4 : Int32) (z2 z3 z4 : Bool) : rAll (rOk (fun G => rSc G = (L, xs)) code "RingdaysLaw" 7 rTL room_1 [] 1000 (.inr (2451, i)) (fun o => ps_l6.getD o 0)) ps_l6 (tb_l6 L xs i g1 v1 g2 v2 g3 v3 g4 v4 z2 z3 z4) := by
  refine rcons (ro_aload_n (k := 1) rfl (dca dc_l6 0 rfl) rfl) ?_
  refine rcons (ro_aload_n (k := 0) rfl (dca dc_l6 1 rfl) rfl) ?_
  refine rcons (ro_iload (dca dc_l6 2 rfl) rfl) ?_
  refine rcons (ro_iconst (n := 1) (dca dc_l6 3 rfl) rfl rfl) ?_
  refine rcons (ro_iadd (dca dc_l6 4 rfl) rfl) ?_
  refine rcons (ro_isc (fun _ h => h) (dca dc_l6 5 rfl) rfl) ?_
  refine rcons (ro_aload_n (k := 0) rfl (dca dc_l6 6 rfl) rfl) ?_
  refine rcons (ro_iload (dca dc_l6 7 rfl) rfl) ?_
  refine rcons (ro_iconst (n := 2) (dca dc_l6 8 rfl) rfl rfl) ?_
  refine rcons (ro_iadd (dca dc_l6 9 rfl) rfl) ?_
  refine rcons (ro_isc (fun _ h => h) (dca dc_l6 10 rfl) rfl) ?_
  refine rcons (ro_aload_n (k := 0) rfl (dca dc_l6 11 rfl) rfl) ?_
  refine rcons (ro_iload (dca dc_l6 12 rfl) rfl) ?_
  refine rcons (ro_iconst (n := 3) (dca dc_l6 13 rfl) rfl rfl) ?_
  refine rcons (ro_iadd (dca dc_l6 14 rfl) rfl) ?_
  refine rcons (ro_isc (fun _ h => h) (dca dc_l6 15 rfl) rfl) ?_
  refine rcons (ro_aload_n (k := 3) rfl (dca dc_l6 16 rfl) rfl) ?_
  refine rcons (ro_callSX ok_w_dayOnFar (dca dc_l6 17 rfl) rfl (fun s args ht => vx_cwSW 5 ht (rgoodS (fun w h => List.mem_cons_of_mem _ h) q_652 q_653 q_12 q_654) rfl rfl rfl hy_w_dayOnFar ⟨Nat.le_of_ble_eq_true rfl, Nat.le_of_ble_eq_true rfl⟩) rfl) ?_
  refine rcons (ro_istore (dca dc_l6 18 rfl) rfl) ?_
  refine rcons (ro_aload_n (k := 2) rfl (dca dc_l6 19 rfl) rfl) ?_
  refine rcons (ro_aload_n (k := 0) rfl (dca dc_l6 20 rfl) rfl) ?_
  refine rcons (ro_iload (dca dc_l6 21 rfl) rfl) ?_
  refine rcons (ro_iconst (n := 1) (dca dc_l6 22 rfl) rfl rfl) ?_
  refine rcons (ro_iadd (dca dc_l6 23 rfl) rfl) ?_
  refine rcons (ro_isc (fun _ h => h) (dca dc_l6 24 rfl) rfl) ?_
  refine rcons (ro_aload_n (k := 0) rfl (dca dc_l6 25 rfl) rfl) ?_
  refine rcons (ro_iload (dca dc_l6 26 rfl) rfl) ?_
  refine rcons (ro_iconst (n := 2) (dca dc_l6 27 rfl) rfl rfl) ?_
  refine rcons (ro_iadd (dca dc_l6 28 rfl) rfl) ?_
  refine rcons (ro_isc (fun _ h => h) (dca dc_l6 29 rfl) rfl) ?_
  refine rcons (ro_aload_n (k := 0) rfl (dca dc_l6 30 rfl) rfl) ?_
  refine rcons (ro_iload (dca dc_l6 31 rfl) rfl) ?_
  refine rcons (ro_iconst (n := 3) (dca dc_l6 32 rfl) rfl rfl) ?_
  refine rcons (ro_iadd (dca dc_l6 33 rfl) rfl) ?_
  refine rcons (ro_isc (fun _ h => h) (dca dc_l6 34 rfl) rfl) ?_
  refine rcons (ro_callVH (C := rN1) (T := rF1) (N := 7) rfl ok_d_dayOnFar (dca dc_l6 35 rfl) trivial (by decide) (fun s args ht => cwV (C := rN1) 3 ht (rgoodV (C := rN1) (fun w h => List.mem_cons_of_mem _ h) q_1054 q_1055 q_1056 q_14 q_1057) rfl rfl rfl hv_d_dayOnFar ⟨Nat.le_of_ble_eq_true rfl, Nat.le_of_ble_eq_true rfl⟩) rfl) ?_
  refine rcons (ro_istore (dca dc_l6 36 rfl) rfl) ?_
  refine rcons (ro_goto (off := 1926) (dca dc_l6 37 rfl) rfl) ?_
  refine rcons (ro_stop) ?_
  exact rnil
def dl_l7 : List (Nat × Instr × Nat) := [(528, .aload_n 1, 1), (529, .aload_n 0, 1), (530, .iload 4, 2), (532, .iconst 1, 1), (533, .iadd, 1), (534, .iaload, 1), (535, .aload_n 0, 1), (536, .iload 4, 2), (538, .iconst 2, 1), (539, .iadd, 1), (540, .iaload, 1), (541, .aload_n 0, 1), (542, .iload 4, 2), (544, .iconst 3, 1), (545, .iadd, 1), (546, .iaload, 1), (547, .aload_n 3, 1), (548, .invokestatic 211, 3), (551, .istore 5, 2), (553, .aload_n 2, 1), (554, .aload_n 0, 1), (555, .iload 4, 2), (557, .iconst 1, 1), (558, .iadd, 1), (559, .iaload, 1), (560, .aload_n 0, 1), (561, .iload 4, 2), (563, .iconst 2, 1), (564, .iadd, 1), (565, .iaload, 1), (566, .aload_n 0, 1), (567, .iload 4, 2), (569, .iconst 3, 1), (570, .iadd, 1), (571, .iaload, 1), (572, .invokevirtual 213, 3), (575, .istore 6, 2), (577, .goto 1874, 3)]
theorem dc_l7 : ∀ (k : Nat) (q : Nat × Instr × Nat), dl_l7[k]? = some q → decode code q.1 = .ok q.2 := dchk_at (a := 528) (by decide +kernel)
def ps_l7 : List Nat := [528, 529, 530, 532, 533, 534, 535, 536, 538, 539, 540, 541, 542, 544, 545, 546, 547, 548, 551, 553, 554, 555, 557, 558, 559, 560, 561, 563, 564, 565, 566, 567, 569, 570, 571, 572, 575, 577, 2451]
def tb_l7 (L : Nat) (xs : Nat → Int32) (i : Int32) (g1 : Bool) (v1 : Int32) (g2 : Bool) (v2 : Int32) (g3 : Bool) (v3 : Int32) (g4 : Bool) (v4 : Int32) (z2 z3 z4 : Bool) : List RT := [tq_al 1, tq_al 0, tq_il 4, tq_ic 1, tq_i2 (fun x y => x + y), tq_isc L xs g1 v1, tq_al 0, tq_il 4, tq_ic 2, tq_i2 (fun x y => x + y), tq_isc L xs g2 v2, tq_al 0, tq_il 4, tq_ic 3, tq_i2 (fun x y => x + y), tq_isc L xs g3 v3, tq_al 3, tq_callH m_w_dayBackFar 5 2 1000 [], tq_is 7 5, tq_al 2, tq_al 0, tq_il 4, tq_ic 1, tq_i2 (fun x y => x + y), tq_isc L xs g1 v1, tq_al 0, tq_il 4, tq_ic 2, tq_i2 (fun x y => x + y), tq_isc L xs g2 v2, tq_al 0, tq_il 4, tq_ic 3, tq_i2 (fun x y => x + y), tq_isc L xs g3 v3, tq_callH (rV 1 m_d_dayBackFar) 4 0 1000 [], tq_is 7 6, tq_go 38, tq_stop i]
set_option maxHeartbeats 4000000 in
set_option maxRecDepth 20000 in
theorem ok_l7 (L : Nat) (xs : Nat → Int32) (i : Int32) (g1 : Bool) (v1 : Int32) (g2 : Bool) (v2 : Int32) (g3 : Bool) (v3 : Int32) (g4 : Bool) (v4 : Int32) (z2 z3 z4 : Bool) : rAll (rOk (fun G => rSc G = (L, xs)) code "RingdaysLaw" 7 rTL room_1 [] 1000 (.inr (2451, i)) (fun o => ps_l7.getD o 0)) ps_l7 (tb_l7 L xs i g1 v1 g2 v2 g3 v3 g4 v4 z2 z3 z4) := by
  refine rcons (ro_aload_n (k := 1) rfl (dca dc_l7 0 rfl) rfl) ?_
  refine rcons (ro_aload_n (k := 0) rfl (dca dc_l7 1 rfl) rfl) ?_
  refine rcons (ro_iload (dca dc_l7 2 rfl) rfl) ?_
  refine rcons (ro_iconst (n := 1) (dca dc_l7 3 rfl) rfl rfl) ?_
  refine rcons (ro_iadd (dca dc_l7 4 rfl) rfl) ?_
  refine rcons (ro_isc (fun _ h => h) (dca dc_l7 5 rfl) rfl) ?_
  refine rcons (ro_aload_n (k := 0) rfl (dca dc_l7 6 rfl) rfl) ?_
  refine rcons (ro_iload (dca dc_l7 7 rfl) rfl) ?_
  refine rcons (ro_iconst (n := 2) (dca dc_l7 8 rfl) rfl rfl) ?_
  refine rcons (ro_iadd (dca dc_l7 9 rfl) rfl) ?_
  refine rcons (ro_isc (fun _ h => h) (dca dc_l7 10 rfl) rfl) ?_
  refine rcons (ro_aload_n (k := 0) rfl (dca dc_l7 11 rfl) rfl) ?_
  refine rcons (ro_iload (dca dc_l7 12 rfl) rfl) ?_
  refine rcons (ro_iconst (n := 3) (dca dc_l7 13 rfl) rfl rfl) ?_
  refine rcons (ro_iadd (dca dc_l7 14 rfl) rfl) ?_
  refine rcons (ro_isc (fun _ h => h) (dca dc_l7 15 rfl) rfl) ?_
  refine rcons (ro_aload_n (k := 3) rfl (dca dc_l7 16 rfl) rfl) ?_
  refine rcons (ro_callSX ok_w_dayBackFar (dca dc_l7 17 rfl) rfl (fun s args ht => vx_cwSW 5 ht (rgoodS (fun w h => List.mem_cons_of_mem _ h) q_667 q_668 q_12 q_669) rfl rfl rfl hy_w_dayBackFar ⟨Nat.le_of_ble_eq_true rfl, Nat.le_of_ble_eq_true rfl⟩) rfl) ?_
  refine rcons (ro_istore (dca dc_l7 18 rfl) rfl) ?_
  refine rcons (ro_aload_n (k := 2) rfl (dca dc_l7 19 rfl) rfl) ?_
  refine rcons (ro_aload_n (k := 0) rfl (dca dc_l7 20 rfl) rfl) ?_
  refine rcons (ro_iload (dca dc_l7 21 rfl) rfl) ?_
  refine rcons (ro_iconst (n := 1) (dca dc_l7 22 rfl) rfl rfl) ?_
  refine rcons (ro_iadd (dca dc_l7 23 rfl) rfl) ?_
  refine rcons (ro_isc (fun _ h => h) (dca dc_l7 24 rfl) rfl) ?_
  refine rcons (ro_aload_n (k := 0) rfl (dca dc_l7 25 rfl) rfl) ?_
  refine rcons (ro_iload (dca dc_l7 26 rfl) rfl) ?_
  refine rcons (ro_iconst (n := 2) (dca dc_l7 27 rfl) rfl rfl) ?_
  refine rcons (ro_iadd (dca dc_l7 28 rfl) rfl) ?_
  refine rcons (ro_isc (fun _ h => h) (dca dc_l7 29 rfl) rfl) ?_
  refine rcons (ro_aload_n (k := 0) rfl (dca dc_l7 30 rfl) rfl) ?_
  refine rcons (ro_iload (dca dc_l7 31 rfl) rfl) ?_
  refine rcons (ro_iconst (n := 3) (dca dc_l7 32 rfl) rfl rfl) ?_
  refine rcons (ro_iadd (dca dc_l7 33 rfl) rfl) ?_
  refine rcons (ro_isc (fun _ h => h) (dca dc_l7 34 rfl) rfl) ?_
  refine rcons (ro_callVH (C := rN1) (T := rF1) (N := 7) rfl ok_d_dayBackFar (dca dc_l7 35 rfl) trivial (by decide) (fun s args ht => cwV (C := rN1) 3 ht (rgoodV (C := rN1) (fun w h => List.mem_cons_of_mem _ h) q_1062 q_1063 q_1064 q_14 q_1065) rfl rfl rfl hv_d_dayBackFar ⟨Nat.le_of_ble_eq_true rfl, Nat.le_of_ble_eq_true rfl⟩) rfl) ?_
  refine rcons (ro_istore (dca dc_l7 36 rfl) rfl) ?_
  refine rcons (ro_goto (off := 1874) (dca dc_l7 37 rfl) rfl) ?_
  refine rcons (ro_stop) ?_
  exact rnil
def dl_l8 : List (Nat × Instr × Nat) := [(580, .aload_n 1, 1), (581, .aload_n 0, 1), (582, .iload 4, 2), (584, .iconst 1, 1), (585, .iadd, 1), (586, .iaload, 1), (587, .aload_n 0, 1), (588, .iload 4, 2), (590, .iconst 2, 1), (591, .iadd, 1), (592, .iaload, 1), (593, .aload_n 3, 1), (594, .invokestatic 214, 3), (597, .istore 5, 2), (599, .aload_n 2, 1), (600, .aload_n 0, 1), (601, .iload 4, 2), (603, .iconst 1, 1), (604, .iadd, 1), (605, .iaload, 1), (606, .aload_n 0, 1), (607, .iload 4, 2), (609, .iconst 2, 1), (610, .iadd, 1), (611, .iaload, 1), (612, .invokevirtual 216, 3), (615, .istore 6, 2), (617, .goto 1834, 3)]
theorem dc_l8 : ∀ (k : Nat) (q : Nat × Instr × Nat), dl_l8[k]? = some q → decode code q.1 = .ok q.2 := dchk_at (a := 580) (by decide +kernel)
def ps_l8 : List Nat := [580, 581, 582, 584, 585, 586, 587, 588, 590, 591, 592, 593, 594, 597, 599, 600, 601, 603, 604, 605, 606, 607, 609, 610, 611, 612, 615, 617, 2451]
def tb_l8 (L : Nat) (xs : Nat → Int32) (i : Int32) (g1 : Bool) (v1 : Int32) (g2 : Bool) (v2 : Int32) (g3 : Bool) (v3 : Int32) (g4 : Bool) (v4 : Int32) (z2 z3 z4 : Bool) : List RT := [tq_al 1, tq_al 0, tq_il 4, tq_ic 1, tq_i2 (fun x y => x + y), tq_isc L xs g1 v1, tq_al 0, tq_il 4, tq_ic 2, tq_i2 (fun x y => x + y), tq_isc L xs g2 v2, tq_al 3, tq_callH m_w_dayAt 4 1 1000 [], tq_is 7 5, tq_al 2, tq_al 0, tq_il 4, tq_ic 1, tq_i2 (fun x y => x + y), tq_isc L xs g1 v1, tq_al 0, tq_il 4, tq_ic 2, tq_i2 (fun x y => x + y), tq_isc L xs g2 v2, tq_callH (rV 1 m_d_dayAt) 3 0 1000 [], tq_is 7 6, tq_go 28, tq_stop i]
set_option maxHeartbeats 4000000 in
set_option maxRecDepth 20000 in
theorem ok_l8 (L : Nat) (xs : Nat → Int32) (i : Int32) (g1 : Bool) (v1 : Int32) (g2 : Bool) (v2 : Int32) (g3 : Bool) (v3 : Int32) (g4 : Bool) (v4 : Int32) (z2 z3 z4 : Bool) : rAll (rOk (fun G => rSc G = (L, xs)) code "RingdaysLaw" 7 rTL room_1 [] 1000 (.inr (2451, i)) (fun o => ps_l8.getD o 0)) ps_l8 (tb_l8 L xs i g1 v1 g2 v2 g3 v3 g4 v4 z2 z3 z4) := by
  refine rcons (ro_aload_n (k := 1) rfl (dca dc_l8 0 rfl) rfl) ?_
  refine rcons (ro_aload_n (k := 0) rfl (dca dc_l8 1 rfl) rfl) ?_
  refine rcons (ro_iload (dca dc_l8 2 rfl) rfl) ?_
  refine rcons (ro_iconst (n := 1) (dca dc_l8 3 rfl) rfl rfl) ?_
  refine rcons (ro_iadd (dca dc_l8 4 rfl) rfl) ?_
  refine rcons (ro_isc (fun _ h => h) (dca dc_l8 5 rfl) rfl) ?_
  refine rcons (ro_aload_n (k := 0) rfl (dca dc_l8 6 rfl) rfl) ?_
  refine rcons (ro_iload (dca dc_l8 7 rfl) rfl) ?_
  refine rcons (ro_iconst (n := 2) (dca dc_l8 8 rfl) rfl rfl) ?_
  refine rcons (ro_iadd (dca dc_l8 9 rfl) rfl) ?_
  refine rcons (ro_isc (fun _ h => h) (dca dc_l8 10 rfl) rfl) ?_
  refine rcons (ro_aload_n (k := 3) rfl (dca dc_l8 11 rfl) rfl) ?_
  refine rcons (ro_callSX ok_w_dayAt (dca dc_l8 12 rfl) rfl (fun s args ht => vx_cwSW 4 ht (rgoodS (fun w h => List.mem_cons_of_mem _ h) q_674 q_675 q_12 q_676) rfl rfl rfl hy_w_dayAt ⟨Nat.le_of_ble_eq_true rfl, Nat.le_of_ble_eq_true rfl⟩) rfl) ?_
  refine rcons (ro_istore (dca dc_l8 13 rfl) rfl) ?_
  refine rcons (ro_aload_n (k := 2) rfl (dca dc_l8 14 rfl) rfl) ?_
  refine rcons (ro_aload_n (k := 0) rfl (dca dc_l8 15 rfl) rfl) ?_
  refine rcons (ro_iload (dca dc_l8 16 rfl) rfl) ?_
  refine rcons (ro_iconst (n := 1) (dca dc_l8 17 rfl) rfl rfl) ?_
  refine rcons (ro_iadd (dca dc_l8 18 rfl) rfl) ?_
  refine rcons (ro_isc (fun _ h => h) (dca dc_l8 19 rfl) rfl) ?_
  refine rcons (ro_aload_n (k := 0) rfl (dca dc_l8 20 rfl) rfl) ?_
  refine rcons (ro_iload (dca dc_l8 21 rfl) rfl) ?_
  refine rcons (ro_iconst (n := 2) (dca dc_l8 22 rfl) rfl rfl) ?_
  refine rcons (ro_iadd (dca dc_l8 23 rfl) rfl) ?_
  refine rcons (ro_isc (fun _ h => h) (dca dc_l8 24 rfl) rfl) ?_
  refine rcons (ro_callVH (C := rN1) (T := rF1) (N := 7) rfl ok_d_dayAt (dca dc_l8 25 rfl) trivial (by decide) (fun s args ht => cwV (C := rN1) 2 ht (rgoodV (C := rN1) (fun w h => List.mem_cons_of_mem _ h) q_1066 q_1067 q_1068 q_14 q_1069) rfl rfl rfl hv_d_dayAt ⟨Nat.le_of_ble_eq_true rfl, Nat.le_of_ble_eq_true rfl⟩) rfl) ?_
  refine rcons (ro_istore (dca dc_l8 26 rfl) rfl) ?_
  refine rcons (ro_goto (off := 1834) (dca dc_l8 27 rfl) rfl) ?_
  refine rcons (ro_stop) ?_
  exact rnil
def dl_l9 : List (Nat × Instr × Nat) := [(620, .aload_n 1, 1), (621, .aload_n 0, 1), (622, .iload 4, 2), (624, .iconst 1, 1), (625, .iadd, 1), (626, .iaload, 1), (627, .aload_n 0, 1), (628, .iload 4, 2), (630, .iconst 2, 1), (631, .iadd, 1), (632, .iaload, 1), (633, .aload_n 3, 1), (634, .invokestatic 217, 3), (637, .istore 5, 2), (639, .aload_n 2, 1), (640, .aload_n 0, 1), (641, .iload 4, 2), (643, .iconst 1, 1), (644, .iadd, 1), (645, .iaload, 1), (646, .aload_n 0, 1), (647, .iload 4, 2), (649, .iconst 2, 1), (650, .iadd, 1), (651, .iaload, 1), (652, .invokevirtual 219, 3), (655, .istore 6, 2), (657, .goto 1794, 3)]
theorem dc_l9 : ∀ (k : Nat) (q : Nat × Instr × Nat), dl_l9[k]? = some q → decode code q.1 = .ok q.2 := dchk_at (a := 620) (by decide +kernel)
def ps_l9 : List Nat := [620, 621, 622, 624, 625, 626, 627, 628, 630, 631, 632, 633, 634, 637, 639, 640, 641, 643, 644, 645, 646, 647, 649, 650, 651, 652, 655, 657, 2451]
def tb_l9 (L : Nat) (xs : Nat → Int32) (i : Int32) (g1 : Bool) (v1 : Int32) (g2 : Bool) (v2 : Int32) (g3 : Bool) (v3 : Int32) (g4 : Bool) (v4 : Int32) (z2 z3 z4 : Bool) : List RT := [tq_al 1, tq_al 0, tq_il 4, tq_ic 1, tq_i2 (fun x y => x + y), tq_isc L xs g1 v1, tq_al 0, tq_il 4, tq_ic 2, tq_i2 (fun x y => x + y), tq_isc L xs g2 v2, tq_al 3, tq_callH m_w_dayAhead 4 1 1000 [], tq_is 7 5, tq_al 2, tq_al 0, tq_il 4, tq_ic 1, tq_i2 (fun x y => x + y), tq_isc L xs g1 v1, tq_al 0, tq_il 4, tq_ic 2, tq_i2 (fun x y => x + y), tq_isc L xs g2 v2, tq_callH (rV 1 m_d_dayAhead) 3 0 1000 [], tq_is 7 6, tq_go 28, tq_stop i]
set_option maxHeartbeats 4000000 in
set_option maxRecDepth 20000 in
theorem ok_l9 (L : Nat) (xs : Nat → Int32) (i : Int32) (g1 : Bool) (v1 : Int32) (g2 : Bool) (v2 : Int32) (g3 : Bool) (v3 : Int32) (g4 : Bool) (v4 : Int32) (z2 z3 z4 : Bool) : rAll (rOk (fun G => rSc G = (L, xs)) code "RingdaysLaw" 7 rTL room_1 [] 1000 (.inr (2451, i)) (fun o => ps_l9.getD o 0)) ps_l9 (tb_l9 L xs i g1 v1 g2 v2 g3 v3 g4 v4 z2 z3 z4) := by
  refine rcons (ro_aload_n (k := 1) rfl (dca dc_l9 0 rfl) rfl) ?_
  refine rcons (ro_aload_n (k := 0) rfl (dca dc_l9 1 rfl) rfl) ?_
  refine rcons (ro_iload (dca dc_l9 2 rfl) rfl) ?_
  refine rcons (ro_iconst (n := 1) (dca dc_l9 3 rfl) rfl rfl) ?_
  refine rcons (ro_iadd (dca dc_l9 4 rfl) rfl) ?_
  refine rcons (ro_isc (fun _ h => h) (dca dc_l9 5 rfl) rfl) ?_
  refine rcons (ro_aload_n (k := 0) rfl (dca dc_l9 6 rfl) rfl) ?_
  refine rcons (ro_iload (dca dc_l9 7 rfl) rfl) ?_
  refine rcons (ro_iconst (n := 2) (dca dc_l9 8 rfl) rfl rfl) ?_
  refine rcons (ro_iadd (dca dc_l9 9 rfl) rfl) ?_
  refine rcons (ro_isc (fun _ h => h) (dca dc_l9 10 rfl) rfl) ?_
  refine rcons (ro_aload_n (k := 3) rfl (dca dc_l9 11 rfl) rfl) ?_
  refine rcons (ro_callSX ok_w_dayAhead (dca dc_l9 12 rfl) rfl (fun s args ht => vx_cwSW 4 ht (rgoodS (fun w h => List.mem_cons_of_mem _ h) q_678 q_679 q_12 q_680) rfl rfl rfl hy_w_dayAhead ⟨Nat.le_of_ble_eq_true rfl, Nat.le_of_ble_eq_true rfl⟩) rfl) ?_
  refine rcons (ro_istore (dca dc_l9 13 rfl) rfl) ?_
  refine rcons (ro_aload_n (k := 2) rfl (dca dc_l9 14 rfl) rfl) ?_
  refine rcons (ro_aload_n (k := 0) rfl (dca dc_l9 15 rfl) rfl) ?_
  refine rcons (ro_iload (dca dc_l9 16 rfl) rfl) ?_
  refine rcons (ro_iconst (n := 1) (dca dc_l9 17 rfl) rfl rfl) ?_
  refine rcons (ro_iadd (dca dc_l9 18 rfl) rfl) ?_
  refine rcons (ro_isc (fun _ h => h) (dca dc_l9 19 rfl) rfl) ?_
  refine rcons (ro_aload_n (k := 0) rfl (dca dc_l9 20 rfl) rfl) ?_
  refine rcons (ro_iload (dca dc_l9 21 rfl) rfl) ?_
  refine rcons (ro_iconst (n := 2) (dca dc_l9 22 rfl) rfl rfl) ?_
  refine rcons (ro_iadd (dca dc_l9 23 rfl) rfl) ?_
  refine rcons (ro_isc (fun _ h => h) (dca dc_l9 24 rfl) rfl) ?_
  refine rcons (ro_callVH (C := rN1) (T := rF1) (N := 7) rfl ok_d_dayAhead (dca dc_l9 25 rfl) trivial (by decide) (fun s args ht => cwV (C := rN1) 2 ht (rgoodV (C := rN1) (fun w h => List.mem_cons_of_mem _ h) q_1070 q_1071 q_1072 q_14 q_1073) rfl rfl rfl hv_d_dayAhead ⟨Nat.le_of_ble_eq_true rfl, Nat.le_of_ble_eq_true rfl⟩) rfl) ?_
  refine rcons (ro_istore (dca dc_l9 26 rfl) rfl) ?_
  refine rcons (ro_goto (off := 1794) (dca dc_l9 27 rfl) rfl) ?_
  refine rcons (ro_stop) ?_
  exact rnil
def dl_l10 : List (Nat × Instr × Nat) := [(660, .aload_n 1, 1), (661, .aload_n 0, 1), (662, .iload 4, 2), (664, .iconst 1, 1), (665, .iadd, 1), (666, .iaload, 1), (667, .aload_n 0, 1), (668, .iload 4, 2), (670, .iconst 2, 1), (671, .iadd, 1), (672, .iaload, 1), (673, .aload_n 0, 1), (674, .iload 4, 2), (676, .iconst 3, 1), (677, .iadd, 1), (678, .iaload, 1), (679, .aload_n 0, 1), (680, .iload 4, 2), (682, .iconst 4, 1), (683, .iadd, 1), (684, .iaload, 1), (685, .ifCond .eq 7, 3), (688, .iconst 1, 1), (689, .goto 4, 3), (692, .iconst 0, 1), (693, .aload_n 3, 1), (694, .invokestatic 220, 3), (697, .istore 5, 2), (699, .aload_n 2, 1), (700, .aload_n 0, 1), (701, .iload 4, 2), (703, .iconst 1, 1), (704, .iadd, 1), (705, .iaload, 1), (706, .aload_n 0, 1), (707, .iload 4, 2), (709, .iconst 2, 1), (710, .iadd, 1), (711, .iaload, 1), (712, .aload_n 0, 1), (713, .iload 4, 2), (715, .iconst 3, 1), (716, .iadd, 1), (717, .iaload, 1), (718, .aload_n 0, 1), (719, .iload 4, 2), (721, .iconst 4, 1), (722, .iadd, 1), (723, .iaload, 1), (724, .ifCond .eq 7, 3), (727, .iconst 1, 1), (728, .goto 4, 3), (731, .iconst 0, 1), (732, .invokevirtual 223, 3), (735, .istore 6, 2), (737, .goto 1714, 3)]
theorem dc_l10 : ∀ (k : Nat) (q : Nat × Instr × Nat), dl_l10[k]? = some q → decode code q.1 = .ok q.2 := dchk_at (a := 660) (by decide +kernel)
def ps_l10 : List Nat := [660, 661, 662, 664, 665, 666, 667, 668, 670, 671, 672, 673, 674, 676, 677, 678, 679, 680, 682, 683, 684, 685, 688, 689, 692, 693, 694, 697, 699, 700, 701, 703, 704, 705, 706, 707, 709, 710, 711, 712, 713, 715, 716, 717, 718, 719, 721, 722, 723, 724, 727, 728, 731, 732, 735, 737, 2451]
def tb_l10 (L : Nat) (xs : Nat → Int32) (i : Int32) (g1 : Bool) (v1 : Int32) (g2 : Bool) (v2 : Int32) (g3 : Bool) (v3 : Int32) (g4 : Bool) (v4 : Int32) (z2 z3 z4 : Bool) : List RT := [tq_al 1, tq_al 0, tq_il 4, tq_ic 1, tq_i2 (fun x y => x + y), tq_isc L xs g1 v1, tq_al 0, tq_il 4, tq_ic 2, tq_i2 (fun x y => x + y), tq_isc L xs g2 v2, tq_al 0, tq_il 4, tq_ic 3, tq_i2 (fun x y => x + y), tq_isc L xs g3 v3, tq_al 0, tq_il 4, tq_ic 4, tq_i2 (fun x y => x + y), tq_isc L xs g4 v4, tq_sv (fun x => decide (x = 0)) z4 1 0 25, tq_ic 1, tq_go 25, tq_ic 0, tq_al 3, tq_callH m_w_dayAtFar 6 1 1000 [], tq_is 7 5, tq_al 2, tq_al 0, tq_il 4, tq_ic 1, tq_i2 (fun x y => x + y), tq_isc L xs g1 v1, tq_al 0, tq_il 4, tq_ic 2, tq_i2 (fun x y => x + y), tq_isc L xs g2 v2, tq_al 0, tq_il 4, tq_ic 3, tq_i2 (fun x y => x + y), tq_isc L xs g3 v3, tq_al 0, tq_il 4, tq_ic 4, tq_i2 (fun x y => x + y), tq_isc L xs g4 v4, tq_sv (fun x => decide (x = 0)) z4 1 0 53, tq_ic 1, tq_go 53, tq_ic 0, tq_callH (rV 1 m_d_dayAtFar) 5 0 1000 [], tq_is 7 6, tq_go 56, tq_stop i]
set_option maxHeartbeats 4000000 in
set_option maxRecDepth 20000 in
theorem ok_l10 (L : Nat) (xs : Nat → Int32) (i : Int32) (g1 : Bool) (v1 : Int32) (g2 : Bool) (v2 : Int32) (g3 : Bool) (v3 : Int32) (g4 : Bool) (v4 : Int32) (z2 z3 z4 : Bool) : rAll (rOk (fun G => rSc G = (L, xs)) code "RingdaysLaw" 7 rTL room_1 [] 1000 (.inr (2451, i)) (fun o => ps_l10.getD o 0)) ps_l10 (tb_l10 L xs i g1 v1 g2 v2 g3 v3 g4 v4 z2 z3 z4) := by
  refine rcons (ro_aload_n (k := 1) rfl (dca dc_l10 0 rfl) rfl) ?_
  refine rcons (ro_aload_n (k := 0) rfl (dca dc_l10 1 rfl) rfl) ?_
  refine rcons (ro_iload (dca dc_l10 2 rfl) rfl) ?_
  refine rcons (ro_iconst (n := 1) (dca dc_l10 3 rfl) rfl rfl) ?_
  refine rcons (ro_iadd (dca dc_l10 4 rfl) rfl) ?_
  refine rcons (ro_isc (fun _ h => h) (dca dc_l10 5 rfl) rfl) ?_
  refine rcons (ro_aload_n (k := 0) rfl (dca dc_l10 6 rfl) rfl) ?_
  refine rcons (ro_iload (dca dc_l10 7 rfl) rfl) ?_
  refine rcons (ro_iconst (n := 2) (dca dc_l10 8 rfl) rfl rfl) ?_
  refine rcons (ro_iadd (dca dc_l10 9 rfl) rfl) ?_
  refine rcons (ro_isc (fun _ h => h) (dca dc_l10 10 rfl) rfl) ?_
  refine rcons (ro_aload_n (k := 0) rfl (dca dc_l10 11 rfl) rfl) ?_
  refine rcons (ro_iload (dca dc_l10 12 rfl) rfl) ?_
  refine rcons (ro_iconst (n := 3) (dca dc_l10 13 rfl) rfl rfl) ?_
  refine rcons (ro_iadd (dca dc_l10 14 rfl) rfl) ?_
  refine rcons (ro_isc (fun _ h => h) (dca dc_l10 15 rfl) rfl) ?_
  refine rcons (ro_aload_n (k := 0) rfl (dca dc_l10 16 rfl) rfl) ?_
  refine rcons (ro_iload (dca dc_l10 17 rfl) rfl) ?_
  refine rcons (ro_iconst (n := 4) (dca dc_l10 18 rfl) rfl rfl) ?_
  refine rcons (ro_iadd (dca dc_l10 19 rfl) rfl) ?_
  refine rcons (ro_isc (fun _ h => h) (dca dc_l10 20 rfl) rfl) ?_
  refine rcons (ro_sv (ro_s1_eq (off := 7) (off2 := 4) (n1 := 1) (n2 := 0) (dca dc_l10 21 rfl) (dca dc_l10 22 rfl) rfl (dca dc_l10 23 rfl) (dca dc_l10 24 rfl) rfl rfl rfl rfl)) ?_
  refine rcons (ro_iconst (n := 1) (dca dc_l10 22 rfl) rfl rfl) ?_
  refine rcons (ro_goto (off := 4) (dca dc_l10 23 rfl) rfl) ?_
  refine rcons (ro_iconst (n := 0) (dca dc_l10 24 rfl) rfl rfl) ?_
  refine rcons (ro_aload_n (k := 3) rfl (dca dc_l10 25 rfl) rfl) ?_
  refine rcons (ro_callSX ok_w_dayAtFar (dca dc_l10 26 rfl) rfl (fun s args ht => vx_cwSW 6 ht (rgoodS (fun w h => List.mem_cons_of_mem _ h) q_682 q_683 q_12 q_684) rfl rfl rfl hy_w_dayAtFar ⟨Nat.le_of_ble_eq_true rfl, Nat.le_of_ble_eq_true rfl⟩) rfl) ?_
  refine rcons (ro_istore (dca dc_l10 27 rfl) rfl) ?_
  refine rcons (ro_aload_n (k := 2) rfl (dca dc_l10 28 rfl) rfl) ?_
  refine rcons (ro_aload_n (k := 0) rfl (dca dc_l10 29 rfl) rfl) ?_
  refine rcons (ro_iload (dca dc_l10 30 rfl) rfl) ?_
  refine rcons (ro_iconst (n := 1) (dca dc_l10 31 rfl) rfl rfl) ?_
  refine rcons (ro_iadd (dca dc_l10 32 rfl) rfl) ?_
  refine rcons (ro_isc (fun _ h => h) (dca dc_l10 33 rfl) rfl) ?_
  refine rcons (ro_aload_n (k := 0) rfl (dca dc_l10 34 rfl) rfl) ?_
  refine rcons (ro_iload (dca dc_l10 35 rfl) rfl) ?_
  refine rcons (ro_iconst (n := 2) (dca dc_l10 36 rfl) rfl rfl) ?_
  refine rcons (ro_iadd (dca dc_l10 37 rfl) rfl) ?_
  refine rcons (ro_isc (fun _ h => h) (dca dc_l10 38 rfl) rfl) ?_
  refine rcons (ro_aload_n (k := 0) rfl (dca dc_l10 39 rfl) rfl) ?_
  refine rcons (ro_iload (dca dc_l10 40 rfl) rfl) ?_
  refine rcons (ro_iconst (n := 3) (dca dc_l10 41 rfl) rfl rfl) ?_
  refine rcons (ro_iadd (dca dc_l10 42 rfl) rfl) ?_
  refine rcons (ro_isc (fun _ h => h) (dca dc_l10 43 rfl) rfl) ?_
  refine rcons (ro_aload_n (k := 0) rfl (dca dc_l10 44 rfl) rfl) ?_
  refine rcons (ro_iload (dca dc_l10 45 rfl) rfl) ?_
  refine rcons (ro_iconst (n := 4) (dca dc_l10 46 rfl) rfl rfl) ?_
  refine rcons (ro_iadd (dca dc_l10 47 rfl) rfl) ?_
  refine rcons (ro_isc (fun _ h => h) (dca dc_l10 48 rfl) rfl) ?_
  refine rcons (ro_sv (ro_s1_eq (off := 7) (off2 := 4) (n1 := 1) (n2 := 0) (dca dc_l10 49 rfl) (dca dc_l10 50 rfl) rfl (dca dc_l10 51 rfl) (dca dc_l10 52 rfl) rfl rfl rfl rfl)) ?_
  refine rcons (ro_iconst (n := 1) (dca dc_l10 50 rfl) rfl rfl) ?_
  refine rcons (ro_goto (off := 4) (dca dc_l10 51 rfl) rfl) ?_
  refine rcons (ro_iconst (n := 0) (dca dc_l10 52 rfl) rfl rfl) ?_
  refine rcons (ro_callVH (C := rN1) (T := rF1) (N := 7) rfl ok_d_dayAtFar (dca dc_l10 53 rfl) trivial (by decide) (fun s args ht => cwV (C := rN1) 4 ht (rgoodV (C := rN1) (fun w h => List.mem_cons_of_mem _ h) q_1074 q_1075 q_1076 q_14 q_1077) rfl rfl rfl hv_d_dayAtFar ⟨Nat.le_of_ble_eq_true rfl, Nat.le_of_ble_eq_true rfl⟩) rfl) ?_
  refine rcons (ro_istore (dca dc_l10 54 rfl) rfl) ?_
  refine rcons (ro_goto (off := 1714) (dca dc_l10 55 rfl) rfl) ?_
  refine rcons (ro_stop) ?_
  exact rnil
def dl_l11 : List (Nat × Instr × Nat) := [(740, .aload_n 1, 1), (741, .aload_n 0, 1), (742, .iload 4, 2), (744, .iconst 1, 1), (745, .iadd, 1), (746, .iaload, 1), (747, .aload_n 0, 1), (748, .iload 4, 2), (750, .iconst 2, 1), (751, .iadd, 1), (752, .iaload, 1), (753, .aload_n 0, 1), (754, .iload 4, 2), (756, .iconst 3, 1), (757, .iadd, 1), (758, .iaload, 1), (759, .aload_n 3, 1), (760, .invokestatic 224, 3), (763, .istore 5, 2), (765, .aload_n 2, 1), (766, .aload_n 0, 1), (767, .iload 4, 2), (769, .iconst 1, 1), (770, .iadd, 1), (771, .iaload, 1), (772, .aload_n 0, 1), (773, .iload 4, 2), (775, .iconst 2, 1), (776, .iadd, 1), (777, .iaload, 1), (778, .aload_n 0, 1), (779, .iload 4, 2), (781, .iconst 3, 1), (782, .iadd, 1), (783, .iaload, 1), (784, .invokevirtual 226, 3), (787, .istore 6, 2), (789, .goto 1662, 3)]
theorem dc_l11 : ∀ (k : Nat) (q : Nat × Instr × Nat), dl_l11[k]? = some q → decode code q.1 = .ok q.2 := dchk_at (a := 740) (by decide +kernel)
def ps_l11 : List Nat := [740, 741, 742, 744, 745, 746, 747, 748, 750, 751, 752, 753, 754, 756, 757, 758, 759, 760, 763, 765, 766, 767, 769, 770, 771, 772, 773, 775, 776, 777, 778, 779, 781, 782, 783, 784, 787, 789, 2451]
def tb_l11 (L : Nat) (xs : Nat → Int32) (i : Int32) (g1 : Bool) (v1 : Int32) (g2 : Bool) (v2 : Int32) (g3 : Bool) (v3 : Int32) (g4 : Bool) (v4 : Int32) (z2 z3 z4 : Bool) : List RT := [tq_al 1, tq_al 0, tq_il 4, tq_ic 1, tq_i2 (fun x y => x + y), tq_isc L xs g1 v1, tq_al 0, tq_il 4, tq_ic 2, tq_i2 (fun x y => x + y), tq_isc L xs g2 v2, tq_al 0, tq_il 4, tq_ic 3, tq_i2 (fun x y => x + y), tq_isc L xs g3 v3, tq_al 3, tq_callH m_w_dayTwice 5 1 1000 [], tq_is 7 5, tq_al 2, tq_al 0, tq_il 4, tq_ic 1, tq_i2 (fun x y => x + y), tq_isc L xs g1 v1, tq_al 0, tq_il 4, tq_ic 2, tq_i2 (fun x y => x + y), tq_isc L xs g2 v2, tq_al 0, tq_il 4, tq_ic 3, tq_i2 (fun x y => x + y), tq_isc L xs g3 v3, tq_callH (rV 1 m_d_dayTwice) 4 0 1000 [], tq_is 7 6, tq_go 38, tq_stop i]
set_option maxHeartbeats 4000000 in
set_option maxRecDepth 20000 in
theorem ok_l11 (L : Nat) (xs : Nat → Int32) (i : Int32) (g1 : Bool) (v1 : Int32) (g2 : Bool) (v2 : Int32) (g3 : Bool) (v3 : Int32) (g4 : Bool) (v4 : Int32) (z2 z3 z4 : Bool) : rAll (rOk (fun G => rSc G = (L, xs)) code "RingdaysLaw" 7 rTL room_1 [] 1000 (.inr (2451, i)) (fun o => ps_l11.getD o 0)) ps_l11 (tb_l11 L xs i g1 v1 g2 v2 g3 v3 g4 v4 z2 z3 z4) := by
  refine rcons (ro_aload_n (k := 1) rfl (dca dc_l11 0 rfl) rfl) ?_
  refine rcons (ro_aload_n (k := 0) rfl (dca dc_l11 1 rfl) rfl) ?_
  refine rcons (ro_iload (dca dc_l11 2 rfl) rfl) ?_
  refine rcons (ro_iconst (n := 1) (dca dc_l11 3 rfl) rfl rfl) ?_
  refine rcons (ro_iadd (dca dc_l11 4 rfl) rfl) ?_
  refine rcons (ro_isc (fun _ h => h) (dca dc_l11 5 rfl) rfl) ?_
  refine rcons (ro_aload_n (k := 0) rfl (dca dc_l11 6 rfl) rfl) ?_
  refine rcons (ro_iload (dca dc_l11 7 rfl) rfl) ?_
  refine rcons (ro_iconst (n := 2) (dca dc_l11 8 rfl) rfl rfl) ?_
  refine rcons (ro_iadd (dca dc_l11 9 rfl) rfl) ?_
  refine rcons (ro_isc (fun _ h => h) (dca dc_l11 10 rfl) rfl) ?_
  refine rcons (ro_aload_n (k := 0) rfl (dca dc_l11 11 rfl) rfl) ?_
  refine rcons (ro_iload (dca dc_l11 12 rfl) rfl) ?_
  refine rcons (ro_iconst (n := 3) (dca dc_l11 13 rfl) rfl rfl) ?_
  refine rcons (ro_iadd (dca dc_l11 14 rfl) rfl) ?_
  refine rcons (ro_isc (fun _ h => h) (dca dc_l11 15 rfl) rfl) ?_
  refine rcons (ro_aload_n (k := 3) rfl (dca dc_l11 16 rfl) rfl) ?_
  refine rcons (ro_callSX ok_w_dayTwice (dca dc_l11 17 rfl) rfl (fun s args ht => vx_cwSW 5 ht (rgoodS (fun w h => List.mem_cons_of_mem _ h) q_686 q_687 q_12 q_688) rfl rfl rfl hy_w_dayTwice ⟨Nat.le_of_ble_eq_true rfl, Nat.le_of_ble_eq_true rfl⟩) rfl) ?_
  refine rcons (ro_istore (dca dc_l11 18 rfl) rfl) ?_
  refine rcons (ro_aload_n (k := 2) rfl (dca dc_l11 19 rfl) rfl) ?_
  refine rcons (ro_aload_n (k := 0) rfl (dca dc_l11 20 rfl) rfl) ?_
  refine rcons (ro_iload (dca dc_l11 21 rfl) rfl) ?_
  refine rcons (ro_iconst (n := 1) (dca dc_l11 22 rfl) rfl rfl) ?_
  refine rcons (ro_iadd (dca dc_l11 23 rfl) rfl) ?_
  refine rcons (ro_isc (fun _ h => h) (dca dc_l11 24 rfl) rfl) ?_
  refine rcons (ro_aload_n (k := 0) rfl (dca dc_l11 25 rfl) rfl) ?_
  refine rcons (ro_iload (dca dc_l11 26 rfl) rfl) ?_
  refine rcons (ro_iconst (n := 2) (dca dc_l11 27 rfl) rfl rfl) ?_
  refine rcons (ro_iadd (dca dc_l11 28 rfl) rfl) ?_
  refine rcons (ro_isc (fun _ h => h) (dca dc_l11 29 rfl) rfl) ?_
  refine rcons (ro_aload_n (k := 0) rfl (dca dc_l11 30 rfl) rfl) ?_
  refine rcons (ro_iload (dca dc_l11 31 rfl) rfl) ?_
  refine rcons (ro_iconst (n := 3) (dca dc_l11 32 rfl) rfl rfl) ?_
  refine rcons (ro_iadd (dca dc_l11 33 rfl) rfl) ?_
  refine rcons (ro_isc (fun _ h => h) (dca dc_l11 34 rfl) rfl) ?_
  refine rcons (ro_callVH (C := rN1) (T := rF1) (N := 7) rfl ok_d_dayTwice (dca dc_l11 35 rfl) trivial (by decide) (fun s args ht => cwV (C := rN1) 3 ht (rgoodV (C := rN1) (fun w h => List.mem_cons_of_mem _ h) q_1078 q_1079 q_1080 q_14 q_1081) rfl rfl rfl hv_d_dayTwice ⟨Nat.le_of_ble_eq_true rfl, Nat.le_of_ble_eq_true rfl⟩) rfl) ?_
  refine rcons (ro_istore (dca dc_l11 36 rfl) rfl) ?_
  refine rcons (ro_goto (off := 1662) (dca dc_l11 37 rfl) rfl) ?_
  refine rcons (ro_stop) ?_
  exact rnil
def dl_l12 : List (Nat × Instr × Nat) := [(792, .aload_n 1, 1), (793, .aload_n 0, 1), (794, .iload 4, 2), (796, .iconst 1, 1), (797, .iadd, 1), (798, .iaload, 1), (799, .aload_n 0, 1), (800, .iload 4, 2), (802, .iconst 2, 1), (803, .iadd, 1), (804, .iaload, 1), (805, .aload_n 3, 1), (806, .invokestatic 227, 3), (809, .istore 5, 2), (811, .aload_n 2, 1), (812, .aload_n 0, 1), (813, .iload 4, 2), (815, .iconst 1, 1), (816, .iadd, 1), (817, .iaload, 1), (818, .aload_n 0, 1), (819, .iload 4, 2), (821, .iconst 2, 1), (822, .iadd, 1), (823, .iaload, 1), (824, .invokevirtual 229, 3), (827, .istore 6, 2), (829, .goto 1622, 3)]
theorem dc_l12 : ∀ (k : Nat) (q : Nat × Instr × Nat), dl_l12[k]? = some q → decode code q.1 = .ok q.2 := dchk_at (a := 792) (by decide +kernel)
def ps_l12 : List Nat := [792, 793, 794, 796, 797, 798, 799, 800, 802, 803, 804, 805, 806, 809, 811, 812, 813, 815, 816, 817, 818, 819, 821, 822, 823, 824, 827, 829, 2451]
def tb_l12 (L : Nat) (xs : Nat → Int32) (i : Int32) (g1 : Bool) (v1 : Int32) (g2 : Bool) (v2 : Int32) (g3 : Bool) (v3 : Int32) (g4 : Bool) (v4 : Int32) (z2 z3 z4 : Bool) : List RT := [tq_al 1, tq_al 0, tq_il 4, tq_ic 1, tq_i2 (fun x y => x + y), tq_isc L xs g1 v1, tq_al 0, tq_il 4, tq_ic 2, tq_i2 (fun x y => x + y), tq_isc L xs g2 v2, tq_al 3, tq_callH m_w_dayCopy 4 2 1000 [], tq_is 7 5, tq_al 2, tq_al 0, tq_il 4, tq_ic 1, tq_i2 (fun x y => x + y), tq_isc L xs g1 v1, tq_al 0, tq_il 4, tq_ic 2, tq_i2 (fun x y => x + y), tq_isc L xs g2 v2, tq_callH (rV 1 m_d_dayCopy) 3 0 1000 [], tq_is 7 6, tq_go 28, tq_stop i]
set_option maxHeartbeats 4000000 in
set_option maxRecDepth 20000 in
theorem ok_l12 (L : Nat) (xs : Nat → Int32) (i : Int32) (g1 : Bool) (v1 : Int32) (g2 : Bool) (v2 : Int32) (g3 : Bool) (v3 : Int32) (g4 : Bool) (v4 : Int32) (z2 z3 z4 : Bool) : rAll (rOk (fun G => rSc G = (L, xs)) code "RingdaysLaw" 7 rTL room_1 [] 1000 (.inr (2451, i)) (fun o => ps_l12.getD o 0)) ps_l12 (tb_l12 L xs i g1 v1 g2 v2 g3 v3 g4 v4 z2 z3 z4) := by
  refine rcons (ro_aload_n (k := 1) rfl (dca dc_l12 0 rfl) rfl) ?_
  refine rcons (ro_aload_n (k := 0) rfl (dca dc_l12 1 rfl) rfl) ?_
  refine rcons (ro_iload (dca dc_l12 2 rfl) rfl) ?_
  refine rcons (ro_iconst (n := 1) (dca dc_l12 3 rfl) rfl rfl) ?_
  refine rcons (ro_iadd (dca dc_l12 4 rfl) rfl) ?_
  refine rcons (ro_isc (fun _ h => h) (dca dc_l12 5 rfl) rfl) ?_
  refine rcons (ro_aload_n (k := 0) rfl (dca dc_l12 6 rfl) rfl) ?_
  refine rcons (ro_iload (dca dc_l12 7 rfl) rfl) ?_
  refine rcons (ro_iconst (n := 2) (dca dc_l12 8 rfl) rfl rfl) ?_
  refine rcons (ro_iadd (dca dc_l12 9 rfl) rfl) ?_
  refine rcons (ro_isc (fun _ h => h) (dca dc_l12 10 rfl) rfl) ?_
  refine rcons (ro_aload_n (k := 3) rfl (dca dc_l12 11 rfl) rfl) ?_
  refine rcons (ro_callSX ok_w_dayCopy (dca dc_l12 12 rfl) rfl (fun s args ht => vx_cwSW 4 ht (rgoodS (fun w h => List.mem_cons_of_mem _ h) q_693 q_694 q_12 q_695) rfl rfl rfl hy_w_dayCopy ⟨Nat.le_of_ble_eq_true rfl, Nat.le_of_ble_eq_true rfl⟩) rfl) ?_
  refine rcons (ro_istore (dca dc_l12 13 rfl) rfl) ?_
  refine rcons (ro_aload_n (k := 2) rfl (dca dc_l12 14 rfl) rfl) ?_
  refine rcons (ro_aload_n (k := 0) rfl (dca dc_l12 15 rfl) rfl) ?_
  refine rcons (ro_iload (dca dc_l12 16 rfl) rfl) ?_
  refine rcons (ro_iconst (n := 1) (dca dc_l12 17 rfl) rfl rfl) ?_
  refine rcons (ro_iadd (dca dc_l12 18 rfl) rfl) ?_
  refine rcons (ro_isc (fun _ h => h) (dca dc_l12 19 rfl) rfl) ?_
  refine rcons (ro_aload_n (k := 0) rfl (dca dc_l12 20 rfl) rfl) ?_
  refine rcons (ro_iload (dca dc_l12 21 rfl) rfl) ?_
  refine rcons (ro_iconst (n := 2) (dca dc_l12 22 rfl) rfl rfl) ?_
  refine rcons (ro_iadd (dca dc_l12 23 rfl) rfl) ?_
  refine rcons (ro_isc (fun _ h => h) (dca dc_l12 24 rfl) rfl) ?_
  refine rcons (ro_callVH (C := rN1) (T := rF1) (N := 7) rfl ok_d_dayCopy (dca dc_l12 25 rfl) trivial (by decide) (fun s args ht => cwV (C := rN1) 2 ht (rgoodV (C := rN1) (fun w h => List.mem_cons_of_mem _ h) q_1082 q_1083 q_1084 q_14 q_1085) rfl rfl rfl hv_d_dayCopy ⟨Nat.le_of_ble_eq_true rfl, Nat.le_of_ble_eq_true rfl⟩) rfl) ?_
  refine rcons (ro_istore (dca dc_l12 26 rfl) rfl) ?_
  refine rcons (ro_goto (off := 1622) (dca dc_l12 27 rfl) rfl) ?_
  refine rcons (ro_stop) ?_
  exact rnil
def dl_l13 : List (Nat × Instr × Nat) := [(832, .aload_n 1, 1), (833, .aload_n 0, 1), (834, .iload 4, 2), (836, .iconst 1, 1), (837, .iadd, 1), (838, .iaload, 1), (839, .aload_n 0, 1), (840, .iload 4, 2), (842, .iconst 2, 1), (843, .iadd, 1), (844, .iaload, 1), (845, .aload_n 3, 1), (846, .invokestatic 230, 3), (849, .istore 5, 2), (851, .aload_n 2, 1), (852, .aload_n 0, 1), (853, .iload 4, 2), (855, .iconst 1, 1), (856, .iadd, 1), (857, .iaload, 1), (858, .aload_n 0, 1), (859, .iload 4, 2), (861, .iconst 2, 1), (862, .iadd, 1), (863, .iaload, 1), (864, .invokevirtual 232, 3), (867, .istore 6, 2), (869, .goto 1582, 3)]
theorem dc_l13 : ∀ (k : Nat) (q : Nat × Instr × Nat), dl_l13[k]? = some q → decode code q.1 = .ok q.2 := dchk_at (a := 832) (by decide +kernel)
def ps_l13 : List Nat := [832, 833, 834, 836, 837, 838, 839, 840, 842, 843, 844, 845, 846, 849, 851, 852, 853, 855, 856, 857, 858, 859, 861, 862, 863, 864, 867, 869, 2451]
def tb_l13 (L : Nat) (xs : Nat → Int32) (i : Int32) (g1 : Bool) (v1 : Int32) (g2 : Bool) (v2 : Int32) (g3 : Bool) (v3 : Int32) (g4 : Bool) (v4 : Int32) (z2 z3 z4 : Bool) : List RT := [tq_al 1, tq_al 0, tq_il 4, tq_ic 1, tq_i2 (fun x y => x + y), tq_isc L xs g1 v1, tq_al 0, tq_il 4, tq_ic 2, tq_i2 (fun x y => x + y), tq_isc L xs g2 v2, tq_al 3, tq_callH m_w_daySwap 4 4 1000 [], tq_is 7 5, tq_al 2, tq_al 0, tq_il 4, tq_ic 1, tq_i2 (fun x y => x + y), tq_isc L xs g1 v1, tq_al 0, tq_il 4, tq_ic 2, tq_i2 (fun x y => x + y), tq_isc L xs g2 v2, tq_callH (rV 1 m_d_daySwap) 3 0 1000 [], tq_is 7 6, tq_go 28, tq_stop i]
set_option maxHeartbeats 4000000 in
set_option maxRecDepth 20000 in
theorem ok_l13 (L : Nat) (xs : Nat → Int32) (i : Int32) (g1 : Bool) (v1 : Int32) (g2 : Bool) (v2 : Int32) (g3 : Bool) (v3 : Int32) (g4 : Bool) (v4 : Int32) (z2 z3 z4 : Bool) : rAll (rOk (fun G => rSc G = (L, xs)) code "RingdaysLaw" 7 rTL room_1 [] 1000 (.inr (2451, i)) (fun o => ps_l13.getD o 0)) ps_l13 (tb_l13 L xs i g1 v1 g2 v2 g3 v3 g4 v4 z2 z3 z4) := by
  refine rcons (ro_aload_n (k := 1) rfl (dca dc_l13 0 rfl) rfl) ?_
  refine rcons (ro_aload_n (k := 0) rfl (dca dc_l13 1 rfl) rfl) ?_
  refine rcons (ro_iload (dca dc_l13 2 rfl) rfl) ?_
  refine rcons (ro_iconst (n := 1) (dca dc_l13 3 rfl) rfl rfl) ?_
  refine rcons (ro_iadd (dca dc_l13 4 rfl) rfl) ?_
  refine rcons (ro_isc (fun _ h => h) (dca dc_l13 5 rfl) rfl) ?_
  refine rcons (ro_aload_n (k := 0) rfl (dca dc_l13 6 rfl) rfl) ?_
  refine rcons (ro_iload (dca dc_l13 7 rfl) rfl) ?_
  refine rcons (ro_iconst (n := 2) (dca dc_l13 8 rfl) rfl rfl) ?_
  refine rcons (ro_iadd (dca dc_l13 9 rfl) rfl) ?_
  refine rcons (ro_isc (fun _ h => h) (dca dc_l13 10 rfl) rfl) ?_
  refine rcons (ro_aload_n (k := 3) rfl (dca dc_l13 11 rfl) rfl) ?_
  refine rcons (ro_callSX ok_w_daySwap (dca dc_l13 12 rfl) rfl (fun s args ht => vx_cwSW 4 ht (rgoodS (fun w h => List.mem_cons_of_mem _ h) q_704 q_705 q_12 q_706) rfl rfl rfl hy_w_daySwap ⟨Nat.le_of_ble_eq_true rfl, Nat.le_of_ble_eq_true rfl⟩) rfl) ?_
  refine rcons (ro_istore (dca dc_l13 13 rfl) rfl) ?_
  refine rcons (ro_aload_n (k := 2) rfl (dca dc_l13 14 rfl) rfl) ?_
  refine rcons (ro_aload_n (k := 0) rfl (dca dc_l13 15 rfl) rfl) ?_
  refine rcons (ro_iload (dca dc_l13 16 rfl) rfl) ?_
  refine rcons (ro_iconst (n := 1) (dca dc_l13 17 rfl) rfl rfl) ?_
  refine rcons (ro_iadd (dca dc_l13 18 rfl) rfl) ?_
  refine rcons (ro_isc (fun _ h => h) (dca dc_l13 19 rfl) rfl) ?_
  refine rcons (ro_aload_n (k := 0) rfl (dca dc_l13 20 rfl) rfl) ?_
  refine rcons (ro_iload (dca dc_l13 21 rfl) rfl) ?_
  refine rcons (ro_iconst (n := 2) (dca dc_l13 22 rfl) rfl rfl) ?_
  refine rcons (ro_iadd (dca dc_l13 23 rfl) rfl) ?_
  refine rcons (ro_isc (fun _ h => h) (dca dc_l13 24 rfl) rfl) ?_
  refine rcons (ro_callVH (C := rN1) (T := rF1) (N := 7) rfl ok_d_daySwap (dca dc_l13 25 rfl) trivial (by decide) (fun s args ht => cwV (C := rN1) 2 ht (rgoodV (C := rN1) (fun w h => List.mem_cons_of_mem _ h) q_1086 q_1087 q_1088 q_14 q_1089) rfl rfl rfl hv_d_daySwap ⟨Nat.le_of_ble_eq_true rfl, Nat.le_of_ble_eq_true rfl⟩) rfl) ?_
  refine rcons (ro_istore (dca dc_l13 26 rfl) rfl) ?_
  refine rcons (ro_goto (off := 1582) (dca dc_l13 27 rfl) rfl) ?_
  refine rcons (ro_stop) ?_
  exact rnil
def dl_l14 : List (Nat × Instr × Nat) := [(872, .aload_n 1, 1), (873, .aload_n 0, 1), (874, .iload 4, 2), (876, .iconst 1, 1), (877, .iadd, 1), (878, .iaload, 1), (879, .aload_n 0, 1), (880, .iload 4, 2), (882, .iconst 2, 1), (883, .iadd, 1), (884, .iaload, 1), (885, .aload_n 3, 1), (886, .invokestatic 233, 3), (889, .istore 5, 2), (891, .aload_n 2, 1), (892, .aload_n 0, 1), (893, .iload 4, 2), (895, .iconst 1, 1), (896, .iadd, 1), (897, .iaload, 1), (898, .aload_n 0, 1), (899, .iload 4, 2), (901, .iconst 2, 1), (902, .iadd, 1), (903, .iaload, 1), (904, .invokevirtual 235, 3), (907, .istore 6, 2), (909, .goto 1542, 3)]
theorem dc_l14 : ∀ (k : Nat) (q : Nat × Instr × Nat), dl_l14[k]? = some q → decode code q.1 = .ok q.2 := dchk_at (a := 872) (by decide +kernel)
def ps_l14 : List Nat := [872, 873, 874, 876, 877, 878, 879, 880, 882, 883, 884, 885, 886, 889, 891, 892, 893, 895, 896, 897, 898, 899, 901, 902, 903, 904, 907, 909, 2451]
def tb_l14 (L : Nat) (xs : Nat → Int32) (i : Int32) (g1 : Bool) (v1 : Int32) (g2 : Bool) (v2 : Int32) (g3 : Bool) (v3 : Int32) (g4 : Bool) (v4 : Int32) (z2 z3 z4 : Bool) : List RT := [tq_al 1, tq_al 0, tq_il 4, tq_ic 1, tq_i2 (fun x y => x + y), tq_isc L xs g1 v1, tq_al 0, tq_il 4, tq_ic 2, tq_i2 (fun x y => x + y), tq_isc L xs g2 v2, tq_al 3, tq_callH m_w_dayOrder 4 2 1000 [], tq_is 7 5, tq_al 2, tq_al 0, tq_il 4, tq_ic 1, tq_i2 (fun x y => x + y), tq_isc L xs g1 v1, tq_al 0, tq_il 4, tq_ic 2, tq_i2 (fun x y => x + y), tq_isc L xs g2 v2, tq_callH (rV 1 m_d_dayOrder) 3 0 1000 [], tq_is 7 6, tq_go 28, tq_stop i]
set_option maxHeartbeats 4000000 in
set_option maxRecDepth 20000 in
theorem ok_l14 (L : Nat) (xs : Nat → Int32) (i : Int32) (g1 : Bool) (v1 : Int32) (g2 : Bool) (v2 : Int32) (g3 : Bool) (v3 : Int32) (g4 : Bool) (v4 : Int32) (z2 z3 z4 : Bool) : rAll (rOk (fun G => rSc G = (L, xs)) code "RingdaysLaw" 7 rTL room_1 [] 1000 (.inr (2451, i)) (fun o => ps_l14.getD o 0)) ps_l14 (tb_l14 L xs i g1 v1 g2 v2 g3 v3 g4 v4 z2 z3 z4) := by
  refine rcons (ro_aload_n (k := 1) rfl (dca dc_l14 0 rfl) rfl) ?_
  refine rcons (ro_aload_n (k := 0) rfl (dca dc_l14 1 rfl) rfl) ?_
  refine rcons (ro_iload (dca dc_l14 2 rfl) rfl) ?_
  refine rcons (ro_iconst (n := 1) (dca dc_l14 3 rfl) rfl rfl) ?_
  refine rcons (ro_iadd (dca dc_l14 4 rfl) rfl) ?_
  refine rcons (ro_isc (fun _ h => h) (dca dc_l14 5 rfl) rfl) ?_
  refine rcons (ro_aload_n (k := 0) rfl (dca dc_l14 6 rfl) rfl) ?_
  refine rcons (ro_iload (dca dc_l14 7 rfl) rfl) ?_
  refine rcons (ro_iconst (n := 2) (dca dc_l14 8 rfl) rfl rfl) ?_
  refine rcons (ro_iadd (dca dc_l14 9 rfl) rfl) ?_
  refine rcons (ro_isc (fun _ h => h) (dca dc_l14 10 rfl) rfl) ?_
  refine rcons (ro_aload_n (k := 3) rfl (dca dc_l14 11 rfl) rfl) ?_
  refine rcons (ro_callSX ok_w_dayOrder (dca dc_l14 12 rfl) rfl (fun s args ht => vx_cwSW 4 ht (rgoodS (fun w h => List.mem_cons_of_mem _ h) q_715 q_716 q_12 q_717) rfl rfl rfl hy_w_dayOrder ⟨Nat.le_of_ble_eq_true rfl, Nat.le_of_ble_eq_true rfl⟩) rfl) ?_
  refine rcons (ro_istore (dca dc_l14 13 rfl) rfl) ?_
  refine rcons (ro_aload_n (k := 2) rfl (dca dc_l14 14 rfl) rfl) ?_
  refine rcons (ro_aload_n (k := 0) rfl (dca dc_l14 15 rfl) rfl) ?_
  refine rcons (ro_iload (dca dc_l14 16 rfl) rfl) ?_
  refine rcons (ro_iconst (n := 1) (dca dc_l14 17 rfl) rfl rfl) ?_
  refine rcons (ro_iadd (dca dc_l14 18 rfl) rfl) ?_
  refine rcons (ro_isc (fun _ h => h) (dca dc_l14 19 rfl) rfl) ?_
  refine rcons (ro_aload_n (k := 0) rfl (dca dc_l14 20 rfl) rfl) ?_
  refine rcons (ro_iload (dca dc_l14 21 rfl) rfl) ?_
  refine rcons (ro_iconst (n := 2) (dca dc_l14 22 rfl) rfl rfl) ?_
  refine rcons (ro_iadd (dca dc_l14 23 rfl) rfl) ?_
  refine rcons (ro_isc (fun _ h => h) (dca dc_l14 24 rfl) rfl) ?_
  refine rcons (ro_callVH (C := rN1) (T := rF1) (N := 7) rfl ok_d_dayOrder (dca dc_l14 25 rfl) trivial (by decide) (fun s args ht => cwV (C := rN1) 2 ht (rgoodV (C := rN1) (fun w h => List.mem_cons_of_mem _ h) q_1090 q_1091 q_1092 q_14 q_1093) rfl rfl rfl hv_d_dayOrder ⟨Nat.le_of_ble_eq_true rfl, Nat.le_of_ble_eq_true rfl⟩) rfl) ?_
  refine rcons (ro_istore (dca dc_l14 26 rfl) rfl) ?_
  refine rcons (ro_goto (off := 1542) (dca dc_l14 27 rfl) rfl) ?_
  refine rcons (ro_stop) ?_
  exact rnil
def dl_l15 : List (Nat × Instr × Nat) := [(912, .aload_n 1, 1), (913, .aload_n 0, 1), (914, .iload 4, 2), (916, .iconst 1, 1), (917, .iadd, 1), (918, .iaload, 1), (919, .aload_n 0, 1), (920, .iload 4, 2), (922, .iconst 2, 1), (923, .iadd, 1), (924, .iaload, 1), (925, .aload_n 3, 1), (926, .invokestatic 236, 3), (929, .istore 5, 2), (931, .aload_n 2, 1), (932, .aload_n 0, 1), (933, .iload 4, 2), (935, .iconst 1, 1), (936, .iadd, 1), (937, .iaload, 1), (938, .aload_n 0, 1), (939, .iload 4, 2), (941, .iconst 2, 1), (942, .iadd, 1), (943, .iaload, 1), (944, .invokevirtual 238, 3), (947, .istore 6, 2), (949, .goto 1502, 3)]
theorem dc_l15 : ∀ (k : Nat) (q : Nat × Instr × Nat), dl_l15[k]? = some q → decode code q.1 = .ok q.2 := dchk_at (a := 912) (by decide +kernel)
def ps_l15 : List Nat := [912, 913, 914, 916, 917, 918, 919, 920, 922, 923, 924, 925, 926, 929, 931, 932, 933, 935, 936, 937, 938, 939, 941, 942, 943, 944, 947, 949, 2451]
def tb_l15 (L : Nat) (xs : Nat → Int32) (i : Int32) (g1 : Bool) (v1 : Int32) (g2 : Bool) (v2 : Int32) (g3 : Bool) (v3 : Int32) (g4 : Bool) (v4 : Int32) (z2 z3 z4 : Bool) : List RT := [tq_al 1, tq_al 0, tq_il 4, tq_ic 1, tq_i2 (fun x y => x + y), tq_isc L xs g1 v1, tq_al 0, tq_il 4, tq_ic 2, tq_i2 (fun x y => x + y), tq_isc L xs g2 v2, tq_al 3, tq_callH m_w_isSameDay 4 2 1000 [], tq_is 7 5, tq_al 2, tq_al 0, tq_il 4, tq_ic 1, tq_i2 (fun x y => x + y), tq_isc L xs g1 v1, tq_al 0, tq_il 4, tq_ic 2, tq_i2 (fun x y => x + y), tq_isc L xs g2 v2, tq_callH (rV 1 m_d_isSameDay) 3 0 1000 [], tq_is 7 6, tq_go 28, tq_stop i]
set_option maxHeartbeats 4000000 in
set_option maxRecDepth 20000 in
theorem ok_l15 (L : Nat) (xs : Nat → Int32) (i : Int32) (g1 : Bool) (v1 : Int32) (g2 : Bool) (v2 : Int32) (g3 : Bool) (v3 : Int32) (g4 : Bool) (v4 : Int32) (z2 z3 z4 : Bool) : rAll (rOk (fun G => rSc G = (L, xs)) code "RingdaysLaw" 7 rTL room_1 [] 1000 (.inr (2451, i)) (fun o => ps_l15.getD o 0)) ps_l15 (tb_l15 L xs i g1 v1 g2 v2 g3 v3 g4 v4 z2 z3 z4) := by
  refine rcons (ro_aload_n (k := 1) rfl (dca dc_l15 0 rfl) rfl) ?_
  refine rcons (ro_aload_n (k := 0) rfl (dca dc_l15 1 rfl) rfl) ?_
  refine rcons (ro_iload (dca dc_l15 2 rfl) rfl) ?_
  refine rcons (ro_iconst (n := 1) (dca dc_l15 3 rfl) rfl rfl) ?_
  refine rcons (ro_iadd (dca dc_l15 4 rfl) rfl) ?_
  refine rcons (ro_isc (fun _ h => h) (dca dc_l15 5 rfl) rfl) ?_
  refine rcons (ro_aload_n (k := 0) rfl (dca dc_l15 6 rfl) rfl) ?_
  refine rcons (ro_iload (dca dc_l15 7 rfl) rfl) ?_
  refine rcons (ro_iconst (n := 2) (dca dc_l15 8 rfl) rfl rfl) ?_
  refine rcons (ro_iadd (dca dc_l15 9 rfl) rfl) ?_
  refine rcons (ro_isc (fun _ h => h) (dca dc_l15 10 rfl) rfl) ?_
  refine rcons (ro_aload_n (k := 3) rfl (dca dc_l15 11 rfl) rfl) ?_
  refine rcons (ro_callSX ok_w_isSameDay (dca dc_l15 12 rfl) rfl (fun s args ht => vx_cwSW 4 ht (rgoodS (fun w h => List.mem_cons_of_mem _ h) q_719 q_720 q_12 q_721) rfl rfl rfl hy_w_isSameDay ⟨Nat.le_of_ble_eq_true rfl, Nat.le_of_ble_eq_true rfl⟩) rfl) ?_
  refine rcons (ro_istore (dca dc_l15 13 rfl) rfl) ?_
  refine rcons (ro_aload_n (k := 2) rfl (dca dc_l15 14 rfl) rfl) ?_
  refine rcons (ro_aload_n (k := 0) rfl (dca dc_l15 15 rfl) rfl) ?_
  refine rcons (ro_iload (dca dc_l15 16 rfl) rfl) ?_
  refine rcons (ro_iconst (n := 1) (dca dc_l15 17 rfl) rfl rfl) ?_
  refine rcons (ro_iadd (dca dc_l15 18 rfl) rfl) ?_
  refine rcons (ro_isc (fun _ h => h) (dca dc_l15 19 rfl) rfl) ?_
  refine rcons (ro_aload_n (k := 0) rfl (dca dc_l15 20 rfl) rfl) ?_
  refine rcons (ro_iload (dca dc_l15 21 rfl) rfl) ?_
  refine rcons (ro_iconst (n := 2) (dca dc_l15 22 rfl) rfl rfl) ?_
  refine rcons (ro_iadd (dca dc_l15 23 rfl) rfl) ?_
  refine rcons (ro_isc (fun _ h => h) (dca dc_l15 24 rfl) rfl) ?_
  refine rcons (ro_callVH (C := rN1) (T := rF1) (N := 7) rfl ok_d_isSameDay (dca dc_l15 25 rfl) trivial (by decide) (fun s args ht => cwV (C := rN1) 2 ht (rgoodV (C := rN1) (fun w h => List.mem_cons_of_mem _ h) q_1097 q_1098 q_1099 q_14 q_1100) rfl rfl rfl hv_d_isSameDay ⟨Nat.le_of_ble_eq_true rfl, Nat.le_of_ble_eq_true rfl⟩) rfl) ?_
  refine rcons (ro_istore (dca dc_l15 26 rfl) rfl) ?_
  refine rcons (ro_goto (off := 1502) (dca dc_l15 27 rfl) rfl) ?_
  refine rcons (ro_stop) ?_
  exact rnil
def dl_l16 : List (Nat × Instr × Nat) := [(952, .aload_n 1, 1), (953, .aload_n 0, 1), (954, .iload 4, 2), (956, .iconst 1, 1), (957, .iadd, 1), (958, .iaload, 1), (959, .aload_n 0, 1), (960, .iload 4, 2), (962, .iconst 2, 1), (963, .iadd, 1), (964, .iaload, 1), (965, .aload_n 3, 1), (966, .invokestatic 239, 3), (969, .istore 5, 2), (971, .aload_n 2, 1), (972, .aload_n 0, 1), (973, .iload 4, 2), (975, .iconst 1, 1), (976, .iadd, 1), (977, .iaload, 1), (978, .aload_n 0, 1), (979, .iload 4, 2), (981, .iconst 2, 1), (982, .iadd, 1), (983, .iaload, 1), (984, .invokevirtual 241, 3), (987, .istore 6, 2), (989, .goto 1462, 3)]
theorem dc_l16 : ∀ (k : Nat) (q : Nat × Instr × Nat), dl_l16[k]? = some q → decode code q.1 = .ok q.2 := dchk_at (a := 952) (by decide +kernel)
def ps_l16 : List Nat := [952, 953, 954, 956, 957, 958, 959, 960, 962, 963, 964, 965, 966, 969, 971, 972, 973, 975, 976, 977, 978, 979, 981, 982, 983, 984, 987, 989, 2451]
def tb_l16 (L : Nat) (xs : Nat → Int32) (i : Int32) (g1 : Bool) (v1 : Int32) (g2 : Bool) (v2 : Int32) (g3 : Bool) (v3 : Int32) (g4 : Bool) (v4 : Int32) (z2 z3 z4 : Bool) : List RT := [tq_al 1, tq_al 0, tq_il 4, tq_ic 1, tq_i2 (fun x y => x + y), tq_isc L xs g1 v1, tq_al 0, tq_il 4, tq_ic 2, tq_i2 (fun x y => x + y), tq_isc L xs g2 v2, tq_al 3, tq_callH m_w_isDay 4 2 1000 [], tq_is 7 5, tq_al 2, tq_al 0, tq_il 4, tq_ic 1, tq_i2 (fun x y => x + y), tq_isc L xs g1 v1, tq_al 0, tq_il 4, tq_ic 2, tq_i2 (fun x y => x + y), tq_isc L xs g2 v2, tq_callH (rV 1 m_d_isDay) 3 0 1000 [], tq_is 7 6, tq_go 28, tq_stop i]
set_option maxHeartbeats 4000000 in
set_option maxRecDepth 20000 in
theorem ok_l16 (L : Nat) (xs : Nat → Int32) (i : Int32) (g1 : Bool) (v1 : Int32) (g2 : Bool) (v2 : Int32) (g3 : Bool) (v3 : Int32) (g4 : Bool) (v4 : Int32) (z2 z3 z4 : Bool) : rAll (rOk (fun G => rSc G = (L, xs)) code "RingdaysLaw" 7 rTL room_1 [] 1000 (.inr (2451, i)) (fun o => ps_l16.getD o 0)) ps_l16 (tb_l16 L xs i g1 v1 g2 v2 g3 v3 g4 v4 z2 z3 z4) := by
  refine rcons (ro_aload_n (k := 1) rfl (dca dc_l16 0 rfl) rfl) ?_
  refine rcons (ro_aload_n (k := 0) rfl (dca dc_l16 1 rfl) rfl) ?_
  refine rcons (ro_iload (dca dc_l16 2 rfl) rfl) ?_
  refine rcons (ro_iconst (n := 1) (dca dc_l16 3 rfl) rfl rfl) ?_
  refine rcons (ro_iadd (dca dc_l16 4 rfl) rfl) ?_
  refine rcons (ro_isc (fun _ h => h) (dca dc_l16 5 rfl) rfl) ?_
  refine rcons (ro_aload_n (k := 0) rfl (dca dc_l16 6 rfl) rfl) ?_
  refine rcons (ro_iload (dca dc_l16 7 rfl) rfl) ?_
  refine rcons (ro_iconst (n := 2) (dca dc_l16 8 rfl) rfl rfl) ?_
  refine rcons (ro_iadd (dca dc_l16 9 rfl) rfl) ?_
  refine rcons (ro_isc (fun _ h => h) (dca dc_l16 10 rfl) rfl) ?_
  refine rcons (ro_aload_n (k := 3) rfl (dca dc_l16 11 rfl) rfl) ?_
  refine rcons (ro_callSX ok_w_isDay (dca dc_l16 12 rfl) rfl (fun s args ht => vx_cwSW 4 ht (rgoodS (fun w h => List.mem_cons_of_mem _ h) q_726 q_727 q_12 q_728) rfl rfl rfl hy_w_isDay ⟨Nat.le_of_ble_eq_true rfl, Nat.le_of_ble_eq_true rfl⟩) rfl) ?_
  refine rcons (ro_istore (dca dc_l16 13 rfl) rfl) ?_
  refine rcons (ro_aload_n (k := 2) rfl (dca dc_l16 14 rfl) rfl) ?_
  refine rcons (ro_aload_n (k := 0) rfl (dca dc_l16 15 rfl) rfl) ?_
  refine rcons (ro_iload (dca dc_l16 16 rfl) rfl) ?_
  refine rcons (ro_iconst (n := 1) (dca dc_l16 17 rfl) rfl rfl) ?_
  refine rcons (ro_iadd (dca dc_l16 18 rfl) rfl) ?_
  refine rcons (ro_isc (fun _ h => h) (dca dc_l16 19 rfl) rfl) ?_
  refine rcons (ro_aload_n (k := 0) rfl (dca dc_l16 20 rfl) rfl) ?_
  refine rcons (ro_iload (dca dc_l16 21 rfl) rfl) ?_
  refine rcons (ro_iconst (n := 2) (dca dc_l16 22 rfl) rfl rfl) ?_
  refine rcons (ro_iadd (dca dc_l16 23 rfl) rfl) ?_
  refine rcons (ro_isc (fun _ h => h) (dca dc_l16 24 rfl) rfl) ?_
  refine rcons (ro_callVH (C := rN1) (T := rF1) (N := 7) rfl ok_d_isDay (dca dc_l16 25 rfl) trivial (by decide) (fun s args ht => cwV (C := rN1) 2 ht (rgoodV (C := rN1) (fun w h => List.mem_cons_of_mem _ h) q_1101 q_1102 q_1103 q_14 q_1104) rfl rfl rfl hv_d_isDay ⟨Nat.le_of_ble_eq_true rfl, Nat.le_of_ble_eq_true rfl⟩) rfl) ?_
  refine rcons (ro_istore (dca dc_l16 26 rfl) rfl) ?_
  refine rcons (ro_goto (off := 1462) (dca dc_l16 27 rfl) rfl) ?_
  refine rcons (ro_stop) ?_
  exact rnil
def dl_l17 : List (Nat × Instr × Nat) := [(992, .aload_n 1, 1), (993, .aload_n 0, 1), (994, .iload 4, 2), (996, .iconst 1, 1), (997, .iadd, 1), (998, .iaload, 1), (999, .aload_n 0, 1), (1000, .iload 4, 2), (1002, .iconst 2, 1), (1003, .iadd, 1), (1004, .iaload, 1), (1005, .aload_n 3, 1), (1006, .invokestatic 242, 3), (1009, .istore 5, 2), (1011, .aload_n 2, 1), (1012, .aload_n 0, 1), (1013, .iload 4, 2), (1015, .iconst 1, 1), (1016, .iadd, 1), (1017, .iaload, 1), (1018, .aload_n 0, 1), (1019, .iload 4, 2), (1021, .iconst 2, 1), (1022, .iadd, 1), (1023, .iaload, 1), (1024, .invokevirtual 244, 3), (1027, .istore 6, 2), (1029, .goto 1422, 3)]
theorem dc_l17 : ∀ (k : Nat) (q : Nat × Instr × Nat), dl_l17[k]? = some q → decode code q.1 = .ok q.2 := dchk_at (a := 992) (by decide +kernel)
def ps_l17 : List Nat := [992, 993, 994, 996, 997, 998, 999, 1000, 1002, 1003, 1004, 1005, 1006, 1009, 1011, 1012, 1013, 1015, 1016, 1017, 1018, 1019, 1021, 1022, 1023, 1024, 1027, 1029, 2451]
def tb_l17 (L : Nat) (xs : Nat → Int32) (i : Int32) (g1 : Bool) (v1 : Int32) (g2 : Bool) (v2 : Int32) (g3 : Bool) (v3 : Int32) (g4 : Bool) (v4 : Int32) (z2 z3 z4 : Bool) : List RT := [tq_al 1, tq_al 0, tq_il 4, tq_ic 1, tq_i2 (fun x y => x + y), tq_isc L xs g1 v1, tq_al 0, tq_il 4, tq_ic 2, tq_i2 (fun x y => x + y), tq_isc L xs g2 v2, tq_al 3, tq_callH m_w_month 4 3 1000 [], tq_is 7 5, tq_al 2, tq_al 0, tq_il 4, tq_ic 1, tq_i2 (fun x y => x + y), tq_isc L xs g1 v1, tq_al 0, tq_il 4, tq_ic 2, tq_i2 (fun x y => x + y), tq_isc L xs g2 v2, tq_callH (rV 1 m_d_month) 3 0 1000 [], tq_is 7 6, tq_go 28, tq_stop i]
set_option maxHeartbeats 4000000 in
set_option maxRecDepth 20000 in
theorem ok_l17 (L : Nat) (xs : Nat → Int32) (i : Int32) (g1 : Bool) (v1 : Int32) (g2 : Bool) (v2 : Int32) (g3 : Bool) (v3 : Int32) (g4 : Bool) (v4 : Int32) (z2 z3 z4 : Bool) : rAll (rOk (fun G => rSc G = (L, xs)) code "RingdaysLaw" 7 rTL room_1 [] 1000 (.inr (2451, i)) (fun o => ps_l17.getD o 0)) ps_l17 (tb_l17 L xs i g1 v1 g2 v2 g3 v3 g4 v4 z2 z3 z4) := by
  refine rcons (ro_aload_n (k := 1) rfl (dca dc_l17 0 rfl) rfl) ?_
  refine rcons (ro_aload_n (k := 0) rfl (dca dc_l17 1 rfl) rfl) ?_
  refine rcons (ro_iload (dca dc_l17 2 rfl) rfl) ?_
  refine rcons (ro_iconst (n := 1) (dca dc_l17 3 rfl) rfl rfl) ?_
  refine rcons (ro_iadd (dca dc_l17 4 rfl) rfl) ?_
  refine rcons (ro_isc (fun _ h => h) (dca dc_l17 5 rfl) rfl) ?_
  refine rcons (ro_aload_n (k := 0) rfl (dca dc_l17 6 rfl) rfl) ?_
  refine rcons (ro_iload (dca dc_l17 7 rfl) rfl) ?_
  refine rcons (ro_iconst (n := 2) (dca dc_l17 8 rfl) rfl rfl) ?_
  refine rcons (ro_iadd (dca dc_l17 9 rfl) rfl) ?_
  refine rcons (ro_isc (fun _ h => h) (dca dc_l17 10 rfl) rfl) ?_
  refine rcons (ro_aload_n (k := 3) rfl (dca dc_l17 11 rfl) rfl) ?_
  refine rcons (ro_callSX ok_w_month (dca dc_l17 12 rfl) rfl (fun s args ht => vx_cwSW 4 ht (rgoodS (fun w h => List.mem_cons_of_mem _ h) q_736 q_737 q_12 q_738) rfl rfl rfl hy_w_month ⟨Nat.le_of_ble_eq_true rfl, Nat.le_of_ble_eq_true rfl⟩) rfl) ?_
  refine rcons (ro_istore (dca dc_l17 13 rfl) rfl) ?_
  refine rcons (ro_aload_n (k := 2) rfl (dca dc_l17 14 rfl) rfl) ?_
  refine rcons (ro_aload_n (k := 0) rfl (dca dc_l17 15 rfl) rfl) ?_
  refine rcons (ro_iload (dca dc_l17 16 rfl) rfl) ?_
  refine rcons (ro_iconst (n := 1) (dca dc_l17 17 rfl) rfl rfl) ?_
  refine rcons (ro_iadd (dca dc_l17 18 rfl) rfl) ?_
  refine rcons (ro_isc (fun _ h => h) (dca dc_l17 19 rfl) rfl) ?_
  refine rcons (ro_aload_n (k := 0) rfl (dca dc_l17 20 rfl) rfl) ?_
  refine rcons (ro_iload (dca dc_l17 21 rfl) rfl) ?_
  refine rcons (ro_iconst (n := 2) (dca dc_l17 22 rfl) rfl rfl) ?_
  refine rcons (ro_iadd (dca dc_l17 23 rfl) rfl) ?_
  refine rcons (ro_isc (fun _ h => h) (dca dc_l17 24 rfl) rfl) ?_
  refine rcons (ro_callVH (C := rN1) (T := rF1) (N := 7) rfl ok_d_month (dca dc_l17 25 rfl) trivial (by decide) (fun s args ht => cwV (C := rN1) 2 ht (rgoodV (C := rN1) (fun w h => List.mem_cons_of_mem _ h) q_1105 q_1106 q_1107 q_14 q_1108) rfl rfl rfl hv_d_month ⟨Nat.le_of_ble_eq_true rfl, Nat.le_of_ble_eq_true rfl⟩) rfl) ?_
  refine rcons (ro_istore (dca dc_l17 26 rfl) rfl) ?_
  refine rcons (ro_goto (off := 1422) (dca dc_l17 27 rfl) rfl) ?_
  refine rcons (ro_stop) ?_
  exact rnil
end RKM
