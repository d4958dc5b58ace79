section RKM
def ps_l0 : List Nat := [272, 273, 274, 276, 277, 278, 279, 280, 282, 283, 284, 285, 286, 289, 291, 292, 293, 295, 296, 297, 298, 299, 301, 302, 303, 304, 307, 309, 2450]
def tb_l0 (L : Nat) (xs : Nat → Int32) (i : Int32) (g1 : Bool) (v1 : Int32) (g2 : Bool) (v2 : Int32) (g3 : Bool) (v3 : Int32) (g4 : Bool) (v4 : Int32) (z2 z3 z4 : Bool) : List RT := [tq_al 1, tq_al 0, tq_il 4, tq_ic 1, tq_i2 (fun x y => x + y), tq_isc L xs g1 v1, tq_al 0, tq_il 4, tq_ic 2, tq_i2 (fun x y => x + y), tq_isc L xs g2 v2, tq_al 3, tq_callH m_w_day 4 3 1171 [], tq_is 7 5, tq_al 2, tq_al 0, tq_il 4, tq_ic 1, tq_i2 (fun x y => x + y), tq_isc L xs g1 v1, tq_al 0, tq_il 4, tq_ic 2, tq_i2 (fun x y => x + y), tq_isc L xs g2 v2, tq_callH (rV 1 m_d_day) 3 0 1171 [], tq_is 7 6, tq_go 28, tq_stop i]
set_option maxHeartbeats 4000000 in
set_option maxRecDepth 20000 in
theorem ok_l0 (L : Nat) (xs : Nat → Int32) (i : Int32) (g1 : Bool) (v1 : Int32) (g2 : Bool) (v2 : Int32) (g3 : Bool) (v3 : Int32) (g4 : Bool) (v4 : Int32) (z2 z3 z4 : Bool) : rAll (rOk (fun G => rSc G = (L, xs)) code "RingdaysLaw" 7 rTL room_1 [] 1171 (.inr (2450, i)) (fun o => ps_l0.getD o 0)) ps_l0 (tb_l0 L xs i g1 v1 g2 v2 g3 v3 g4 v4 z2 z3 z4) := by
  refine rcons (ro_aload_n (k := 1) rfl (by decide +kernel) rfl) ?_
  refine rcons (ro_aload_n (k := 0) rfl (by decide +kernel) rfl) ?_
  refine rcons (ro_iload (by decide +kernel) rfl) ?_
  refine rcons (ro_iconst (n := 1) (by decide +kernel) rfl rfl) ?_
  refine rcons (ro_iadd (by decide +kernel) rfl) ?_
  refine rcons (ro_isc (fun _ h => h) (by decide +kernel) rfl) ?_
  refine rcons (ro_aload_n (k := 0) rfl (by decide +kernel) rfl) ?_
  refine rcons (ro_iload (by decide +kernel) rfl) ?_
  refine rcons (ro_iconst (n := 2) (by decide +kernel) rfl rfl) ?_
  refine rcons (ro_iadd (by decide +kernel) rfl) ?_
  refine rcons (ro_isc (fun _ h => h) (by decide +kernel) rfl) ?_
  refine rcons (ro_aload_n (k := 3) rfl (by decide +kernel) rfl) ?_
  refine rcons (ro_callSX ok_w_day (by decide +kernel) rfl (fun s args ht => vx_cwSW 4 ht (rgoodS (fun w h => List.mem_cons_of_mem _ h) q_583 q_584 q_12 q_585) rfl rfl rfl hy_w_day ⟨Nat.le_of_ble_eq_true rfl, Nat.le_of_ble_eq_true rfl⟩) rfl) ?_
  refine rcons (ro_istore (by decide +kernel) rfl) ?_
  refine rcons (ro_aload_n (k := 2) rfl (by decide +kernel) rfl) ?_
  refine rcons (ro_aload_n (k := 0) rfl (by decide +kernel) rfl) ?_
  refine rcons (ro_iload (by decide +kernel) rfl) ?_
  refine rcons (ro_iconst (n := 1) (by decide +kernel) rfl rfl) ?_
  refine rcons (ro_iadd (by decide +kernel) rfl) ?_
  refine rcons (ro_isc (fun _ h => h) (by decide +kernel) rfl) ?_
  refine rcons (ro_aload_n (k := 0) rfl (by decide +kernel) rfl) ?_
  refine rcons (ro_iload (by decide +kernel) rfl) ?_
  refine rcons (ro_iconst (n := 2) (by decide +kernel) rfl rfl) ?_
  refine rcons (ro_iadd (by decide +kernel) rfl) ?_
  refine rcons (ro_isc (fun _ h => h) (by decide +kernel) rfl) ?_
  refine rcons (ro_callVH (C := rN1) (T := rF1) (N := 7) rfl ok_d_day (by decide +kernel) trivial (by decide) (fun s args ht => cwV (C := rN1) 2 ht (rgoodV (C := rN1) (fun w h => List.mem_cons_of_mem _ h) q_1006 q_1007 q_1008 q_14 q_1009) rfl rfl rfl hv_d_day ⟨Nat.le_of_ble_eq_true rfl, Nat.le_of_ble_eq_true rfl⟩) rfl) ?_
  refine rcons (ro_istore (by decide +kernel) rfl) ?_
  refine rcons (ro_goto (off := 2141) (by decide +kernel) rfl) ?_
  refine rcons (ro_stop) ?_
  exact rnil
def ps_l12 : List Nat := [792, 793, 794, 796, 797, 798, 799, 800, 802, 803, 804, 805, 806, 809, 811, 812, 813, 815, 816, 817, 818, 819, 821, 822, 823, 824, 827, 829, 2450]
def tb_l12 (L : Nat) (xs : Nat → Int32) (i : Int32) (g1 : Bool) (v1 : Int32) (g2 : Bool) (v2 : Int32) (g3 : Bool) (v3 : Int32) (g4 : Bool) (v4 : Int32) (z2 z3 z4 : Bool) : List RT := [tq_al 1, tq_al 0, tq_il 4, tq_ic 1, tq_i2 (fun x y => x + y), tq_isc L xs g1 v1, tq_al 0, tq_il 4, tq_ic 2, tq_i2 (fun x y => x + y), tq_isc L xs g2 v2, tq_al 3, tq_callH m_w_dayCopy 4 2 1171 [], tq_is 7 5, tq_al 2, tq_al 0, tq_il 4, tq_ic 1, tq_i2 (fun x y => x + y), tq_isc L xs g1 v1, tq_al 0, tq_il 4, tq_ic 2, tq_i2 (fun x y => x + y), tq_isc L xs g2 v2, tq_callH (rV 1 m_d_dayCopy) 3 0 1171 [], tq_is 7 6, tq_go 28, tq_stop i]
set_option maxHeartbeats 4000000 in
set_option maxRecDepth 20000 in
theorem ok_l12 (L : Nat) (xs : Nat → Int32) (i : Int32) (g1 : Bool) (v1 : Int32) (g2 : Bool) (v2 : Int32) (g3 : Bool) (v3 : Int32) (g4 : Bool) (v4 : Int32) (z2 z3 z4 : Bool) : rAll (rOk (fun G => rSc G = (L, xs)) code "RingdaysLaw" 7 rTL room_1 [] 1171 (.inr (2450, i)) (fun o => ps_l12.getD o 0)) ps_l12 (tb_l12 L xs i g1 v1 g2 v2 g3 v3 g4 v4 z2 z3 z4) := by
  refine rcons (ro_aload_n (k := 1) rfl (by decide +kernel) rfl) ?_
  refine rcons (ro_aload_n (k := 0) rfl (by decide +kernel) rfl) ?_
  refine rcons (ro_iload (by decide +kernel) rfl) ?_
  refine rcons (ro_iconst (n := 1) (by decide +kernel) rfl rfl) ?_
  refine rcons (ro_iadd (by decide +kernel) rfl) ?_
  refine rcons (ro_isc (fun _ h => h) (by decide +kernel) rfl) ?_
  refine rcons (ro_aload_n (k := 0) rfl (by decide +kernel) rfl) ?_
  refine rcons (ro_iload (by decide +kernel) rfl) ?_
  refine rcons (ro_iconst (n := 2) (by decide +kernel) rfl rfl) ?_
  refine rcons (ro_iadd (by decide +kernel) rfl) ?_
  refine rcons (ro_isc (fun _ h => h) (by decide +kernel) rfl) ?_
  refine rcons (ro_aload_n (k := 3) rfl (by decide +kernel) rfl) ?_
  refine rcons (ro_callSX ok_w_dayCopy (by decide +kernel) rfl (fun s args ht => vx_cwSW 4 ht (rgoodS (fun w h => List.mem_cons_of_mem _ h) q_693 q_694 q_12 q_695) rfl rfl rfl hy_w_dayCopy ⟨Nat.le_of_ble_eq_true rfl, Nat.le_of_ble_eq_true rfl⟩) rfl) ?_
  refine rcons (ro_istore (by decide +kernel) rfl) ?_
  refine rcons (ro_aload_n (k := 2) rfl (by decide +kernel) rfl) ?_
  refine rcons (ro_aload_n (k := 0) rfl (by decide +kernel) rfl) ?_
  refine rcons (ro_iload (by decide +kernel) rfl) ?_
  refine rcons (ro_iconst (n := 1) (by decide +kernel) rfl rfl) ?_
  refine rcons (ro_iadd (by decide +kernel) rfl) ?_
  refine rcons (ro_isc (fun _ h => h) (by decide +kernel) rfl) ?_
  refine rcons (ro_aload_n (k := 0) rfl (by decide +kernel) rfl) ?_
  refine rcons (ro_iload (by decide +kernel) rfl) ?_
  refine rcons (ro_iconst (n := 2) (by decide +kernel) rfl rfl) ?_
  refine rcons (ro_iadd (by decide +kernel) rfl) ?_
  refine rcons (ro_isc (fun _ h => h) (by decide +kernel) rfl) ?_
  refine rcons (ro_callVH (C := rN1) (T := rF1) (N := 7) rfl ok_d_dayCopy (by decide +kernel) trivial (by decide) (fun s args ht => cwV (C := rN1) 2 ht (rgoodV (C := rN1) (fun w h => List.mem_cons_of_mem _ h) q_1082 q_1083 q_1084 q_14 q_1085) rfl rfl rfl hv_d_dayCopy ⟨Nat.le_of_ble_eq_true rfl, Nat.le_of_ble_eq_true rfl⟩) rfl) ?_
  refine rcons (ro_istore (by decide +kernel) rfl) ?_
  refine rcons (ro_goto (off := 1621) (by decide +kernel) rfl) ?_
  refine rcons (ro_stop) ?_
  exact rnil
def ps_l13 : List Nat := [832, 833, 834, 836, 837, 838, 839, 840, 842, 843, 844, 845, 846, 849, 851, 852, 853, 855, 856, 857, 858, 859, 861, 862, 863, 864, 867, 869, 2450]
def tb_l13 (L : Nat) (xs : Nat → Int32) (i : Int32) (g1 : Bool) (v1 : Int32) (g2 : Bool) (v2 : Int32) (g3 : Bool) (v3 : Int32) (g4 : Bool) (v4 : Int32) (z2 z3 z4 : Bool) : List RT := [tq_al 1, tq_al 0, tq_il 4, tq_ic 1, tq_i2 (fun x y => x + y), tq_isc L xs g1 v1, tq_al 0, tq_il 4, tq_ic 2, tq_i2 (fun x y => x + y), tq_isc L xs g2 v2, tq_al 3, tq_callH m_w_daySwap 4 4 1171 [], tq_is 7 5, tq_al 2, tq_al 0, tq_il 4, tq_ic 1, tq_i2 (fun x y => x + y), tq_isc L xs g1 v1, tq_al 0, tq_il 4, tq_ic 2, tq_i2 (fun x y => x + y), tq_isc L xs g2 v2, tq_callH (rV 1 m_d_daySwap) 3 0 1171 [], tq_is 7 6, tq_go 28, tq_stop i]
set_option maxHeartbeats 4000000 in
set_option maxRecDepth 20000 in
theorem ok_l13 (L : Nat) (xs : Nat → Int32) (i : Int32) (g1 : Bool) (v1 : Int32) (g2 : Bool) (v2 : Int32) (g3 : Bool) (v3 : Int32) (g4 : Bool) (v4 : Int32) (z2 z3 z4 : Bool) : rAll (rOk (fun G => rSc G = (L, xs)) code "RingdaysLaw" 7 rTL room_1 [] 1171 (.inr (2450, i)) (fun o => ps_l13.getD o 0)) ps_l13 (tb_l13 L xs i g1 v1 g2 v2 g3 v3 g4 v4 z2 z3 z4) := by
  refine rcons (ro_aload_n (k := 1) rfl (by decide +kernel) rfl) ?_
  refine rcons (ro_aload_n (k := 0) rfl (by decide +kernel) rfl) ?_
  refine rcons (ro_iload (by decide +kernel) rfl) ?_
  refine rcons (ro_iconst (n := 1) (by decide +kernel) rfl rfl) ?_
  refine rcons (ro_iadd (by decide +kernel) rfl) ?_
  refine rcons (ro_isc (fun _ h => h) (by decide +kernel) rfl) ?_
  refine rcons (ro_aload_n (k := 0) rfl (by decide +kernel) rfl) ?_
  refine rcons (ro_iload (by decide +kernel) rfl) ?_
  refine rcons (ro_iconst (n := 2) (by decide +kernel) rfl rfl) ?_
  refine rcons (ro_iadd (by decide +kernel) rfl) ?_
  refine rcons (ro_isc (fun _ h => h) (by decide +kernel) rfl) ?_
  refine rcons (ro_aload_n (k := 3) rfl (by decide +kernel) rfl) ?_
  refine rcons (ro_callSX ok_w_daySwap (by decide +kernel) rfl (fun s args ht => vx_cwSW 4 ht (rgoodS (fun w h => List.mem_cons_of_mem _ h) q_704 q_705 q_12 q_706) rfl rfl rfl hy_w_daySwap ⟨Nat.le_of_ble_eq_true rfl, Nat.le_of_ble_eq_true rfl⟩) rfl) ?_
  refine rcons (ro_istore (by decide +kernel) rfl) ?_
  refine rcons (ro_aload_n (k := 2) rfl (by decide +kernel) rfl) ?_
  refine rcons (ro_aload_n (k := 0) rfl (by decide +kernel) rfl) ?_
  refine rcons (ro_iload (by decide +kernel) rfl) ?_
  refine rcons (ro_iconst (n := 1) (by decide +kernel) rfl rfl) ?_
  refine rcons (ro_iadd (by decide +kernel) rfl) ?_
  refine rcons (ro_isc (fun _ h => h) (by decide +kernel) rfl) ?_
  refine rcons (ro_aload_n (k := 0) rfl (by decide +kernel) rfl) ?_
  refine rcons (ro_iload (by decide +kernel) rfl) ?_
  refine rcons (ro_iconst (n := 2) (by decide +kernel) rfl rfl) ?_
  refine rcons (ro_iadd (by decide +kernel) rfl) ?_
  refine rcons (ro_isc (fun _ h => h) (by decide +kernel) rfl) ?_
  refine rcons (ro_callVH (C := rN1) (T := rF1) (N := 7) rfl ok_d_daySwap (by decide +kernel) trivial (by decide) (fun s args ht => cwV (C := rN1) 2 ht (rgoodV (C := rN1) (fun w h => List.mem_cons_of_mem _ h) q_1086 q_1087 q_1088 q_14 q_1089) rfl rfl rfl hv_d_daySwap ⟨Nat.le_of_ble_eq_true rfl, Nat.le_of_ble_eq_true rfl⟩) rfl) ?_
  refine rcons (ro_istore (by decide +kernel) rfl) ?_
  refine rcons (ro_goto (off := 1581) (by decide +kernel) rfl) ?_
  refine rcons (ro_stop) ?_
  exact rnil
def ps_l40 : List Nat := [1936, 1937, 1938, 1940, 1941, 1942, 1943, 1944, 1946, 1947, 1948, 1949, 1950, 1952, 1953, 1954, 1955, 1958, 1959, 1962, 1963, 1964, 1967, 1969, 1970, 1971, 1973, 1974, 1975, 1976, 1977, 1979, 1980, 1981, 1982, 1983, 1985, 1986, 1987, 1988, 1991, 1992, 1995, 1996, 1999, 2001, 2450]
def tb_l40 (L : Nat) (xs : Nat → Int32) (i : Int32) (g1 : Bool) (v1 : Int32) (g2 : Bool) (v2 : Int32) (g3 : Bool) (v3 : Int32) (g4 : Bool) (v4 : Int32) (z2 z3 z4 : Bool) : List RT := [tq_al 1, tq_al 0, tq_il 4, tq_ic 1, tq_i2 (fun x y => x + y), tq_isc L xs g1 v1, tq_al 0, tq_il 4, tq_ic 2, tq_i2 (fun x y => x + y), tq_isc L xs g2 v2, tq_al 0, tq_il 4, tq_ic 3, tq_i2 (fun x y => x + y), tq_isc L xs g3 v3, tq_sv (fun x => decide (x = 0)) z3 1 0 20, tq_ic 1, tq_go 20, tq_ic 0, tq_al 3, tq_callH m_w_step 5 4 1171 [], tq_is 7 5, tq_al 2, tq_al 0, tq_il 4, tq_ic 1, tq_i2 (fun x y => x + y), tq_isc L xs g1 v1, tq_al 0, tq_il 4, tq_ic 2, tq_i2 (fun x y => x + y), tq_isc L xs g2 v2, tq_al 0, tq_il 4, tq_ic 3, tq_i2 (fun x y => x + y), tq_isc L xs g3 v3, tq_sv (fun x => decide (x = 0)) z3 1 0 43, tq_ic 1, tq_go 43, tq_ic 0, tq_callH (rV 1 m_d_step) 4 0 1171 [], tq_is 7 6, tq_go 46, tq_stop i]
set_option maxHeartbeats 4000000 in
set_option maxRecDepth 20000 in
theorem ok_l40 (L : Nat) (xs : Nat → Int32) (i : Int32) (g1 : Bool) (v1 : Int32) (g2 : Bool) (v2 : Int32) (g3 : Bool) (v3 : Int32) (g4 : Bool) (v4 : Int32) (z2 z3 z4 : Bool) : rAll (rOk (fun G => rSc G = (L, xs)) code "RingdaysLaw" 7 rTL room_1 [] 1171 (.inr (2450, i)) (fun o => ps_l40.getD o 0)) ps_l40 (tb_l40 L xs i g1 v1 g2 v2 g3 v3 g4 v4 z2 z3 z4) := by
  refine rcons (ro_aload_n (k := 1) rfl (by decide +kernel) rfl) ?_
  refine rcons (ro_aload_n (k := 0) rfl (by decide +kernel) rfl) ?_
  refine rcons (ro_iload (by decide +kernel) rfl) ?_
  refine rcons (ro_iconst (n := 1) (by decide +kernel) rfl rfl) ?_
  refine rcons (ro_iadd (by decide +kernel) rfl) ?_
  refine rcons (ro_isc (fun _ h => h) (by decide +kernel) rfl) ?_
  refine rcons (ro_aload_n (k := 0) rfl (by decide +kernel) rfl) ?_
  refine rcons (ro_iload (by decide +kernel) rfl) ?_
  refine rcons (ro_iconst (n := 2) (by decide +kernel) rfl rfl) ?_
  refine rcons (ro_iadd (by decide +kernel) rfl) ?_
  refine rcons (ro_isc (fun _ h => h) (by decide +kernel) rfl) ?_
  refine rcons (ro_aload_n (k := 0) rfl (by decide +kernel) rfl) ?_
  refine rcons (ro_iload (by decide +kernel) rfl) ?_
  refine rcons (ro_iconst (n := 3) (by decide +kernel) rfl rfl) ?_
  refine rcons (ro_iadd (by decide +kernel) rfl) ?_
  refine rcons (ro_isc (fun _ h => h) (by decide +kernel) rfl) ?_
  refine rcons (ro_sv (ro_s1_eq (off := 7) (off2 := 4) (n1 := 1) (n2 := 0) (by decide +kernel) (by decide +kernel) rfl (by decide +kernel) (by decide +kernel) rfl rfl rfl rfl)) ?_
  refine rcons (ro_iconst (n := 1) (by decide +kernel) rfl rfl) ?_
  refine rcons (ro_goto (off := 4) (by decide +kernel) rfl) ?_
  refine rcons (ro_iconst (n := 0) (by decide +kernel) rfl rfl) ?_
  refine rcons (ro_aload_n (k := 3) rfl (by decide +kernel) rfl) ?_
  refine rcons (ro_callSX ok_w_step (by decide +kernel) rfl (fun s args ht => vx_cwSW 5 ht (rgoodS (fun w h => List.mem_cons_of_mem _ h) q_897 q_898 q_12 q_899) rfl rfl rfl hy_w_step ⟨Nat.le_of_ble_eq_true rfl, Nat.le_of_ble_eq_true rfl⟩) rfl) ?_
  refine rcons (ro_istore (by decide +kernel) rfl) ?_
  refine rcons (ro_aload_n (k := 2) rfl (by decide +kernel) rfl) ?_
  refine rcons (ro_aload_n (k := 0) rfl (by decide +kernel) rfl) ?_
  refine rcons (ro_iload (by decide +kernel) rfl) ?_
  refine rcons (ro_iconst (n := 1) (by decide +kernel) rfl rfl) ?_
  refine rcons (ro_iadd (by decide +kernel) rfl) ?_
  refine rcons (ro_isc (fun _ h => h) (by decide +kernel) rfl) ?_
  refine rcons (ro_aload_n (k := 0) rfl (by decide +kernel) rfl) ?_
  refine rcons (ro_iload (by decide +kernel) rfl) ?_
  refine rcons (ro_iconst (n := 2) (by decide +kernel) rfl rfl) ?_
  refine rcons (ro_iadd (by decide +kernel) rfl) ?_
  refine rcons (ro_isc (fun _ h => h) (by decide +kernel) rfl) ?_
  refine rcons (ro_aload_n (k := 0) rfl (by decide +kernel) rfl) ?_
  refine rcons (ro_iload (by decide +kernel) rfl) ?_
  refine rcons (ro_iconst (n := 3) (by decide +kernel) rfl rfl) ?_
  refine rcons (ro_iadd (by decide +kernel) rfl) ?_
  refine rcons (ro_isc (fun _ h => h) (by decide +kernel) rfl) ?_
  refine rcons (ro_sv (ro_s1_eq (off := 7) (off2 := 4) (n1 := 1) (n2 := 0) (by decide +kernel) (by decide +kernel) rfl (by decide +kernel) (by decide +kernel) rfl rfl rfl rfl)) ?_
  refine rcons (ro_iconst (n := 1) (by decide +kernel) rfl rfl) ?_
  refine rcons (ro_goto (off := 4) (by decide +kernel) rfl) ?_
  refine rcons (ro_iconst (n := 0) (by decide +kernel) rfl rfl) ?_
  refine rcons (ro_callVH (C := rN1) (T := rF1) (N := 7) rfl ok_d_step (by decide +kernel) trivial (by decide) (fun s args ht => cwV (C := rN1) 3 ht (rgoodV (C := rN1) (fun w h => List.mem_cons_of_mem _ h) q_1214 q_1215 q_1216 q_14 q_1217) rfl rfl rfl hv_d_step ⟨Nat.le_of_ble_eq_true rfl, Nat.le_of_ble_eq_true rfl⟩) rfl) ?_
  refine rcons (ro_istore (by decide +kernel) rfl) ?_
  refine rcons (ro_goto (off := 449) (by decide +kernel) rfl) ?_
  refine rcons (ro_stop) ?_
  exact rnil
def ps_l41 : List Nat := [2004, 2005, 2006, 2008, 2009, 2010, 2011, 2012, 2014, 2015, 2016, 2017, 2018, 2020, 2021, 2022, 2023, 2026, 2027, 2030, 2031, 2032, 2035, 2037, 2038, 2039, 2041, 2042, 2043, 2044, 2045, 2047, 2048, 2049, 2050, 2051, 2053, 2054, 2055, 2056, 2059, 2060, 2063, 2064, 2067, 2069, 2450]
def tb_l41 (L : Nat) (xs : Nat → Int32) (i : Int32) (g1 : Bool) (v1 : Int32) (g2 : Bool) (v2 : Int32) (g3 : Bool) (v3 : Int32) (g4 : Bool) (v4 : Int32) (z2 z3 z4 : Bool) : List RT := [tq_al 1, tq_al 0, tq_il 4, tq_ic 1, tq_i2 (fun x y => x + y), tq_isc L xs g1 v1, tq_al 0, tq_il 4, tq_ic 2, tq_i2 (fun x y => x + y), tq_isc L xs g2 v2, tq_al 0, tq_il 4, tq_ic 3, tq_i2 (fun x y => x + y), tq_isc L xs g3 v3, tq_sv (fun x => decide (x = 0)) z3 1 0 20, tq_ic 1, tq_go 20, tq_ic 0, tq_al 3, tq_callH m_w_stepBack 5 4 1171 [], tq_is 7 5, tq_al 2, tq_al 0, tq_il 4, tq_ic 1, tq_i2 (fun x y => x + y), tq_isc L xs g1 v1, tq_al 0, tq_il 4, tq_ic 2, tq_i2 (fun x y => x + y), tq_isc L xs g2 v2, tq_al 0, tq_il 4, tq_ic 3, tq_i2 (fun x y => x + y), tq_isc L xs g3 v3, tq_sv (fun x => decide (x = 0)) z3 1 0 43, tq_ic 1, tq_go 43, tq_ic 0, tq_callH (rV 1 m_d_stepBack) 4 0 1171 [], tq_is 7 6, tq_go 46, tq_stop i]
set_option maxHeartbeats 4000000 in
set_option maxRecDepth 20000 in
theorem ok_l41 (L : Nat) (xs : Nat → Int32) (i : Int32) (g1 : Bool) (v1 : Int32) (g2 : Bool) (v2 : Int32) (g3 : Bool) (v3 : Int32) (g4 : Bool) (v4 : Int32) (z2 z3 z4 : Bool) : rAll (rOk (fun G => rSc G = (L, xs)) code "RingdaysLaw" 7 rTL room_1 [] 1171 (.inr (2450, i)) (fun o => ps_l41.getD o 0)) ps_l41 (tb_l41 L xs i g1 v1 g2 v2 g3 v3 g4 v4 z2 z3 z4) := by
  refine rcons (ro_aload_n (k := 1) rfl (by decide +kernel) rfl) ?_
  refine rcons (ro_aload_n (k := 0) rfl (by decide +kernel) rfl) ?_
  refine rcons (ro_iload (by decide +kernel) rfl) ?_
  refine rcons (ro_iconst (n := 1) (by decide +kernel) rfl rfl) ?_
  refine rcons (ro_iadd (by decide +kernel) rfl) ?_
  refine rcons (ro_isc (fun _ h => h) (by decide +kernel) rfl) ?_
  refine rcons (ro_aload_n (k := 0) rfl (by decide +kernel) rfl) ?_
  refine rcons (ro_iload (by decide +kernel) rfl) ?_
  refine rcons (ro_iconst (n := 2) (by decide +kernel) rfl rfl) ?_
  refine rcons (ro_iadd (by decide +kernel) rfl) ?_
  refine rcons (ro_isc (fun _ h => h) (by decide +kernel) rfl) ?_
  refine rcons (ro_aload_n (k := 0) rfl (by decide +kernel) rfl) ?_
  refine rcons (ro_iload (by decide +kernel) rfl) ?_
  refine rcons (ro_iconst (n := 3) (by decide +kernel) rfl rfl) ?_
  refine rcons (ro_iadd (by decide +kernel) rfl) ?_
  refine rcons (ro_isc (fun _ h => h) (by decide +kernel) rfl) ?_
  refine rcons (ro_sv (ro_s1_eq (off := 7) (off2 := 4) (n1 := 1) (n2 := 0) (by decide +kernel) (by decide +kernel) rfl (by decide +kernel) (by decide +kernel) rfl rfl rfl rfl)) ?_
  refine rcons (ro_iconst (n := 1) (by decide +kernel) rfl rfl) ?_
  refine rcons (ro_goto (off := 4) (by decide +kernel) rfl) ?_
  refine rcons (ro_iconst (n := 0) (by decide +kernel) rfl rfl) ?_
  refine rcons (ro_aload_n (k := 3) rfl (by decide +kernel) rfl) ?_
  refine rcons (ro_callSX ok_w_stepBack (by decide +kernel) rfl (fun s args ht => vx_cwSW 5 ht (rgoodS (fun w h => List.mem_cons_of_mem _ h) q_908 q_909 q_12 q_910) rfl rfl rfl hy_w_stepBack ⟨Nat.le_of_ble_eq_true rfl, Nat.le_of_ble_eq_true rfl⟩) rfl) ?_
  refine rcons (ro_istore (by decide +kernel) rfl) ?_
  refine rcons (ro_aload_n (k := 2) rfl (by decide +kernel) rfl) ?_
  refine rcons (ro_aload_n (k := 0) rfl (by decide +kernel) rfl) ?_
  refine rcons (ro_iload (by decide +kernel) rfl) ?_
  refine rcons (ro_iconst (n := 1) (by decide +kernel) rfl rfl) ?_
  refine rcons (ro_iadd (by decide +kernel) rfl) ?_
  refine rcons (ro_isc (fun _ h => h) (by decide +kernel) rfl) ?_
  refine rcons (ro_aload_n (k := 0) rfl (by decide +kernel) rfl) ?_
  refine rcons (ro_iload (by decide +kernel) rfl) ?_
  refine rcons (ro_iconst (n := 2) (by decide +kernel) rfl rfl) ?_
  refine rcons (ro_iadd (by decide +kernel) rfl) ?_
  refine rcons (ro_isc (fun _ h => h) (by decide +kernel) rfl) ?_
  refine rcons (ro_aload_n (k := 0) rfl (by decide +kernel) rfl) ?_
  refine rcons (ro_iload (by decide +kernel) rfl) ?_
  refine rcons (ro_iconst (n := 3) (by decide +kernel) rfl rfl) ?_
  refine rcons (ro_iadd (by decide +kernel) rfl) ?_
  refine rcons (ro_isc (fun _ h => h) (by decide +kernel) rfl) ?_
  refine rcons (ro_sv (ro_s1_eq (off := 7) (off2 := 4) (n1 := 1) (n2 := 0) (by decide +kernel) (by decide +kernel) rfl (by decide +kernel) (by decide +kernel) rfl rfl rfl rfl)) ?_
  refine rcons (ro_iconst (n := 1) (by decide +kernel) rfl rfl) ?_
  refine rcons (ro_goto (off := 4) (by decide +kernel) rfl) ?_
  refine rcons (ro_iconst (n := 0) (by decide +kernel) rfl rfl) ?_
  refine rcons (ro_callVH (C := rN1) (T := rF1) (N := 7) rfl ok_d_stepBack (by decide +kernel) trivial (by decide) (fun s args ht => cwV (C := rN1) 3 ht (rgoodV (C := rN1) (fun w h => List.mem_cons_of_mem _ h) q_1218 q_1219 q_1220 q_14 q_1221) rfl rfl rfl hv_d_stepBack ⟨Nat.le_of_ble_eq_true rfl, Nat.le_of_ble_eq_true rfl⟩) rfl) ?_
  refine rcons (ro_istore (by decide +kernel) rfl) ?_
  refine rcons (ro_goto (off := 381) (by decide +kernel) rfl) ?_
  refine rcons (ro_stop) ?_
  exact rnil
def ps_l43 : List Nat := [2140, 2141, 2142, 2144, 2145, 2146, 2147, 2148, 2150, 2151, 2152, 2153, 2154, 2156, 2157, 2158, 2159, 2162, 2163, 2166, 2167, 2168, 2170, 2171, 2172, 2173, 2174, 2177, 2179, 2180, 2181, 2183, 2184, 2185, 2186, 2187, 2189, 2190, 2191, 2192, 2193, 2195, 2196, 2197, 2198, 2201, 2202, 2205, 2206, 2207, 2209, 2210, 2211, 2212, 2215, 2217, 2450]
def tb_l43 (L : Nat) (xs : Nat → Int32) (i : Int32) (g1 : Bool) (v1 : Int32) (g2 : Bool) (v2 : Int32) (g3 : Bool) (v3 : Int32) (g4 : Bool) (v4 : Int32) (z2 z3 z4 : Bool) : List RT := [tq_al 1, tq_al 0, tq_il 4, tq_ic 1, tq_i2 (fun x y => x + y), tq_isc L xs g1 v1, tq_al 0, tq_il 4, tq_ic 2, tq_i2 (fun x y => x + y), tq_isc L xs g2 v2, tq_al 0, tq_il 4, tq_ic 3, tq_i2 (fun x y => x + y), tq_isc L xs g3 v3, tq_sv (fun x => decide (x = 0)) z3 1 0 20, tq_ic 1, tq_go 20, tq_ic 0, tq_al 0, tq_il 4, tq_ic 4, tq_i2 (fun x y => x + y), tq_isc L xs g4 v4, tq_al 3, tq_callH m_w_date 6 3 1171 [], tq_is 7 5, tq_al 2, tq_al 0, tq_il 4, tq_ic 1, tq_i2 (fun x y => x + y), tq_isc L xs g1 v1, tq_al 0, tq_il 4, tq_ic 2, tq_i2 (fun x y => x + y), tq_isc L xs g2 v2, tq_al 0, tq_il 4, tq_ic 3, tq_i2 (fun x y => x + y), tq_isc L xs g3 v3, tq_sv (fun x => decide (x = 0)) z3 1 0 48, tq_ic 1, tq_go 48, tq_ic 0, tq_al 0, tq_il 4, tq_ic 4, tq_i2 (fun x y => x + y), tq_isc L xs g4 v4, tq_callH (rV 1 m_d_date) 5 0 1171 [], tq_is 7 6, tq_go 56, tq_stop i]
set_option maxHeartbeats 4000000 in
set_option maxRecDepth 20000 in
theorem ok_l43 (L : Nat) (xs : Nat → Int32) (i : Int32) (g1 : Bool) (v1 : Int32) (g2 : Bool) (v2 : Int32) (g3 : Bool) (v3 : Int32) (g4 : Bool) (v4 : Int32) (z2 z3 z4 : Bool) : rAll (rOk (fun G => rSc G = (L, xs)) code "RingdaysLaw" 7 rTL room_1 [] 1171 (.inr (2450, i)) (fun o => ps_l43.getD o 0)) ps_l43 (tb_l43 L xs i g1 v1 g2 v2 g3 v3 g4 v4 z2 z3 z4) := by
  refine rcons (ro_aload_n (k := 1) rfl (by decide +kernel) rfl) ?_
  refine rcons (ro_aload_n (k := 0) rfl (by decide +kernel) rfl) ?_
  refine rcons (ro_iload (by decide +kernel) rfl) ?_
  refine rcons (ro_iconst (n := 1) (by decide +kernel) rfl rfl) ?_
  refine rcons (ro_iadd (by decide +kernel) rfl) ?_
  refine rcons (ro_isc (fun _ h => h) (by decide +kernel) rfl) ?_
  refine rcons (ro_aload_n (k := 0) rfl (by decide +kernel) rfl) ?_
  refine rcons (ro_iload (by decide +kernel) rfl) ?_
  refine rcons (ro_iconst (n := 2) (by decide +kernel) rfl rfl) ?_
  refine rcons (ro_iadd (by decide +kernel) rfl) ?_
  refine rcons (ro_isc (fun _ h => h) (by decide +kernel) rfl) ?_
  refine rcons (ro_aload_n (k := 0) rfl (by decide +kernel) rfl) ?_
  refine rcons (ro_iload (by decide +kernel) rfl) ?_
  refine rcons (ro_iconst (n := 3) (by decide +kernel) rfl rfl) ?_
  refine rcons (ro_iadd (by decide +kernel) rfl) ?_
  refine rcons (ro_isc (fun _ h => h) (by decide +kernel) rfl) ?_
  refine rcons (ro_sv (ro_s1_eq (off := 7) (off2 := 4) (n1 := 1) (n2 := 0) (by decide +kernel) (by decide +kernel) rfl (by decide +kernel) (by decide +kernel) rfl rfl rfl rfl)) ?_
  refine rcons (ro_iconst (n := 1) (by decide +kernel) rfl rfl) ?_
  refine rcons (ro_goto (off := 4) (by decide +kernel) rfl) ?_
  refine rcons (ro_iconst (n := 0) (by decide +kernel) rfl rfl) ?_
  refine rcons (ro_aload_n (k := 0) rfl (by decide +kernel) rfl) ?_
  refine rcons (ro_iload (by decide +kernel) rfl) ?_
  refine rcons (ro_iconst (n := 4) (by decide +kernel) rfl rfl) ?_
  refine rcons (ro_iadd (by decide +kernel) rfl) ?_
  refine rcons (ro_isc (fun _ h => h) (by decide +kernel) rfl) ?_
  refine rcons (ro_aload_n (k := 3) rfl (by decide +kernel) rfl) ?_
  refine rcons (ro_callSX ok_w_date (by decide +kernel) rfl (fun s args ht => vx_cwSW 6 ht (rgoodS (fun w h => List.mem_cons_of_mem _ h) q_925 q_926 q_12 q_927) rfl rfl rfl hy_w_date ⟨Nat.le_of_ble_eq_true rfl, Nat.le_of_ble_eq_true rfl⟩) rfl) ?_
  refine rcons (ro_istore (by decide +kernel) rfl) ?_
  refine rcons (ro_aload_n (k := 2) rfl (by decide +kernel) rfl) ?_
  refine rcons (ro_aload_n (k := 0) rfl (by decide +kernel) rfl) ?_
  refine rcons (ro_iload (by decide +kernel) rfl) ?_
  refine rcons (ro_iconst (n := 1) (by decide +kernel) rfl rfl) ?_
  refine rcons (ro_iadd (by decide +kernel) rfl) ?_
  refine rcons (ro_isc (fun _ h => h) (by decide +kernel) rfl) ?_
  refine rcons (ro_aload_n (k := 0) rfl (by decide +kernel) rfl) ?_
  refine rcons (ro_iload (by decide +kernel) rfl) ?_
  refine rcons (ro_iconst (n := 2) (by decide +kernel) rfl rfl) ?_
  refine rcons (ro_iadd (by decide +kernel) rfl) ?_
  refine rcons (ro_isc (fun _ h => h) (by decide +kernel) rfl) ?_
  refine rcons (ro_aload_n (k := 0) rfl (by decide +kernel) rfl) ?_
  refine rcons (ro_iload (by decide +kernel) rfl) ?_
  refine rcons (ro_iconst (n := 3) (by decide +kernel) rfl rfl) ?_
  refine rcons (ro_iadd (by decide +kernel) rfl) ?_
  refine rcons (ro_isc (fun _ h => h) (by decide +kernel) rfl) ?_
  refine rcons (ro_sv (ro_s1_eq (off := 7) (off2 := 4) (n1 := 1) (n2 := 0) (by decide +kernel) (by decide +kernel) rfl (by decide +kernel) (by decide +kernel) rfl rfl rfl rfl)) ?_
  refine rcons (ro_iconst (n := 1) (by decide +kernel) rfl rfl) ?_
  refine rcons (ro_goto (off := 4) (by decide +kernel) rfl) ?_
  refine rcons (ro_iconst (n := 0) (by decide +kernel) rfl rfl) ?_
  refine rcons (ro_aload_n (k := 0) rfl (by decide +kernel) rfl) ?_
  refine rcons (ro_iload (by decide +kernel) rfl) ?_
  refine rcons (ro_iconst (n := 4) (by decide +kernel) rfl rfl) ?_
  refine rcons (ro_iadd (by decide +kernel) rfl) ?_
  refine rcons (ro_isc (fun _ h => h) (by decide +kernel) rfl) ?_
  refine rcons (ro_callVH (C := rN1) (T := rF1) (N := 7) rfl ok_d_date (by decide +kernel) trivial (by decide) (fun s args ht => cwV (C := rN1) 4 ht (rgoodV (C := rN1) (fun w h => List.mem_cons_of_mem _ h) q_1226 q_1227 q_1228 q_14 q_1229) rfl rfl rfl hv_d_date ⟨Nat.le_of_ble_eq_true rfl, Nat.le_of_ble_eq_true rfl⟩) rfl) ?_
  refine rcons (ro_istore (by decide +kernel) rfl) ?_
  refine rcons (ro_goto (off := 233) (by decide +kernel) rfl) ?_
  refine rcons (ro_stop) ?_
  exact rnil
def ps_l45 : List Nat := [2288, 2289, 2290, 2292, 2293, 2294, 2295, 2296, 2299, 2301, 2302, 2303, 2305, 2306, 2307, 2308, 2311, 2313, 2450]
def tb_l45 (L : Nat) (xs : Nat → Int32) (i : Int32) (g1 : Bool) (v1 : Int32) (g2 : Bool) (v2 : Int32) (g3 : Bool) (v3 : Int32) (g4 : Bool) (v4 : Int32) (z2 z3 z4 : Bool) : List RT := [tq_al 1, tq_al 0, tq_il 4, tq_ic 1, tq_i2 (fun x y => x + y), tq_isc L xs g1 v1, tq_al 3, tq_callH m_w_keep 3 1 1171 [], tq_is 7 5, tq_al 2, tq_al 0, tq_il 4, tq_ic 1, tq_i2 (fun x y => x + y), tq_isc L xs g1 v1, tq_callH (rV 1 m_d_keep) 2 0 1171 [], tq_is 7 6, tq_go 18, tq_stop i]
set_option maxHeartbeats 4000000 in
set_option maxRecDepth 20000 in
theorem ok_l45 (L : Nat) (xs : Nat → Int32) (i : Int32) (g1 : Bool) (v1 : Int32) (g2 : Bool) (v2 : Int32) (g3 : Bool) (v3 : Int32) (g4 : Bool) (v4 : Int32) (z2 z3 z4 : Bool) : rAll (rOk (fun G => rSc G = (L, xs)) code "RingdaysLaw" 7 rTL room_1 [] 1171 (.inr (2450, i)) (fun o => ps_l45.getD o 0)) ps_l45 (tb_l45 L xs i g1 v1 g2 v2 g3 v3 g4 v4 z2 z3 z4) := by
  refine rcons (ro_aload_n (k := 1) rfl (by decide +kernel) rfl) ?_
  refine rcons (ro_aload_n (k := 0) rfl (by decide +kernel) rfl) ?_
  refine rcons (ro_iload (by decide +kernel) rfl) ?_
  refine rcons (ro_iconst (n := 1) (by decide +kernel) rfl rfl) ?_
  refine rcons (ro_iadd (by decide +kernel) rfl) ?_
  refine rcons (ro_isc (fun _ h => h) (by decide +kernel) rfl) ?_
  refine rcons (ro_aload_n (k := 3) rfl (by decide +kernel) rfl) ?_
  refine rcons (ro_callSX ok_w_keep (by decide +kernel) rfl (fun s args ht => vx_cwSW 3 ht (rgoodS (fun w h => List.mem_cons_of_mem _ h) q_936 q_937 q_12 q_938) rfl rfl rfl hy_w_keep ⟨Nat.le_of_ble_eq_true rfl, Nat.le_of_ble_eq_true rfl⟩) rfl) ?_
  refine rcons (ro_istore (by decide +kernel) rfl) ?_
  refine rcons (ro_aload_n (k := 2) rfl (by decide +kernel) rfl) ?_
  refine rcons (ro_aload_n (k := 0) rfl (by decide +kernel) rfl) ?_
  refine rcons (ro_iload (by decide +kernel) rfl) ?_
  refine rcons (ro_iconst (n := 1) (by decide +kernel) rfl rfl) ?_
  refine rcons (ro_iadd (by decide +kernel) rfl) ?_
  refine rcons (ro_isc (fun _ h => h) (by decide +kernel) rfl) ?_
  refine rcons (ro_callVH (C := rN1) (T := rF1) (N := 7) rfl ok_d_keep (by decide +kernel) trivial (by decide) (fun s args ht => cwV (C := rN1) 1 ht (rgoodV (C := rN1) (fun w h => List.mem_cons_of_mem _ h) q_1237 q_1238 q_1239 q_14 q_1240) rfl rfl rfl hv_d_keep ⟨Nat.le_of_ble_eq_true rfl, Nat.le_of_ble_eq_true rfl⟩) rfl) ?_
  refine rcons (ro_istore (by decide +kernel) rfl) ?_
  refine rcons (ro_goto (off := 137) (by decide +kernel) rfl) ?_
  refine rcons (ro_stop) ?_
  exact rnil
def ps_l46 : List Nat := [2316, 2317, 2318, 2320, 2321, 2322, 2323, 2324, 2327, 2329, 2330, 2331, 2333, 2334, 2335, 2336, 2339, 2341, 2450]
def tb_l46 (L : Nat) (xs : Nat → Int32) (i : Int32) (g1 : Bool) (v1 : Int32) (g2 : Bool) (v2 : Int32) (g3 : Bool) (v3 : Int32) (g4 : Bool) (v4 : Int32) (z2 z3 z4 : Bool) : List RT := [tq_al 1, tq_al 0, tq_il 4, tq_ic 1, tq_i2 (fun x y => x + y), tq_isc L xs g1 v1, tq_al 3, tq_callH m_w_back 3 2 1171 [], tq_is 7 5, tq_al 2, tq_al 0, tq_il 4, tq_ic 1, tq_i2 (fun x y => x + y), tq_isc L xs g1 v1, tq_callH (rV 1 m_d_back) 2 0 1171 [], tq_is 7 6, tq_go 18, tq_stop i]
set_option maxHeartbeats 4000000 in
set_option maxRecDepth 20000 in
theorem ok_l46 (L : Nat) (xs : Nat → Int32) (i : Int32) (g1 : Bool) (v1 : Int32) (g2 : Bool) (v2 : Int32) (g3 : Bool) (v3 : Int32) (g4 : Bool) (v4 : Int32) (z2 z3 z4 : Bool) : rAll (rOk (fun G => rSc G = (L, xs)) code "RingdaysLaw" 7 rTL room_1 [] 1171 (.inr (2450, i)) (fun o => ps_l46.getD o 0)) ps_l46 (tb_l46 L xs i g1 v1 g2 v2 g3 v3 g4 v4 z2 z3 z4) := by
  refine rcons (ro_aload_n (k := 1) rfl (by decide +kernel) rfl) ?_
  refine rcons (ro_aload_n (k := 0) rfl (by decide +kernel) rfl) ?_
  refine rcons (ro_iload (by decide +kernel) rfl) ?_
  refine rcons (ro_iconst (n := 1) (by decide +kernel) rfl rfl) ?_
  refine rcons (ro_iadd (by decide +kernel) rfl) ?_
  refine rcons (ro_isc (fun _ h => h) (by decide +kernel) rfl) ?_
  refine rcons (ro_aload_n (k := 3) rfl (by decide +kernel) rfl) ?_
  refine rcons (ro_callSX ok_w_back (by decide +kernel) rfl (fun s args ht => vx_cwSW 3 ht (rgoodS (fun w h => List.mem_cons_of_mem _ h) q_946 q_947 q_12 q_948) rfl rfl rfl hy_w_back ⟨Nat.le_of_ble_eq_true rfl, Nat.le_of_ble_eq_true rfl⟩) rfl) ?_
  refine rcons (ro_istore (by decide +kernel) rfl) ?_
  refine rcons (ro_aload_n (k := 2) rfl (by decide +kernel) rfl) ?_
  refine rcons (ro_aload_n (k := 0) rfl (by decide +kernel) rfl) ?_
  refine rcons (ro_iload (by decide +kernel) rfl) ?_
  refine rcons (ro_iconst (n := 1) (by decide +kernel) rfl rfl) ?_
  refine rcons (ro_iadd (by decide +kernel) rfl) ?_
  refine rcons (ro_isc (fun _ h => h) (by decide +kernel) rfl) ?_
  refine rcons (ro_callVH (C := rN1) (T := rF1) (N := 7) rfl ok_d_back (by decide +kernel) trivial (by decide) (fun s args ht => cwV (C := rN1) 1 ht (rgoodV (C := rN1) (fun w h => List.mem_cons_of_mem _ h) q_1244 q_1245 q_1246 q_14 q_1247) rfl rfl rfl hv_d_back ⟨Nat.le_of_ble_eq_true rfl, Nat.le_of_ble_eq_true rfl⟩) rfl) ?_
  refine rcons (ro_istore (by decide +kernel) rfl) ?_
  refine rcons (ro_goto (off := 109) (by decide +kernel) rfl) ?_
  refine rcons (ro_stop) ?_
  exact rnil
def ps_l51 : List Nat := [2411, 2412, 2415, 2416, 2419, 2422, 2423, 2450]
def tb_l51 (L : Nat) (xs : Nat → Int32) (i : Int32) (g1 : Bool) (v1 : Int32) (g2 : Bool) (v2 : Int32) (g3 : Bool) (v3 : Int32) (g4 : Bool) (v4 : Int32) (z2 z3 z4 : Bool) : List RT := [tq_al 1, tq_callH (rV 0 m_c_knock) 1 0 1171 [], tq_al 2, tq_callH (rV 1 m_d_knock) 1 0 1171 [], tq_if2 (fun x y => decide (x = y)) 7, tq_ic 0, tq_bad, tq_stop i]
set_option maxHeartbeats 4000000 in
set_option maxRecDepth 20000 in
theorem ok_l51 (L : Nat) (xs : Nat → Int32) (i : Int32) (g1 : Bool) (v1 : Int32) (g2 : Bool) (v2 : Int32) (g3 : Bool) (v3 : Int32) (g4 : Bool) (v4 : Int32) (z2 z3 z4 : Bool) : rAll (rOk (fun G => rSc G = (L, xs)) code "RingdaysLaw" 7 rTL room_1 [] 1171 (.inr (2450, i)) (fun o => ps_l51.getD o 0)) ps_l51 (tb_l51 L xs i g1 v1 g2 v2 g3 v3 g4 v4 z2 z3 z4) := by
  refine rcons (ro_aload_n (k := 1) rfl (by decide +kernel) rfl) ?_
  refine rcons (ro_callVH (C := rN0) (T := rF0) (N := 7) rfl ok_c_knock (by decide +kernel) trivial (by decide) (fun s args ht => cwV (C := rN0) 0 ht (rgoodV (C := rN0) (fun w h => List.mem_cons_of_mem _ h) q_434 q_435 q_436 q_13 q_437) rfl rfl rfl hv_c_knock ⟨Nat.le_of_ble_eq_true rfl, Nat.le_of_ble_eq_true rfl⟩) rfl) ?_
  refine rcons (ro_aload_n (k := 2) rfl (by decide +kernel) rfl) ?_
  refine rcons (ro_callVH (C := rN1) (T := rF1) (N := 7) rfl ok_d_knock (by decide +kernel) trivial (by decide) (fun s args ht => cwV (C := rN1) 0 ht (rgoodV (C := rN1) (fun w h => List.mem_cons_of_mem _ h) q_1269 q_1270 q_1271 q_14 q_1272) rfl rfl rfl hv_d_knock ⟨Nat.le_of_ble_eq_true rfl, Nat.le_of_ble_eq_true rfl⟩) rfl) ?_
  refine rcons (ro_icmp_eq (off := 31) (by decide +kernel) rfl rfl) ?_
  refine rcons (ro_iconst (n := 0) (by decide +kernel) rfl rfl) ?_
  refine rcons (ro_bad) ?_
  refine rcons (ro_stop) ?_
  exact rnil
end RKM
