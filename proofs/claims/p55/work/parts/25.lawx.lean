section RKM
def dl_l48 : List (Nat × Instr × Nat) := [(2372, .aload_n 1, 1), (2373, .invokevirtual 338, 3), (2376, .pop, 1), (2377, .aload_n 2, 1), (2378, .invokevirtual 342, 3), (2381, .pop, 1), (2382, .goto 69, 3)]
theorem dc_l48 : ∀ (k : Nat) (q : Nat × Instr × Nat), dl_l48[k]? = some q → decode code q.1 = .ok q.2 := dchk_at (a := 2372) (by decide +kernel)
def ps_l48 : List Nat := [2372, 2373, 2376, 2377, 2378, 2381, 2382, 2451]
def tb_l48 (L : Nat) (xs : Nat → Int32) (i : Int32) (g1 : Bool) (v1 : Int32) (g2 : Bool) (v2 : Int32) (g3 : Bool) (v3 : Int32) (g4 : Bool) (v4 : Int32) (z2 z3 z4 : Bool) : List RT := [tq_al 1, tq_callH (rV 0 s_c_days) 1 120 1000 [], tq_pop, tq_al 2, tq_callH (rV 1 s_d_days) 1 120 1000 [], tq_pop, tq_go 7, tq_stop i]
set_option maxHeartbeats 4000000 in
set_option maxRecDepth 20000 in
theorem ok_l48 (L : Nat) (xs : Nat → Int32) (i : Int32) (g1 : Bool) (v1 : Int32) (g2 : Bool) (v2 : Int32) (g3 : Bool) (v3 : Int32) (g4 : Bool) (v4 : Int32) (z2 z3 z4 : Bool) : rAll (rOk (fun G => rSc G = (L, xs)) code "RingdaysLaw" 7 rTL room_1 [] 1000 (.inr (2451, i)) (fun o => ps_l48.getD o 0)) ps_l48 (tb_l48 L xs i g1 v1 g2 v2 g3 v3 g4 v4 z2 z3 z4) := by
  refine rcons (ro_aload_n (k := 1) rfl (dca dc_l48 0 rfl) rfl) ?_
  refine rcons (ro_callVH (C := rN0) (T := rF0) (N := 7) rfl okS_c_days (dca dc_l48 1 rfl) trivial (by decide) (fun s args ht => cwV (C := rN0) 0 ht (rgoodV (C := rN0) (fun w h => List.mem_cons_of_mem _ h) q_67 q_68 q_69 q_13 q_70) rfl rfl rfl hv_c_days ⟨Nat.le_of_ble_eq_true rfl, Nat.le_of_ble_eq_true rfl⟩) rfl) ?_
  refine rcons (ro_pop (dca dc_l48 2 rfl) rfl) ?_
  refine rcons (ro_aload_n (k := 2) rfl (dca dc_l48 3 rfl) rfl) ?_
  refine rcons (ro_callVH (C := rN1) (T := rF1) (N := 7) rfl okS_d_days (dca dc_l48 4 rfl) trivial (by decide) (fun s args ht => cwV (C := rN1) 0 ht (rgoodV (C := rN1) (fun w h => List.mem_cons_of_mem _ h) q_1252 q_1253 q_1254 q_14 q_1255) rfl rfl rfl hv_d_days ⟨Nat.le_of_ble_eq_true rfl, Nat.le_of_ble_eq_true rfl⟩) rfl) ?_
  refine rcons (ro_pop (dca dc_l48 5 rfl) rfl) ?_
  refine rcons (ro_goto (off := 69) (dca dc_l48 6 rfl) rfl) ?_
  refine rcons (ro_stop) ?_
  exact rnil
def dl_l49 : List (Nat × Instr × Nat) := [(2385, .aload_n 1, 1), (2386, .invokevirtual 343, 3), (2389, .pop, 1), (2390, .aload_n 2, 1), (2391, .invokevirtual 346, 3), (2394, .pop, 1), (2395, .goto 56, 3)]
theorem dc_l49 : ∀ (k : Nat) (q : Nat × Instr × Nat), dl_l49[k]? = some q → decode code q.1 = .ok q.2 := dchk_at (a := 2385) (by decide +kernel)
def ps_l49 : List Nat := [2385, 2386, 2389, 2390, 2391, 2394, 2395, 2451]
def tb_l49 (L : Nat) (xs : Nat → Int32) (i : Int32) (g1 : Bool) (v1 : Int32) (g2 : Bool) (v2 : Int32) (g3 : Bool) (v3 : Int32) (g4 : Bool) (v4 : Int32) (z2 z3 z4 : Bool) : List RT := [tq_al 1, tq_callH (rV 0 s_c_months) 1 120 1000 [], tq_pop, tq_al 2, tq_callH (rV 1 s_d_months) 1 120 1000 [], tq_pop, tq_go 7, tq_stop i]
set_option maxHeartbeats 4000000 in
set_option maxRecDepth 20000 in
theorem ok_l49 (L : Nat) (xs : Nat → Int32) (i : Int32) (g1 : Bool) (v1 : Int32) (g2 : Bool) (v2 : Int32) (g3 : Bool) (v3 : Int32) (g4 : Bool) (v4 : Int32) (z2 z3 z4 : Bool) : rAll (rOk (fun G => rSc G = (L, xs)) code "RingdaysLaw" 7 rTL room_1 [] 1000 (.inr (2451, i)) (fun o => ps_l49.getD o 0)) ps_l49 (tb_l49 L xs i g1 v1 g2 v2 g3 v3 g4 v4 z2 z3 z4) := by
  refine rcons (ro_aload_n (k := 1) rfl (dca dc_l49 0 rfl) rfl) ?_
  refine rcons (ro_callVH (C := rN0) (T := rF0) (N := 7) rfl okS_c_months (dca dc_l49 1 rfl) trivial (by decide) (fun s args ht => cwV (C := rN0) 0 ht (rgoodV (C := rN0) (fun w h => List.mem_cons_of_mem _ h) q_411 q_412 q_413 q_13 q_414) rfl rfl rfl hv_c_months ⟨Nat.le_of_ble_eq_true rfl, Nat.le_of_ble_eq_true rfl⟩) rfl) ?_
  refine rcons (ro_pop (dca dc_l49 2 rfl) rfl) ?_
  refine rcons (ro_aload_n (k := 2) rfl (dca dc_l49 3 rfl) rfl) ?_
  refine rcons (ro_callVH (C := rN1) (T := rF1) (N := 7) rfl okS_d_months (dca dc_l49 4 rfl) trivial (by decide) (fun s args ht => cwV (C := rN1) 0 ht (rgoodV (C := rN1) (fun w h => List.mem_cons_of_mem _ h) q_1261 q_1262 q_1263 q_14 q_1264) rfl rfl rfl hv_d_months ⟨Nat.le_of_ble_eq_true rfl, Nat.le_of_ble_eq_true rfl⟩) rfl) ?_
  refine rcons (ro_pop (dca dc_l49 5 rfl) rfl) ?_
  refine rcons (ro_goto (off := 56) (dca dc_l49 6 rfl) rfl) ?_
  refine rcons (ro_stop) ?_
  exact rnil
def dl_l52 : List (Nat × Instr × Nat) := [(2424, .aload_n 1, 1), (2425, .invokevirtual 356, 3), (2428, .pop, 1), (2429, .aload_n 2, 1), (2430, .invokevirtual 360, 3), (2433, .pop, 1), (2434, .goto 17, 3)]
theorem dc_l52 : ∀ (k : Nat) (q : Nat × Instr × Nat), dl_l52[k]? = some q → decode code q.1 = .ok q.2 := dchk_at (a := 2424) (by decide +kernel)
def ps_l52 : List Nat := [2424, 2425, 2428, 2429, 2430, 2433, 2434, 2451]
def tb_l52 (L : Nat) (xs : Nat → Int32) (i : Int32) (g1 : Bool) (v1 : Int32) (g2 : Bool) (v2 : Int32) (g3 : Bool) (v3 : Int32) (g4 : Bool) (v4 : Int32) (z2 z3 z4 : Bool) : List RT := [tq_al 1, tq_callH (rV 0 s_c_isSoundT) 1 16 1000 [], tq_pop, tq_al 2, tq_callH (rV 1 m_d_isSound) 1 0 1000 [], tq_pop, tq_go 7, tq_stop i]
set_option maxHeartbeats 4000000 in
set_option maxRecDepth 20000 in
theorem ok_l52 (L : Nat) (xs : Nat → Int32) (i : Int32) (g1 : Bool) (v1 : Int32) (g2 : Bool) (v2 : Int32) (g3 : Bool) (v3 : Int32) (g4 : Bool) (v4 : Int32) (z2 z3 z4 : Bool) : rAll (rOk (fun G => rSc G = (L, xs)) code "RingdaysLaw" 7 rTL room_1 [] 1000 (.inr (2451, i)) (fun o => ps_l52.getD o 0)) ps_l52 (tb_l52 L xs i g1 v1 g2 v2 g3 v3 g4 v4 z2 z3 z4) := by
  refine rcons (ro_aload_n (k := 1) rfl (dca dc_l52 0 rfl) rfl) ?_
  refine rcons (ro_callVH (C := rN0) (T := rF0) (N := 7) rfl okT_c_isSound (dca dc_l52 1 rfl) trivial (by decide) (fun s args ht => cwV (C := rN0) 0 ht (rgoodV (C := rN0) (fun w h => List.mem_cons_of_mem _ h) q_438 q_439 q_440 q_13 q_441) rfl rfl rfl hv_c_isSound ⟨Nat.le_of_ble_eq_true rfl, Nat.le_of_ble_eq_true rfl⟩) rfl) ?_
  refine rcons (ro_pop (dca dc_l52 2 rfl) rfl) ?_
  refine rcons (ro_aload_n (k := 2) rfl (dca dc_l52 3 rfl) rfl) ?_
  refine rcons (ro_callVH (C := rN1) (T := rF1) (N := 7) rfl ok_d_isSound (dca dc_l52 4 rfl) trivial (by decide) (fun s args ht => cwV (C := rN1) 0 ht (rgoodV (C := rN1) (fun w h => List.mem_cons_of_mem _ h) q_1273 q_1274 q_1275 q_14 q_1276) rfl rfl rfl hv_d_isSound ⟨Nat.le_of_ble_eq_true rfl, Nat.le_of_ble_eq_true rfl⟩) rfl) ?_
  refine rcons (ro_pop (dca dc_l52 5 rfl) rfl) ?_
  refine rcons (ro_goto (off := 17) (dca dc_l52 6 rfl) rfl) ?_
  refine rcons (ro_stop) ?_
  exact rnil
def dl_l53 : List (Nat × Instr × Nat) := [(2437, .aload_n 1, 1), (2438, .invokevirtual 361, 3), (2441, .aload_n 2, 1), (2442, .invokevirtual 365, 3), (2445, .lcmp, 1), (2446, .ifCond .eq 5, 3), (2449, .iconst 0, 1), (2450, .ireturn, 1)]
theorem dc_l53 : ∀ (k : Nat) (q : Nat × Instr × Nat), dl_l53[k]? = some q → decode code q.1 = .ok q.2 := dchk_at (a := 2437) (by decide +kernel)
def ps_l53 : List Nat := [2437, 2438, 2441, 2442, 2445, 2446, 2449, 2450, 2451]
def tb_l53 (L : Nat) (xs : Nat → Int32) (i : Int32) (g1 : Bool) (v1 : Int32) (g2 : Bool) (v2 : Int32) (g3 : Bool) (v3 : Int32) (g4 : Bool) (v4 : Int32) (z2 z3 z4 : Bool) : List RT := [tq_al 1, tq_callH (rV 0 s_c_digestX) 1 120 1000 [], tq_al 2, tq_callH (rV 1 s_d_digestX) 1 0 1000 [], tq_lcmpE, tq_if1 (fun x => decide (x = 0)) 8, tq_ic 0, tq_bad, tq_stop i]
set_option maxHeartbeats 4000000 in
set_option maxRecDepth 20000 in
theorem ok_l53 (L : Nat) (xs : Nat → Int32) (i : Int32) (g1 : Bool) (v1 : Int32) (g2 : Bool) (v2 : Int32) (g3 : Bool) (v3 : Int32) (g4 : Bool) (v4 : Int32) (z2 z3 z4 : Bool) : rAll (rOk (fun G => rSc G = (L, xs)) code "RingdaysLaw" 7 rTL room_1 [] 1000 (.inr (2451, i)) (fun o => ps_l53.getD o 0)) ps_l53 (tb_l53 L xs i g1 v1 g2 v2 g3 v3 g4 v4 z2 z3 z4) := by
  refine rcons (ro_aload_n (k := 1) rfl (dca dc_l53 0 rfl) rfl) ?_
  refine rcons (ro_callVH (C := rN0) (T := rF0) (N := 7) rfl okX_c_digest (dca dc_l53 1 rfl) trivial (by decide) (fun s args ht => cwV (C := rN0) 0 ht (rgoodV (C := rN0) (fun w h => List.mem_cons_of_mem _ h) q_518 q_519 q_520 q_13 q_521) rfl rfl rfl hv_c_digest ⟨Nat.le_of_ble_eq_true rfl, Nat.le_of_ble_eq_true rfl⟩) rfl) ?_
  refine rcons (ro_aload_n (k := 2) rfl (dca dc_l53 2 rfl) rfl) ?_
  refine rcons (ro_callVH (C := rN1) (T := rF1) (N := 7) rfl okX_d_digest (dca dc_l53 3 rfl) trivial (by decide) (fun s args ht => cwV (C := rN1) 0 ht (rgoodV (C := rN1) (fun w h => List.mem_cons_of_mem _ h) q_1277 q_1278 q_1279 q_14 q_1280) rfl rfl rfl hv_d_digest ⟨Nat.le_of_ble_eq_true rfl, Nat.le_of_ble_eq_true rfl⟩) rfl) ?_
  refine rcons (ro_lcmpE (dca dc_l53 4 rfl) rfl) ?_
  refine rcons (ro_if_eq (off := 5) (dca dc_l53 5 rfl) rfl rfl) ?_
  refine rcons (ro_iconst (n := 0) (dca dc_l53 6 rfl) rfl rfl) ?_
  refine rcons (ro_bad) ?_
  refine rcons (ro_stop) ?_
  exact rnil
end RKM
