section RKM
def ps_l46 : List Nat := [2316, 2317, 2318, 2320, 2321, 2322, 2323, 2324, 2327, 2329, 2330, 2331, 2333, 2334, 2335, 2336, 2339, 2341, 2450]
def tb_l46 (L : Nat) (xs : Nat → Int32) (i : Int32) (g1 : Bool) (v1 : Int32) (g2 : Bool) (v2 : Int32) (g3 : Bool) (v3 : Int32) (g4 : Bool) (v4 : Int32) (z2 z3 z4 : Bool) : List RT := [tq_al 1, tq_al 0, tq_il 4, tq_ic 1, tq_i2 (fun x y => x + y), tq_isc L xs g1 v1, tq_al 3, tq_callH m_w_back 3 2 1171 [], tq_is 7 5, tq_al 2, tq_al 0, tq_il 4, tq_ic 1, tq_i2 (fun x y => x + y), tq_isc L xs g1 v1, tq_callH (rV 1 m_d_back) 2 0 1171 [], tq_is 7 6, tq_go 18, tq_stop i]
set_option maxHeartbeats 4000000 in
set_option maxRecDepth 20000 in
theorem ok_l46 (L : Nat) (xs : Nat → Int32) (i : Int32) (g1 : Bool) (v1 : Int32) (g2 : Bool) (v2 : Int32) (g3 : Bool) (v3 : Int32) (g4 : Bool) (v4 : Int32) (z2 z3 z4 : Bool) : rAll (rOk (fun G => rSc G = (L, xs)) code "RingdaysLaw" 7 rTL room_1 [] 1171 (.inr (2450, i)) (fun o => ps_l46.getD o 0)) ps_l46 (tb_l46 L xs i g1 v1 g2 v2 g3 v3 g4 v4 z2 z3 z4) := by
  refine rcons (ro_aload_n (k := 1) rfl (by decide +kernel) rfl) ?_
  refine rcons (ro_aload_n (k := 0) rfl (by decide +kernel) rfl) ?_
  refine rcons (ro_iload (by decide +kernel) rfl) ?_
  refine rcons (ro_iconst (n := 1) (by decide +kernel) rfl rfl) ?_
  refine rcons (ro_iadd (by decide +kernel) rfl) ?_
  refine rcons (ro_isc (fun _ h => h) (by decide +kernel) rfl) ?_
  refine rcons (ro_aload_n (k := 3) rfl (by decide +kernel) rfl) ?_
  refine rcons (ro_callSX ok_w_back (by decide +kernel) rfl (fun s args ht => vx_cwSW 3 ht (rgoodS (fun w h => List.mem_cons_of_mem _ h) q_946 q_947 q_12 q_948) rfl rfl rfl hy_w_back ⟨Nat.le_of_ble_eq_true rfl, Nat.le_of_ble_eq_true rfl⟩) rfl) ?_
  refine rcons (ro_istore (by decide +kernel) rfl) ?_
  refine rcons (ro_aload_n (k := 2) rfl (by decide +kernel) rfl) ?_
  refine rcons (ro_aload_n (k := 0) rfl (by decide +kernel) rfl) ?_
  refine rcons (ro_iload (by decide +kernel) rfl) ?_
  refine rcons (ro_iconst (n := 1) (by decide +kernel) rfl rfl) ?_
  refine rcons (ro_iadd (by decide +kernel) rfl) ?_
  refine rcons (ro_isc (fun _ h => h) (by decide +kernel) rfl) ?_
  refine rcons (ro_callVH (C := rN1) (T := rF1) (N := 7) rfl ok_d_back (by decide +kernel) trivial (by decide) (fun s args ht => cwV (C := rN1) 1 ht (rgoodV (C := rN1) (fun w h => List.mem_cons_of_mem _ h) q_1244 q_1245 q_1246 q_14 q_1247) rfl rfl rfl hv_d_back ⟨Nat.le_of_ble_eq_true rfl, Nat.le_of_ble_eq_true rfl⟩) rfl) ?_
  refine rcons (ro_istore (by decide +kernel) rfl) ?_
  refine rcons (ro_goto (off := 109) (by decide +kernel) rfl) ?_
  refine rcons (ro_stop) ?_
  exact rnil
end RKM
