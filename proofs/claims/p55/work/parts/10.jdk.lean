section RKM
def ps_jm_floorMod : List Nat := [0, 1, 2, 3, 5, 6, 7, 8, 9, 10, 13, 15, 16, 17, 20, 22, 23, 24, 25, 27]
def tb_jm_floorMod : List RT := [tq_ll 0, tq_ll 2, tq_lrem, tq_ls 6 4, tq_ll 0, tq_ll 2, tq_l2 (fun x y => x ^^^ y), tq_lc 0, tq_lcmp, tq_if1 (fun x => decide (0 ≤ x)) 18, tq_ll 4, tq_lc 0, tq_lcmp, tq_if1 (fun x => decide (x = 0)) 18, tq_ll 4, tq_ll 2, tq_l2 (fun x y => x + y), tq_lret 0, tq_ll 4, tq_lret 0]
def m_jm_floorMod : RM := rMeth tb_jm_floorMod 400 6
abbrev rm_jm_floorMod : Room := { frames := 0, cells := 0, slots := 0, locals := 0 }
set_option maxHeartbeats 4000000 in
set_option maxRecDepth 20000 in
theorem ok_jm_floorMod : rMet y_jm_floorMod (Cond.code y_jm_floorMod prog_12_method_52_code 6 (some .long) :: rT) rm_jm_floorMod 0 m_jm_floorMod := by
  refine rMeth_ok (ps := ps_jm_floorMod) (tab := tb_jm_floorMod) (by decide +kernel) rfl rfl rfl rfl ?_
  refine rcons (ro_lload_n (k := 0) rfl (by decide +kernel) rfl) ?_
  refine rcons (ro_lload_n (k := 2) rfl (by decide +kernel) rfl) ?_
  refine rcons (ro_lrem (by decide +kernel) rfl) ?_
  refine rcons (ro_lstore (by decide +kernel) rfl) ?_
  refine rcons (ro_lload_n (k := 0) rfl (by decide +kernel) rfl) ?_
  refine rcons (ro_lload_n (k := 2) rfl (by decide +kernel) rfl) ?_
  refine rcons (ro_lxor (by decide +kernel) rfl) ?_
  refine rcons (ro_lconst (n := 0) (by decide +kernel) rfl rfl) ?_
  refine rcons (ro_lcmp (by decide +kernel) rfl) ?_
  refine rcons (ro_if_ge (off := 15) (by decide +kernel) rfl rfl) ?_
  refine rcons (ro_lload (by decide +kernel) rfl) ?_
  refine rcons (ro_lconst (n := 0) (by decide +kernel) rfl rfl) ?_
  refine rcons (ro_lcmp (by decide +kernel) rfl) ?_
  refine rcons (ro_if_eq (off := 8) (by decide +kernel) rfl rfl) ?_
  refine rcons (ro_lload (by decide +kernel) rfl) ?_
  refine rcons (ro_lload_n (k := 2) rfl (by decide +kernel) rfl) ?_
  refine rcons (ro_ladd (by decide +kernel) rfl) ?_
  refine rcons (ro_lret (by decide +kernel)) ?_
  refine rcons (ro_lload (by decide +kernel) rfl) ?_
  refine rcons (ro_lret (by decide +kernel)) ?_
  exact rnil
end RKM
