section RKM
def ps_c_init : List Nat := [0, 1, 4, 5, 6, 8, 11, 12, 13, 15, 18, 19, 20, 21, 22, 25, 26, 29, 30, 31, 32, 33, 36, 37, 38, 39, 42, 45, 46, 47, 48, 52, 55, 56, 57, 58, 62, 65, 66, 67, 69, 72]
def tb_c_init : List RT := [tq_al 0, tq_objinit, tq_al 0, tq_ic 4, tq_newA 1 0 40, tq_putf 0 0 2, tq_al 0, tq_ic 4, tq_newA 2 0 40, tq_putf 0 1 2, tq_ic 0, tq_is 2 1, tq_il 1, tq_ic 4, tq_if2 (fun x y => decide (y ≤ x)) 27, tq_al 0, tq_getf 0 0, tq_il 1, tq_ic 1, tq_iast 0, tq_al 0, tq_getf 0 1, tq_il 1, tq_ic 1, tq_iast 0, tq_inc 2 1 1, tq_go 12, tq_al 0, tq_ic 2, tq_ic 4, tq_mna 3 4 40, tq_putf 0 2 2, tq_al 0, tq_ic 2, tq_ic 4, tq_mna 6 4 40, tq_putf 0 3 2, tq_al 0, tq_ic 2, tq_newA 9 1 40, tq_putf 0 4 2, tq_xvret 40]
def m_c_init : RM := rMeth tb_c_init 200 2
abbrev rm_c_init : Room := { frames := 1, cells := 40, slots := 480, locals := 20 }
set_option maxHeartbeats 4000000 in
set_option maxRecDepth 20000 in
theorem ok_c_init : rMetC 1 y_c_init (Cond.code y_c_init prog_1_method_1_code 2 none :: rT) rm_c_init 40 m_c_init := by
  refine rMethC_ok (ps := ps_c_init) (tab := tb_c_init) (by decide +kernel) rfl rfl rfl rfl ?_
  refine rcons (rOkX.of (ro_aload_n (k := 0) rfl (by decide +kernel) rfl) (fun _ _ => rfl)) ?_
  refine rcons (rOkX.of (ro_objinit (List.mem_cons_of_mem _ <| List.mem_cons_of_mem _ q_38) (List.mem_cons_of_mem _ <| List.mem_cons_of_mem _ q_39) (List.mem_cons_of_mem _ <| List.mem_cons_of_mem _ q_40) (by decide) (by decide +kernel) rfl) (fun _ _ => rfl)) ?_
  refine rcons (rOkX.of (ro_aload_n (k := 0) rfl (by decide +kernel) rfl) (fun _ _ => rfl)) ?_
  refine rcons (rOkX.of (ro_iconst (n := 4) (by decide +kernel) rfl rfl) (fun _ _ => rfl)) ?_
  refine rcons (ro_newI (by decide) (by decide) (List.mem_cons_of_mem _ <| List.mem_cons_of_mem _ q_65) (by decide +kernel) rfl) ?_
  refine rcons (ro_putfF (C := rN0) (T := rF0) (N := 7) (k := 0) (Y := rY0) (by decide +kernel) rfl (fun w h => List.mem_cons_of_mem _ (rU0c _ w h)) rY0_ok rD0 (by decide) (List.mem_cons_of_mem _ <| List.mem_cons_of_mem _ q_43) rfl rfl rfl ⟨rfl, _, rfl⟩ rfl) ?_
  refine rcons (rOkX.of (ro_aload_n (k := 0) rfl (by decide +kernel) rfl) (fun _ _ => rfl)) ?_
  refine rcons (rOkX.of (ro_iconst (n := 4) (by decide +kernel) rfl rfl) (fun _ _ => rfl)) ?_
  refine rcons (ro_newI (by decide) (by decide) (List.mem_cons_of_mem _ <| List.mem_cons_of_mem _ q_65) (by decide +kernel) rfl) ?_
  refine rcons (ro_putfF (C := rN0) (T := rF0) (N := 7) (k := 1) (Y := rY0) (by decide +kernel) rfl (fun w h => List.mem_cons_of_mem _ (rU0c _ w h)) rY0_ok rD0 (by decide) (List.mem_cons_of_mem _ <| List.mem_cons_of_mem _ q_44) rfl rfl rfl ⟨rfl, _, rfl⟩ rfl) ?_
  refine rcons (rOkX.of (ro_iconst (n := 0) (by decide +kernel) rfl rfl) (fun _ _ => rfl)) ?_
  refine rcons (rOkX.of (ro_istore_n (k := 1) rfl (by decide +kernel) rfl) (fun _ _ => rfl)) ?_
  refine rcons (rOkX.of (ro_iload_n (k := 1) rfl (by decide +kernel) rfl) (fun _ _ => rfl)) ?_
  refine rcons (rOkX.of (ro_iconst (n := 4) (by decide +kernel) rfl rfl) (fun _ _ => rfl)) ?_
  refine rcons (rOkX.of (ro_icmp_ge (off := 23) (by decide +kernel) rfl rfl) (fun _ _ => rfl)) ?_
  refine rcons (rOkX.of (ro_aload_n (k := 0) rfl (by decide +kernel) rfl) (fun _ _ => rfl)) ?_
  refine rcons (rOkX.of (ro_getf (C := rN0) (T := rF0) (N := 7) (k := 0) (by decide +kernel) rfl (fun w h => List.mem_cons_of_mem _ (rU0c _ w h)) (by decide) (List.mem_cons_of_mem _ <| List.mem_cons_of_mem _ q_43) rfl) (fun _ _ => rfl)) ?_
  refine rcons (rOkX.of (ro_iload_n (k := 1) rfl (by decide +kernel) rfl) (fun _ _ => rfl)) ?_
  refine rcons (rOkX.of (ro_iconst (n := 1) (by decide +kernel) rfl rfl) (fun _ _ => rfl)) ?_
  refine rcons (rOkX.of (ro_iast (by decide +kernel) rfl) (fun _ _ => rfl)) ?_
  refine rcons (rOkX.of (ro_aload_n (k := 0) rfl (by decide +kernel) rfl) (fun _ _ => rfl)) ?_
  refine rcons (rOkX.of (ro_getf (C := rN0) (T := rF0) (N := 7) (k := 1) (by decide +kernel) rfl (fun w h => List.mem_cons_of_mem _ (rU0c _ w h)) (by decide) (List.mem_cons_of_mem _ <| List.mem_cons_of_mem _ q_44) rfl) (fun _ _ => rfl)) ?_
  refine rcons (rOkX.of (ro_iload_n (k := 1) rfl (by decide +kernel) rfl) (fun _ _ => rfl)) ?_
  refine rcons (rOkX.of (ro_iconst (n := 1) (by decide +kernel) rfl rfl) (fun _ _ => rfl)) ?_
  refine rcons (rOkX.of (ro_iast (by decide +kernel) rfl) (fun _ _ => rfl)) ?_
  refine rcons (rOkX.of (ro_iinc (by decide +kernel) rfl) (fun _ _ => rfl)) ?_
  refine rcons (rOkX.of (ro_goto (off := (-22)) (by decide +kernel) rfl) (fun _ _ => rfl)) ?_
  refine rcons (rOkX.of (ro_aload_n (k := 0) rfl (by decide +kernel) rfl) (fun _ _ => rfl)) ?_
  refine rcons (rOkX.of (ro_iconst (n := 2) (by decide +kernel) rfl rfl) (fun _ _ => rfl)) ?_
  refine rcons (rOkX.of (ro_iconst (n := 4) (by decide +kernel) rfl rfl) (fun _ _ => rfl)) ?_
  refine rcons (ro_mna (by decide) (by decide) (by decide) (List.mem_cons_of_mem _ <| List.mem_cons_of_mem _ q_41) List.mem_cons_self (List.mem_cons_of_mem _ <| List.mem_cons_of_mem _ q_65) (by decide +kernel) rfl) ?_
  refine rcons (ro_putfF (C := rN0) (T := rF0) (N := 7) (k := 2) (Y := rY0) (by decide +kernel) rfl (fun w h => List.mem_cons_of_mem _ (rU0c _ w h)) rY0_ok rD0 (by decide) (List.mem_cons_of_mem _ <| List.mem_cons_of_mem _ q_45) rfl rfl rfl ⟨rfl, _, rfl⟩ rfl) ?_
  refine rcons (rOkX.of (ro_aload_n (k := 0) rfl (by decide +kernel) rfl) (fun _ _ => rfl)) ?_
  refine rcons (rOkX.of (ro_iconst (n := 2) (by decide +kernel) rfl rfl) (fun _ _ => rfl)) ?_
  refine rcons (rOkX.of (ro_iconst (n := 4) (by decide +kernel) rfl rfl) (fun _ _ => rfl)) ?_
  refine rcons (ro_mna (by decide) (by decide) (by decide) (List.mem_cons_of_mem _ <| List.mem_cons_of_mem _ q_41) List.mem_cons_self (List.mem_cons_of_mem _ <| List.mem_cons_of_mem _ q_65) (by decide +kernel) rfl) ?_
  refine rcons (ro_putfF (C := rN0) (T := rF0) (N := 7) (k := 3) (Y := rY0) (by decide +kernel) rfl (fun w h => List.mem_cons_of_mem _ (rU0c _ w h)) rY0_ok rD0 (by decide) (List.mem_cons_of_mem _ <| List.mem_cons_of_mem _ q_46) rfl rfl rfl ⟨rfl, _, rfl⟩ rfl) ?_
  refine rcons (rOkX.of (ro_aload_n (k := 0) rfl (by decide +kernel) rfl) (fun _ _ => rfl)) ?_
  refine rcons (rOkX.of (ro_iconst (n := 2) (by decide +kernel) rfl rfl) (fun _ _ => rfl)) ?_
  refine rcons (ro_newZ (by decide) (by decide) (List.mem_cons_of_mem _ <| List.mem_cons_of_mem _ q_66) (by decide +kernel) rfl) ?_
  refine rcons (ro_putfF (C := rN0) (T := rF0) (N := 7) (k := 4) (Y := rY0) (by decide +kernel) rfl (fun w h => List.mem_cons_of_mem _ (rU0c _ w h)) rY0_ok rD0 (by decide) (List.mem_cons_of_mem _ <| List.mem_cons_of_mem _ q_47) rfl rfl rfl ⟨rfl, _, rfl⟩ rfl) ?_
  refine rcons (ro_xvret (by decide +kernel)) ?_
  exact rnil
def ps_d_init : List Nat := [0, 1, 4, 5, 6, 8, 9, 10, 11, 12, 13, 14, 15, 16, 17, 18, 19, 20, 21, 22, 23, 24, 27, 28, 29, 31, 32, 33, 34, 35, 36, 37, 38, 39, 40, 41, 42, 43, 44, 45, 46, 47, 50, 51, 52, 54, 58, 61, 62, 63, 65, 68]
def tb_d_init : List RT := [tq_al 0, tq_objinit, tq_al 0, tq_ic 4, tq_newA 11 0 40, tq_dup, tq_ic 0, tq_ic 1, tq_iast 0, tq_dup, tq_ic 1, tq_ic 1, tq_iast 0, tq_dup, tq_ic 2, tq_ic 1, tq_iast 0, tq_dup, tq_ic 3, tq_ic 1, tq_iast 0, tq_putf 1 1 2, tq_al 0, tq_ic 4, tq_newA 12 0 40, tq_dup, tq_ic 0, tq_ic 1, tq_iast 0, tq_dup, tq_ic 1, tq_ic 1, tq_iast 0, tq_dup, tq_ic 2, tq_ic 1, tq_iast 0, tq_dup, tq_ic 3, tq_ic 1, tq_iast 0, tq_putf 1 2 2, tq_al 0, tq_ic 2, tq_ic 8, tq_mna 13 8 40, tq_putf 1 3 2, tq_al 0, tq_ic 2, tq_newA 16 1 40, tq_putf 1 4 2, tq_xvret 40]
def m_d_init : RM := rMeth tb_d_init 200 1
abbrev rm_d_init : Room := { frames := 1, cells := 40, slots := 480, locals := 20 }
set_option maxHeartbeats 4000000 in
set_option maxRecDepth 20000 in
theorem ok_d_init : rMetC 11 y_d_init (Cond.code y_d_init prog_4_method_1_code 1 none :: rT) rm_d_init 40 m_d_init := by
  refine rMethC_ok (ps := ps_d_init) (tab := tb_d_init) (by decide +kernel) rfl rfl rfl rfl ?_
  refine rcons (rOkX.of (ro_aload_n (k := 0) rfl (by decide +kernel) rfl) (fun _ _ => rfl)) ?_
  refine rcons (rOkX.of (ro_objinit (List.mem_cons_of_mem _ <| List.mem_cons_of_mem _ q_982) (List.mem_cons_of_mem _ <| List.mem_cons_of_mem _ q_39) (List.mem_cons_of_mem _ <| List.mem_cons_of_mem _ q_40) (by decide) (by decide +kernel) rfl) (fun _ _ => rfl)) ?_
  refine rcons (rOkX.of (ro_aload_n (k := 0) rfl (by decide +kernel) rfl) (fun _ _ => rfl)) ?_
  refine rcons (rOkX.of (ro_iconst (n := 4) (by decide +kernel) rfl rfl) (fun _ _ => rfl)) ?_
  refine rcons (ro_newI (by decide) (by decide) (List.mem_cons_of_mem _ <| List.mem_cons_of_mem _ q_65) (by decide +kernel) rfl) ?_
  refine rcons (rOkX.of (ro_dup (by decide +kernel) rfl) (fun _ _ => rfl)) ?_
  refine rcons (rOkX.of (ro_iconst (n := 0) (by decide +kernel) rfl rfl) (fun _ _ => rfl)) ?_
  refine rcons (rOkX.of (ro_iconst (n := 1) (by decide +kernel) rfl rfl) (fun _ _ => rfl)) ?_
  refine rcons (rOkX.of (ro_iast (by decide +kernel) rfl) (fun _ _ => rfl)) ?_
  refine rcons (rOkX.of (ro_dup (by decide +kernel) rfl) (fun _ _ => rfl)) ?_
  refine rcons (rOkX.of (ro_iconst (n := 1) (by decide +kernel) rfl rfl) (fun _ _ => rfl)) ?_
  refine rcons (rOkX.of (ro_iconst (n := 1) (by decide +kernel) rfl rfl) (fun _ _ => rfl)) ?_
  refine rcons (rOkX.of (ro_iast (by decide +kernel) rfl) (fun _ _ => rfl)) ?_
  refine rcons (rOkX.of (ro_dup (by decide +kernel) rfl) (fun _ _ => rfl)) ?_
  refine rcons (rOkX.of (ro_iconst (n := 2) (by decide +kernel) rfl rfl) (fun _ _ => rfl)) ?_
  refine rcons (rOkX.of (ro_iconst (n := 1) (by decide +kernel) rfl rfl) (fun _ _ => rfl)) ?_
  refine rcons (rOkX.of (ro_iast (by decide +kernel) rfl) (fun _ _ => rfl)) ?_
  refine rcons (rOkX.of (ro_dup (by decide +kernel) rfl) (fun _ _ => rfl)) ?_
  refine rcons (rOkX.of (ro_iconst (n := 3) (by decide +kernel) rfl rfl) (fun _ _ => rfl)) ?_
  refine rcons (rOkX.of (ro_iconst (n := 1) (by decide +kernel) rfl rfl) (fun _ _ => rfl)) ?_
  refine rcons (rOkX.of (ro_iast (by decide +kernel) rfl) (fun _ _ => rfl)) ?_
  refine rcons (ro_putfF (C := rN1) (T := rF1) (N := 7) (k := 1) (Y := rY1) (by decide +kernel) rfl (fun w h => List.mem_cons_of_mem _ (rU1c _ w h)) rY1_ok rD1 (by decide) (List.mem_cons_of_mem _ <| List.mem_cons_of_mem _ q_985) rfl rfl rfl ⟨rfl, _, rfl⟩ rfl) ?_
  refine rcons (rOkX.of (ro_aload_n (k := 0) rfl (by decide +kernel) rfl) (fun _ _ => rfl)) ?_
  refine rcons (rOkX.of (ro_iconst (n := 4) (by decide +kernel) rfl rfl) (fun _ _ => rfl)) ?_
  refine rcons (ro_newI (by decide) (by decide) (List.mem_cons_of_mem _ <| List.mem_cons_of_mem _ q_65) (by decide +kernel) rfl) ?_
  refine rcons (rOkX.of (ro_dup (by decide +kernel) rfl) (fun _ _ => rfl)) ?_
  refine rcons (rOkX.of (ro_iconst (n := 0) (by decide +kernel) rfl rfl) (fun _ _ => rfl)) ?_
  refine rcons (rOkX.of (ro_iconst (n := 1) (by decide +kernel) rfl rfl) (fun _ _ => rfl)) ?_
  refine rcons (rOkX.of (ro_iast (by decide +kernel) rfl) (fun _ _ => rfl)) ?_
  refine rcons (rOkX.of (ro_dup (by decide +kernel) rfl) (fun _ _ => rfl)) ?_
  refine rcons (rOkX.of (ro_iconst (n := 1) (by decide +kernel) rfl rfl) (fun _ _ => rfl)) ?_
  refine rcons (rOkX.of (ro_iconst (n := 1) (by decide +kernel) rfl rfl) (fun _ _ => rfl)) ?_
  refine rcons (rOkX.of (ro_iast (by decide +kernel) rfl) (fun _ _ => rfl)) ?_
  refine rcons (rOkX.of (ro_dup (by decide +kernel) rfl) (fun _ _ => rfl)) ?_
  refine rcons (rOkX.of (ro_iconst (n := 2) (by decide +kernel) rfl rfl) (fun _ _ => rfl)) ?_
  refine rcons (rOkX.of (ro_iconst (n := 1) (by decide +kernel) rfl rfl) (fun _ _ => rfl)) ?_
  refine rcons (rOkX.of (ro_iast (by decide +kernel) rfl) (fun _ _ => rfl)) ?_
  refine rcons (rOkX.of (ro_dup (by decide +kernel) rfl) (fun _ _ => rfl)) ?_
  refine rcons (rOkX.of (ro_iconst (n := 3) (by decide +kernel) rfl rfl) (fun _ _ => rfl)) ?_
  refine rcons (rOkX.of (ro_iconst (n := 1) (by decide +kernel) rfl rfl) (fun _ _ => rfl)) ?_
  refine rcons (rOkX.of (ro_iast (by decide +kernel) rfl) (fun _ _ => rfl)) ?_
  refine rcons (ro_putfF (C := rN1) (T := rF1) (N := 7) (k := 2) (Y := rY1) (by decide +kernel) rfl (fun w h => List.mem_cons_of_mem _ (rU1c _ w h)) rY1_ok rD1 (by decide) (List.mem_cons_of_mem _ <| List.mem_cons_of_mem _ q_986) rfl rfl rfl ⟨rfl, _, rfl⟩ rfl) ?_
  refine rcons (rOkX.of (ro_aload_n (k := 0) rfl (by decide +kernel) rfl) (fun _ _ => rfl)) ?_
  refine rcons (rOkX.of (ro_iconst (n := 2) (by decide +kernel) rfl rfl) (fun _ _ => rfl)) ?_
  refine rcons (rOkX.of (ro_bipush (n := 8) (by decide +kernel) rfl rfl) (fun _ _ => rfl)) ?_
  refine rcons (ro_mna (by decide) (by decide) (by decide) (List.mem_cons_of_mem _ <| List.mem_cons_of_mem _ q_983) List.mem_cons_self (List.mem_cons_of_mem _ <| List.mem_cons_of_mem _ q_65) (by decide +kernel) rfl) ?_
  refine rcons (ro_putfF (C := rN1) (T := rF1) (N := 7) (k := 3) (Y := rY1) (by decide +kernel) rfl (fun w h => List.mem_cons_of_mem _ (rU1c _ w h)) rY1_ok rD1 (by decide) (List.mem_cons_of_mem _ <| List.mem_cons_of_mem _ q_987) rfl rfl rfl ⟨rfl, _, rfl⟩ rfl) ?_
  refine rcons (rOkX.of (ro_aload_n (k := 0) rfl (by decide +kernel) rfl) (fun _ _ => rfl)) ?_
  refine rcons (rOkX.of (ro_iconst (n := 2) (by decide +kernel) rfl rfl) (fun _ _ => rfl)) ?_
  refine rcons (ro_newZ (by decide) (by decide) (List.mem_cons_of_mem _ <| List.mem_cons_of_mem _ q_66) (by decide +kernel) rfl) ?_
  refine rcons (ro_putfF (C := rN1) (T := rF1) (N := 7) (k := 4) (Y := rY1) (by decide +kernel) rfl (fun w h => List.mem_cons_of_mem _ (rU1c _ w h)) rY1_ok rD1 (by decide) (List.mem_cons_of_mem _ <| List.mem_cons_of_mem _ q_988) rfl rfl rfl ⟨rfl, _, rfl⟩ rfl) ?_
  refine rcons (ro_xvret (by decide +kernel)) ?_
  exact rnil
def ps_o_init : List Nat := [0, 1, 4]
def tb_o_init : List RT := [tq_al 0, tq_objinit, tq_xvret 0]
def m_o_init : RM := rMeth tb_o_init 200 1
abbrev rm_o_init : Room := { frames := 1, cells := 0, slots := 0, locals := 20 }
set_option maxHeartbeats 4000000 in
set_option maxRecDepth 20000 in
theorem ok_o_init : rMetX 18 y_o_init (Cond.code y_o_init prog_3_method_1_code 1 none :: rT) rm_o_init 0 m_o_init := by
  refine rMethX_ok (ps := ps_o_init) (tab := tb_o_init) (by decide +kernel) rfl rfl rfl rfl ?_
  refine rcons (rOkX.of (ro_aload_n (k := 0) rfl (by decide +kernel) rfl) (fun _ _ => rfl)) ?_
  refine rcons (rOkX.of (ro_objinit (List.mem_cons_of_mem _ q_575) (List.mem_cons_of_mem _ q_39) (List.mem_cons_of_mem _ q_40) (by decide) (by decide +kernel) rfl) (fun _ _ => rfl)) ?_
  refine rcons (ro_xvret (by decide +kernel)) ?_
  exact rnil
theorem rTm {w : Cond} (h : w ∈ rT) : w ∈ lw_tbl := (List.mem_filter.mp h).1
theorem rdg0 : ∀ (ad : Nat → Nat) (j : Nat), j < 7 → defaultValue (rY0 j) = vp_V ([rO none, rO none, rO none, rO none, rO none, rI false 0, rI false 0].map (rv ad)) j
  | _, 0, _ => rfl
  | _, 1, _ => rfl
  | _, 2, _ => rfl
  | _, 3, _ => rfl
  | _, 4, _ => rfl
  | _, 5, _ => rfl
  | _, 6, _ => rfl
  | _, j + 7, h => absurd h (by omega)
theorem rdg1 : ∀ (ad : Nat → Nat) (j : Nat), j < 7 → defaultValue (rY1 j) = vp_V ([rI false 0, rO none, rO none, rO none, rO none, rI false 0, rI false 0].map (rv ad)) j
  | _, 0, _ => rfl
  | _, 1, _ => rfl
  | _, 2, _ => rfl
  | _, 3, _ => rfl
  | _, 4, _ => rfl
  | _, 5, _ => rfl
  | _, 6, _ => rfl
  | _, j + 7, h => absurd h (by omega)
theorem rdg2 : ∀ (ad : Nat → Nat) (j : Nat), j < 2 → defaultValue (rY2 j) = vp_V ([rL false 0, rO none].map (rv ad)) j
  | _, 0, _ => rfl
  | _, 1, _ => rfl
  | _, j + 2, h => absurd h (by omega)
def ps_start : List Nat := [0, 3, 4, 7, 8, 11, 12, 15, 16, 19, 20, 23, 24, 25, 27]
def tb_start : List RT := [tq_new 0 0 [rO none, rO none, rO none, rO none, rO none, rI false 0, rI false 0] 200, tq_dup, tq_callX 1 (rThis m_c_init) 1 40 200, tq_as 7 1, tq_new 10 1 [rI false 0, rO none, rO none, rO none, rO none, rI false 0, rI false 0] 200, tq_dup, tq_callX 11 (rThis m_d_init) 1 40 200, tq_as 7 2, tq_new 17 2 [rL false 0, rO none] 200, tq_dup, tq_callX 18 (rThis m_o_init) 1 0 200, tq_as 7 3, tq_ic 0, tq_isf 7 4, tq_xstop 27]
set_option maxHeartbeats 4000000 in
set_option maxRecDepth 20000 in
theorem ok_start : rAll (rOkX 0 code "RingdaysLaw" 7 lw_tbl room_1 200 (.inr 27) "law" (fun o => ps_start.getD o 0)) ps_start tb_start := by
  refine rcons (ro_new (C := rN0) (T := rF0) (N := 7) (Y := rY0) (by decide) (by decide) (by decide) (by decide +kernel) rfl (fun w h => rTm (rU0 w h)) rY0_ok (rTm q_33) (rTm q_34) (rTm q_13) rdg0 rfl rfl) ?_
  refine rcons (rOkX.of (ro_dup (by decide +kernel) rfl) (fun _ _ => rfl)) ?_
  refine rcons (ro_xcallIC (by decide) ok_c_init (List.mem_of_getElem? (i := 42) (by decide +kernel)) (by decide +kernel) (fun s args ht => cwI 0 ht (rgoodc (fun w h => rTm h) q_37 (rgood (fun w h => rTm h))) rfl rfl rfl (ht _ (rTm q_13)) (ht _ (rTm q_35)) (ht _ (rTm q_36)) rfl hy_c_init ⟨Nat.le_of_ble_eq_true rfl, Nat.le_of_ble_eq_true rfl⟩) rfl) ?_
  refine rcons (rOkX.of (ro_astore_n (k := 1) rfl (by decide +kernel) rfl) (fun _ _ => rfl)) ?_
  refine rcons (ro_new (C := rN1) (T := rF1) (N := 7) (Y := rY1) (by decide) (by decide) (by decide) (by decide +kernel) rfl (fun w h => rTm (rU1 w h)) rY1_ok (rTm q_977) (rTm q_978) (rTm q_14) rdg1 rfl rfl) ?_
  refine rcons (rOkX.of (ro_dup (by decide +kernel) rfl) (fun _ _ => rfl)) ?_
  refine rcons (ro_xcallIC (by decide) ok_d_init (List.mem_of_getElem? (i := 42) (by decide +kernel)) (by decide +kernel) (fun s args ht => cwI 0 ht (rgoodc (fun w h => rTm h) q_981 (rgood (fun w h => rTm h))) rfl rfl rfl (ht _ (rTm q_14)) (ht _ (rTm q_979)) (ht _ (rTm q_980)) rfl hy_d_init ⟨Nat.le_of_ble_eq_true rfl, Nat.le_of_ble_eq_true rfl⟩) rfl) ?_
  refine rcons (rOkX.of (ro_astore_n (k := 2) rfl (by decide +kernel) rfl) (fun _ _ => rfl)) ?_
  refine rcons (ro_new (C := rN2) (T := rF2) (N := 2) (Y := rY2) (by decide) (by decide) (by decide) (by decide +kernel) rfl (fun w h => rTm (rU2 w h)) rY2_ok (rTm q_570) (rTm q_571) (rTm q_15) rdg2 rfl rfl) ?_
  refine rcons (rOkX.of (ro_dup (by decide +kernel) rfl) (fun _ _ => rfl)) ?_
  refine rcons (ro_xcallIN (by decide) ok_o_init (by decide +kernel) (fun s args ht => ⟨va_cnB 0 ht (rgoodc (fun w h => rTm h) q_574 (rgood (fun w h => rTm h))) rfl rfl rfl (va_Nw.of rfl (ht (.methodLinkNest "RingdaysLaw" 184 y_o_init "RingdaysLaw") (List.mem_of_getElem? (i := 572) (by decide +kernel)))) (ht _ (rTm q_15)) hy_o_init ⟨Nat.le_of_ble_eq_true rfl, Nat.le_of_ble_eq_true rfl⟩, rfl, ht _ (rTm q_573)⟩) rfl) ?_
  refine rcons (rOkX.of (ro_astore_n (k := 3) rfl (by decide +kernel) rfl) (fun _ _ => rfl)) ?_
  refine rcons (rOkX.of (ro_iconst (n := 0) (by decide +kernel) rfl rfl) (fun _ _ => rfl)) ?_
  refine rcons (rOkX.of (ro_isf (by decide +kernel) rfl) (fun _ _ => rfl)) ?_
  refine rcons (ro_xstop) ?_
  exact rnil
end RKM
