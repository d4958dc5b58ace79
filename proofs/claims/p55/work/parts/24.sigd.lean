section RKM
def ps_c_digest : List Nat := [0, 3, 4, 5, 6, 9, 12, 13, 14, 15, 18, 21, 22, 23, 24, 25, 26, 29, 30, 31, 34, 35, 36, 37, 40, 41, 42, 45, 46, 49, 52, 53, 54, 55, 56, 59, 60, 62, 64, 65, 68, 69, 70, 71, 73, 76, 79, 80, 81, 82, 83, 85, 88, 91, 92, 93, 94, 95, 97, 98, 101, 104, 105, 108, 109, 112, 113, 116, 119, 122, 125, 126, 127, 128, 129, 132, 133, 134, 135, 138, 141, 142, 145, 146, 149, 150, 153, 156, 157, 158, 161, 164, 165, 168, 169, 172]
def tb_c_digest : List RT := [tq_lc 7793, tq_ls 5 1, tq_ll 1, tq_al 0, tq_getf 0 5, tq_call s_c_mixedX 2 0 120, tq_ls 5 1, tq_ll 1, tq_al 0, tq_getf 0 6, tq_call s_c_mixedX 2 0 120, tq_ls 5 1, tq_ic 0, tq_is 5 3, tq_il 3, tq_ic 4, tq_if2 (fun x y => decide (y ≤ x)) 30, tq_ll 1, tq_al 0, tq_getf 0 0, tq_il 3, tq_iald 0, tq_al 0, tq_getf 0 1, tq_il 3, tq_iald 0, tq_call s_c_mixedCellX 3 0 120, tq_ls 5 1, tq_inc 5 3 1, tq_go 14, tq_ic 0, tq_is 5 3, tq_il 3, tq_ic 4, tq_if2 (fun x y => decide (y ≤ x)) 70, tq_ic 0, tq_is 5 4, tq_il 4, tq_ic 4, tq_if2 (fun x y => decide (y ≤ x)) 68, tq_ll 1, tq_al 0, tq_il 3, tq_il 4, tq_call (rV 0 m_c_dayOrder) 3 2 120, tq_call s_c_mixedX 2 0 120, tq_ls 5 1, tq_ll 1, tq_al 0, tq_il 3, tq_il 4, tq_call (rV 0 m_c_monthOrder) 3 2 120, tq_call s_c_mixedX 2 0 120, tq_ls 5 1, tq_ll 1, tq_al 0, tq_il 3, tq_il 4, tq_ic 0, tq_call (rV 0 m_c_areAlike) 4 2 120, tq_s1 (fun x => decide (x = 0)) 1 0 64, tq_ic 1, tq_go 64, tq_ic 0, tq_call s_c_mixedX 2 0 120, tq_ls 5 1, tq_inc 5 4 1, tq_go 37, tq_inc 5 3 1, tq_go 32, tq_ic 0, tq_is 5 3, tq_il 3, tq_ic 2, tq_if2 (fun x y => decide (y ≤ x)) 87, tq_ll 1, tq_al 0, tq_il 3, tq_call (rV 0 m_c_isKept) 2 1 120, tq_s1 (fun x => decide (x = 0)) 1 0 83, tq_ic 1, tq_go 83, tq_ic 0, tq_call s_c_mixedX 2 0 120, tq_ls 5 1, tq_inc 5 3 1, tq_go 72, tq_ll 1, tq_al 0, tq_call (rV 0 s_c_isSoundT) 1 16 120, tq_s1 (fun x => decide (x = 0)) 1 0 94, tq_ic 1, tq_go 94, tq_ic 0, tq_call s_c_mixedX 2 0 120, tq_lret 120]
def m_c_digest : RM := rMeth tb_c_digest 3000 5
abbrev rm_c_digest : Room := { frames := 10, cells := 120, slots := 1440, locals := 178 }
set_option maxHeartbeats 4000000 in
set_option maxRecDepth 20000 in
theorem ok_c_digest : rMet y_c_digest (Cond.code y_c_digest prog_1_method_55_code 5 (some .long) :: rT) rm_c_digest 120 m_c_digest := by
  refine rMeth_ok (ps := ps_c_digest) (tab := tb_c_digest) (by decide +kernel) rfl rfl rfl rfl ?_
  refine rcons (ro_ldc2 (by decide +kernel) (List.mem_cons_of_mem _ q_522) rfl) ?_
  refine rcons (ro_lstore_n (k := 1) rfl (by decide +kernel) rfl) ?_
  refine rcons (ro_lload_n (k := 1) rfl (by decide +kernel) rfl) ?_
  refine rcons (ro_aload_n (k := 0) rfl (by decide +kernel) rfl) ?_
  refine rcons (ro_getf (C := rN0) (T := rF0) (N := 7) (k := 5) (by decide +kernel) rfl (rU0c _) (by decide) (List.mem_cons_of_mem _ q_48) rfl) ?_
  refine rcons (ro_callS okX_c_mixed (by decide +kernel) rfl (fun s args ht => va_cwS 2 ht (rgoodS (fun w h => List.mem_cons_of_mem _ h) q_523 q_524 q_13 q_525) rfl rfl rfl hy_c_mixed ⟨Nat.le_of_ble_eq_true rfl, Nat.le_of_ble_eq_true rfl⟩) rfl) ?_
  refine rcons (ro_lstore_n (k := 1) rfl (by decide +kernel) rfl) ?_
  refine rcons (ro_lload_n (k := 1) rfl (by decide +kernel) rfl) ?_
  refine rcons (ro_aload_n (k := 0) rfl (by decide +kernel) rfl) ?_
  refine rcons (ro_getf (C := rN0) (T := rF0) (N := 7) (k := 6) (by decide +kernel) rfl (rU0c _) (by decide) (List.mem_cons_of_mem _ q_49) rfl) ?_
  refine rcons (ro_callS okX_c_mixed (by decide +kernel) rfl (fun s args ht => va_cwS 2 ht (rgoodS (fun w h => List.mem_cons_of_mem _ h) q_523 q_524 q_13 q_525) rfl rfl rfl hy_c_mixed ⟨Nat.le_of_ble_eq_true rfl, Nat.le_of_ble_eq_true rfl⟩) rfl) ?_
  refine rcons (ro_lstore_n (k := 1) rfl (by decide +kernel) rfl) ?_
  refine rcons (ro_iconst (n := 0) (by decide +kernel) rfl rfl) ?_
  refine rcons (ro_istore_n (k := 3) rfl (by decide +kernel) rfl) ?_
  refine rcons (ro_iload_n (k := 3) rfl (by decide +kernel) rfl) ?_
  refine rcons (ro_iconst (n := 4) (by decide +kernel) rfl rfl) ?_
  refine rcons (ro_icmp_ge (off := 26) (by decide +kernel) rfl rfl) ?_
  refine rcons (ro_lload_n (k := 1) rfl (by decide +kernel) rfl) ?_
  refine rcons (ro_aload_n (k := 0) rfl (by decide +kernel) rfl) ?_
  refine rcons (ro_getf (C := rN0) (T := rF0) (N := 7) (k := 0) (by decide +kernel) rfl (rU0c _) (by decide) (List.mem_cons_of_mem _ q_43) rfl) ?_
  refine rcons (ro_iload_n (k := 3) rfl (by decide +kernel) rfl) ?_
  refine rcons (ro_iald (by decide +kernel) rfl) ?_
  refine rcons (ro_aload_n (k := 0) rfl (by decide +kernel) rfl) ?_
  refine rcons (ro_getf (C := rN0) (T := rF0) (N := 7) (k := 1) (by decide +kernel) rfl (rU0c _) (by decide) (List.mem_cons_of_mem _ q_44) rfl) ?_
  refine rcons (ro_iload_n (k := 3) rfl (by decide +kernel) rfl) ?_
  refine rcons (ro_iald (by decide +kernel) rfl) ?_
  refine rcons (ro_callS okX_c_mixedCell (by decide +kernel) rfl (fun s args ht => va_cwS 3 ht (rgoodS (fun w h => List.mem_cons_of_mem _ h) q_527 q_528 q_13 q_529) rfl rfl rfl hy_c_mixedCell ⟨Nat.le_of_ble_eq_true rfl, Nat.le_of_ble_eq_true rfl⟩) rfl) ?_
  refine rcons (ro_lstore_n (k := 1) rfl (by decide +kernel) rfl) ?_
  refine rcons (ro_iinc (by decide +kernel) rfl) ?_
  refine rcons (ro_goto (off := (-25)) (by decide +kernel) rfl) ?_
  refine rcons (ro_iconst (n := 0) (by decide +kernel) rfl rfl) ?_
  refine rcons (ro_istore_n (k := 3) rfl (by decide +kernel) rfl) ?_
  refine rcons (ro_iload_n (k := 3) rfl (by decide +kernel) rfl) ?_
  refine rcons (ro_iconst (n := 4) (by decide +kernel) rfl rfl) ?_
  refine rcons (ro_icmp_ge (off := 69) (by decide +kernel) rfl rfl) ?_
  refine rcons (ro_iconst (n := 0) (by decide +kernel) rfl rfl) ?_
  refine rcons (ro_istore (by decide +kernel) rfl) ?_
  refine rcons (ro_iload (by decide +kernel) rfl) ?_
  refine rcons (ro_iconst (n := 4) (by decide +kernel) rfl rfl) ?_
  refine rcons (ro_icmp_ge (off := 54) (by decide +kernel) rfl rfl) ?_
  refine rcons (ro_lload_n (k := 1) rfl (by decide +kernel) rfl) ?_
  refine rcons (ro_aload_n (k := 0) rfl (by decide +kernel) rfl) ?_
  refine rcons (ro_iload_n (k := 3) rfl (by decide +kernel) rfl) ?_
  refine rcons (ro_iload (by decide +kernel) rfl) ?_
  refine rcons (ro_callV (C := rN0) (T := rF0) (N := 7) rfl ok_c_dayOrder (by decide +kernel) rfl (fun s args ht => cwV (C := rN0) 2 ht (rgoodV (C := rN0) (fun w h => List.mem_cons_of_mem _ h) q_549 q_550 q_551 q_13 q_552) rfl rfl rfl hv_c_dayOrder ⟨Nat.le_of_ble_eq_true rfl, Nat.le_of_ble_eq_true rfl⟩) rfl) ?_
  refine rcons (ro_callS okX_c_mixed (by decide +kernel) rfl (fun s args ht => va_cwS 2 ht (rgoodS (fun w h => List.mem_cons_of_mem _ h) q_523 q_524 q_13 q_525) rfl rfl rfl hy_c_mixed ⟨Nat.le_of_ble_eq_true rfl, Nat.le_of_ble_eq_true rfl⟩) rfl) ?_
  refine rcons (ro_lstore_n (k := 1) rfl (by decide +kernel) rfl) ?_
  refine rcons (ro_lload_n (k := 1) rfl (by decide +kernel) rfl) ?_
  refine rcons (ro_aload_n (k := 0) rfl (by decide +kernel) rfl) ?_
  refine rcons (ro_iload_n (k := 3) rfl (by decide +kernel) rfl) ?_
  refine rcons (ro_iload (by decide +kernel) rfl) ?_
  refine rcons (ro_callV (C := rN0) (T := rF0) (N := 7) rfl ok_c_monthOrder (by decide +kernel) rfl (fun s args ht => cwV (C := rN0) 2 ht (rgoodV (C := rN0) (fun w h => List.mem_cons_of_mem _ h) q_556 q_557 q_558 q_13 q_559) rfl rfl rfl hv_c_monthOrder ⟨Nat.le_of_ble_eq_true rfl, Nat.le_of_ble_eq_true rfl⟩) rfl) ?_
  refine rcons (ro_callS okX_c_mixed (by decide +kernel) rfl (fun s args ht => va_cwS 2 ht (rgoodS (fun w h => List.mem_cons_of_mem _ h) q_523 q_524 q_13 q_525) rfl rfl rfl hy_c_mixed ⟨Nat.le_of_ble_eq_true rfl, Nat.le_of_ble_eq_true rfl⟩) rfl) ?_
  refine rcons (ro_lstore_n (k := 1) rfl (by decide +kernel) rfl) ?_
  refine rcons (ro_lload_n (k := 1) rfl (by decide +kernel) rfl) ?_
  refine rcons (ro_aload_n (k := 0) rfl (by decide +kernel) rfl) ?_
  refine rcons (ro_iload_n (k := 3) rfl (by decide +kernel) rfl) ?_
  refine rcons (ro_iload (by decide +kernel) rfl) ?_
  refine rcons (ro_iconst (n := 0) (by decide +kernel) rfl rfl) ?_
  refine rcons (ro_callV (C := rN0) (T := rF0) (N := 7) rfl ok_c_areAlike (by decide +kernel) rfl (fun s args ht => cwV (C := rN0) 3 ht (rgoodV (C := rN0) (fun w h => List.mem_cons_of_mem _ h) q_560 q_561 q_562 q_13 q_563) rfl rfl rfl hv_c_areAlike ⟨Nat.le_of_ble_eq_true rfl, Nat.le_of_ble_eq_true rfl⟩) rfl) ?_
  refine rcons (ro_s1_eq (off := 7) (off2 := 4) (n1 := 1) (n2 := 0) (by decide +kernel) (by decide +kernel) rfl (by decide +kernel) (by decide +kernel) rfl rfl rfl rfl) ?_
  refine rcons (ro_iconst (n := 1) (by decide +kernel) rfl rfl) ?_
  refine rcons (ro_goto (off := 4) (by decide +kernel) rfl) ?_
  refine rcons (ro_iconst (n := 0) (by decide +kernel) rfl rfl) ?_
  refine rcons (ro_callS okX_c_mixed (by decide +kernel) rfl (fun s args ht => va_cwS 2 ht (rgoodS (fun w h => List.mem_cons_of_mem _ h) q_523 q_524 q_13 q_525) rfl rfl rfl hy_c_mixed ⟨Nat.le_of_ble_eq_true rfl, Nat.le_of_ble_eq_true rfl⟩) rfl) ?_
  refine rcons (ro_lstore_n (k := 1) rfl (by decide +kernel) rfl) ?_
  refine rcons (ro_iinc (by decide +kernel) rfl) ?_
  refine rcons (ro_goto (off := (-54)) (by decide +kernel) rfl) ?_
  refine rcons (ro_iinc (by decide +kernel) rfl) ?_
  refine rcons (ro_goto (off := (-68)) (by decide +kernel) rfl) ?_
  refine rcons (ro_iconst (n := 0) (by decide +kernel) rfl rfl) ?_
  refine rcons (ro_istore_n (k := 3) rfl (by decide +kernel) rfl) ?_
  refine rcons (ro_iload_n (k := 3) rfl (by decide +kernel) rfl) ?_
  refine rcons (ro_iconst (n := 2) (by decide +kernel) rfl rfl) ?_
  refine rcons (ro_icmp_ge (off := 27) (by decide +kernel) rfl rfl) ?_
  refine rcons (ro_lload_n (k := 1) rfl (by decide +kernel) rfl) ?_
  refine rcons (ro_aload_n (k := 0) rfl (by decide +kernel) rfl) ?_
  refine rcons (ro_iload_n (k := 3) rfl (by decide +kernel) rfl) ?_
  refine rcons (ro_callV (C := rN0) (T := rF0) (N := 7) rfl ok_c_isKept (by decide +kernel) rfl (fun s args ht => cwV (C := rN0) 1 ht (rgoodV (C := rN0) (fun w h => List.mem_cons_of_mem _ h) q_564 q_565 q_566 q_13 q_567) rfl rfl rfl hv_c_isKept ⟨Nat.le_of_ble_eq_true rfl, Nat.le_of_ble_eq_true rfl⟩) rfl) ?_
  refine rcons (ro_s1_eq (off := 7) (off2 := 4) (n1 := 1) (n2 := 0) (by decide +kernel) (by decide +kernel) rfl (by decide +kernel) (by decide +kernel) rfl rfl rfl rfl) ?_
  refine rcons (ro_iconst (n := 1) (by decide +kernel) rfl rfl) ?_
  refine rcons (ro_goto (off := 4) (by decide +kernel) rfl) ?_
  refine rcons (ro_iconst (n := 0) (by decide +kernel) rfl rfl) ?_
  refine rcons (ro_callS okX_c_mixed (by decide +kernel) rfl (fun s args ht => va_cwS 2 ht (rgoodS (fun w h => List.mem_cons_of_mem _ h) q_523 q_524 q_13 q_525) rfl rfl rfl hy_c_mixed ⟨Nat.le_of_ble_eq_true rfl, Nat.le_of_ble_eq_true rfl⟩) rfl) ?_
  refine rcons (ro_lstore_n (k := 1) rfl (by decide +kernel) rfl) ?_
  refine rcons (ro_iinc (by decide +kernel) rfl) ?_
  refine rcons (ro_goto (off := (-26)) (by decide +kernel) rfl) ?_
  refine rcons (ro_lload_n (k := 1) rfl (by decide +kernel) rfl) ?_
  refine rcons (ro_aload_n (k := 0) rfl (by decide +kernel) rfl) ?_
  refine rcons (ro_callV (C := rN0) (T := rF0) (N := 7) rfl okT_c_isSound (by decide +kernel) rfl (fun s args ht => cwV (C := rN0) 0 ht (rgoodV (C := rN0) (fun w h => List.mem_cons_of_mem _ h) q_569 q_439 q_440 q_13 q_441) rfl rfl rfl hv_c_isSound ⟨Nat.le_of_ble_eq_true rfl, Nat.le_of_ble_eq_true rfl⟩) rfl) ?_
  refine rcons (ro_s1_eq (off := 7) (off2 := 4) (n1 := 1) (n2 := 0) (by decide +kernel) (by decide +kernel) rfl (by decide +kernel) (by decide +kernel) rfl rfl rfl rfl) ?_
  refine rcons (ro_iconst (n := 1) (by decide +kernel) rfl rfl) ?_
  refine rcons (ro_goto (off := 4) (by decide +kernel) rfl) ?_
  refine rcons (ro_iconst (n := 0) (by decide +kernel) rfl rfl) ?_
  refine rcons (ro_callS okX_c_mixed (by decide +kernel) rfl (fun s args ht => va_cwS 2 ht (rgoodS (fun w h => List.mem_cons_of_mem _ h) q_523 q_524 q_13 q_525) rfl rfl rfl hy_c_mixed ⟨Nat.le_of_ble_eq_true rfl, Nat.le_of_ble_eq_true rfl⟩) rfl) ?_
  refine rcons (ro_lret (by decide +kernel)) ?_
  exact rnil
noncomputable def digC (P : PW) : Int64 := digG kaC kbC alC qC (P.1 0) (P.1 1) (P.1 6) (P.2.1 0).2 (P.2.1 1).2
noncomputable def digM (P : PW) : Int64 := digG kaM kbM alM qM (P.1 7) (P.1 8) (P.1 11) (P.2.1 2).2 (P.2.1 3).2
section
seal dD dM dR dR3 dO dB opF opB restF lenF firstF ordF
set_option maxHeartbeats 40000000 in
set_option maxRecDepth 20000 in
theorem digC_run {P : PW} (hp : dom4 P 0 1) (hq0 : P.1 6 0 = 0 ∨ P.1 6 0 = 1) (hq1 : P.1 6 1 = 0 ∨ P.1 6 1 = 1) : m_c_digest [rR 0] (CWP P) (fun z σ' => z = .inl (some (rL false (digC P))) ∧ σ' = CWP P) := by
  obtain ⟨⟨d0, d1, d2, d3⟩, m0, m1, m2, m3⟩ := id hp
  have psound : pThis [rR 0] (CWP P) := ⟨rfl, P, rfl, hp⟩
  have hk0 := b01d hq0
  have hk1 := b01d hq1
  repeat' (first | with_reducible (first | assumption | exact rfl) | (refine rand_id ?_; first | with_reducible (first | refine rbr_no (by assumption) ?_ | refine rbr_yes (by assumption) ?_ | refine rbr_yes (s01 _) ?_) | refine rbr_yes hk0 ?_ | refine rbr_yes hk1 ?_ | with_reducible refine And.intro ?_ ?_) | exact ⟨P, rfl, hp⟩ | with_reducible (first | exact dR_7 | exact dR_12 | exact dB_0 | exact dB_1 | exact dR3_3 | exact dR3_7 | exact n70 | refine and_mk ?_ ?_ | refine vp_D ?_ | refine vp_M ?_) | exact rfl | exact dB_0 | exact dB_1 | exact dR_7 | exact dR_12 | assumption | refine and_mk ?_ ?_ | refine vp_D ?_ | refine vp_M ?_ | exact dR3_3 | exact dR3_7 | with_reducible refine dM_D ?_)
end
def s_c_digestX : RM := fun as σ Q => as = [rR 0] ∧ ∃ P : PW, σ = CWP P ∧ dom4 P 0 1 ∧ ((P.1 6 0 = 0 ∨ P.1 6 0 = 1) ∧ (P.1 6 1 = 0 ∨ P.1 6 1 = 1)) ∧ Q (.inl (some (rL false (digC P)))) σ
set_option maxHeartbeats 40000000 in
set_option maxRecDepth 20000 in
theorem okX_c_digest : rMet y_c_digest (Cond.code y_c_digest prog_1_method_55_code 5 (some .long) :: rT) rm_c_digest 120 s_c_digestX := by
  refine rMet_val ok_c_digest (fun as σ Q h => ?_)
  obtain ⟨rfl, P, rfl, hp, ⟨hq0, hq1⟩, h⟩ := h
  exact ⟨[rR 0], some (rL false (digC P)), some (rL false (digC P)), fun _ => rfl, digC_run hp hq0 hq1, fun _ => rfl, h⟩
def ps_d_digest : List Nat := [0, 1, 2, 5, 8, 9, 12, 13, 16, 17, 20, 21, 24, 25, 26, 27, 28, 29, 32, 33, 34, 37, 38, 39, 40, 43, 44, 47, 48, 49, 50, 53, 56, 57, 60, 61, 62, 63, 64, 65, 68, 71, 72, 75, 76, 77, 78, 79, 80, 83, 84, 85, 86, 89, 90, 91, 92, 95, 96, 99, 100, 103, 104, 105, 106, 109, 110, 113, 114, 115, 116, 119, 120, 121, 122, 125, 126, 129, 130, 133, 134, 135, 136, 139, 140, 143, 144, 147, 148, 149, 152, 153, 156, 157, 160, 163, 164, 165, 166, 167, 170, 171, 173, 175, 176, 179, 180, 181, 184, 185, 186, 187, 190, 192, 193, 196, 197, 200, 201, 204, 205, 206, 207, 210, 212, 213, 216, 217, 220, 221, 222, 223, 226, 227, 228, 229, 232, 234, 235, 236, 239, 242, 243, 246, 247, 250, 251, 254, 257, 260, 263, 264, 265, 266, 267, 270, 271, 272, 275, 276, 277, 280, 281, 284, 285, 288, 289, 292, 295, 296, 297, 300]
def tb_d_digest : List RT := [tq_al 0, tq_ic 0, tq_putf 1 0 0, tq_lc 7793, tq_al 0, tq_getf 1 5, tq_i2l, tq_call s_d_addX 2 0 0, tq_al 0, tq_getf 1 6, tq_i2l, tq_call s_d_addX 2 0 0, tq_ls 5 1, tq_ic 0, tq_is 5 3, tq_il 3, tq_ic 4, tq_if2 (fun x y => decide (y ≤ x)) 95, tq_ll 1, tq_al 0, tq_getf 1 1, tq_il 3, tq_iald 0, tq_i2l, tq_call s_d_addX 2 0 0, tq_al 0, tq_getf 1 2, tq_il 3, tq_iald 0, tq_i2l, tq_call s_d_addX 2 0 0, tq_rc 50, tq_al 0, tq_getf 1 1, tq_il 3, tq_iald 0, tq_ic 1, tq_i2 (fun x y => x - y), tq_aldS 50 7 126, tq_call s_d_addSX 2 0 0, tq_rc 51, tq_al 0, tq_getf 1 2, tq_il 3, tq_iald 0, tq_ic 1, tq_i2 (fun x y => x - y), tq_aldS 51 12 133, tq_call s_d_addSX 2 0 0, tq_ls 5 1, tq_ll 1, tq_al 0, tq_getf 1 2, tq_il 3, tq_iald 0, tq_ic 0, tq_call s_d_lengthOf 2 0 0, tq_i2l, tq_call s_d_addX 2 0 0, tq_al 0, tq_getf 1 2, tq_il 3, tq_iald 0, tq_ic 1, tq_call s_d_lengthOf 2 0 0, tq_i2l, tq_call s_d_addX 2 0 0, tq_ls 5 1, tq_ll 1, tq_al 0, tq_getf 1 2, tq_il 3, tq_iald 0, tq_ic 0, tq_call s_d_firstOf 2 0 0, tq_i2l, tq_call s_d_addX 2 0 0, tq_al 0, tq_getf 1 2, tq_il 3, tq_iald 0, tq_ic 1, tq_call s_d_firstOf 2 0 0, tq_i2l, tq_call s_d_addX 2 0 0, tq_al 0, tq_getf 1 2, tq_il 3, tq_iald 0, tq_call s_d_quarterOf 1 0 0, tq_i2l, tq_call s_d_addX 2 0 0, tq_ls 5 1, tq_inc 5 3 1, tq_go 15, tq_ic 0, tq_is 5 3, tq_il 3, tq_ic 4, tq_if2 (fun x y => decide (y ≤ x)) 150, tq_ic 0, tq_is 5 4, tq_il 4, tq_ic 4, tq_if2 (fun x y => decide (y ≤ x)) 148, tq_ll 1, tq_al 0, tq_getf 1 1, tq_il 3, tq_iald 0, tq_al 0, tq_getf 1 1, tq_il 4, tq_iald 0, tq_call s_d_order 2 0 0, tq_i2l, tq_call s_d_addX 2 0 0, tq_al 0, tq_getf 1 2, tq_il 3, tq_iald 0, tq_al 0, tq_getf 1 2, tq_il 4, tq_iald 0, tq_call s_d_order 2 0 0, tq_i2l, tq_call s_d_addX 2 0 0, tq_ls 5 1, tq_ll 1, tq_al 0, tq_getf 1 2, tq_il 3, tq_iald 0, tq_al 0, tq_getf 1 2, tq_il 4, tq_iald 0, tq_ic 0, tq_call m_d_areOfOneDay 3 0 0, tq_s1L (fun x => decide (x = 0)) 1 0 144, tq_lc 1, tq_go 144, tq_lc 0, tq_call s_d_addX 2 0 0, tq_ls 5 1, tq_inc 5 4 1, tq_go 102, tq_inc 5 3 1, tq_go 97, tq_ic 0, tq_is 5 3, tq_il 3, tq_ic 2, tq_if2 (fun x y => decide (y ≤ x)) 168, tq_ll 1, tq_al 0, tq_getf 1 4, tq_il 3, tq_iald 1, tq_s1L (fun x => decide (x = 0)) 1 0 164, tq_lc 1, tq_go 164, tq_lc 0, tq_call s_d_addX 2 0 0, tq_ls 5 1, tq_inc 5 3 1, tq_go 152, tq_ll 1, tq_lc 1, tq_call s_d_addX 2 0 0, tq_lret 0]
def m_d_digest : RM := rMeth tb_d_digest 3000 5
abbrev rm_d_digest : Room := { frames := 5, cells := 0, slots := 0, locals := 110 }
set_option maxHeartbeats 4000000 in
set_option maxRecDepth 20000 in
theorem ok_d_digest : rMet y_d_digest (Cond.code y_d_digest prog_4_method_72_code 5 (some .long) :: rT) rm_d_digest 0 m_d_digest := by
  refine rMeth_ok (ps := ps_d_digest) (tab := tb_d_digest) (by decide +kernel) rfl rfl rfl rfl ?_
  refine rcons (ro_aload_n (k := 0) rfl (by decide +kernel) rfl) ?_
  refine rcons (ro_iconst (n := 0) (by decide +kernel) rfl rfl) ?_
  refine rcons (ro_putf (C := rN1) (T := rF1) (N := 7) (k := 0) (Y := rY1) (by decide +kernel) rfl (rU1c _) rY1_ok rD1 (by decide) (List.mem_cons_of_mem _ q_984) rfl (Or.inl ⟨rfl, rfl⟩) rfl) ?_
  refine rcons (ro_ldc2 (by decide +kernel) (List.mem_cons_of_mem _ q_1281) rfl) ?_
  refine rcons (ro_aload_n (k := 0) rfl (by decide +kernel) rfl) ?_
  refine rcons (ro_getf (C := rN1) (T := rF1) (N := 7) (k := 5) (by decide +kernel) rfl (rU1c _) (by decide) (List.mem_cons_of_mem _ q_989) rfl) ?_
  refine rcons (ro_i2l (by decide +kernel) rfl) ?_
  refine rcons (ro_callS okX_d_add (by decide +kernel) rfl (fun s args ht => va_cwS 2 ht (rgoodS (fun w h => List.mem_cons_of_mem _ h) q_1282 q_1283 q_14 q_1284) rfl rfl rfl hy_d_add__JJ_J ⟨Nat.le_of_ble_eq_true rfl, Nat.le_of_ble_eq_true rfl⟩) rfl) ?_
  refine rcons (ro_aload_n (k := 0) rfl (by decide +kernel) rfl) ?_
  refine rcons (ro_getf (C := rN1) (T := rF1) (N := 7) (k := 6) (by decide +kernel) rfl (rU1c _) (by decide) (List.mem_cons_of_mem _ q_990) rfl) ?_
  refine rcons (ro_i2l (by decide +kernel) rfl) ?_
  refine rcons (ro_callS okX_d_add (by decide +kernel) rfl (fun s args ht => va_cwS 2 ht (rgoodS (fun w h => List.mem_cons_of_mem _ h) q_1282 q_1283 q_14 q_1284) rfl rfl rfl hy_d_add__JJ_J ⟨Nat.le_of_ble_eq_true rfl, Nat.le_of_ble_eq_true rfl⟩) rfl) ?_
  refine rcons (ro_lstore_n (k := 1) rfl (by decide +kernel) rfl) ?_
  refine rcons (ro_iconst (n := 0) (by decide +kernel) rfl rfl) ?_
  refine rcons (ro_istore_n (k := 3) rfl (by decide +kernel) rfl) ?_
  refine rcons (ro_iload_n (k := 3) rfl (by decide +kernel) rfl) ?_
  refine rcons (ro_iconst (n := 4) (by decide +kernel) rfl rfl) ?_
  refine rcons (ro_icmp_ge (off := 134) (by decide +kernel) rfl rfl) ?_
  refine rcons (ro_lload_n (k := 1) rfl (by decide +kernel) rfl) ?_
  refine rcons (ro_aload_n (k := 0) rfl (by decide +kernel) rfl) ?_
  refine rcons (ro_getf (C := rN1) (T := rF1) (N := 7) (k := 1) (by decide +kernel) rfl (rU1c _) (by decide) (List.mem_cons_of_mem _ q_985) rfl) ?_
  refine rcons (ro_iload_n (k := 3) rfl (by decide +kernel) rfl) ?_
  refine rcons (ro_iald (by decide +kernel) rfl) ?_
  refine rcons (ro_i2l (by decide +kernel) rfl) ?_
  refine rcons (ro_callS okX_d_add (by decide +kernel) rfl (fun s args ht => va_cwS 2 ht (rgoodS (fun w h => List.mem_cons_of_mem _ h) q_1282 q_1283 q_14 q_1284) rfl rfl rfl hy_d_add__JJ_J ⟨Nat.le_of_ble_eq_true rfl, Nat.le_of_ble_eq_true rfl⟩) rfl) ?_
  refine rcons (ro_aload_n (k := 0) rfl (by decide +kernel) rfl) ?_
  refine rcons (ro_getf (C := rN1) (T := rF1) (N := 7) (k := 2) (by decide +kernel) rfl (rU1c _) (by decide) (List.mem_cons_of_mem _ q_986) rfl) ?_
  refine rcons (ro_iload_n (k := 3) rfl (by decide +kernel) rfl) ?_
  refine rcons (ro_iald (by decide +kernel) rfl) ?_
  refine rcons (ro_i2l (by decide +kernel) rfl) ?_
  refine rcons (ro_callS okX_d_add (by decide +kernel) rfl (fun s args ht => va_cwS 2 ht (rgoodS (fun w h => List.mem_cons_of_mem _ h) q_1282 q_1283 q_14 q_1284) rfl rfl rfl hy_d_add__JJ_J ⟨Nat.le_of_ble_eq_true rfl, Nat.le_of_ble_eq_true rfl⟩) rfl) ?_
  refine rcons (ro_gets (C := "RingdaysModel") (n := "DAYS") (d := "[Ljava/lang/String;") rh3 (List.mem_cons_of_mem _ q_1034) (by decide +kernel) rfl) ?_
  refine rcons (ro_aload_n (k := 0) rfl (by decide +kernel) rfl) ?_
  refine rcons (ro_getf (C := rN1) (T := rF1) (N := 7) (k := 1) (by decide +kernel) rfl (rU1c _) (by decide) (List.mem_cons_of_mem _ q_985) rfl) ?_
  refine rcons (ro_iload_n (k := 3) rfl (by decide +kernel) rfl) ?_
  refine rcons (ro_iald (by decide +kernel) rfl) ?_
  refine rcons (ro_iconst (n := 1) (by decide +kernel) rfl rfl) ?_
  refine rcons (ro_isub (by decide +kernel) rfl) ?_
  refine rcons (ro_aldS rh4 (by decide +kernel) rfl) ?_
  refine rcons (ro_callS okX_d_addS (by decide +kernel) rfl (fun s args ht => va_cwS 2 ht (rgoodS (fun w h => List.mem_cons_of_mem _ h) q_1286 q_1287 q_14 q_1288) rfl rfl rfl hy_d_add__JString__J ⟨Nat.le_of_ble_eq_true rfl, Nat.le_of_ble_eq_true rfl⟩) rfl) ?_
  refine rcons (ro_gets (C := "RingdaysModel") (n := "MONTHS") (d := "[Ljava/lang/String;") rh5 (List.mem_cons_of_mem _ q_1121) (by decide +kernel) rfl) ?_
  refine rcons (ro_aload_n (k := 0) rfl (by decide +kernel) rfl) ?_
  refine rcons (ro_getf (C := rN1) (T := rF1) (N := 7) (k := 2) (by decide +kernel) rfl (rU1c _) (by decide) (List.mem_cons_of_mem _ q_986) rfl) ?_
  refine rcons (ro_iload_n (k := 3) rfl (by decide +kernel) rfl) ?_
  refine rcons (ro_iald (by decide +kernel) rfl) ?_
  refine rcons (ro_iconst (n := 1) (by decide +kernel) rfl rfl) ?_
  refine rcons (ro_isub (by decide +kernel) rfl) ?_
  refine rcons (ro_aldS rh6 (by decide +kernel) rfl) ?_
  refine rcons (ro_callS okX_d_addS (by decide +kernel) rfl (fun s args ht => va_cwS 2 ht (rgoodS (fun w h => List.mem_cons_of_mem _ h) q_1286 q_1287 q_14 q_1288) rfl rfl rfl hy_d_add__JString__J ⟨Nat.le_of_ble_eq_true rfl, Nat.le_of_ble_eq_true rfl⟩) rfl) ?_
  refine rcons (ro_lstore_n (k := 1) rfl (by decide +kernel) rfl) ?_
  refine rcons (ro_lload_n (k := 1) rfl (by decide +kernel) rfl) ?_
  refine rcons (ro_aload_n (k := 0) rfl (by decide +kernel) rfl) ?_
  refine rcons (ro_getf (C := rN1) (T := rF1) (N := 7) (k := 2) (by decide +kernel) rfl (rU1c _) (by decide) (List.mem_cons_of_mem _ q_986) rfl) ?_
  refine rcons (ro_iload_n (k := 3) rfl (by decide +kernel) rfl) ?_
  refine rcons (ro_iald (by decide +kernel) rfl) ?_
  refine rcons (ro_iconst (n := 0) (by decide +kernel) rfl rfl) ?_
  refine rcons (ro_callS okS_d_lengthOf (by decide +kernel) rfl (fun s args ht => va_cwS 2 ht (rgoodS (fun w h => List.mem_cons_of_mem _ h) q_1183 q_1184 q_14 q_1185) rfl rfl rfl hy_d_lengthOf ⟨Nat.le_of_ble_eq_true rfl, Nat.le_of_ble_eq_true rfl⟩) rfl) ?_
  refine rcons (ro_i2l (by decide +kernel) rfl) ?_
  refine rcons (ro_callS okX_d_add (by decide +kernel) rfl (fun s args ht => va_cwS 2 ht (rgoodS (fun w h => List.mem_cons_of_mem _ h) q_1282 q_1283 q_14 q_1284) rfl rfl rfl hy_d_add__JJ_J ⟨Nat.le_of_ble_eq_true rfl, Nat.le_of_ble_eq_true rfl⟩) rfl) ?_
  refine rcons (ro_aload_n (k := 0) rfl (by decide +kernel) rfl) ?_
  refine rcons (ro_getf (C := rN1) (T := rF1) (N := 7) (k := 2) (by decide +kernel) rfl (rU1c _) (by decide) (List.mem_cons_of_mem _ q_986) rfl) ?_
  refine rcons (ro_iload_n (k := 3) rfl (by decide +kernel) rfl) ?_
  refine rcons (ro_iald (by decide +kernel) rfl) ?_
  refine rcons (ro_iconst (n := 1) (by decide +kernel) rfl rfl) ?_
  refine rcons (ro_callS okS_d_lengthOf (by decide +kernel) rfl (fun s args ht => va_cwS 2 ht (rgoodS (fun w h => List.mem_cons_of_mem _ h) q_1183 q_1184 q_14 q_1185) rfl rfl rfl hy_d_lengthOf ⟨Nat.le_of_ble_eq_true rfl, Nat.le_of_ble_eq_true rfl⟩) rfl) ?_
  refine rcons (ro_i2l (by decide +kernel) rfl) ?_
  refine rcons (ro_callS okX_d_add (by decide +kernel) rfl (fun s args ht => va_cwS 2 ht (rgoodS (fun w h => List.mem_cons_of_mem _ h) q_1282 q_1283 q_14 q_1284) rfl rfl rfl hy_d_add__JJ_J ⟨Nat.le_of_ble_eq_true rfl, Nat.le_of_ble_eq_true rfl⟩) rfl) ?_
  refine rcons (ro_lstore_n (k := 1) rfl (by decide +kernel) rfl) ?_
  refine rcons (ro_lload_n (k := 1) rfl (by decide +kernel) rfl) ?_
  refine rcons (ro_aload_n (k := 0) rfl (by decide +kernel) rfl) ?_
  refine rcons (ro_getf (C := rN1) (T := rF1) (N := 7) (k := 2) (by decide +kernel) rfl (rU1c _) (by decide) (List.mem_cons_of_mem _ q_986) rfl) ?_
  refine rcons (ro_iload_n (k := 3) rfl (by decide +kernel) rfl) ?_
  refine rcons (ro_iald (by decide +kernel) rfl) ?_
  refine rcons (ro_iconst (n := 0) (by decide +kernel) rfl rfl) ?_
  refine rcons (ro_callS okS_d_firstOf (by decide +kernel) rfl (fun s args ht => va_cwS 2 ht (rgoodS (fun w h => List.mem_cons_of_mem _ h) q_1200 q_1201 q_14 q_1202) rfl rfl rfl hy_d_firstOf ⟨Nat.le_of_ble_eq_true rfl, Nat.le_of_ble_eq_true rfl⟩) rfl) ?_
  refine rcons (ro_i2l (by decide +kernel) rfl) ?_
  refine rcons (ro_callS okX_d_add (by decide +kernel) rfl (fun s args ht => va_cwS 2 ht (rgoodS (fun w h => List.mem_cons_of_mem _ h) q_1282 q_1283 q_14 q_1284) rfl rfl rfl hy_d_add__JJ_J ⟨Nat.le_of_ble_eq_true rfl, Nat.le_of_ble_eq_true rfl⟩) rfl) ?_
  refine rcons (ro_aload_n (k := 0) rfl (by decide +kernel) rfl) ?_
  refine rcons (ro_getf (C := rN1) (T := rF1) (N := 7) (k := 2) (by decide +kernel) rfl (rU1c _) (by decide) (List.mem_cons_of_mem _ q_986) rfl) ?_
  refine rcons (ro_iload_n (k := 3) rfl (by decide +kernel) rfl) ?_
  refine rcons (ro_iald (by decide +kernel) rfl) ?_
  refine rcons (ro_iconst (n := 1) (by decide +kernel) rfl rfl) ?_
  refine rcons (ro_callS okS_d_firstOf (by decide +kernel) rfl (fun s args ht => va_cwS 2 ht (rgoodS (fun w h => List.mem_cons_of_mem _ h) q_1200 q_1201 q_14 q_1202) rfl rfl rfl hy_d_firstOf ⟨Nat.le_of_ble_eq_true rfl, Nat.le_of_ble_eq_true rfl⟩) rfl) ?_
  refine rcons (ro_i2l (by decide +kernel) rfl) ?_
  refine rcons (ro_callS okX_d_add (by decide +kernel) rfl (fun s args ht => va_cwS 2 ht (rgoodS (fun w h => List.mem_cons_of_mem _ h) q_1282 q_1283 q_14 q_1284) rfl rfl rfl hy_d_add__JJ_J ⟨Nat.le_of_ble_eq_true rfl, Nat.le_of_ble_eq_true rfl⟩) rfl) ?_
  refine rcons (ro_aload_n (k := 0) rfl (by decide +kernel) rfl) ?_
  refine rcons (ro_getf (C := rN1) (T := rF1) (N := 7) (k := 2) (by decide +kernel) rfl (rU1c _) (by decide) (List.mem_cons_of_mem _ q_986) rfl) ?_
  refine rcons (ro_iload_n (k := 3) rfl (by decide +kernel) rfl) ?_
  refine rcons (ro_iald (by decide +kernel) rfl) ?_
  refine rcons (ro_callS okS_d_quarterOf (by decide +kernel) rfl (fun s args ht => va_cwS 1 ht (rgoodS (fun w h => List.mem_cons_of_mem _ h) q_1207 q_1208 q_14 q_1209) rfl rfl rfl hy_d_quarterOf ⟨Nat.le_of_ble_eq_true rfl, Nat.le_of_ble_eq_true rfl⟩) rfl) ?_
  refine rcons (ro_i2l (by decide +kernel) rfl) ?_
  refine rcons (ro_callS okX_d_add (by decide +kernel) rfl (fun s args ht => va_cwS 2 ht (rgoodS (fun w h => List.mem_cons_of_mem _ h) q_1282 q_1283 q_14 q_1284) rfl rfl rfl hy_d_add__JJ_J ⟨Nat.le_of_ble_eq_true rfl, Nat.le_of_ble_eq_true rfl⟩) rfl) ?_
  refine rcons (ro_lstore_n (k := 1) rfl (by decide +kernel) rfl) ?_
  refine rcons (ro_iinc (by decide +kernel) rfl) ?_
  refine rcons (ro_goto (off := (-133)) (by decide +kernel) rfl) ?_
  refine rcons (ro_iconst (n := 0) (by decide +kernel) rfl rfl) ?_
  refine rcons (ro_istore_n (k := 3) rfl (by decide +kernel) rfl) ?_
  refine rcons (ro_iload_n (k := 3) rfl (by decide +kernel) rfl) ?_
  refine rcons (ro_iconst (n := 4) (by decide +kernel) rfl rfl) ?_
  refine rcons (ro_icmp_ge (off := 96) (by decide +kernel) rfl rfl) ?_
  refine rcons (ro_iconst (n := 0) (by decide +kernel) rfl rfl) ?_
  refine rcons (ro_istore (by decide +kernel) rfl) ?_
  refine rcons (ro_iload (by decide +kernel) rfl) ?_
  refine rcons (ro_iconst (n := 4) (by decide +kernel) rfl rfl) ?_
  refine rcons (ro_icmp_ge (off := 81) (by decide +kernel) rfl rfl) ?_
  refine rcons (ro_lload_n (k := 1) rfl (by decide +kernel) rfl) ?_
  refine rcons (ro_aload_n (k := 0) rfl (by decide +kernel) rfl) ?_
  refine rcons (ro_getf (C := rN1) (T := rF1) (N := 7) (k := 1) (by decide +kernel) rfl (rU1c _) (by decide) (List.mem_cons_of_mem _ q_985) rfl) ?_
  refine rcons (ro_iload_n (k := 3) rfl (by decide +kernel) rfl) ?_
  refine rcons (ro_iald (by decide +kernel) rfl) ?_
  refine rcons (ro_aload_n (k := 0) rfl (by decide +kernel) rfl) ?_
  refine rcons (ro_getf (C := rN1) (T := rF1) (N := 7) (k := 1) (by decide +kernel) rfl (rU1c _) (by decide) (List.mem_cons_of_mem _ q_985) rfl) ?_
  refine rcons (ro_iload (by decide +kernel) rfl) ?_
  refine rcons (ro_iald (by decide +kernel) rfl) ?_
  refine rcons (ro_callS okS_d_order (by decide +kernel) rfl (fun s args ht => va_cwS 2 ht (rgoodS (fun w h => List.mem_cons_of_mem _ h) q_1094 q_1095 q_14 q_1096) rfl rfl rfl hy_d_order ⟨Nat.le_of_ble_eq_true rfl, Nat.le_of_ble_eq_true rfl⟩) rfl) ?_
  refine rcons (ro_i2l (by decide +kernel) rfl) ?_
  refine rcons (ro_callS okX_d_add (by decide +kernel) rfl (fun s args ht => va_cwS 2 ht (rgoodS (fun w h => List.mem_cons_of_mem _ h) q_1282 q_1283 q_14 q_1284) rfl rfl rfl hy_d_add__JJ_J ⟨Nat.le_of_ble_eq_true rfl, Nat.le_of_ble_eq_true rfl⟩) rfl) ?_
  refine rcons (ro_aload_n (k := 0) rfl (by decide +kernel) rfl) ?_
  refine rcons (ro_getf (C := rN1) (T := rF1) (N := 7) (k := 2) (by decide +kernel) rfl (rU1c _) (by decide) (List.mem_cons_of_mem _ q_986) rfl) ?_
  refine rcons (ro_iload_n (k := 3) rfl (by decide +kernel) rfl) ?_
  refine rcons (ro_iald (by decide +kernel) rfl) ?_
  refine rcons (ro_aload_n (k := 0) rfl (by decide +kernel) rfl) ?_
  refine rcons (ro_getf (C := rN1) (T := rF1) (N := 7) (k := 2) (by decide +kernel) rfl (rU1c _) (by decide) (List.mem_cons_of_mem _ q_986) rfl) ?_
  refine rcons (ro_iload (by decide +kernel) rfl) ?_
  refine rcons (ro_iald (by decide +kernel) rfl) ?_
  refine rcons (ro_callS okS_d_order (by decide +kernel) rfl (fun s args ht => va_cwS 2 ht (rgoodS (fun w h => List.mem_cons_of_mem _ h) q_1094 q_1095 q_14 q_1096) rfl rfl rfl hy_d_order ⟨Nat.le_of_ble_eq_true rfl, Nat.le_of_ble_eq_true rfl⟩) rfl) ?_
  refine rcons (ro_i2l (by decide +kernel) rfl) ?_
  refine rcons (ro_callS okX_d_add (by decide +kernel) rfl (fun s args ht => va_cwS 2 ht (rgoodS (fun w h => List.mem_cons_of_mem _ h) q_1282 q_1283 q_14 q_1284) rfl rfl rfl hy_d_add__JJ_J ⟨Nat.le_of_ble_eq_true rfl, Nat.le_of_ble_eq_true rfl⟩) rfl) ?_
  refine rcons (ro_lstore_n (k := 1) rfl (by decide +kernel) rfl) ?_
  refine rcons (ro_lload_n (k := 1) rfl (by decide +kernel) rfl) ?_
  refine rcons (ro_aload_n (k := 0) rfl (by decide +kernel) rfl) ?_
  refine rcons (ro_getf (C := rN1) (T := rF1) (N := 7) (k := 2) (by decide +kernel) rfl (rU1c _) (by decide) (List.mem_cons_of_mem _ q_986) rfl) ?_
  refine rcons (ro_iload_n (k := 3) rfl (by decide +kernel) rfl) ?_
  refine rcons (ro_iald (by decide +kernel) rfl) ?_
  refine rcons (ro_aload_n (k := 0) rfl (by decide +kernel) rfl) ?_
  refine rcons (ro_getf (C := rN1) (T := rF1) (N := 7) (k := 2) (by decide +kernel) rfl (rU1c _) (by decide) (List.mem_cons_of_mem _ q_986) rfl) ?_
  refine rcons (ro_iload (by decide +kernel) rfl) ?_
  refine rcons (ro_iald (by decide +kernel) rfl) ?_
  refine rcons (ro_iconst (n := 0) (by decide +kernel) rfl rfl) ?_
  refine rcons (ro_callS ok_d_areOfOneDay (by decide +kernel) rfl (fun s args ht => va_cwS 3 ht (rgoodS (fun w h => List.mem_cons_of_mem _ h) q_1234 q_1235 q_14 q_1236) rfl rfl rfl hy_d_areOfOneDay ⟨Nat.le_of_ble_eq_true rfl, Nat.le_of_ble_eq_true rfl⟩) rfl) ?_
  refine rcons (ro_s1L_eq (off := 7) (off2 := 4) (n1 := 1) (n2 := 0) (by decide +kernel) (by decide +kernel) rfl (by decide +kernel) (by decide +kernel) rfl rfl rfl rfl) ?_
  refine rcons (ro_lconst (n := 1) (by decide +kernel) rfl rfl) ?_
  refine rcons (ro_goto (off := 4) (by decide +kernel) rfl) ?_
  refine rcons (ro_lconst (n := 0) (by decide +kernel) rfl rfl) ?_
  refine rcons (ro_callS okX_d_add (by decide +kernel) rfl (fun s args ht => va_cwS 2 ht (rgoodS (fun w h => List.mem_cons_of_mem _ h) q_1282 q_1283 q_14 q_1284) rfl rfl rfl hy_d_add__JJ_J ⟨Nat.le_of_ble_eq_true rfl, Nat.le_of_ble_eq_true rfl⟩) rfl) ?_
  refine rcons (ro_lstore_n (k := 1) rfl (by decide +kernel) rfl) ?_
  refine rcons (ro_iinc (by decide +kernel) rfl) ?_
  refine rcons (ro_goto (off := (-81)) (by decide +kernel) rfl) ?_
  refine rcons (ro_iinc (by decide +kernel) rfl) ?_
  refine rcons (ro_goto (off := (-95)) (by decide +kernel) rfl) ?_
  refine rcons (ro_iconst (n := 0) (by decide +kernel) rfl rfl) ?_
  refine rcons (ro_istore_n (k := 3) rfl (by decide +kernel) rfl) ?_
  refine rcons (ro_iload_n (k := 3) rfl (by decide +kernel) rfl) ?_
  refine rcons (ro_iconst (n := 2) (by decide +kernel) rfl rfl) ?_
  refine rcons (ro_icmp_ge (off := 28) (by decide +kernel) rfl rfl) ?_
  refine rcons (ro_lload_n (k := 1) rfl (by decide +kernel) rfl) ?_
  refine rcons (ro_aload_n (k := 0) rfl (by decide +kernel) rfl) ?_
  refine rcons (ro_getf (C := rN1) (T := rF1) (N := 7) (k := 4) (by decide +kernel) rfl (rU1c _) (by decide) (List.mem_cons_of_mem _ q_988) rfl) ?_
  refine rcons (ro_iload_n (k := 3) rfl (by decide +kernel) rfl) ?_
  refine rcons (ro_zald (by decide +kernel) rfl) ?_
  refine rcons (ro_s1L_eq (off := 7) (off2 := 4) (n1 := 1) (n2 := 0) (by decide +kernel) (by decide +kernel) rfl (by decide +kernel) (by decide +kernel) rfl rfl rfl rfl) ?_
  refine rcons (ro_lconst (n := 1) (by decide +kernel) rfl rfl) ?_
  refine rcons (ro_goto (off := 4) (by decide +kernel) rfl) ?_
  refine rcons (ro_lconst (n := 0) (by decide +kernel) rfl rfl) ?_
  refine rcons (ro_callS okX_d_add (by decide +kernel) rfl (fun s args ht => va_cwS 2 ht (rgoodS (fun w h => List.mem_cons_of_mem _ h) q_1282 q_1283 q_14 q_1284) rfl rfl rfl hy_d_add__JJ_J ⟨Nat.le_of_ble_eq_true rfl, Nat.le_of_ble_eq_true rfl⟩) rfl) ?_
  refine rcons (ro_lstore_n (k := 1) rfl (by decide +kernel) rfl) ?_
  refine rcons (ro_iinc (by decide +kernel) rfl) ?_
  refine rcons (ro_goto (off := (-27)) (by decide +kernel) rfl) ?_
  refine rcons (ro_lload_n (k := 1) rfl (by decide +kernel) rfl) ?_
  refine rcons (ro_lconst (n := 1) (by decide +kernel) rfl rfl) ?_
  refine rcons (ro_callS okX_d_add (by decide +kernel) rfl (fun s args ht => va_cwS 2 ht (rgoodS (fun w h => List.mem_cons_of_mem _ h) q_1282 q_1283 q_14 q_1284) rfl rfl rfl hy_d_add__JJ_J ⟨Nat.le_of_ble_eq_true rfl, Nat.le_of_ble_eq_true rfl⟩) rfl) ?_
  refine rcons (ro_lret (by decide +kernel)) ?_
  exact rnil
section
seal dD dM dR dR3 dO dB opF opB restF lenF firstF ordF
set_option maxHeartbeats 40000000 in
set_option maxRecDepth 20000 in
theorem digM_run {P : PW} (hp : dom4 P 7 8) : m_d_digest [rR 10] (CWP P) (fun z σ' => z = .inl (some (rL false (digM P))) ∧ σ' = CWP (thr0 P)) := by
  obtain ⟨⟨d0, d1, d2, d3⟩, m0, m1, m2, m3⟩ := id hp
  obtain ⟨a0, b0, -⟩ := nd_day d0
  obtain ⟨e0, f0, -⟩ := nd_month m0
  obtain ⟨a1, b1, -⟩ := nd_day d1
  obtain ⟨e1, f1, -⟩ := nd_month m1
  obtain ⟨a2, b2, -⟩ := nd_day d2
  obtain ⟨e2, f2, -⟩ := nd_month m2
  obtain ⟨a3, b3, -⟩ := nd_day d3
  obtain ⟨e3, f3, -⟩ := nd_month m3
  have hk0 : true = true := rfl
  have hk1 : true = true := rfl
  repeat' (first | with_reducible (first | assumption | exact rfl) | (refine rand_id ?_; first | with_reducible (first | refine rbr_no (by assumption) ?_ | refine rbr_yes (by assumption) ?_ | refine rbr_yes (s01 _) ?_) | with_reducible refine And.intro ?_ ?_) | with_reducible (first | exact dR_7 | exact dR_12 | exact dB_0 | exact dB_1 | exact dR3_3 | exact dR3_7 | exact n70 | refine and_mk ?_ ?_ | refine vp_D ?_ | refine vp_M ?_) | exact rfl | exact dB_0 | exact dB_1 | exact dR_7 | exact dR_12 | assumption | refine and_mk ?_ ?_ | refine vp_D ?_ | refine vp_M ?_ | exact dR3_3 | exact dR3_7 | with_reducible refine dM_D ?_)
end
def s_d_digestX : RM := fun as σ Q => as = [rR 10] ∧ ∃ P : PW, σ = CWP P ∧ dom4 P 7 8 ∧ Q (.inl (some (rL false (digM P)))) (CWP (thr0 P))
set_option maxHeartbeats 40000000 in
set_option maxRecDepth 20000 in
theorem okX_d_digest : rMet y_d_digest (Cond.code y_d_digest prog_4_method_72_code 5 (some .long) :: rT) rm_d_digest 0 s_d_digestX := by
  refine rMet_sum ok_d_digest (fun as σ Q h => ?_)
  obtain ⟨rfl, P, rfl, hp, h⟩ := h
  refine ⟨[rR 10], fun z σ' => z = .inl (some (rL false (digM P))) ∧ σ' = CWP (thr0 P), fun _ => rfl, digM_run hp, ?_, ?_⟩
  · intro r σ' hq
    obtain ⟨e1, rfl⟩ := hq
    cases e1
    exact ⟨some (rL false (digM P)), fun _ => rfl, h⟩
  · intro k σ' hq
    obtain ⟨e1, -⟩ := hq
    cases e1
end RKM
