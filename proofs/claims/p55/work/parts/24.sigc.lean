section RKM
noncomputable def yd (b : Int32) (t : Nat) : Int32 → Int32 → Int32 := Nat.rec (motive := fun _ => Int32 → Int32 → Int32) (fun d _ => d) (fun _ ih d m => ih (opF d (lenF m b).toInt64 7) (opF m 1 12)) t
set_option maxRecDepth 100000 in
theorem yd_all : ((List.range 7).all fun i => (List.range 12).all fun j => decide (yd 0 12 (nI (i + 1)) (nI (j + 1)) = opF (nI (i + 1)) 1 7) && decide (yd 1 12 (nI (i + 1)) (nI (j + 1)) = opF (nI (i + 1)) 2 7)) = true := by decide +kernel
theorem yd_eq {d m : Int32} (hd : dD d = true) (hm : dM m = true) : yd 0 12 d m = opF d 1 7 ∧ yd 1 12 d m = opF d 2 7 := by
  obtain ⟨i, i1, i2, rfl⟩ := dD_nat hd
  obtain ⟨j, j1, j2, rfl⟩ := dM_nat hm
  have h := List.all_eq_true.mp (List.all_eq_true.mp yd_all (i - 1) (List.mem_range.mpr (by omega))) (j - 1) (List.mem_range.mpr (by omega))
  rw [Bool.and_eq_true, decide_eq_true_eq, decide_eq_true_eq, show i - 1 + 1 = i by omega, show j - 1 + 1 = j by omega] at h
  exact h
def dQ (b : Int32) : Int64 := bif decide (b = 0) then 1 else 2
def s_c_yearT : RM := fun as σ Q => pYear as σ ∧ (match as, σ with
  | [_, .inl c, .inl b], _ :: .inr (_, _, .inl d) :: _ => Q (.inl (some (rI false (opF (d c.2.toNatClampNeg) (dQ b.2) 7)))) σ
  | _, _ => False)
section
seal dD dM dR dR3 dO dB opF opB restF lenF firstF ordF
set_option maxHeartbeats 40000000 in
set_option maxRecDepth 20000 in
theorem yearT_0_0 {P : PW} (hd : dD (P.1 0 0) = true) (hm : dM (P.1 1 0) = true) : m_c_dayAfterYear [rR 0, rI true 0, rI true 0] (CWP P) (fun z σ' => (∃ f : Bool, z = .inl (some (rI f (opF (P.1 0 0) 1 7)))) ∧ σ' = CWP P) := by
  have he := (yd_eq hd hm).1
  repeat' (first | with_reducible (first | assumption | exact rfl | exact dD_F | exact dD_B | exact dM_F | exact dM_B | exact dR_7 | exact dR_12 | exact dB_0 | exact dB_1 | refine and_mk ?_ ?_) | (refine rand_id ?_; with_reducible refine And.intro ?_ ?_) | exact ⟨_, congrArg (fun z => Sum.inl (some (rI _ z))) he⟩ | exact dB_0 | exact dB_1 | exact dR_7 | exact dR_12 | exact rfl | assumption | with_reducible refine dM_D ?_)
set_option maxHeartbeats 40000000 in
set_option maxRecDepth 20000 in
theorem yearT_0_1 {P : PW} (hd : dD (P.1 0 0) = true) (hm : dM (P.1 1 0) = true) : m_c_dayAfterYear [rR 0, rI true 0, rI true 1] (CWP P) (fun z σ' => (∃ f : Bool, z = .inl (some (rI f (opF (P.1 0 0) 2 7)))) ∧ σ' = CWP P) := by
  have he := (yd_eq hd hm).2
  repeat' (first | with_reducible (first | assumption | exact rfl | exact dD_F | exact dD_B | exact dM_F | exact dM_B | exact dR_7 | exact dR_12 | exact dB_0 | exact dB_1 | refine and_mk ?_ ?_) | (refine rand_id ?_; with_reducible refine And.intro ?_ ?_) | exact ⟨_, congrArg (fun z => Sum.inl (some (rI _ z))) he⟩ | exact dB_0 | exact dB_1 | exact dR_7 | exact dR_12 | exact rfl | assumption | with_reducible refine dM_D ?_)
set_option maxHeartbeats 40000000 in
set_option maxRecDepth 20000 in
theorem yearT_1_0 {P : PW} (hd : dD (P.1 0 1) = true) (hm : dM (P.1 1 1) = true) : m_c_dayAfterYear [rR 0, rI true 1, rI true 0] (CWP P) (fun z σ' => (∃ f : Bool, z = .inl (some (rI f (opF (P.1 0 1) 1 7)))) ∧ σ' = CWP P) := by
  have he := (yd_eq hd hm).1
  repeat' (first | with_reducible (first | assumption | exact rfl | exact dD_F | exact dD_B | exact dM_F | exact dM_B | exact dR_7 | exact dR_12 | exact dB_0 | exact dB_1 | refine and_mk ?_ ?_) | (refine rand_id ?_; with_reducible refine And.intro ?_ ?_) | exact ⟨_, congrArg (fun z => Sum.inl (some (rI _ z))) he⟩ | exact dB_0 | exact dB_1 | exact dR_7 | exact dR_12 | exact rfl | assumption | with_reducible refine dM_D ?_)
set_option maxHeartbeats 40000000 in
set_option maxRecDepth 20000 in
theorem yearT_1_1 {P : PW} (hd : dD (P.1 0 1) = true) (hm : dM (P.1 1 1) = true) : m_c_dayAfterYear [rR 0, rI true 1, rI true 1] (CWP P) (fun z σ' => (∃ f : Bool, z = .inl (some (rI f (opF (P.1 0 1) 2 7)))) ∧ σ' = CWP P) := by
  have he := (yd_eq hd hm).2
  repeat' (first | with_reducible (first | assumption | exact rfl | exact dD_F | exact dD_B | exact dM_F | exact dM_B | exact dR_7 | exact dR_12 | exact dB_0 | exact dB_1 | refine and_mk ?_ ?_) | (refine rand_id ?_; with_reducible refine And.intro ?_ ?_) | exact ⟨_, congrArg (fun z => Sum.inl (some (rI _ z))) he⟩ | exact dB_0 | exact dB_1 | exact dR_7 | exact dR_12 | exact rfl | assumption | with_reducible refine dM_D ?_)
set_option maxHeartbeats 40000000 in
set_option maxRecDepth 20000 in
theorem yearT_2_0 {P : PW} (hd : dD (P.1 0 2) = true) (hm : dM (P.1 1 2) = true) : m_c_dayAfterYear [rR 0, rI true 2, rI true 0] (CWP P) (fun z σ' => (∃ f : Bool, z = .inl (some (rI f (opF (P.1 0 2) 1 7)))) ∧ σ' = CWP P) := by
  have he := (yd_eq hd hm).1
  repeat' (first | with_reducible (first | assumption | exact rfl | exact dD_F | exact dD_B | exact dM_F | exact dM_B | exact dR_7 | exact dR_12 | exact dB_0 | exact dB_1 | refine and_mk ?_ ?_) | (refine rand_id ?_; with_reducible refine And.intro ?_ ?_) | exact ⟨_, congrArg (fun z => Sum.inl (some (rI _ z))) he⟩ | exact dB_0 | exact dB_1 | exact dR_7 | exact dR_12 | exact rfl | assumption | with_reducible refine dM_D ?_)
set_option maxHeartbeats 40000000 in
set_option maxRecDepth 20000 in
theorem yearT_2_1 {P : PW} (hd : dD (P.1 0 2) = true) (hm : dM (P.1 1 2) = true) : m_c_dayAfterYear [rR 0, rI true 2, rI true 1] (CWP P) (fun z σ' => (∃ f : Bool, z = .inl (some (rI f (opF (P.1 0 2) 2 7)))) ∧ σ' = CWP P) := by
  have he := (yd_eq hd hm).2
  repeat' (first | with_reducible (first | assumption | exact rfl | exact dD_F | exact dD_B | exact dM_F | exact dM_B | exact dR_7 | exact dR_12 | exact dB_0 | exact dB_1 | refine and_mk ?_ ?_) | (refine rand_id ?_; with_reducible refine And.intro ?_ ?_) | exact ⟨_, congrArg (fun z => Sum.inl (some (rI _ z))) he⟩ | exact dB_0 | exact dB_1 | exact dR_7 | exact dR_12 | exact rfl | assumption | with_reducible refine dM_D ?_)
set_option maxHeartbeats 40000000 in
set_option maxRecDepth 20000 in
theorem yearT_3_0 {P : PW} (hd : dD (P.1 0 3) = true) (hm : dM (P.1 1 3) = true) : m_c_dayAfterYear [rR 0, rI true 3, rI true 0] (CWP P) (fun z σ' => (∃ f : Bool, z = .inl (some (rI f (opF (P.1 0 3) 1 7)))) ∧ σ' = CWP P) := by
  have he := (yd_eq hd hm).1
  repeat' (first | with_reducible (first | assumption | exact rfl | exact dD_F | exact dD_B | exact dM_F | exact dM_B | exact dR_7 | exact dR_12 | exact dB_0 | exact dB_1 | refine and_mk ?_ ?_) | (refine rand_id ?_; with_reducible refine And.intro ?_ ?_) | exact ⟨_, congrArg (fun z => Sum.inl (some (rI _ z))) he⟩ | exact dB_0 | exact dB_1 | exact dR_7 | exact dR_12 | exact rfl | assumption | with_reducible refine dM_D ?_)
set_option maxHeartbeats 40000000 in
set_option maxRecDepth 20000 in
theorem yearT_3_1 {P : PW} (hd : dD (P.1 0 3) = true) (hm : dM (P.1 1 3) = true) : m_c_dayAfterYear [rR 0, rI true 3, rI true 1] (CWP P) (fun z σ' => (∃ f : Bool, z = .inl (some (rI f (opF (P.1 0 3) 2 7)))) ∧ σ' = CWP P) := by
  have he := (yd_eq hd hm).2
  repeat' (first | with_reducible (first | assumption | exact rfl | exact dD_F | exact dD_B | exact dM_F | exact dM_B | exact dR_7 | exact dR_12 | exact dB_0 | exact dB_1 | refine and_mk ?_ ?_) | (refine rand_id ?_; with_reducible refine And.intro ?_ ?_) | exact ⟨_, congrArg (fun z => Sum.inl (some (rI _ z))) he⟩ | exact dB_0 | exact dB_1 | exact dR_7 | exact dR_12 | exact rfl | assumption | with_reducible refine dM_D ?_)
end
set_option maxHeartbeats 40000000 in
set_option maxRecDepth 20000 in
theorem okT_c_year : rMet y_c_dayAfterYear (Cond.code y_c_dayAfterYear prog_1_method_87_code 6 (some .int) :: rT) rm_c_dayAfterYear 2 s_c_yearT := by
  refine rMet_int ok_c_dayAfterYear (fun as σ Q h => ?_)
  obtain ⟨⟨⟨c, b, rfl, hc, hb⟩, P, rfl, ⟨⟨d0, d1, d2, d3⟩, m0, m1, m2, m3⟩⟩, h⟩ := h
  rcases hc with rfl | rfl | rfl | rfl <;> rcases hb with rfl | rfl
  · exact ⟨[rR 0, rI true 0, rI true 0], opF (P.1 0 0) 1 7, false, fun _ => rfl, yearT_0_0 d0 m0, h⟩
  · exact ⟨[rR 0, rI true 0, rI true 1], opF (P.1 0 0) 2 7, false, fun _ => rfl, yearT_0_1 d0 m0, h⟩
  · exact ⟨[rR 0, rI true 1, rI true 0], opF (P.1 0 1) 1 7, false, fun _ => rfl, yearT_1_0 d1 m1, h⟩
  · exact ⟨[rR 0, rI true 1, rI true 1], opF (P.1 0 1) 2 7, false, fun _ => rfl, yearT_1_1 d1 m1, h⟩
  · exact ⟨[rR 0, rI true 2, rI true 0], opF (P.1 0 2) 1 7, false, fun _ => rfl, yearT_2_0 d2 m2, h⟩
  · exact ⟨[rR 0, rI true 2, rI true 1], opF (P.1 0 2) 2 7, false, fun _ => rfl, yearT_2_1 d2 m2, h⟩
  · exact ⟨[rR 0, rI true 3, rI true 0], opF (P.1 0 3) 1 7, false, fun _ => rfl, yearT_3_0 d3 m3, h⟩
  · exact ⟨[rR 0, rI true 3, rI true 1], opF (P.1 0 3) 2 7, false, fun _ => rfl, yearT_3_1 d3 m3, h⟩
def ps_c_areCellsSoundT : List Nat := [0, 1, 2, 3, 4, 7, 8, 9, 10, 13, 14, 17, 18, 19, 20, 22, 25, 28, 29, 30, 31, 34, 35, 38, 39, 40, 43, 45, 48, 51, 52, 55, 56, 57, 58, 61, 62, 63, 66, 69, 70]
def tb_c_areCellsSoundT : List RT := [tq_ic 0, tq_is 3 1, tq_il 1, tq_ic 4, tq_if2 (fun x y => decide (y ≤ x)) 39, tq_al 0, tq_il 1, tq_ic 0, tq_call (rV 0 s_c_yearT) 3 2 16, tq_al 0, tq_getf 0 0, tq_il 1, tq_iald 0, tq_lc 1, tq_ic 7, tq_call s_c_numberOn 3 0 16, tq_if2 (fun x y => !decide (x = y)) 31, tq_al 0, tq_il 1, tq_ic 1, tq_call (rV 0 s_c_yearT) 3 2 16, tq_al 0, tq_getf 0 0, tq_il 1, tq_iald 0, tq_lc 2, tq_ic 7, tq_call s_c_numberOn 3 0 16, tq_s2 (fun x y => !decide (x = y)) 1 0 32, tq_ic 1, tq_go 32, tq_ic 0, tq_is 3 2, tq_il 2, tq_if1 (fun x => !decide (x = 0)) 37, tq_ic 0, tq_zret 16, tq_inc 3 1 1, tq_go 2, tq_ic 1, tq_zret 16]
def m_c_areCellsSoundT : RM := rMeth tb_c_areCellsSoundT 1200 3
abbrev rm_c_areCellsSoundT : Room := { frames := 8, cells := 16, slots := 192, locals := 136 }
set_option maxHeartbeats 4000000 in
set_option maxRecDepth 20000 in
theorem ok_c_areCellsSoundT : rMet y_c_areCellsSound (Cond.code y_c_areCellsSound prog_1_method_86_code 3 (some .boolean) :: rT) rm_c_areCellsSoundT 16 m_c_areCellsSoundT := by
  refine rMeth_ok (ps := ps_c_areCellsSoundT) (tab := tb_c_areCellsSoundT) (by decide +kernel) rfl rfl rfl rfl ?_
  refine rcons (ro_iconst (n := 0) (by decide +kernel) rfl rfl) ?_
  refine rcons (ro_istore_n (k := 1) rfl (by decide +kernel) rfl) ?_
  refine rcons (ro_iload_n (k := 1) rfl (by decide +kernel) rfl) ?_
  refine rcons (ro_iconst (n := 4) (by decide +kernel) rfl rfl) ?_
  refine rcons (ro_icmp_ge (off := 65) (by decide +kernel) rfl rfl) ?_
  refine rcons (ro_aload_n (k := 0) rfl (by decide +kernel) rfl) ?_
  refine rcons (ro_iload_n (k := 1) rfl (by decide +kernel) rfl) ?_
  refine rcons (ro_iconst (n := 0) (by decide +kernel) rfl rfl) ?_
  refine rcons (ro_callV (C := rN0) (T := rF0) (N := 7) rfl okT_c_year (by decide +kernel) rfl (fun s args ht => cwV (C := rN0) 2 ht (rgoodV (C := rN0) (fun w h => List.mem_cons_of_mem _ h) q_494 q_496 q_2 q_13 q_497) rfl rfl rfl hv_c_dayAfterYear ⟨Nat.le_of_ble_eq_true rfl, Nat.le_of_ble_eq_true rfl⟩) rfl) ?_
  refine rcons (ro_aload_n (k := 0) rfl (by decide +kernel) rfl) ?_
  refine rcons (ro_getf (C := rN0) (T := rF0) (N := 7) (k := 0) (by decide +kernel) rfl (rU0c _) (by decide) (List.mem_cons_of_mem _ q_43) rfl) ?_
  refine rcons (ro_iload_n (k := 1) rfl (by decide +kernel) rfl) ?_
  refine rcons (ro_iald (by decide +kernel) rfl) ?_
  refine rcons (ro_lconst (n := 1) (by decide +kernel) rfl rfl) ?_
  refine rcons (ro_bipush (n := 7) (by decide +kernel) rfl rfl) ?_
  refine rcons (ro_callS okS_c_numberOn (by decide +kernel) rfl (fun s args ht => va_cwS 3 ht (rgoodS (fun w h => List.mem_cons_of_mem _ h) q_445 q_446 q_13 q_447) rfl rfl rfl hy_c_numberOn ⟨Nat.le_of_ble_eq_true rfl, Nat.le_of_ble_eq_true rfl⟩) rfl) ?_
  refine rcons (ro_icmp_ne (off := 30) (by decide +kernel) rfl rfl) ?_
  refine rcons (ro_aload_n (k := 0) rfl (by decide +kernel) rfl) ?_
  refine rcons (ro_iload_n (k := 1) rfl (by decide +kernel) rfl) ?_
  refine rcons (ro_iconst (n := 1) (by decide +kernel) rfl rfl) ?_
  refine rcons (ro_callV (C := rN0) (T := rF0) (N := 7) rfl okT_c_year (by decide +kernel) rfl (fun s args ht => cwV (C := rN0) 2 ht (rgoodV (C := rN0) (fun w h => List.mem_cons_of_mem _ h) q_494 q_496 q_2 q_13 q_497) rfl rfl rfl hv_c_dayAfterYear ⟨Nat.le_of_ble_eq_true rfl, Nat.le_of_ble_eq_true rfl⟩) rfl) ?_
  refine rcons (ro_aload_n (k := 0) rfl (by decide +kernel) rfl) ?_
  refine rcons (ro_getf (C := rN0) (T := rF0) (N := 7) (k := 0) (by decide +kernel) rfl (rU0c _) (by decide) (List.mem_cons_of_mem _ q_43) rfl) ?_
  refine rcons (ro_iload_n (k := 1) rfl (by decide +kernel) rfl) ?_
  refine rcons (ro_iald (by decide +kernel) rfl) ?_
  refine rcons (ro_ldc2 (by decide +kernel) (List.mem_cons_of_mem _ q_517) rfl) ?_
  refine rcons (ro_bipush (n := 7) (by decide +kernel) rfl rfl) ?_
  refine rcons (ro_callS okS_c_numberOn (by decide +kernel) rfl (fun s args ht => va_cwS 3 ht (rgoodS (fun w h => List.mem_cons_of_mem _ h) q_445 q_446 q_13 q_447) rfl rfl rfl hy_c_numberOn ⟨Nat.le_of_ble_eq_true rfl, Nat.le_of_ble_eq_true rfl⟩) rfl) ?_
  refine rcons (ro_s2_ne (off := 7) (off2 := 4) (n1 := 1) (n2 := 0) (by decide +kernel) (by decide +kernel) rfl (by decide +kernel) (by decide +kernel) rfl rfl rfl rfl) ?_
  refine rcons (ro_iconst (n := 1) (by decide +kernel) rfl rfl) ?_
  refine rcons (ro_goto (off := 4) (by decide +kernel) rfl) ?_
  refine rcons (ro_iconst (n := 0) (by decide +kernel) rfl rfl) ?_
  refine rcons (ro_istore_n (k := 2) rfl (by decide +kernel) rfl) ?_
  refine rcons (ro_iload_n (k := 2) rfl (by decide +kernel) rfl) ?_
  refine rcons (ro_if_ne (off := 5) (by decide +kernel) rfl rfl) ?_
  refine rcons (ro_iconst (n := 0) (by decide +kernel) rfl rfl) ?_
  refine rcons (ro_zret (by decide +kernel)) ?_
  refine rcons (ro_iinc (by decide +kernel) rfl) ?_
  refine rcons (ro_goto (off := (-64)) (by decide +kernel) rfl) ?_
  refine rcons (ro_iconst (n := 1) (by decide +kernel) rfl rfl) ?_
  refine rcons (ro_zret (by decide +kernel)) ?_
  exact rnil
section
seal dD dM dR dR3 dO dB opF opB restF lenF firstF ordF
set_option maxHeartbeats 40000000 in
set_option maxRecDepth 20000 in
theorem cellsT {P : PW} (hp : dom4 P 0 1) : m_c_areCellsSoundT [rR 0] (CWP P) (fun z σ' => z = .inl (some (rI true 1)) ∧ σ' = CWP P) := by
  obtain ⟨⟨d0, d1, d2, d3⟩, m0, m1, m2, m3⟩ := id hp
  have y00 := pyear' (c := 0) (b := 0) hp (by decide) (by decide)
  have y01 := pyear' (c := 0) (b := 1) hp (by decide) (by decide)
  have y10 := pyear' (c := 1) (b := 0) hp (by decide) (by decide)
  have y11 := pyear' (c := 1) (b := 1) hp (by decide) (by decide)
  have y20 := pyear' (c := 2) (b := 0) hp (by decide) (by decide)
  have y21 := pyear' (c := 2) (b := 1) hp (by decide) (by decide)
  have y30 := pyear' (c := 3) (b := 0) hp (by decide) (by decide)
  have y31 := pyear' (c := 3) (b := 1) hp (by decide) (by decide)
  repeat' (first | with_reducible (first | assumption | exact rfl | exact dD_F | exact dD_B | exact dM_F | exact dM_B | exact dR_7 | exact dR_12 | exact dB_0 | exact dB_1 | refine and_mk ?_ ?_) | ((with_reducible refine pY_id ?_); first | exact y00 | exact y01 | exact y10 | exact y11 | exact y20 | exact y21 | exact y30 | exact y31) | (refine rand_id ?_; first | with_reducible (first | refine rbr_no (by assumption) ?_ | refine rbr_yes (by assumption) ?_ | refine rbr_yes rdq ?_ | refine rbr_no rdqn ?_) | refine rbr_yes rdq ?_ | refine rbr_no rdqn ?_ | refine rbr_yes s2n ?_ | refine rbr_no s2e ?_ | with_reducible refine And.intro ?_ ?_) | exact dB_0 | exact dB_1 | exact dR_7 | exact dR_12 | exact rfl | assumption | with_reducible refine dM_D ?_)
end
def s_c_cellsT : RM := fun as σ Q => pThis as σ ∧ Q (.inl (some (rI true 1))) σ
set_option maxHeartbeats 40000000 in
set_option maxRecDepth 20000 in
theorem okT_c_cells : rMet y_c_areCellsSound (Cond.code y_c_areCellsSound prog_1_method_86_code 3 (some .boolean) :: rT) rm_c_areCellsSoundT 16 s_c_cellsT := by
  refine rMet_val ok_c_areCellsSoundT (fun as σ Q h => ?_)
  obtain ⟨⟨rfl, P, rfl, hp⟩, h⟩ := h
  exact ⟨[rR 0], some (rI true 1), some (rI true 1), fun _ => rfl, cellsT hp, fun _ => rfl, h⟩
def ps_c_isSoundT : List Nat := [0, 2, 5, 8, 10, 13, 16, 19, 22, 23, 26, 29, 30, 33, 34]
def tb_c_isSoundT : List RT := [tq_ic 7, tq_call s_c_ringT 1 0 16, tq_if1 (fun x => decide (x = 0)) 13, tq_ic 12, tq_call s_c_ringT 1 0 16, tq_if1 (fun x => decide (x = 0)) 13, tq_call s_c_monthsT 0 0 16, tq_if1 (fun x => decide (x = 0)) 13, tq_al 0, tq_call (rV 0 s_c_cellsT) 1 16 16, tq_s1 (fun x => decide (x = 0)) 1 0 14, tq_ic 1, tq_go 14, tq_ic 0, tq_zret 16]
def m_c_isSoundT : RM := rMeth tb_c_isSoundT 1200 1
abbrev rm_c_isSoundT : Room := { frames := 9, cells := 16, slots := 192, locals := 158 }
set_option maxHeartbeats 4000000 in
set_option maxRecDepth 20000 in
theorem ok_c_isSoundT : rMet y_c_isSound (Cond.code y_c_isSound prog_1_method_54_code 1 (some .boolean) :: rT) rm_c_isSoundT 16 m_c_isSoundT := by
  refine rMeth_ok (ps := ps_c_isSoundT) (tab := tb_c_isSoundT) (by decide +kernel) rfl rfl rfl rfl ?_
  refine rcons (ro_bipush (n := 7) (by decide +kernel) rfl rfl) ?_
  refine rcons (ro_callS okT_c_ring (by decide +kernel) rfl (fun s args ht => va_cwS 1 ht (rgoodS (fun w h => List.mem_cons_of_mem _ h) q_442 q_443 q_13 q_444) rfl rfl rfl hy_c_isRingSound ⟨Nat.le_of_ble_eq_true rfl, Nat.le_of_ble_eq_true rfl⟩) rfl) ?_
  refine rcons (ro_if_eq (off := 28) (by decide +kernel) rfl rfl) ?_
  refine rcons (ro_bipush (n := 12) (by decide +kernel) rfl rfl) ?_
  refine rcons (ro_callS okT_c_ring (by decide +kernel) rfl (fun s args ht => va_cwS 1 ht (rgoodS (fun w h => List.mem_cons_of_mem _ h) q_442 q_443 q_13 q_444) rfl rfl rfl hy_c_isRingSound ⟨Nat.le_of_ble_eq_true rfl, Nat.le_of_ble_eq_true rfl⟩) rfl) ?_
  refine rcons (ro_if_eq (off := 20) (by decide +kernel) rfl rfl) ?_
  refine rcons (ro_callS okT_c_months (by decide +kernel) rfl (fun s args ht => va_cwS 0 ht (rgoodS (fun w h => List.mem_cons_of_mem _ h) q_463 q_464 q_13 q_465) rfl rfl rfl hy_c_areMonthsSound ⟨Nat.le_of_ble_eq_true rfl, Nat.le_of_ble_eq_true rfl⟩) rfl) ?_
  refine rcons (ro_if_eq (off := 14) (by decide +kernel) rfl rfl) ?_
  refine rcons (ro_aload_n (k := 0) rfl (by decide +kernel) rfl) ?_
  refine rcons (ro_callV (C := rN0) (T := rF0) (N := 7) rfl okT_c_cells (by decide +kernel) rfl (fun s args ht => cwV (C := rN0) 0 ht (rgoodV (C := rN0) (fun w h => List.mem_cons_of_mem _ h) q_490 q_492 q_1 q_13 q_493) rfl rfl rfl hv_c_areCellsSound ⟨Nat.le_of_ble_eq_true rfl, Nat.le_of_ble_eq_true rfl⟩) rfl) ?_
  refine rcons (ro_s1_eq (off := 7) (off2 := 4) (n1 := 1) (n2 := 0) (by decide +kernel) (by decide +kernel) rfl (by decide +kernel) (by decide +kernel) rfl rfl rfl rfl) ?_
  refine rcons (ro_iconst (n := 1) (by decide +kernel) rfl rfl) ?_
  refine rcons (ro_goto (off := 4) (by decide +kernel) rfl) ?_
  refine rcons (ro_iconst (n := 0) (by decide +kernel) rfl rfl) ?_
  refine rcons (ro_zret (by decide +kernel)) ?_
  exact rnil
set_option maxHeartbeats 40000000 in
set_option maxRecDepth 20000 in
theorem soundT {P : PW} (hp : dom4 P 0 1) : m_c_isSoundT [rR 0] (CWP P) (fun z σ' => z = .inl (some (rI true 1)) ∧ σ' = CWP P) := by
  have hp2 : pThis [rR 0] (CWP P) := ⟨rfl, P, rfl, hp⟩
  refine And.intro (Or.inl rfl) (And.intro (Or.inr rfl) (And.intro rfl (And.intro hp2 ?_)))
  exact And.intro rfl rfl
def s_c_isSoundT : RM := fun as σ Q => pThis as σ ∧ Q (.inl (some (rI true 1))) σ
set_option maxHeartbeats 40000000 in
set_option maxRecDepth 20000 in
theorem okT_c_isSound : rMet y_c_isSound (Cond.code y_c_isSound prog_1_method_54_code 1 (some .boolean) :: rT) rm_c_isSoundT 16 s_c_isSoundT := by
  refine rMet_val ok_c_isSoundT (fun as σ Q h => ?_)
  obtain ⟨⟨rfl, P, rfl, hp⟩, h⟩ := h
  exact ⟨[rR 0], some (rI true 1), some (rI true 1), fun _ => rfl, soundT hp, fun _ => rfl, h⟩
end RKM
