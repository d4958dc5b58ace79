section RKM
def pSz : List AV → List RC → Prop := fun as _ => as = [rI true 7] ∨ as = [rI true 12]
def pStSz : List AV → List RC → Prop := fun as _ => ∃ (g : Bool) (s : Int32), (as = [rI g s, rI true 7] ∧ dO s 7 = true) ∨ (as = [rI g s, rI true 12] ∧ dO s 12 = true)
def dom4 (P : PW) (i j : Nat) : Prop := (dD (P.1 i 0) = true ∧ dD (P.1 i 1) = true ∧ dD (P.1 i 2) = true ∧ dD (P.1 i 3) = true) ∧ (dM (P.1 j 0) = true ∧ dM (P.1 j 1) = true ∧ dM (P.1 j 2) = true ∧ dM (P.1 j 3) = true)
def pThis : List AV → List RC → Prop := fun as σ => as = [rR 0] ∧ ∃ P : PW, σ = CWP P ∧ dom4 P 0 1
def pYear : List AV → List RC → Prop := fun as σ => (∃ (c : Int32) (b : Int32), as = [rR 0, rI true c, rI true b] ∧ (c = 0 ∨ c = 1 ∨ c = 2 ∨ c = 3) ∧ (b = 0 ∨ b = 1)) ∧ ∃ P : PW, σ = CWP P ∧ dom4 P 0 1
def pDig : List AV → List RC → Prop := fun as σ => as = [rR 0] ∧ ∃ P : PW, σ = CWP P ∧ dom4 P 0 1 ∧ ((P.1 6 0 = 0 ∨ P.1 6 0 = 1) ∧ (P.1 6 1 = 0 ∨ P.1 6 1 = 1))
def s_c_numberOnW : RM := fun as σ Q => match as with
  | [.inl n, .inr (.inl _), .inl y] => (dM n.2 && dR y.2) = true ∧ ∀ v : Int32, dO v y.2 = true → Q (.inl (some (rI false v))) σ
  | _ => False
theorem okW_c_numberOn : rMet y_c_numberOn (Cond.code y_c_numberOn prog_1_method_71_code 4 (some .int) :: rT) rm_c_numberOn 0 s_c_numberOnW := by
  refine rMet_val okS_c_numberOn (fun as σ Q h => ?_)
  unfold s_c_numberOnW at h
  split at h
  · next n x y =>
    obtain ⟨hd, h⟩ := h
    have hd2 := hd
    rw [Bool.and_eq_true] at hd2
    exact ⟨[rI false n.2, rL false x.2, rI false y.2], some (rI false (opF n.2 x.2 y.2)), some (rI false (opF n.2 x.2 y.2)), fun _ => rfl, And.intro hd ⟨rfl, rfl⟩, fun _ => rfl, h _ (dO_F hd2.2)⟩
  · exact h.elim
theorem okW_c_numberBack : rMet y_c_numberBack (Cond.code y_c_numberBack prog_1_method_72_code 4 (some .int) :: rT) rm_c_numberBack 0 s_c_numberOnW := by
  refine rMet_val okS_c_numberBack (fun as σ Q h => ?_)
  unfold s_c_numberOnW at h
  split at h
  · next n x y =>
    obtain ⟨hd, h⟩ := h
    have hd2 := hd
    rw [Bool.and_eq_true] at hd2
    exact ⟨[rI false n.2, rL false x.2, rI false y.2], some (rI false (opB n.2 x.2 y.2)), some (rI false (opB n.2 x.2 y.2)), fun _ => rfl, And.intro hd ⟨rfl, rfl⟩, fun _ => rfl, h _ (dO_B hd2.2)⟩
  · exact h.elim
def ps_c_comesToEachOnceW : List Nat := [0, 1, 2, 3, 4, 5, 7, 9, 10, 13, 14, 15, 16, 19, 20, 21, 22, 23, 25, 26, 27, 30, 31, 32, 35, 36, 38, 39, 42, 43, 44, 45, 47, 48, 49, 52, 55, 56, 57, 60, 61, 64, 65]
def tb_c_comesToEachOnceW : List RT := [tq_ic 0, tq_is 6 2, tq_il 0, tq_is 6 3, tq_ic 0, tq_is 6 4, tq_il 4, tq_il 1, tq_if2 (fun x y => decide (y ≤ x)) 36, tq_il 3, tq_lc 1, tq_il 1, tq_call s_c_numberOnW 3 0 0, tq_is 6 3, tq_ic 1, tq_il 3, tq_i2 (fun x y => x <<< (y &&& 31)), tq_is 6 5, tq_il 3, tq_ic 1, tq_if2 (fun x y => decide (x < y)) 28, tq_il 3, tq_il 1, tq_if2 (fun x y => decide (y < x)) 28, tq_il 2, tq_il 5, tq_i2 (fun x y => x &&& y), tq_if1 (fun x => decide (x = 0)) 30, tq_ic 0, tq_zret 0, tq_il 2, tq_il 5, tq_i2 (fun x y => x ||| y), tq_is 6 2, tq_inc 6 4 1, tq_go 6, tq_il 3, tq_il 0, tq_s2 (fun x y => !decide (x = y)) 1 0 42, tq_ic 1, tq_go 42, tq_ic 0, tq_zret 0]
def m_c_comesToEachOnceW : RM := rMeth tb_c_comesToEachOnceW 400 6
abbrev rm_c_comesToEachOnceW : Room := { frames := 3, cells := 0, slots := 0, locals := 70 }
set_option maxHeartbeats 4000000 in
set_option maxRecDepth 20000 in
theorem ok_c_comesToEachOnceW : rMet y_c_comesToEachOnce (Cond.code y_c_comesToEachOnce prog_1_method_82_code 6 (some .boolean) :: rT) rm_c_comesToEachOnceW 0 m_c_comesToEachOnceW := by
  refine rMeth_ok (ps := ps_c_comesToEachOnceW) (tab := tb_c_comesToEachOnceW) (by decide +kernel) rfl rfl rfl rfl ?_
  refine rcons (ro_iconst (n := 0) (by decide +kernel) rfl rfl) ?_
  refine rcons (ro_istore_n (k := 2) rfl (by decide +kernel) rfl) ?_
  refine rcons (ro_iload_n (k := 0) rfl (by decide +kernel) rfl) ?_
  refine rcons (ro_istore_n (k := 3) rfl (by decide +kernel) rfl) ?_
  refine rcons (ro_iconst (n := 0) (by decide +kernel) rfl rfl) ?_
  refine rcons (ro_istore (by decide +kernel) rfl) ?_
  refine rcons (ro_iload (by decide +kernel) rfl) ?_
  refine rcons (ro_iload_n (k := 1) rfl (by decide +kernel) rfl) ?_
  refine rcons (ro_icmp_ge (off := 45) (by decide +kernel) rfl rfl) ?_
  refine rcons (ro_iload_n (k := 3) rfl (by decide +kernel) rfl) ?_
  refine rcons (ro_lconst (n := 1) (by decide +kernel) rfl rfl) ?_
  refine rcons (ro_iload_n (k := 1) rfl (by decide +kernel) rfl) ?_
  refine rcons (ro_callS okW_c_numberOn (by decide +kernel) rfl (fun s args ht => va_cwS 3 ht (rgoodS (fun w h => List.mem_cons_of_mem _ h) q_445 q_446 q_13 q_447) rfl rfl rfl hy_c_numberOn ⟨Nat.le_of_ble_eq_true rfl, Nat.le_of_ble_eq_true rfl⟩) rfl) ?_
  refine rcons (ro_istore_n (k := 3) rfl (by decide +kernel) rfl) ?_
  refine rcons (ro_iconst (n := 1) (by decide +kernel) rfl rfl) ?_
  refine rcons (ro_iload_n (k := 3) rfl (by decide +kernel) rfl) ?_
  refine rcons (ro_ishl (by decide +kernel) rfl) ?_
  refine rcons (ro_istore (by decide +kernel) rfl) ?_
  refine rcons (ro_iload_n (k := 3) rfl (by decide +kernel) rfl) ?_
  refine rcons (ro_iconst (n := 1) (by decide +kernel) rfl rfl) ?_
  refine rcons (ro_icmp_lt (off := 15) (by decide +kernel) rfl rfl) ?_
  refine rcons (ro_iload_n (k := 3) rfl (by decide +kernel) rfl) ?_
  refine rcons (ro_iload_n (k := 1) rfl (by decide +kernel) rfl) ?_
  refine rcons (ro_icmp_gt (off := 10) (by decide +kernel) rfl rfl) ?_
  refine rcons (ro_iload_n (k := 2) rfl (by decide +kernel) rfl) ?_
  refine rcons (ro_iload (by decide +kernel) rfl) ?_
  refine rcons (ro_iand (by decide +kernel) rfl) ?_
  refine rcons (ro_if_eq (off := 5) (by decide +kernel) rfl rfl) ?_
  refine rcons (ro_iconst (n := 0) (by decide +kernel) rfl rfl) ?_
  refine rcons (ro_zret (by decide +kernel)) ?_
  refine rcons (ro_iload_n (k := 2) rfl (by decide +kernel) rfl) ?_
  refine rcons (ro_iload (by decide +kernel) rfl) ?_
  refine rcons (ro_ior (by decide +kernel) rfl) ?_
  refine rcons (ro_istore_n (k := 2) rfl (by decide +kernel) rfl) ?_
  refine rcons (ro_iinc (by decide +kernel) rfl) ?_
  refine rcons (ro_goto (off := (-45)) (by decide +kernel) rfl) ?_
  refine rcons (ro_iload_n (k := 3) rfl (by decide +kernel) rfl) ?_
  refine rcons (ro_iload_n (k := 0) rfl (by decide +kernel) rfl) ?_
  refine rcons (ro_s2_ne (off := 7) (off2 := 4) (n1 := 1) (n2 := 0) (by decide +kernel) (by decide +kernel) rfl (by decide +kernel) (by decide +kernel) rfl rfl rfl rfl) ?_
  refine rcons (ro_iconst (n := 1) (by decide +kernel) rfl rfl) ?_
  refine rcons (ro_goto (off := 4) (by decide +kernel) rfl) ?_
  refine rcons (ro_iconst (n := 0) (by decide +kernel) rfl rfl) ?_
  refine rcons (ro_zret (by decide +kernel)) ?_
  exact rnil
set_option maxHeartbeats 4000000 in
set_option maxRecDepth 20000 in
theorem okW_c_comesToEachOnce : rMet y_c_comesToEachOnce (Cond.code y_c_comesToEachOnce prog_1_method_82_code 6 (some .boolean) :: rT) rm_c_comesToEachOnceW 0 (sAnyB pStSz) := by
  refine any_B ok_c_comesToEachOnceW (fun as σ h => ?_)
  have pst7 : True := trivial
  have pst12 : True := trivial
  have pyear : True := trivial
  obtain ⟨g, s, h⟩ := h
  rcases h with ⟨rfl, hs⟩ | ⟨rfl, hs⟩
  · refine ⟨[rI false s, rI true 7], fun _ => rfl, ?_⟩
    repeat' (first | with_reducible exact qL | with_reducible exact qI | with_reducible exact qB0 | with_reducible exact qB1 | with_reducible exact qBc | with_reducible exact pli | with_reducible exact pll | with_reducible exact pli' | with_reducible assumption | refine And.intro ?_ ?_ | exact ⟨_, rfl, _, _, rfl⟩ | exact ⟨_, rfl, _, _, rfl, Or.inl rfl⟩ | exact ⟨_, rfl, _, _, rfl, Or.inr rfl⟩ | exact ⟨_, rfl, _, _, rfl, b01 _⟩ | with_reducible exact and_mk (by first | with_reducible assumption | with_reducible exact dM_O (by with_reducible assumption) | with_reducible exact dD_O (by with_reducible assumption) | with_reducible exact dM_D (by with_reducible assumption) | assumption | exact dM_O (by assumption) | exact dD_O (by assumption) | exact dM_D (by assumption) | rfl) rfl | (intro h; first | with_reducible exact rno (s01 _) h | exact absurd h (by decide) | skip) | exact pst7 rfl | exact pst12 rfl | exact pyear | exact and_mk (by first | with_reducible assumption | with_reducible exact dM_O (by with_reducible assumption) | with_reducible exact dD_O (by with_reducible assumption) | with_reducible exact dM_D (by with_reducible assumption) | assumption | exact dM_O (by assumption) | exact dD_O (by assumption) | exact dM_D (by assumption) | rfl) rfl | assumption | exact qI | exact qB0 | exact qB1 | exact qBc | rfl)
  · refine ⟨[rI false s, rI true 12], fun _ => rfl, ?_⟩
    repeat' (first | with_reducible exact qL | with_reducible exact qI | with_reducible exact qB0 | with_reducible exact qB1 | with_reducible exact qBc | with_reducible exact pli | with_reducible exact pll | with_reducible exact pli' | with_reducible assumption | refine And.intro ?_ ?_ | exact ⟨_, rfl, _, _, rfl⟩ | exact ⟨_, rfl, _, _, rfl, Or.inl rfl⟩ | exact ⟨_, rfl, _, _, rfl, Or.inr rfl⟩ | exact ⟨_, rfl, _, _, rfl, b01 _⟩ | with_reducible exact and_mk (by first | with_reducible assumption | with_reducible exact dM_O (by with_reducible assumption) | with_reducible exact dD_O (by with_reducible assumption) | with_reducible exact dM_D (by with_reducible assumption) | assumption | exact dM_O (by assumption) | exact dD_O (by assumption) | exact dM_D (by assumption) | rfl) rfl | (intro h; first | with_reducible exact rno (s01 _) h | exact absurd h (by decide) | skip) | exact pst7 rfl | exact pst12 rfl | exact pyear | exact and_mk (by first | with_reducible assumption | with_reducible exact dM_O (by with_reducible assumption) | with_reducible exact dD_O (by with_reducible assumption) | with_reducible exact dM_D (by with_reducible assumption) | assumption | exact dM_O (by assumption) | exact dD_O (by assumption) | exact dM_D (by assumption) | rfl) rfl | assumption | exact qI | exact qB0 | exact qB1 | exact qBc | rfl)
def ps_c_isRingSoundW : List Nat := [0, 1, 2, 3, 4, 7, 8, 9, 10, 11, 12, 13, 16, 17, 20, 21, 24, 25, 26, 27, 30, 31, 34, 35, 36, 37, 38, 39, 40, 43, 44, 47, 48, 49, 50, 51, 54, 55, 58, 59, 62, 63, 64, 65, 68, 69, 72, 73, 74, 77, 80, 81, 82, 85, 88, 89]
def tb_c_isRingSoundW : List RT := [tq_ic 1, tq_is 4 1, tq_il 1, tq_il 0, tq_if2 (fun x y => decide (y < x)) 54, tq_ic 1, tq_il 1, tq_ic 1, tq_i2 (fun x y => x - y), tq_i2l, tq_il 0, tq_call s_c_numberOnW 3 0 0, tq_il 1, tq_if2 (fun x y => !decide (x = y)) 22, tq_il 1, tq_call m_c_placeOf 1 0 0, tq_il 1, tq_ic 1, tq_i2 (fun x y => x - y), tq_s2 (fun x y => !decide (x = y)) 1 0 23, tq_ic 1, tq_go 23, tq_ic 0, tq_is 4 2, tq_il 1, tq_il 0, tq_i2l, tq_il 0, tq_call s_c_numberOnW 3 0 0, tq_il 1, tq_if2 (fun x y => !decide (x = y)) 40, tq_il 1, tq_il 0, tq_i2l, tq_il 0, tq_call s_c_numberOnW 3 0 0, tq_il 1, tq_s2 (fun x y => !decide (x = y)) 1 0 41, tq_ic 1, tq_go 41, tq_ic 0, tq_is 4 3, tq_il 2, tq_if1 (fun x => decide (x = 0)) 50, tq_il 3, tq_if1 (fun x => decide (x = 0)) 50, tq_il 1, tq_il 0, tq_call (sAnyB pStSz) 2 0 0, tq_if1 (fun x => !decide (x = 0)) 52, tq_ic 0, tq_zret 0, tq_inc 4 1 1, tq_go 2, tq_ic 1, tq_zret 0]
def m_c_isRingSoundW : RM := rMeth tb_c_isRingSoundW 1200 4
abbrev rm_c_isRingSoundW : Room := { frames := 4, cells := 0, slots := 0, locals := 95 }
set_option maxHeartbeats 4000000 in
set_option maxRecDepth 20000 in
theorem ok_c_isRingSoundW : rMet y_c_isRingSound (Cond.code y_c_isRingSound prog_1_method_81_code 4 (some .boolean) :: rT) rm_c_isRingSoundW 0 m_c_isRingSoundW := by
  refine rMeth_ok (ps := ps_c_isRingSoundW) (tab := tb_c_isRingSoundW) (by decide +kernel) rfl rfl rfl rfl ?_
  refine rcons (ro_iconst (n := 1) (by decide +kernel) rfl rfl) ?_
  refine rcons (ro_istore_n (k := 1) rfl (by decide +kernel) rfl) ?_
  refine rcons (ro_iload_n (k := 1) rfl (by decide +kernel) rfl) ?_
  refine rcons (ro_iload_n (k := 0) rfl (by decide +kernel) rfl) ?_
  refine rcons (ro_icmp_gt (off := 84) (by decide +kernel) rfl rfl) ?_
  refine rcons (ro_iconst (n := 1) (by decide +kernel) rfl rfl) ?_
  refine rcons (ro_iload_n (k := 1) rfl (by decide +kernel) rfl) ?_
  refine rcons (ro_iconst (n := 1) (by decide +kernel) rfl rfl) ?_
  refine rcons (ro_isub (by decide +kernel) rfl) ?_
  refine rcons (ro_i2l (by decide +kernel) rfl) ?_
  refine rcons (ro_iload_n (k := 0) rfl (by decide +kernel) rfl) ?_
  refine rcons (ro_callS okW_c_numberOn (by decide +kernel) rfl (fun s args ht => va_cwS 3 ht (rgoodS (fun w h => List.mem_cons_of_mem _ h) q_445 q_446 q_13 q_447) rfl rfl rfl hy_c_numberOn ⟨Nat.le_of_ble_eq_true rfl, Nat.le_of_ble_eq_true rfl⟩) rfl) ?_
  refine rcons (ro_iload_n (k := 1) rfl (by decide +kernel) rfl) ?_
  refine rcons (ro_icmp_ne (off := 17) (by decide +kernel) rfl rfl) ?_
  refine rcons (ro_iload_n (k := 1) rfl (by decide +kernel) rfl) ?_
  refine rcons (ro_callS ok_c_placeOf (by decide +kernel) rfl (fun s args ht => va_cwS 1 ht (rgoodS (fun w h => List.mem_cons_of_mem _ h) q_448 q_449 q_13 q_450) rfl rfl rfl hy_c_placeOf ⟨Nat.le_of_ble_eq_true rfl, Nat.le_of_ble_eq_true rfl⟩) rfl) ?_
  refine rcons (ro_iload_n (k := 1) rfl (by decide +kernel) rfl) ?_
  refine rcons (ro_iconst (n := 1) (by decide +kernel) rfl rfl) ?_
  refine rcons (ro_isub (by decide +kernel) rfl) ?_
  refine rcons (ro_s2_ne (off := 7) (off2 := 4) (n1 := 1) (n2 := 0) (by decide +kernel) (by decide +kernel) rfl (by decide +kernel) (by decide +kernel) rfl rfl rfl rfl) ?_
  refine rcons (ro_iconst (n := 1) (by decide +kernel) rfl rfl) ?_
  refine rcons (ro_goto (off := 4) (by decide +kernel) rfl) ?_
  refine rcons (ro_iconst (n := 0) (by decide +kernel) rfl rfl) ?_
  refine rcons (ro_istore_n (k := 2) rfl (by decide +kernel) rfl) ?_
  refine rcons (ro_iload_n (k := 1) rfl (by decide +kernel) rfl) ?_
  refine rcons (ro_iload_n (k := 0) rfl (by decide +kernel) rfl) ?_
  refine rcons (ro_i2l (by decide +kernel) rfl) ?_
  refine rcons (ro_iload_n (k := 0) rfl (by decide +kernel) rfl) ?_
  refine rcons (ro_callS okW_c_numberOn (by decide +kernel) rfl (fun s args ht => va_cwS 3 ht (rgoodS (fun w h => List.mem_cons_of_mem _ h) q_445 q_446 q_13 q_447) rfl rfl rfl hy_c_numberOn ⟨Nat.le_of_ble_eq_true rfl, Nat.le_of_ble_eq_true rfl⟩) rfl) ?_
  refine rcons (ro_iload_n (k := 1) rfl (by decide +kernel) rfl) ?_
  refine rcons (ro_icmp_ne (off := 18) (by decide +kernel) rfl rfl) ?_
  refine rcons (ro_iload_n (k := 1) rfl (by decide +kernel) rfl) ?_
  refine rcons (ro_iload_n (k := 0) rfl (by decide +kernel) rfl) ?_
  refine rcons (ro_i2l (by decide +kernel) rfl) ?_
  refine rcons (ro_iload_n (k := 0) rfl (by decide +kernel) rfl) ?_
  refine rcons (ro_callS okW_c_numberBack (by decide +kernel) rfl (fun s args ht => va_cwS 3 ht (rgoodS (fun w h => List.mem_cons_of_mem _ h) q_457 q_458 q_13 q_459) rfl rfl rfl hy_c_numberBack ⟨Nat.le_of_ble_eq_true rfl, Nat.le_of_ble_eq_true rfl⟩) rfl) ?_
  refine rcons (ro_iload_n (k := 1) rfl (by decide +kernel) rfl) ?_
  refine rcons (ro_s2_ne (off := 7) (off2 := 4) (n1 := 1) (n2 := 0) (by decide +kernel) (by decide +kernel) rfl (by decide +kernel) (by decide +kernel) rfl rfl rfl rfl) ?_
  refine rcons (ro_iconst (n := 1) (by decide +kernel) rfl rfl) ?_
  refine rcons (ro_goto (off := 4) (by decide +kernel) rfl) ?_
  refine rcons (ro_iconst (n := 0) (by decide +kernel) rfl rfl) ?_
  refine rcons (ro_istore_n (k := 3) rfl (by decide +kernel) rfl) ?_
  refine rcons (ro_iload_n (k := 2) rfl (by decide +kernel) rfl) ?_
  refine rcons (ro_if_eq (off := 15) (by decide +kernel) rfl rfl) ?_
  refine rcons (ro_iload_n (k := 3) rfl (by decide +kernel) rfl) ?_
  refine rcons (ro_if_eq (off := 11) (by decide +kernel) rfl rfl) ?_
  refine rcons (ro_iload_n (k := 1) rfl (by decide +kernel) rfl) ?_
  refine rcons (ro_iload_n (k := 0) rfl (by decide +kernel) rfl) ?_
  refine rcons (ro_callS okW_c_comesToEachOnce (by decide +kernel) rfl (fun s args ht => va_cwS 2 ht (rgoodS (fun w h => List.mem_cons_of_mem _ h) q_460 q_461 q_13 q_462) rfl rfl rfl hy_c_comesToEachOnce ⟨Nat.le_of_ble_eq_true rfl, Nat.le_of_ble_eq_true rfl⟩) rfl) ?_
  refine rcons (ro_if_ne (off := 5) (by decide +kernel) rfl rfl) ?_
  refine rcons (ro_iconst (n := 0) (by decide +kernel) rfl rfl) ?_
  refine rcons (ro_zret (by decide +kernel)) ?_
  refine rcons (ro_iinc (by decide +kernel) rfl) ?_
  refine rcons (ro_goto (off := (-83)) (by decide +kernel) rfl) ?_
  refine rcons (ro_iconst (n := 1) (by decide +kernel) rfl rfl) ?_
  refine rcons (ro_zret (by decide +kernel)) ?_
  exact rnil
theorem pst7 {g : Bool} {s : Int32} {σ : List RC} (h : dO s 7 = true) : pStSz [rI g s, rI true 7] σ := ⟨g, s, Or.inl ⟨rfl, h⟩⟩
theorem pst12 {g : Bool} {s : Int32} {σ : List RC} (h : dO s 12 = true) : pStSz [rI g s, rI true 12] σ := ⟨g, s, Or.inr ⟨rfl, h⟩⟩
set_option maxHeartbeats 40000000 in
set_option maxRecDepth 20000 in
theorem ring_7 {σ : List RC} : m_c_isRingSoundW [rI true 7] σ (QB σ) := by
  have pyear : True := trivial
  repeat' (first | with_reducible exact qL | with_reducible exact qI | with_reducible exact qB0 | with_reducible exact qB1 | with_reducible exact qBc | with_reducible exact pli | with_reducible exact pll | with_reducible exact pli' | with_reducible assumption | refine And.intro ?_ ?_ | exact ⟨_, rfl, _, _, rfl⟩ | exact ⟨_, rfl, _, _, rfl, Or.inl rfl⟩ | exact ⟨_, rfl, _, _, rfl, Or.inr rfl⟩ | exact ⟨_, rfl, _, _, rfl, b01 _⟩ | with_reducible exact and_mk (by first | with_reducible assumption | with_reducible exact dM_O (by with_reducible assumption) | with_reducible exact dD_O (by with_reducible assumption) | with_reducible exact dM_D (by with_reducible assumption) | assumption | exact dM_O (by assumption) | exact dD_O (by assumption) | exact dM_D (by assumption) | rfl) rfl | (intro h; first | with_reducible exact rno (s01 _) h | exact absurd h (by decide) | skip) | exact pst7 rfl | exact pst12 rfl | exact pyear | exact and_mk (by first | with_reducible assumption | with_reducible exact dM_O (by with_reducible assumption) | with_reducible exact dD_O (by with_reducible assumption) | with_reducible exact dM_D (by with_reducible assumption) | assumption | exact dM_O (by assumption) | exact dD_O (by assumption) | exact dM_D (by assumption) | rfl) rfl | assumption | exact qI | exact qB0 | exact qB1 | exact qBc | rfl)
set_option maxHeartbeats 40000000 in
set_option maxRecDepth 20000 in
theorem ring_12 {σ : List RC} : m_c_isRingSoundW [rI true 12] σ (QB σ) := by
  have pyear : True := trivial
  repeat' (first | with_reducible exact qL | with_reducible exact qI | with_reducible exact qB0 | with_reducible exact qB1 | with_reducible exact qBc | with_reducible exact pli | with_reducible exact pll | with_reducible exact pli' | with_reducible assumption | refine And.intro ?_ ?_ | exact ⟨_, rfl, _, _, rfl⟩ | exact ⟨_, rfl, _, _, rfl, Or.inl rfl⟩ | exact ⟨_, rfl, _, _, rfl, Or.inr rfl⟩ | exact ⟨_, rfl, _, _, rfl, b01 _⟩ | with_reducible exact and_mk (by first | with_reducible assumption | with_reducible exact dM_O (by with_reducible assumption) | with_reducible exact dD_O (by with_reducible assumption) | with_reducible exact dM_D (by with_reducible assumption) | assumption | exact dM_O (by assumption) | exact dD_O (by assumption) | exact dM_D (by assumption) | rfl) rfl | (intro h; first | with_reducible exact rno (s01 _) h | exact absurd h (by decide) | skip) | exact pst7 rfl | exact pst12 rfl | exact pyear | exact and_mk (by first | with_reducible assumption | with_reducible exact dM_O (by with_reducible assumption) | with_reducible exact dD_O (by with_reducible assumption) | with_reducible exact dM_D (by with_reducible assumption) | assumption | exact dM_O (by assumption) | exact dD_O (by assumption) | exact dM_D (by assumption) | rfl) rfl | assumption | exact qI | exact qB0 | exact qB1 | exact qBc | rfl)
set_option maxHeartbeats 4000000 in
set_option maxRecDepth 20000 in
theorem okW_c_isRingSound : rMet y_c_isRingSound (Cond.code y_c_isRingSound prog_1_method_81_code 4 (some .boolean) :: rT) rm_c_isRingSoundW 0 (sAnyB pSz) := by
  refine any_B ok_c_isRingSoundW (fun as σ h => ?_)
  rcases h with rfl | rfl
  · exact ⟨[rI true 7], fun _ => rfl, ring_7⟩
  · exact ⟨[rI true 12], fun _ => rfl, ring_12⟩
def ps_c_areMonthsSoundW : List Nat := [0, 1, 2, 3, 5, 8, 9, 10, 13, 14, 17, 20, 21, 22, 25, 26, 29, 32, 33, 36, 37, 38, 39, 40, 43, 46, 47, 48, 51, 54, 55, 58, 59, 60, 61, 64, 65, 68, 69, 72, 75, 76, 77, 80, 83, 84]
def tb_c_areMonthsSoundW : List RT := [tq_ic 1, tq_is 3 0, tq_il 0, tq_ic 12, tq_if2 (fun x y => decide (y < x)) 44, tq_il 0, tq_ic 0, tq_call s_c_lengthOf 2 0 0, tq_il 0, tq_call m_c_leastOf 1 0 0, tq_if2 (fun x y => !decide (x = y)) 19, tq_il 0, tq_ic 1, tq_call s_c_lengthOf 2 0 0, tq_il 0, tq_call m_c_greatestOf 1 0 0, tq_s2 (fun x y => !decide (x = y)) 1 0 20, tq_ic 1, tq_go 20, tq_ic 0, tq_is 3 1, tq_il 0, tq_ic 0, tq_call m_c_isFirstSound 2 0 0, tq_if1 (fun x => decide (x = 0)) 31, tq_il 0, tq_ic 1, tq_call m_c_isFirstSound 2 0 0, tq_s1 (fun x => decide (x = 0)) 1 0 32, tq_ic 1, tq_go 32, tq_ic 0, tq_is 3 2, tq_il 1, tq_if1 (fun x => decide (x = 0)) 40, tq_il 2, tq_if1 (fun x => decide (x = 0)) 40, tq_il 0, tq_call m_c_isQuarterSound 1 0 0, tq_if1 (fun x => !decide (x = 0)) 42, tq_ic 0, tq_zret 0, tq_inc 3 0 1, tq_go 2, tq_ic 1, tq_zret 0]
def m_c_areMonthsSoundW : RM := rMeth tb_c_areMonthsSoundW 1200 3
abbrev rm_c_areMonthsSoundW : Room := { frames := 4, cells := 0, slots := 0, locals := 92 }
set_option maxHeartbeats 4000000 in
set_option maxRecDepth 20000 in
theorem ok_c_areMonthsSoundW : rMet y_c_areMonthsSound (Cond.code y_c_areMonthsSound prog_1_method_83_code 3 (some .boolean) :: rT) rm_c_areMonthsSoundW 0 m_c_areMonthsSoundW := by
  refine rMeth_ok (ps := ps_c_areMonthsSoundW) (tab := tb_c_areMonthsSoundW) (by decide +kernel) rfl rfl rfl rfl ?_
  refine rcons (ro_iconst (n := 1) (by decide +kernel) rfl rfl) ?_
  refine rcons (ro_istore_n (k := 0) rfl (by decide +kernel) rfl) ?_
  refine rcons (ro_iload_n (k := 0) rfl (by decide +kernel) rfl) ?_
  refine rcons (ro_bipush (n := 12) (by decide +kernel) rfl rfl) ?_
  refine rcons (ro_icmp_gt (off := 78) (by decide +kernel) rfl rfl) ?_
  refine rcons (ro_iload_n (k := 0) rfl (by decide +kernel) rfl) ?_
  refine rcons (ro_iconst (n := 0) (by decide +kernel) rfl rfl) ?_
  refine rcons (ro_callS okS_c_lengthOf (by decide +kernel) rfl (fun s args ht => va_cwS 2 ht (rgoodS (fun w h => List.mem_cons_of_mem _ h) q_466 q_467 q_13 q_468) rfl rfl rfl hy_c_lengthOf ⟨Nat.le_of_ble_eq_true rfl, Nat.le_of_ble_eq_true rfl⟩) rfl) ?_
  refine rcons (ro_iload_n (k := 0) rfl (by decide +kernel) rfl) ?_
  refine rcons (ro_callS ok_c_leastOf (by decide +kernel) rfl (fun s args ht => va_cwS 1 ht (rgoodS (fun w h => List.mem_cons_of_mem _ h) q_469 q_470 q_13 q_471) rfl rfl rfl hy_c_leastOf ⟨Nat.le_of_ble_eq_true rfl, Nat.le_of_ble_eq_true rfl⟩) rfl) ?_
  refine rcons (ro_icmp_ne (off := 19) (by decide +kernel) rfl rfl) ?_
  refine rcons (ro_iload_n (k := 0) rfl (by decide +kernel) rfl) ?_
  refine rcons (ro_iconst (n := 1) (by decide +kernel) rfl rfl) ?_
  refine rcons (ro_callS okS_c_lengthOf (by decide +kernel) rfl (fun s args ht => va_cwS 2 ht (rgoodS (fun w h => List.mem_cons_of_mem _ h) q_466 q_467 q_13 q_468) rfl rfl rfl hy_c_lengthOf ⟨Nat.le_of_ble_eq_true rfl, Nat.le_of_ble_eq_true rfl⟩) rfl) ?_
  refine rcons (ro_iload_n (k := 0) rfl (by decide +kernel) rfl) ?_
  refine rcons (ro_callS ok_c_greatestOf (by decide +kernel) rfl (fun s args ht => va_cwS 1 ht (rgoodS (fun w h => List.mem_cons_of_mem _ h) q_473 q_474 q_13 q_475) rfl rfl rfl hy_c_greatestOf ⟨Nat.le_of_ble_eq_true rfl, Nat.le_of_ble_eq_true rfl⟩) rfl) ?_
  refine rcons (ro_s2_ne (off := 7) (off2 := 4) (n1 := 1) (n2 := 0) (by decide +kernel) (by decide +kernel) rfl (by decide +kernel) (by decide +kernel) rfl rfl rfl rfl) ?_
  refine rcons (ro_iconst (n := 1) (by decide +kernel) rfl rfl) ?_
  refine rcons (ro_goto (off := 4) (by decide +kernel) rfl) ?_
  refine rcons (ro_iconst (n := 0) (by decide +kernel) rfl rfl) ?_
  refine rcons (ro_istore_n (k := 1) rfl (by decide +kernel) rfl) ?_
  refine rcons (ro_iload_n (k := 0) rfl (by decide +kernel) rfl) ?_
  refine rcons (ro_iconst (n := 0) (by decide +kernel) rfl rfl) ?_
  refine rcons (ro_callS ok_c_isFirstSound (by decide +kernel) rfl (fun s args ht => va_cwS 2 ht (rgoodS (fun w h => List.mem_cons_of_mem _ h) q_477 q_478 q_13 q_479) rfl rfl rfl hy_c_isFirstSound ⟨Nat.le_of_ble_eq_true rfl, Nat.le_of_ble_eq_true rfl⟩) rfl) ?_
  refine rcons (ro_if_eq (off := 15) (by decide +kernel) rfl rfl) ?_
  refine rcons (ro_iload_n (k := 0) rfl (by decide +kernel) rfl) ?_
  refine rcons (ro_iconst (n := 1) (by decide +kernel) rfl rfl) ?_
  refine rcons (ro_callS ok_c_isFirstSound (by decide +kernel) rfl (fun s args ht => va_cwS 2 ht (rgoodS (fun w h => List.mem_cons_of_mem _ h) q_477 q_478 q_13 q_479) rfl rfl rfl hy_c_isFirstSound ⟨Nat.le_of_ble_eq_true rfl, Nat.le_of_ble_eq_true rfl⟩) rfl) ?_
  refine rcons (ro_s1_eq (off := 7) (off2 := 4) (n1 := 1) (n2 := 0) (by decide +kernel) (by decide +kernel) rfl (by decide +kernel) (by decide +kernel) rfl rfl rfl rfl) ?_
  refine rcons (ro_iconst (n := 1) (by decide +kernel) rfl rfl) ?_
  refine rcons (ro_goto (off := 4) (by decide +kernel) rfl) ?_
  refine rcons (ro_iconst (n := 0) (by decide +kernel) rfl rfl) ?_
  refine rcons (ro_istore_n (k := 2) rfl (by decide +kernel) rfl) ?_
  refine rcons (ro_iload_n (k := 1) rfl (by decide +kernel) rfl) ?_
  refine rcons (ro_if_eq (off := 14) (by decide +kernel) rfl rfl) ?_
  refine rcons (ro_iload_n (k := 2) rfl (by decide +kernel) rfl) ?_
  refine rcons (ro_if_eq (off := 10) (by decide +kernel) rfl rfl) ?_
  refine rcons (ro_iload_n (k := 0) rfl (by decide +kernel) rfl) ?_
  refine rcons (ro_callS ok_c_isQuarterSound (by decide +kernel) rfl (fun s args ht => va_cwS 1 ht (rgoodS (fun w h => List.mem_cons_of_mem _ h) q_483 q_484 q_13 q_485) rfl rfl rfl hy_c_isQuarterSound ⟨Nat.le_of_ble_eq_true rfl, Nat.le_of_ble_eq_true rfl⟩) rfl) ?_
  refine rcons (ro_if_ne (off := 5) (by decide +kernel) rfl rfl) ?_
  refine rcons (ro_iconst (n := 0) (by decide +kernel) rfl rfl) ?_
  refine rcons (ro_zret (by decide +kernel)) ?_
  refine rcons (ro_iinc (by decide +kernel) rfl) ?_
  refine rcons (ro_goto (off := (-78)) (by decide +kernel) rfl) ?_
  refine rcons (ro_iconst (n := 1) (by decide +kernel) rfl rfl) ?_
  refine rcons (ro_zret (by decide +kernel)) ?_
  exact rnil
def pNil : List AV → List RC → Prop := fun as _ => as = []
set_option maxHeartbeats 20000000 in
set_option maxRecDepth 20000 in
theorem okW_c_areMonthsSound : rMet y_c_areMonthsSound (Cond.code y_c_areMonthsSound prog_1_method_83_code 3 (some .boolean) :: rT) rm_c_areMonthsSoundW 0 (sAnyB pNil) := by
  refine any_B ok_c_areMonthsSoundW (fun as σ h => ?_)
  have pyear : True := trivial
  obtain rfl := h
  refine ⟨[], fun _ => rfl, ?_⟩
  repeat' (first | with_reducible exact qL | with_reducible exact qI | with_reducible exact qB0 | with_reducible exact qB1 | with_reducible exact qBc | with_reducible exact pli | with_reducible exact pll | with_reducible exact pli' | with_reducible assumption | refine And.intro ?_ ?_ | exact ⟨_, rfl, _, _, rfl⟩ | exact ⟨_, rfl, _, _, rfl, Or.inl rfl⟩ | exact ⟨_, rfl, _, _, rfl, Or.inr rfl⟩ | exact ⟨_, rfl, _, _, rfl, b01 _⟩ | with_reducible exact and_mk (by first | with_reducible assumption | with_reducible exact dM_O (by with_reducible assumption) | with_reducible exact dD_O (by with_reducible assumption) | with_reducible exact dM_D (by with_reducible assumption) | assumption | exact dM_O (by assumption) | exact dD_O (by assumption) | exact dM_D (by assumption) | rfl) rfl | (intro h; first | with_reducible exact rno (s01 _) h | exact absurd h (by decide) | skip) | exact pst7 rfl | exact pst12 rfl | exact pyear | exact and_mk (by first | with_reducible assumption | with_reducible exact dM_O (by with_reducible assumption) | with_reducible exact dD_O (by with_reducible assumption) | with_reducible exact dM_D (by with_reducible assumption) | assumption | exact dM_O (by assumption) | exact dD_O (by assumption) | exact dM_D (by assumption) | rfl) rfl | assumption | exact qI | exact qB0 | exact qB1 | exact qBc | rfl)
end RKM
