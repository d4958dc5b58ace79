section RKM
def ps_js_coder : List Nat := [0, 3, 6, 7, 10, 13, 14]
def tb_js_coder : List RT := [tq_ic 1, tq_if1 (fun x => decide (x = 0)) 5, tq_al 0, tq_scod, tq_go 6, tq_ic 1, tq_nret .byte 0]
def m_js_coder : RM := rMeth tb_js_coder 200 1
abbrev rm_js_coder : Room := { frames := 0, cells := 0, slots := 0, locals := 0 }
set_option maxHeartbeats 4000000 in
set_option maxRecDepth 20000 in
theorem ok_js_coder : rMet y_js_coder (Cond.code y_js_coder prog_14_method_152_code 1 (some .byte) :: rT) rm_js_coder 0 m_js_coder := by
  refine rMeth_ok (ps := ps_js_coder) (tab := tb_js_coder) (by decide +kernel) rfl rfl rfl rfl ?_
  refine rcons (ro_getsI (C := "java/lang/String") (n := "COMPACT_STRINGS") (d := "Z") (fun _ _ h => h.2.2.2.2.2.2.2.2.2.2.1) (List.mem_cons_of_mem _ q_239) (by decide +kernel) rfl) ?_
  refine rcons (ro_if_eq (off := 10) (by decide +kernel) rfl rfl) ?_
  refine rcons (ro_aload_n (k := 0) rfl (by decide +kernel) rfl) ?_
  refine rcons (ro_scod (List.mem_cons_of_mem _ q_401) (by decide +kernel) rfl) ?_
  refine rcons (ro_goto (off := 4) (by decide +kernel) rfl) ?_
  refine rcons (ro_iconst (n := 1) (by decide +kernel) rfl rfl) ?_
  refine rcons (ro_nret (by decide +kernel)) ?_
  exact rnil
def ps_js_isLatin1 : List Nat := [0, 3, 6, 7, 10, 13, 14, 17, 18]
def tb_js_isLatin1 : List RT := [tq_ic 1, tq_if1 (fun x => decide (x = 0)) 7, tq_al 0, tq_scod, tq_if1 (fun x => !decide (x = 0)) 7, tq_ic 1, tq_go 8, tq_ic 0, tq_nret .boolean 0]
def m_js_isLatin1 : RM := rMeth tb_js_isLatin1 200 1
abbrev rm_js_isLatin1 : Room := { frames := 0, cells := 0, slots := 0, locals := 0 }
set_option maxHeartbeats 4000000 in
set_option maxRecDepth 20000 in
theorem ok_js_isLatin1 : rMet y_js_isLatin1 (Cond.code y_js_isLatin1 prog_14_method_154_code 1 (some .boolean) :: rT) rm_js_isLatin1 0 m_js_isLatin1 := by
  refine rMeth_ok (ps := ps_js_isLatin1) (tab := tb_js_isLatin1) (by decide +kernel) rfl rfl rfl rfl ?_
  refine rcons (ro_getsI (C := "java/lang/String") (n := "COMPACT_STRINGS") (d := "Z") (fun _ _ h => h.2.2.2.2.2.2.2.2.2.2.1) (List.mem_cons_of_mem _ q_239) (by decide +kernel) rfl) ?_
  refine rcons (ro_if_eq (off := 14) (by decide +kernel) rfl rfl) ?_
  refine rcons (ro_aload_n (k := 0) rfl (by decide +kernel) rfl) ?_
  refine rcons (ro_scod (List.mem_cons_of_mem _ q_401) (by decide +kernel) rfl) ?_
  refine rcons (ro_if_ne (off := 7) (by decide +kernel) rfl rfl) ?_
  refine rcons (ro_iconst (n := 1) (by decide +kernel) rfl rfl) ?_
  refine rcons (ro_goto (off := 4) (by decide +kernel) rfl) ?_
  refine rcons (ro_iconst (n := 0) (by decide +kernel) rfl rfl) ?_
  refine rcons (ro_nret (by decide +kernel)) ?_
  exact rnil
def ps_js_length : List Nat := [0, 1, 4, 5, 6, 9, 10]
def tb_js_length : List RT := [tq_al 0, tq_sval, tq_slen, tq_al 0, tq_callH (rVK m_js_coder) 1 0 0 [], tq_i2 (fun x y => x >>> (y &&& 31)), tq_iret 0]
def m_js_length : RM := rMeth tb_js_length 200 1
abbrev rm_js_length : Room := { frames := 1, cells := 0, slots := 0, locals := 20 }
set_option maxHeartbeats 4000000 in
set_option maxRecDepth 20000 in
theorem ok_js_length : rMet y_js_length (Cond.code y_js_length prog_14_method_54_code 1 (some .int) :: rT) rm_js_length 0 m_js_length := by
  refine rMeth_ok (ps := ps_js_length) (tab := tb_js_length) (by decide +kernel) rfl rfl rfl rfl ?_
  refine rcons (ro_aload_n (k := 0) rfl (by decide +kernel) rfl) ?_
  refine rcons (ro_sval (List.mem_cons_of_mem _ q_400) (by decide +kernel) rfl) ?_
  refine rcons (ro_slen (by decide +kernel) rfl) ?_
  refine rcons (ro_aload_n (k := 0) rfl (by decide +kernel) rfl) ?_
  refine rcons (ro_callK0 ok_js_coder (by decide +kernel) (fun s args ht => cwV (C := rN4) 0 ht (rgoodV (C := rN4) (fun w h => List.mem_cons_of_mem _ h) q_235 q_236 q_237 q_25 q_238) rfl rfl rfl hv_js_coder ⟨Nat.le_of_ble_eq_true rfl, Nat.le_of_ble_eq_true rfl⟩) rfl) ?_
  refine rcons (ro_ishr (by decide +kernel) rfl) ?_
  refine rcons (ro_iret (by decide +kernel)) ?_
  exact rnil
def ps_jp_checkIndex : List Nat := [0, 1, 4, 5, 6, 9, 10, 11, 12, 15, 16, 17]
def tb_jp_checkIndex : List RT := [tq_il 0, tq_if1 (fun x => decide (x < 0)) 5, tq_il 0, tq_il 1, tq_if2 (fun x y => decide (x < y)) 10, tq_bad, tq_bad, tq_bad, tq_bad, tq_bad, tq_il 0, tq_iret 0]
def m_jp_checkIndex : RM := rMeth tb_jp_checkIndex 200 3
abbrev rm_jp_checkIndex : Room := { frames := 0, cells := 0, slots := 0, locals := 0 }
set_option maxHeartbeats 4000000 in
set_option maxRecDepth 20000 in
theorem ok_jp_checkIndex : rMet y_jp_checkIndex (Cond.code y_jp_checkIndex prog_22_method_11_code 3 (some .int) :: rT) rm_jp_checkIndex 0 m_jp_checkIndex := by
  refine rMeth_ok (ps := ps_jp_checkIndex) (tab := tb_jp_checkIndex) (by decide +kernel) rfl rfl rfl rfl ?_
  refine rcons (ro_iload_n (k := 0) rfl (by decide +kernel) rfl) ?_
  refine rcons (ro_if_lt (off := 8) (by decide +kernel) rfl rfl) ?_
  refine rcons (ro_iload_n (k := 0) rfl (by decide +kernel) rfl) ?_
  refine rcons (ro_iload_n (k := 1) rfl (by decide +kernel) rfl) ?_
  refine rcons (ro_icmp_lt (off := 10) (by decide +kernel) rfl rfl) ?_
  refine rcons (ro_bad) ?_
  refine rcons (ro_bad) ?_
  refine rcons (ro_bad) ?_
  refine rcons (ro_bad) ?_
  refine rcons (ro_bad) ?_
  refine rcons (ro_iload_n (k := 0) rfl (by decide +kernel) rfl) ?_
  refine rcons (ro_iret (by decide +kernel)) ?_
  exact rnil
def ps_js_checkIndex : List Nat := [0, 1, 2, 5, 8, 9]
def tb_js_checkIndex : List RT := [tq_il 0, tq_il 1, tq_any, tq_callH m_jp_checkIndex 3 0 0 [], tq_pop, tq_vret 0]
def m_js_checkIndex : RM := rMeth tb_js_checkIndex 200 2
abbrev rm_js_checkIndex : Room := { frames := 1, cells := 0, slots := 0, locals := 22 }
set_option maxHeartbeats 4000000 in
set_option maxRecDepth 20000 in
theorem ok_js_checkIndex : rMet y_js_checkIndex (Cond.code y_js_checkIndex prog_14_method_155_code 2 none :: rT) rm_js_checkIndex 0 m_js_checkIndex := by
  refine rMeth_ok (ps := ps_js_checkIndex) (tab := tb_js_checkIndex) (by decide +kernel) rfl rfl rfl rfl ?_
  refine rcons (ro_iload_n (k := 0) rfl (by decide +kernel) rfl) ?_
  refine rcons (ro_iload_n (k := 1) rfl (by decide +kernel) rfl) ?_
  refine rcons (ro_getsQ (C := "jdk/internal/util/Preconditions") (n := "SIOOBE_FORMATTER") (d := "Ljava/util/function/BiFunction;") (fun _ _ h => h.2.2.2.2.2.2.2.2.2.2.2.1) (List.mem_cons_of_mem _ q_172) (by decide +kernel) rfl) ?_
  refine rcons (ro_callS0 ok_jp_checkIndex (by decide +kernel) (fun s args ht => va_cwS 3 ht (rgoodS (fun w h => List.mem_cons_of_mem _ h) q_195 q_196 q_31 q_197) rfl rfl rfl hy_jp_checkIndex ⟨Nat.le_of_ble_eq_true rfl, Nat.le_of_ble_eq_true rfl⟩) rfl) ?_
  refine rcons (ro_pop (by decide +kernel) rfl) ?_
  refine rcons (ro_vret (by decide +kernel)) ?_
  exact rnil
def ps_jl_charAt : List Nat := [0, 1, 2, 3, 6, 7, 8, 9, 12, 13, 14]
def tb_jl_charAt : List RT := [tq_il 1, tq_al 0, tq_slen, tq_callH m_js_checkIndex 2 0 0 [], tq_al 0, tq_il 1, tq_sald, tq_ic 255, tq_i2 (fun x y => x &&& y), tq_i1f (fun x => (x.toUInt32 % 65536).toInt32), tq_nret .char 0]
def m_jl_charAt : RM := rMeth tb_jl_charAt 200 2
abbrev rm_jl_charAt : Room := { frames := 2, cells := 0, slots := 0, locals := 43 }
set_option maxHeartbeats 4000000 in
set_option maxRecDepth 20000 in
theorem ok_jl_charAt : rMet y_jl_charAt (Cond.code y_jl_charAt prog_16_method_2_code 2 (some .char) :: rT) rm_jl_charAt 0 m_jl_charAt := by
  refine rMeth_ok (ps := ps_jl_charAt) (tab := tb_jl_charAt) (by decide +kernel) rfl rfl rfl rfl ?_
  refine rcons (ro_iload_n (k := 1) rfl (by decide +kernel) rfl) ?_
  refine rcons (ro_aload_n (k := 0) rfl (by decide +kernel) rfl) ?_
  refine rcons (ro_slen (by decide +kernel) rfl) ?_
  refine rcons (ro_callS0 ok_js_checkIndex (by decide +kernel) (fun s args ht => va_cwS 2 ht (rgoodS (fun w h => List.mem_cons_of_mem _ h) q_545 q_193 q_25 q_194) rfl rfl rfl hy_js_checkIndex ⟨Nat.le_of_ble_eq_true rfl, Nat.le_of_ble_eq_true rfl⟩) rfl) ?_
  refine rcons (ro_aload_n (k := 0) rfl (by decide +kernel) rfl) ?_
  refine rcons (ro_iload_n (k := 1) rfl (by decide +kernel) rfl) ?_
  refine rcons (ro_sald (by decide +kernel) rfl) ?_
  refine rcons (ro_sipush (n := 255) (by decide +kernel) rfl rfl) ?_
  refine rcons (ro_iand (by decide +kernel) rfl) ?_
  refine rcons (ro_i2c (by decide +kernel) rfl) ?_
  refine rcons (ro_nret (by decide +kernel)) ?_
  exact rnil
def ps_js_charAt : List Nat := [0, 1, 4, 7, 8, 11, 12, 15, 16, 17, 20, 21, 24]
def tb_js_charAt : List RT := [tq_al 0, tq_callH (rVK m_js_isLatin1) 1 0 0 [], tq_if1 (fun x => decide (x = 0)) 8, tq_al 0, tq_sval, tq_il 1, tq_callH m_jl_charAt 2 0 0 [], tq_nret .char 0, tq_bad, tq_bad, tq_bad, tq_bad, tq_bad]
def m_js_charAt : RM := rMeth tb_js_charAt 200 2
abbrev rm_js_charAt : Room := { frames := 3, cells := 0, slots := 0, locals := 64 }
set_option maxHeartbeats 4000000 in
set_option maxRecDepth 20000 in
theorem ok_js_charAt : rMet y_js_charAt (Cond.code y_js_charAt prog_14_method_56_code 2 (some .char) :: rT) rm_js_charAt 0 m_js_charAt := by
  refine rMeth_ok (ps := ps_js_charAt) (tab := tb_js_charAt) (by decide +kernel) rfl rfl rfl rfl ?_
  refine rcons (ro_aload_n (k := 0) rfl (by decide +kernel) rfl) ?_
  refine rcons (ro_callK0 ok_js_isLatin1 (by decide +kernel) (fun s args ht => cwV (C := rN4) 0 ht (rgoodV (C := rN4) (fun w h => List.mem_cons_of_mem _ h) q_538 q_539 q_540 q_25 q_541) rfl rfl rfl hv_js_isLatin1 ⟨Nat.le_of_ble_eq_true rfl, Nat.le_of_ble_eq_true rfl⟩) rfl) ?_
  refine rcons (ro_if_eq (off := 12) (by decide +kernel) rfl rfl) ?_
  refine rcons (ro_aload_n (k := 0) rfl (by decide +kernel) rfl) ?_
  refine rcons (ro_sval (List.mem_cons_of_mem _ q_400) (by decide +kernel) rfl) ?_
  refine rcons (ro_iload_n (k := 1) rfl (by decide +kernel) rfl) ?_
  refine rcons (ro_callS0 ok_jl_charAt (by decide +kernel) (fun s args ht => va_cwS 2 ht (rgoodS (fun w h => List.mem_cons_of_mem _ h) q_542 q_543 q_30 q_544) rfl rfl rfl hy_jl_charAt ⟨Nat.le_of_ble_eq_true rfl, Nat.le_of_ble_eq_true rfl⟩) rfl) ?_
  refine rcons (ro_nret (by decide +kernel)) ?_
  refine rcons (ro_bad) ?_
  refine rcons (ro_bad) ?_
  refine rcons (ro_bad) ?_
  refine rcons (ro_bad) ?_
  refine rcons (ro_bad) ?_
  exact rnil
def ps_js_getBytes : List Nat := [0, 1, 4, 5, 8, 9, 12, 13, 14, 15, 16, 17, 18, 21, 22, 25, 28, 29, 32, 33, 34, 35, 36, 39, 40, 43]
def tb_js_getBytes : List RT := [tq_al 0, tq_callH (rVK m_js_coder) 1 0 0 [], tq_il 3, tq_if2 (fun x y => !decide (x = y)) 16, tq_al 0, tq_sval, tq_ic 0, tq_al 1, tq_il 2, tq_il 3, tq_i2 (fun x y => x <<< (y &&& 31)), tq_al 0, tq_sval, tq_slen, tq_cpS 0, tq_go 25, tq_bad, tq_bad, tq_bad, tq_bad, tq_bad, tq_bad, tq_bad, tq_bad, tq_bad, tq_vret 0]
def m_js_getBytes : RM := rMeth tb_js_getBytes 200 4
abbrev rm_js_getBytes : Room := { frames := 1, cells := 0, slots := 0, locals := 60 }
set_option maxHeartbeats 4000000 in
set_option maxRecDepth 20000 in
theorem ok_js_getBytes : rMet y_js_getBytes (Cond.code y_js_getBytes prog_14_method_147_code 4 none :: rT) rm_js_getBytes 0 m_js_getBytes := by
  refine rMeth_ok (ps := ps_js_getBytes) (tab := tb_js_getBytes) (by decide +kernel) rfl rfl rfl rfl ?_
  refine rcons (ro_aload_n (k := 0) rfl (by decide +kernel) rfl) ?_
  refine rcons (ro_callK0 ok_js_coder (by decide +kernel) (fun s args ht => cwV (C := rN4) 0 ht (rgoodV (C := rN4) (fun w h => List.mem_cons_of_mem _ h) q_235 q_236 q_237 q_25 q_238) rfl rfl rfl hv_js_coder ⟨Nat.le_of_ble_eq_true rfl, Nat.le_of_ble_eq_true rfl⟩) rfl) ?_
  refine rcons (ro_iload_n (k := 3) rfl (by decide +kernel) rfl) ?_
  refine rcons (ro_icmp_ne (off := 23) (by decide +kernel) rfl rfl) ?_
  refine rcons (ro_aload_n (k := 0) rfl (by decide +kernel) rfl) ?_
  refine rcons (ro_sval (List.mem_cons_of_mem _ q_400) (by decide +kernel) rfl) ?_
  refine rcons (ro_iconst (n := 0) (by decide +kernel) rfl rfl) ?_
  refine rcons (ro_aload_n (k := 1) rfl (by decide +kernel) rfl) ?_
  refine rcons (ro_iload_n (k := 2) rfl (by decide +kernel) rfl) ?_
  refine rcons (ro_iload_n (k := 3) rfl (by decide +kernel) rfl) ?_
  refine rcons (ro_ishl (by decide +kernel) rfl) ?_
  refine rcons (ro_aload_n (k := 0) rfl (by decide +kernel) rfl) ?_
  refine rcons (ro_sval (List.mem_cons_of_mem _ q_400) (by decide +kernel) rfl) ?_
  refine rcons (ro_slen (by decide +kernel) rfl) ?_
  refine rcons (ro_cpS (List.mem_cons_of_mem _ q_253) (List.mem_cons_of_mem _ q_144) (List.mem_cons_of_mem _ q_143) (List.mem_cons_of_mem _ q_29) (by decide) (by decide +kernel) rfl) ?_
  refine rcons (ro_goto (off := 18) (by decide +kernel) rfl) ?_
  refine rcons (ro_bad) ?_
  refine rcons (ro_bad) ?_
  refine rcons (ro_bad) ?_
  refine rcons (ro_bad) ?_
  refine rcons (ro_bad) ?_
  refine rcons (ro_bad) ?_
  refine rcons (ro_bad) ?_
  refine rcons (ro_bad) ?_
  refine rcons (ro_bad) ?_
  refine rcons (ro_vret (by decide +kernel)) ?_
  exact rnil
def ps_ja_isLatin1 : List Nat := [0, 3, 6, 7, 10, 13, 14, 17, 18]
def tb_ja_isLatin1 : List RT := [tq_ic 1, tq_if1 (fun x => decide (x = 0)) 7, tq_al 0, tq_getf 3 1, tq_if1 (fun x => !decide (x = 0)) 7, tq_ic 1, tq_go 8, tq_ic 0, tq_nret .boolean 0]
def m_ja_isLatin1 : RM := rMeth tb_ja_isLatin1 200 1
abbrev rm_ja_isLatin1 : Room := { frames := 0, cells := 0, slots := 0, locals := 0 }
set_option maxHeartbeats 4000000 in
set_option maxRecDepth 20000 in
theorem ok_ja_isLatin1 : rMet y_ja_isLatin1 (Cond.code y_ja_isLatin1 prog_5_method_68_code 1 (some .boolean) :: rT) rm_ja_isLatin1 0 m_ja_isLatin1 := by
  refine rMeth_ok (ps := ps_ja_isLatin1) (tab := tb_ja_isLatin1) (by decide +kernel) rfl rfl rfl rfl ?_
  refine rcons (ro_getsI (C := "java/lang/String") (n := "COMPACT_STRINGS") (d := "Z") (fun _ _ h => h.2.2.2.2.2.2.2.2.2.2.1) (List.mem_cons_of_mem _ q_80) (by decide +kernel) rfl) ?_
  refine rcons (ro_if_eq (off := 14) (by decide +kernel) rfl rfl) ?_
  refine rcons (ro_aload_n (k := 0) rfl (by decide +kernel) rfl) ?_
  refine rcons (ro_getf (C := rN3) (T := rF3) (N := 4) (k := 1) (by decide +kernel) rfl (rU3c _) (by decide) (List.mem_cons_of_mem _ q_90) rfl) ?_
  refine rcons (ro_if_ne (off := 7) (by decide +kernel) rfl rfl) ?_
  refine rcons (ro_iconst (n := 1) (by decide +kernel) rfl rfl) ?_
  refine rcons (ro_goto (off := 4) (by decide +kernel) rfl) ?_
  refine rcons (ro_iconst (n := 0) (by decide +kernel) rfl rfl) ?_
  refine rcons (ro_nret (by decide +kernel)) ?_
  exact rnil
def ps_ja_getValue : List Nat := [0, 1, 4]
def tb_ja_getValue : List RT := [tq_al 0, tq_getf 3 0, tq_aret 0]
def m_ja_getValue : RM := rMeth tb_ja_getValue 200 1
abbrev rm_ja_getValue : Room := { frames := 0, cells := 0, slots := 0, locals := 0 }
set_option maxHeartbeats 4000000 in
set_option maxRecDepth 20000 in
theorem ok_ja_getValue : rMet y_ja_getValue (Cond.code y_ja_getValue prog_5_method_64_code 1 (some (.array .byte)) :: rT) rm_ja_getValue 0 m_ja_getValue := by
  refine rMeth_ok (ps := ps_ja_getValue) (tab := tb_ja_getValue) (by decide +kernel) rfl rfl rfl rfl ?_
  refine rcons (ro_aload_n (k := 0) rfl (by decide +kernel) rfl) ?_
  refine rcons (ro_getf (C := rN3) (T := rF3) (N := 4) (k := 0) (by decide +kernel) rfl (rU3c _) (by decide) (List.mem_cons_of_mem _ q_89) rfl) ?_
  refine rcons (ro_aretA (by decide +kernel)) ?_
  exact rnil
def ps_ja_length : List Nat := [0, 1, 4]
def tb_ja_length : List RT := [tq_al 0, tq_getf 3 3, tq_iret 0]
def m_ja_length : RM := rMeth tb_ja_length 200 1
abbrev rm_ja_length : Room := { frames := 0, cells := 0, slots := 0, locals := 0 }
set_option maxHeartbeats 4000000 in
set_option maxRecDepth 20000 in
theorem ok_ja_length : rMet y_ja_length (Cond.code y_ja_length prog_5_method_6_code 1 (some .int) :: rT) rm_ja_length 0 m_ja_length := by
  refine rMeth_ok (ps := ps_ja_length) (tab := tb_ja_length) (by decide +kernel) rfl rfl rfl rfl ?_
  refine rcons (ro_aload_n (k := 0) rfl (by decide +kernel) rfl) ?_
  refine rcons (ro_getf (C := rN3) (T := rF3) (N := 4) (k := 3) (by decide +kernel) rfl (rU3c _) (by decide) (List.mem_cons_of_mem _ q_92) rfl) ?_
  refine rcons (ro_iret (by decide +kernel)) ?_
  exact rnil
def ps_jb_length : List Nat := [0, 1, 4]
def tb_jb_length : List RT := [tq_al 0, tq_callH (rV 3 m_ja_length) 1 0 0 [], tq_iret 0]
def m_jb_length : RM := rMeth tb_jb_length 200 1
abbrev rm_jb_length : Room := { frames := 1, cells := 0, slots := 0, locals := 20 }
set_option maxHeartbeats 4000000 in
set_option maxRecDepth 20000 in
theorem ok_jb_length : rMet y_jb_length (Cond.code y_jb_length prog_15_method_93_code 1 (some .int) :: rT) rm_jb_length 0 m_jb_length := by
  refine rMeth_ok (ps := ps_jb_length) (tab := tb_jb_length) (by decide +kernel) rfl rfl rfl rfl ?_
  refine rcons (ro_aload_n (k := 0) rfl (by decide +kernel) rfl) ?_
  refine rcons (ro_callSU0 (C := rN3) (T := rF3) (N := 4) rfl ok_ja_length (by decide +kernel) (fun s args ht => va_cwSU 0 ht (rgoodc (fun w h => List.mem_cons_of_mem _ h) q_279 (rgoodc (fun w h => List.mem_cons_of_mem _ h) q_275 (rgoodc (fun w h => List.mem_cons_of_mem _ h) q_101 (rgoodc (fun w h => List.mem_cons_of_mem _ h) q_274 (rgoodc (fun w h => List.mem_cons_of_mem _ h) q_23 (rgoodc (fun w h => List.mem_cons_of_mem _ h) q_280 (rgood (fun w h => List.mem_cons_of_mem _ h)))))))) rfl rfl rfl ⟨by decide, hy_ja_length.2.2⟩ ⟨Nat.le_of_ble_eq_true rfl, Nat.le_of_ble_eq_true rfl⟩) rfl) ?_
  refine rcons (ro_iret (by decide +kernel)) ?_
  exact rnil
def ps_jz_newLength : List Nat := [0, 1, 2, 3, 6, 7, 8, 9, 10, 13, 14, 16, 19, 20, 21, 22, 23, 26]
def tb_jz_newLength : List RT := [tq_il 0, tq_il 1, tq_il 2, tq_mmaxR 0, tq_i2 (fun x y => x + y), tq_is 4 3, tq_ic 0, tq_il 3, tq_if2 (fun x y => decide (y ≤ x)) 14, tq_il 3, tq_ic 2147483639, tq_if2 (fun x y => decide (y < x)) 14, tq_il 3, tq_iret 0, tq_bad, tq_bad, tq_bad, tq_bad]
def m_jz_newLength : RM := rMeth tb_jz_newLength 200 4
abbrev rm_jz_newLength : Room := { frames := 1, cells := 0, slots := 0, locals := 29 }
set_option maxHeartbeats 4000000 in
set_option maxRecDepth 20000 in
theorem ok_jz_newLength : rMet y_jz_newLength (Cond.code y_jz_newLength prog_21_method_27_code 4 (some .int) :: rT) rm_jz_newLength 0 m_jz_newLength := by
  refine rMeth_ok (ps := ps_jz_newLength) (tab := tb_jz_newLength) (by decide +kernel) rfl rfl rfl rfl ?_
  refine rcons (ro_iload_n (k := 0) rfl (by decide +kernel) rfl) ?_
  refine rcons (ro_iload_n (k := 1) rfl (by decide +kernel) rfl) ?_
  refine rcons (ro_iload_n (k := 2) rfl (by decide +kernel) rfl) ?_
  refine rcons (ro_maxR (List.mem_cons_of_mem _ q_121) (List.mem_cons_of_mem _ q_122) (List.mem_cons_of_mem _ q_21) (List.mem_cons_of_mem _ q_123) (by decide) (by decide +kernel) rfl) ?_
  refine rcons (ro_iadd (by decide +kernel) rfl) ?_
  refine rcons (ro_istore_n (k := 3) rfl (by decide +kernel) rfl) ?_
  refine rcons (ro_iconst (n := 0) (by decide +kernel) rfl rfl) ?_
  refine rcons (ro_iload_n (k := 3) rfl (by decide +kernel) rfl) ?_
  refine rcons (ro_icmp_ge (off := 11) (by decide +kernel) rfl rfl) ?_
  refine rcons (ro_iload_n (k := 3) rfl (by decide +kernel) rfl) ?_
  refine rcons (ro_ldcI (List.mem_cons_of_mem _ q_124) (by decide +kernel) rfl) ?_
  refine rcons (ro_icmp_gt (off := 5) (by decide +kernel) rfl rfl) ?_
  refine rcons (ro_iload_n (k := 3) rfl (by decide +kernel) rfl) ?_
  refine rcons (ro_iret (by decide +kernel)) ?_
  refine rcons (ro_bad) ?_
  refine rcons (ro_bad) ?_
  refine rcons (ro_bad) ?_
  refine rcons (ro_bad) ?_
  exact rnil
def ps_ja_newCapacity : List Nat := [0, 1, 4, 5, 6, 7, 8, 11, 12, 13, 14, 15, 16, 18, 19, 21, 22, 23, 24, 27, 28, 29, 32, 34, 36, 38, 41, 44, 45, 47, 50, 51, 53, 54, 57, 58]
def tb_ja_newCapacity : List RT := [tq_al 0, tq_getf 3 0, tq_len, tq_is 6 2, tq_il 1, tq_al 0, tq_getf 3 1, tq_i2 (fun x y => x <<< (y &&& 31)), tq_is 6 3, tq_il 3, tq_il 2, tq_i2 (fun x y => x - y), tq_is 6 4, tq_il 2, tq_il 4, tq_il 2, tq_ic 2, tq_al 0, tq_getf 3 1, tq_i2 (fun x y => x <<< (y &&& 31)), tq_i2 (fun x y => x + y), tq_callH m_jz_newLength 3 0 0 [], tq_is 6 5, tq_il 5, tq_ic 2147483647, tq_if2 (fun x y => !decide (x = y)) 31, tq_bad, tq_bad, tq_bad, tq_bad, tq_bad, tq_il 5, tq_al 0, tq_getf 3 1, tq_i2 (fun x y => x >>> (y &&& 31)), tq_iret 0]
def m_ja_newCapacity : RM := rMeth tb_ja_newCapacity 200 6
abbrev rm_ja_newCapacity : Room := { frames := 2, cells := 0, slots := 0, locals := 52 }
set_option maxHeartbeats 4000000 in
set_option maxRecDepth 20000 in
theorem ok_ja_newCapacity : rMet y_ja_newCapacity (Cond.code y_ja_newCapacity prog_5_method_10_code 6 (some .int) :: rT) rm_ja_newCapacity 0 m_ja_newCapacity := by
  refine rMeth_ok (ps := ps_ja_newCapacity) (tab := tb_ja_newCapacity) (by decide +kernel) rfl rfl rfl rfl ?_
  refine rcons (ro_aload_n (k := 0) rfl (by decide +kernel) rfl) ?_
  refine rcons (ro_getf (C := rN3) (T := rF3) (N := 4) (k := 0) (by decide +kernel) rfl (rU3c _) (by decide) (List.mem_cons_of_mem _ q_89) rfl) ?_
  refine rcons (ro_len (by decide +kernel) rfl) ?_
  refine rcons (ro_istore_n (k := 2) rfl (by decide +kernel) rfl) ?_
  refine rcons (ro_iload_n (k := 1) rfl (by decide +kernel) rfl) ?_
  refine rcons (ro_aload_n (k := 0) rfl (by decide +kernel) rfl) ?_
  refine rcons (ro_getf (C := rN3) (T := rF3) (N := 4) (k := 1) (by decide +kernel) rfl (rU3c _) (by decide) (List.mem_cons_of_mem _ q_90) rfl) ?_
  refine rcons (ro_ishl (by decide +kernel) rfl) ?_
  refine rcons (ro_istore_n (k := 3) rfl (by decide +kernel) rfl) ?_
  refine rcons (ro_iload_n (k := 3) rfl (by decide +kernel) rfl) ?_
  refine rcons (ro_iload_n (k := 2) rfl (by decide +kernel) rfl) ?_
  refine rcons (ro_isub (by decide +kernel) rfl) ?_
  refine rcons (ro_istore (by decide +kernel) rfl) ?_
  refine rcons (ro_iload_n (k := 2) rfl (by decide +kernel) rfl) ?_
  refine rcons (ro_iload (by decide +kernel) rfl) ?_
  refine rcons (ro_iload_n (k := 2) rfl (by decide +kernel) rfl) ?_
  refine rcons (ro_iconst (n := 2) (by decide +kernel) rfl rfl) ?_
  refine rcons (ro_aload_n (k := 0) rfl (by decide +kernel) rfl) ?_
  refine rcons (ro_getf (C := rN3) (T := rF3) (N := 4) (k := 1) (by decide +kernel) rfl (rU3c _) (by decide) (List.mem_cons_of_mem _ q_90) rfl) ?_
  refine rcons (ro_ishl (by decide +kernel) rfl) ?_
  refine rcons (ro_iadd (by decide +kernel) rfl) ?_
  refine rcons (ro_callS0 ok_jz_newLength (by decide +kernel) (fun s args ht => va_cwS 3 ht (rgoodS (fun w h => List.mem_cons_of_mem _ h) q_118 q_119 q_27 q_120) rfl rfl rfl hy_jz_newLength ⟨Nat.le_of_ble_eq_true rfl, Nat.le_of_ble_eq_true rfl⟩) rfl) ?_
  refine rcons (ro_istore (by decide +kernel) rfl) ?_
  refine rcons (ro_iload (by decide +kernel) rfl) ?_
  refine rcons (ro_ldcI (List.mem_cons_of_mem _ q_128) (by decide +kernel) rfl) ?_
  refine rcons (ro_icmp_ne (off := 13) (by decide +kernel) rfl rfl) ?_
  refine rcons (ro_bad) ?_
  refine rcons (ro_bad) ?_
  refine rcons (ro_bad) ?_
  refine rcons (ro_bad) ?_
  refine rcons (ro_bad) ?_
  refine rcons (ro_iload (by decide +kernel) rfl) ?_
  refine rcons (ro_aload_n (k := 0) rfl (by decide +kernel) rfl) ?_
  refine rcons (ro_getf (C := rN3) (T := rF3) (N := 4) (k := 1) (by decide +kernel) rfl (rU3c _) (by decide) (List.mem_cons_of_mem _ q_90) rfl) ?_
  refine rcons (ro_ishr (by decide +kernel) rfl) ?_
  refine rcons (ro_iret (by decide +kernel)) ?_
  exact rnil
abbrev CF : Type := Nat → Int32
/-! The world of texts under way: the eighteen, a builder, its bytes. -/
abbrev PW : Type := (Nat → CF) × (Nat → Bool × Int32) × (Bool × Int32) × (Bool × Int64) × Option Nat
def CWP (P : PW) : List RC :=
  [.inl (0, [rR 1, rR 2, rR 3, rR 4, rR 9, .inl (P.2.1 0), .inl (P.2.1 1)]), .inr (0, 4, .inl (P.1 0)), .inr (0, 4, .inl (P.1 1)), .inr (2, 2, .inr (fun j => 5 + j)), .inr (2, 2, .inr (fun j => 7 + j)),
   .inr (0, 4, .inl (P.1 2)), .inr (0, 4, .inl (P.1 3)), .inr (0, 4, .inl (P.1 4)), .inr (0, 4, .inl (P.1 5)), .inr (1, 2, .inl (P.1 6)),
   .inl (1, [.inl P.2.2.1, rR 11, rR 12, rR 13, rR 16, .inl (P.2.1 2), .inl (P.2.1 3)]), .inr (0, 4, .inl (P.1 7)), .inr (0, 4, .inl (P.1 8)), .inr (2, 2, .inr (fun j => 14 + j)),
   .inr (0, 8, .inl (P.1 9)), .inr (0, 8, .inl (P.1 10)), .inr (1, 2, .inl (P.1 11)), .inl (2, [.inr (.inl P.2.2.2.1), rO P.2.2.2.2])]
def SW (P : PW) (c : Int32) (cap : Nat) (f : CF) : List RC :=
  [.inl (0, [rR 1, rR 2, rR 3, rR 4, rR 9, .inl (P.2.1 0), .inl (P.2.1 1)]), .inr (0, 4, .inl (P.1 0)), .inr (0, 4, .inl (P.1 1)), .inr (2, 2, .inr (fun j => 5 + j)), .inr (2, 2, .inr (fun j => 7 + j)),
   .inr (0, 4, .inl (P.1 2)), .inr (0, 4, .inl (P.1 3)), .inr (0, 4, .inl (P.1 4)), .inr (0, 4, .inl (P.1 5)), .inr (1, 2, .inl (P.1 6)),
   .inl (1, [.inl P.2.2.1, rR 11, rR 12, rR 13, rR 16, .inl (P.2.1 2), .inl (P.2.1 3)]), .inr (0, 4, .inl (P.1 7)), .inr (0, 4, .inl (P.1 8)), .inr (2, 2, .inr (fun j => 14 + j)),
   .inr (0, 8, .inl (P.1 9)), .inr (0, 8, .inl (P.1 10)), .inr (1, 2, .inl (P.1 11)), .inl (2, [.inr (.inl P.2.2.2.1), rO P.2.2.2.2]),
   .inl (3, [rR 19, rI true 0, rI true 0, rI false c]), .inr (3, cap, .inl f)]
/-- a further room: twice and two more -/
def s_ja_newCapacity : RM := fun as σ Q => ∃ (P : PW) (c : Int32) (cap : Nat) (f : CF) (q : Nat) (g : Bool) (x : Int32), as = [rR 18, rI g x] ∧ x = nI q ∧ σ = SW P c cap f ∧ ((cap = 16 ∨ cap = 34) ∧ cap < q ∧ q ≤ cap + 9) ∧ Q (.inl (some (rI true (nI (2 * cap + 2))))) σ
set_option maxHeartbeats 4000000 in
set_option maxRecDepth 20000 in
theorem okS_ja_newCapacity : rMet y_ja_newCapacity (Cond.code y_ja_newCapacity prog_5_method_10_code 6 (some .int) :: rT) rm_ja_newCapacity 0 s_ja_newCapacity := by
  refine rMet_val ok_ja_newCapacity (fun as σ Q h => ?_)
  obtain ⟨P, c, cap, f, q, g, x, rfl, rfl, rfl, ⟨hc, h1, h2⟩, h⟩ := h
  refine ⟨[rR 18, rI true (nI q)], some (rI true (nI (2 * cap + 2))), some (rI true (nI (2 * cap + 2))), fun _ => rfl, ?_, fun _ => rfl, h⟩
  rcases hc with rfl | rfl
  · obtain ⟨j, rfl, hj⟩ : ∃ j : Nat, q = 17 + j ∧ j ≤ 8 := ⟨q - 17, by omega, by omega⟩
    have hj2 : j = 0 ∨ j = 1 ∨ j = 2 ∨ j = 3 ∨ j = 4 ∨ j = 5 ∨ j = 6 ∨ j = 7 ∨ j = 8 := by omega
    rcases hj2 with rfl | rfl | rfl | rfl | rfl | rfl | rfl | rfl | rfl <;> exact And.intro rfl rfl
  · obtain ⟨j, rfl, hj⟩ : ∃ j : Nat, q = 35 + j ∧ j ≤ 8 := ⟨q - 35, by omega, by omega⟩
    have hj2 : j = 0 ∨ j = 1 ∨ j = 2 ∨ j = 3 ∨ j = 4 ∨ j = 5 ∨ j = 6 ∨ j = 7 ∨ j = 8 := by omega
    rcases hj2 with rfl | rfl | rfl | rfl | rfl | rfl | rfl | rfl | rfl <;> exact And.intro rfl rfl
def ps_jl_canEncode : List Nat := [0, 1, 4, 7, 8, 11, 12]
def tb_jl_canEncode : List RT := [tq_il 0, tq_ic 255, tq_if2 (fun x y => decide (y < x)) 5, tq_ic 1, tq_go 6, tq_ic 0, tq_nret .boolean 0]
def m_jl_canEncode : RM := rMeth tb_jl_canEncode 200 1
abbrev rm_jl_canEncode : Room := { frames := 0, cells := 0, slots := 0, locals := 0 }
set_option maxHeartbeats 4000000 in
set_option maxRecDepth 20000 in
theorem ok_jl_canEncode : rMet y_jl_canEncode (Cond.code y_jl_canEncode prog_16_method_3_code 1 (some .boolean) :: rT) rm_jl_canEncode 0 m_jl_canEncode := by
  refine rMeth_ok (ps := ps_jl_canEncode) (tab := tb_jl_canEncode) (by decide +kernel) rfl rfl rfl rfl ?_
  refine rcons (ro_iload_n (k := 0) rfl (by decide +kernel) rfl) ?_
  refine rcons (ro_sipush (n := 255) (by decide +kernel) rfl rfl) ?_
  refine rcons (ro_icmp_gt (off := 7) (by decide +kernel) rfl rfl) ?_
  refine rcons (ro_iconst (n := 1) (by decide +kernel) rfl rfl) ?_
  refine rcons (ro_goto (off := 4) (by decide +kernel) rfl) ?_
  refine rcons (ro_iconst (n := 0) (by decide +kernel) rfl rfl) ?_
  refine rcons (ro_nret (by decide +kernel)) ?_
  exact rnil
def ps_jr_checkLength : List Nat := [0, 1, 2, 5, 8, 9, 12, 13, 16, 17, 20, 23, 26, 27, 30, 33, 36, 37]
def tb_jr_checkLength : List RT := [tq_il 1, tq_il 0, tq_if2 (fun x y => decide (y ≤ x)) 17, tq_bad, tq_bad, tq_bad, tq_bad, tq_bad, tq_bad, tq_bad, tq_bad, tq_bad, tq_bad, tq_bad, tq_bad, tq_bad, tq_bad, tq_vret 0]
def m_jr_checkLength : RM := rMeth tb_jr_checkLength 200 2
abbrev rm_jr_checkLength : Room := { frames := 0, cells := 0, slots := 0, locals := 0 }
set_option maxHeartbeats 4000000 in
set_option maxRecDepth 20000 in
theorem ok_jr_checkLength : rMet y_jr_checkLength (Cond.code y_jr_checkLength prog_20_method_131_code 2 none :: rT) rm_jr_checkLength 0 m_jr_checkLength := by
  refine rMeth_ok (ps := ps_jr_checkLength) (tab := tb_jr_checkLength) (by decide +kernel) rfl rfl rfl rfl ?_
  refine rcons (ro_iload_n (k := 1) rfl (by decide +kernel) rfl) ?_
  refine rcons (ro_iload_n (k := 0) rfl (by decide +kernel) rfl) ?_
  refine rcons (ro_icmp_ge (off := 35) (by decide +kernel) rfl rfl) ?_
  refine rcons (ro_bad) ?_
  refine rcons (ro_bad) ?_
  refine rcons (ro_bad) ?_
  refine rcons (ro_bad) ?_
  refine rcons (ro_bad) ?_
  refine rcons (ro_bad) ?_
  refine rcons (ro_bad) ?_
  refine rcons (ro_bad) ?_
  refine rcons (ro_bad) ?_
  refine rcons (ro_bad) ?_
  refine rcons (ro_bad) ?_
  refine rcons (ro_bad) ?_
  refine rcons (ro_bad) ?_
  refine rcons (ro_bad) ?_
  refine rcons (ro_vret (by decide +kernel)) ?_
  exact rnil
def ps_ja_inflateIfNeededFor : List Nat := [0, 3, 6, 7, 10, 11, 14, 17, 18, 21]
def tb_ja_inflateIfNeededFor : List RT := [tq_ic 1, tq_if1 (fun x => decide (x = 0)) 9, tq_al 0, tq_getf 3 1, tq_al 1, tq_callH (rVK m_js_coder) 1 0 0 [], tq_if2 (fun x y => decide (x = y)) 9, tq_bad, tq_bad, tq_vret 0]
def m_ja_inflateIfNeededFor : RM := rMeth tb_ja_inflateIfNeededFor 200 2
abbrev rm_ja_inflateIfNeededFor : Room := { frames := 1, cells := 0, slots := 0, locals := 20 }
set_option maxHeartbeats 4000000 in
set_option maxRecDepth 20000 in
theorem ok_ja_inflateIfNeededFor : rMet y_ja_inflateIfNeededFor (Cond.code y_ja_inflateIfNeededFor prog_5_method_71_code 2 none :: rT) rm_ja_inflateIfNeededFor 0 m_ja_inflateIfNeededFor := by
  refine rMeth_ok (ps := ps_ja_inflateIfNeededFor) (tab := tb_ja_inflateIfNeededFor) (by decide +kernel) rfl rfl rfl rfl ?_
  refine rcons (ro_getsI (C := "java/lang/String") (n := "COMPACT_STRINGS") (d := "Z") (fun _ _ h => h.2.2.2.2.2.2.2.2.2.2.1) (List.mem_cons_of_mem _ q_80) (by decide +kernel) rfl) ?_
  refine rcons (ro_if_eq (off := 18) (by decide +kernel) rfl rfl) ?_
  refine rcons (ro_aload_n (k := 0) rfl (by decide +kernel) rfl) ?_
  refine rcons (ro_getf (C := rN3) (T := rF3) (N := 4) (k := 1) (by decide +kernel) rfl (rU3c _) (by decide) (List.mem_cons_of_mem _ q_90) rfl) ?_
  refine rcons (ro_aload_n (k := 1) rfl (by decide +kernel) rfl) ?_
  refine rcons (ro_callK0 ok_js_coder (by decide +kernel) (fun s args ht => cwV (C := rN4) 0 ht (rgoodV (C := rN4) (fun w h => List.mem_cons_of_mem _ h) q_248 q_236 q_237 q_25 q_238) rfl rfl rfl hv_js_coder ⟨Nat.le_of_ble_eq_true rfl, Nat.le_of_ble_eq_true rfl⟩) rfl) ?_
  refine rcons (ro_icmp_eq (off := 7) (by decide +kernel) rfl rfl) ?_
  refine rcons (ro_bad) ?_
  refine rcons (ro_bad) ?_
  refine rcons (ro_vret (by decide +kernel)) ?_
  exact rnil
def ps_ja_putStringAt : List Nat := [0, 1, 2, 5, 6, 7, 10, 11, 12, 15, 18]
def tb_ja_putStringAt : List RT := [tq_al 0, tq_al 2, tq_callH (rV 3 m_ja_inflateIfNeededFor) 2 0 0 [], tq_al 2, tq_al 0, tq_getf 3 0, tq_il 1, tq_al 0, tq_getf 3 1, tq_callH (rVK m_js_getBytes) 4 0 0 [], tq_vret 0]
def m_ja_putStringAt : RM := rMeth tb_ja_putStringAt 200 3
abbrev rm_ja_putStringAt : Room := { frames := 2, cells := 0, slots := 0, locals := 83 }
set_option maxHeartbeats 4000000 in
set_option maxRecDepth 20000 in
theorem ok_ja_putStringAt : rMet y_ja_putStringAt (Cond.code y_ja_putStringAt prog_5_method_73_code 3 none :: rT) rm_ja_putStringAt 0 m_ja_putStringAt := by
  refine rMeth_ok (ps := ps_ja_putStringAt) (tab := tb_ja_putStringAt) (by decide +kernel) rfl rfl rfl rfl ?_
  refine rcons (ro_aload_n (k := 0) rfl (by decide +kernel) rfl) ?_
  refine rcons (ro_aload_n (k := 2) rfl (by decide +kernel) rfl) ?_
  refine rcons (ro_callU0 (C := rN3) (T := rF3) (N := 4) rfl ok_ja_inflateIfNeededFor (by decide +kernel) (fun s args ht hI => rcwU (owner := "java/lang/AbstractStringBuilder") (C := "java/lang/StringBuilder") (x := y_ja_inflateIfNeededFor) 1 ht (rgoodc (fun w h => List.mem_cons_of_mem _ h) q_247 (rgood (fun w h => List.mem_cons_of_mem _ h))) rfl rfl rfl (List.mem_cons_of_mem _ q_244) (List.mem_cons_of_mem _ q_1298) (List.mem_cons_of_mem _ q_246) (List.mem_cons_of_mem _ q_23) (rselP (y0 := y_ja_isLatin1) rfl ⟨hy_ja_inflateIfNeededFor.1, hy_ja_inflateIfNeededFor.2.1⟩ (ht _ (List.mem_cons_of_mem _ q_148)) (rfc_at hI f_245) (ht _ (List.mem_cons_of_mem _ q_246))) rfl hy_ja_inflateIfNeededFor ⟨Nat.le_of_ble_eq_true rfl, Nat.le_of_ble_eq_true rfl⟩) rfl) ?_
  refine rcons (ro_aload_n (k := 2) rfl (by decide +kernel) rfl) ?_
  refine rcons (ro_aload_n (k := 0) rfl (by decide +kernel) rfl) ?_
  refine rcons (ro_getf (C := rN3) (T := rF3) (N := 4) (k := 0) (by decide +kernel) rfl (rU3c _) (by decide) (List.mem_cons_of_mem _ q_89) rfl) ?_
  refine rcons (ro_iload_n (k := 1) rfl (by decide +kernel) rfl) ?_
  refine rcons (ro_aload_n (k := 0) rfl (by decide +kernel) rfl) ?_
  refine rcons (ro_getf (C := rN3) (T := rF3) (N := 4) (k := 1) (by decide +kernel) rfl (rU3c _) (by decide) (List.mem_cons_of_mem _ q_90) rfl) ?_
  refine rcons (ro_callK0 ok_js_getBytes (by decide +kernel) (fun s args ht => cwV (C := rN4) 3 ht (rgoodV (C := rN4) (fun w h => List.mem_cons_of_mem _ h) q_249 q_250 q_251 q_25 q_252) rfl rfl rfl hv_js_getBytes ⟨Nat.le_of_ble_eq_true rfl, Nat.le_of_ble_eq_true rfl⟩) rfl) ?_
  refine rcons (ro_vret (by decide +kernel)) ?_
  exact rnil
end RKM
