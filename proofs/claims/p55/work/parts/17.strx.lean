section RKM
def ps_jr_copyOf : List Nat := [0, 1, 2, 3, 6, 7, 10, 13, 14, 15, 17, 18, 19, 20, 21, 22, 23, 24, 25, 28, 31, 32]
def tb_jr_copyOf : List RT := [tq_il 1, tq_al 0, tq_len, tq_if2 (fun x y => !decide (x = y)) 8, tq_bad, tq_bad, tq_bad, tq_bad, tq_il 1, tq_newb 20 9, tq_as 3 2, tq_al 0, tq_ic 0, tq_al 2, tq_ic 0, tq_al 0, tq_len, tq_il 1, tq_mminR 9, tq_cpW 9, tq_al 2, tq_xaret 9]
def m_jr_copyOf : RM := rMeth tb_jr_copyOf 200 3
abbrev rm_jr_copyOf : Room := { frames := 1, cells := 9, slots := 108, locals := 60 }
set_option maxHeartbeats 4000000 in
set_option maxRecDepth 20000 in
theorem ok_jr_copyOf : rMetX 20 y_jr_copyOf (Cond.code y_jr_copyOf prog_20_method_121_code 3 (some (.array .byte)) :: rT) rm_jr_copyOf 9 m_jr_copyOf := by
  refine rMethX_ok (ps := ps_jr_copyOf) (tab := tb_jr_copyOf) (by decide +kernel) rfl rfl rfl rfl ?_
  refine rcons (rOkX.of (ro_iload_n (k := 1) rfl (by decide +kernel) rfl) (fun _ _ => rfl)) ?_
  refine rcons (rOkX.of (ro_aload_n (k := 0) rfl (by decide +kernel) rfl) (fun _ _ => rfl)) ?_
  refine rcons (rOkX.of (ro_len (by decide +kernel) rfl) (fun _ _ => rfl)) ?_
  refine rcons (rOkX.of (ro_icmp_ne (off := 11) (by decide +kernel) rfl rfl) (fun _ _ => rfl)) ?_
  refine rcons (rOkX.of (ro_bad) (fun _ _ => rfl)) ?_
  refine rcons (rOkX.of (ro_bad) (fun _ _ => rfl)) ?_
  refine rcons (rOkX.of (ro_bad) (fun _ _ => rfl)) ?_
  refine rcons (rOkX.of (ro_bad) (fun _ _ => rfl)) ?_
  refine rcons (rOkX.of (ro_iload_n (k := 1) rfl (by decide +kernel) rfl) (fun _ _ => rfl)) ?_
  refine rcons (ro_newb (by decide) (by decide) (List.mem_cons_of_mem _ q_102) (by decide +kernel) rfl) ?_
  refine rcons (rOkX.of (ro_astore_n (k := 2) rfl (by decide +kernel) rfl) (fun _ _ => rfl)) ?_
  refine rcons (rOkX.of (ro_aload_n (k := 0) rfl (by decide +kernel) rfl) (fun _ _ => rfl)) ?_
  refine rcons (rOkX.of (ro_iconst (n := 0) (by decide +kernel) rfl rfl) (fun _ _ => rfl)) ?_
  refine rcons (rOkX.of (ro_aload_n (k := 2) rfl (by decide +kernel) rfl) (fun _ _ => rfl)) ?_
  refine rcons (rOkX.of (ro_iconst (n := 0) (by decide +kernel) rfl rfl) (fun _ _ => rfl)) ?_
  refine rcons (rOkX.of (ro_aload_n (k := 0) rfl (by decide +kernel) rfl) (fun _ _ => rfl)) ?_
  refine rcons (rOkX.of (ro_len (by decide +kernel) rfl) (fun _ _ => rfl)) ?_
  refine rcons (rOkX.of (ro_iload_n (k := 1) rfl (by decide +kernel) rfl) (fun _ _ => rfl)) ?_
  refine rcons (rOkX.of (ro_minR (List.mem_cons_of_mem _ q_139) (List.mem_cons_of_mem _ q_140) (List.mem_cons_of_mem _ q_21) (List.mem_cons_of_mem _ q_141) (by decide) (by decide +kernel) rfl) (fun _ _ => rfl)) ?_
  refine rcons (rOkX.of (ro_cpW (List.mem_cons_of_mem _ q_142) (List.mem_cons_of_mem _ q_144) (List.mem_cons_of_mem _ q_143) (List.mem_cons_of_mem _ q_29) (by decide) (by decide +kernel) rfl) (fun _ _ => rfl)) ?_
  refine rcons (rOkX.of (ro_aload_n (k := 2) rfl (by decide +kernel) rfl) (fun _ _ => rfl)) ?_
  refine rcons (ro_xaret (Or.inr ⟨_, rfl⟩) (by decide +kernel)) ?_
  exact rnil
def ps_ja_ensureCapacityInternal : List Nat := [0, 1, 4, 5, 6, 9, 10, 11, 12, 13, 14, 17, 18, 19, 22, 23, 24, 27, 28, 31, 32, 35, 38]
def tb_ja_ensureCapacityInternal : List RT := [tq_al 0, tq_getf 3 0, tq_len, tq_al 0, tq_getf 3 1, tq_i2 (fun x y => x >>> (y &&& 31)), tq_is 3 2, tq_il 1, tq_il 2, tq_i2 (fun x y => x - y), tq_if1 (fun x => decide (x ≤ 0)) 22, tq_al 0, tq_al 0, tq_getf 3 0, tq_al 0, tq_il 1, tq_callH (rV 3 s_ja_newCapacity) 2 0 9 [], tq_al 0, tq_getf 3 1, tq_i2 (fun x y => x <<< (y &&& 31)), tq_callX 20 m_jr_copyOf 2 9 9, tq_putf 3 0 2, tq_xvret 9]
def m_ja_ensureCapacityInternal : RM := rMeth tb_ja_ensureCapacityInternal 200 3
abbrev rm_ja_ensureCapacityInternal : Room := { frames := 3, cells := 9, slots := 108, locals := 82 }
set_option maxHeartbeats 4000000 in
set_option maxRecDepth 20000 in
theorem ok_ja_ensureCapacityInternal : rMetX 20 y_ja_ensureCapacityInternal (Cond.code y_ja_ensureCapacityInternal prog_5_method_9_code 3 none :: rT) rm_ja_ensureCapacityInternal 9 m_ja_ensureCapacityInternal := by
  refine rMethX_ok (ps := ps_ja_ensureCapacityInternal) (tab := tb_ja_ensureCapacityInternal) (by decide +kernel) rfl rfl rfl rfl ?_
  refine rcons (rOkX.of (ro_aload_n (k := 0) rfl (by decide +kernel) rfl) (fun _ _ => rfl)) ?_
  refine rcons (rOkX.of (ro_getf (C := rN3) (T := rF3) (N := 4) (k := 0) (by decide +kernel) rfl (rU3c _) (by decide) (List.mem_cons_of_mem _ q_89) rfl) (fun _ _ => rfl)) ?_
  refine rcons (rOkX.of (ro_len (by decide +kernel) rfl) (fun _ _ => rfl)) ?_
  refine rcons (rOkX.of (ro_aload_n (k := 0) rfl (by decide +kernel) rfl) (fun _ _ => rfl)) ?_
  refine rcons (rOkX.of (ro_getf (C := rN3) (T := rF3) (N := 4) (k := 1) (by decide +kernel) rfl (rU3c _) (by decide) (List.mem_cons_of_mem _ q_90) rfl) (fun _ _ => rfl)) ?_
  refine rcons (rOkX.of (ro_ishr (by decide +kernel) rfl) (fun _ _ => rfl)) ?_
  refine rcons (rOkX.of (ro_istore_n (k := 2) rfl (by decide +kernel) rfl) (fun _ _ => rfl)) ?_
  refine rcons (rOkX.of (ro_iload_n (k := 1) rfl (by decide +kernel) rfl) (fun _ _ => rfl)) ?_
  refine rcons (rOkX.of (ro_iload_n (k := 2) rfl (by decide +kernel) rfl) (fun _ _ => rfl)) ?_
  refine rcons (rOkX.of (ro_isub (by decide +kernel) rfl) (fun _ _ => rfl)) ?_
  refine rcons (rOkX.of (ro_if_le (off := 24) (by decide +kernel) rfl rfl) (fun _ _ => rfl)) ?_
  refine rcons (rOkX.of (ro_aload_n (k := 0) rfl (by decide +kernel) rfl) (fun _ _ => rfl)) ?_
  refine rcons (rOkX.of (ro_aload_n (k := 0) rfl (by decide +kernel) rfl) (fun _ _ => rfl)) ?_
  refine rcons (rOkX.of (ro_getf (C := rN3) (T := rF3) (N := 4) (k := 0) (by decide +kernel) rfl (rU3c _) (by decide) (List.mem_cons_of_mem _ q_89) rfl) (fun _ _ => rfl)) ?_
  refine rcons (rOkX.of (ro_aload_n (k := 0) rfl (by decide +kernel) rfl) (fun _ _ => rfl)) ?_
  refine rcons (rOkX.of (ro_iload_n (k := 1) rfl (by decide +kernel) rfl) (fun _ _ => rfl)) ?_
  refine rcons (rOkX.of (ro_callU0 (C := rN3) (T := rF3) (N := 4) rfl okS_ja_newCapacity (by decide +kernel) (fun s args ht hI => rcwU (owner := "java/lang/AbstractStringBuilder") (C := "java/lang/StringBuilder") (x := y_ja_newCapacity) 1 ht (rgoodc (fun w h => List.mem_cons_of_mem _ h) q_117 (rgood (fun w h => List.mem_cons_of_mem _ h))) rfl rfl rfl (List.mem_cons_of_mem _ q_114) (List.mem_cons_of_mem _ q_1293) (List.mem_cons_of_mem _ q_116) (List.mem_cons_of_mem _ q_23) (rselP (y0 := y_ja_isLatin1) rfl ⟨hy_ja_newCapacity.1, hy_ja_newCapacity.2.1⟩ (ht _ (List.mem_cons_of_mem _ q_148)) (rfc_at hI f_115) (ht _ (List.mem_cons_of_mem _ q_116))) rfl hy_ja_newCapacity ⟨Nat.le_of_ble_eq_true rfl, Nat.le_of_ble_eq_true rfl⟩) rfl) (fun _ _ => rfl)) ?_
  refine rcons (rOkX.of (ro_aload_n (k := 0) rfl (by decide +kernel) rfl) (fun _ _ => rfl)) ?_
  refine rcons (rOkX.of (ro_getf (C := rN3) (T := rF3) (N := 4) (k := 1) (by decide +kernel) rfl (rU3c _) (by decide) (List.mem_cons_of_mem _ q_90) rfl) (fun _ _ => rfl)) ?_
  refine rcons (rOkX.of (ro_ishl (by decide +kernel) rfl) (fun _ _ => rfl)) ?_
  refine rcons (ro_xcallS (by decide) ok_jr_copyOf (by decide +kernel) (fun s args ht => va_cwS 2 ht (rgoodS (fun w h => List.mem_cons_of_mem _ h) q_129 q_130 q_28 q_131) rfl rfl rfl hy_jr_copyOf ⟨Nat.le_of_ble_eq_true rfl, Nat.le_of_ble_eq_true rfl⟩) rfl) ?_
  refine rcons (rOkX.of (ro_putfA (C := rN3) (T := rF3) (N := 4) (k := 0) (Y := rY3) (by decide +kernel) rfl (rU3c _) rY3_ok rD3 (by decide) (List.mem_cons_of_mem _ q_89) rfl ⟨rfl, _, rfl⟩ rfl) (fun _ _ => rfl)) ?_
  refine rcons (ro_xvret (by decide +kernel)) ?_
  exact rnil
def C3 (cap : Nat) : Prop := cap = 16 ∨ cap = 34 ∨ cap = 70
theorem C3.le {cap : Nat} (h : C3 cap) : cap ≤ 70 := by
  unfold C3 at h
  omega
def s_ja_ensure : RM := fun as σ Q => ∃ (P : PW) (c : Int32) (cap : Nat) (f : CF) (q : Nat) (g : Bool) (x : Int32), as = [rR 18, rI g x] ∧ x = nI q ∧ σ = SW P c cap f ∧ (C3 cap ∧ bfit f ∧ q ≤ cap + 9 ∧ q ≤ 70) ∧ ∀ (cap' : Nat) (f' : CF), C3 cap' → q ≤ cap' → bfit f' → Q (.inl none) (SW P c cap' f')
/-- .. as it comes out of the rows: the new bytes behind the old ones -/
def SWE (P : PW) (c : Int32) (cap : Nat) (f : CF) (cap' : Nat) (f' : CF) : List RC :=
  [.inl (0, [rR 1, rR 2, rR 3, rR 4, rR 9, .inl (P.2.1 0), .inl (P.2.1 1)]), .inr (0, 4, .inl (P.1 0)), .inr (0, 4, .inl (P.1 1)), .inr (2, 2, .inr (fun j => 5 + j)), .inr (2, 2, .inr (fun j => 7 + j)),
   .inr (0, 4, .inl (P.1 2)), .inr (0, 4, .inl (P.1 3)), .inr (0, 4, .inl (P.1 4)), .inr (0, 4, .inl (P.1 5)), .inr (1, 2, .inl (P.1 6)),
   .inl (1, [.inl P.2.2.1, rR 11, rR 12, rR 13, rR 16, .inl (P.2.1 2), .inl (P.2.1 3)]), .inr (0, 4, .inl (P.1 7)), .inr (0, 4, .inl (P.1 8)), .inr (2, 2, .inr (fun j => 14 + j)),
   .inr (0, 8, .inl (P.1 9)), .inr (0, 8, .inl (P.1 10)), .inr (1, 2, .inl (P.1 11)), .inl (2, [.inr (.inl P.2.2.2.1), rO P.2.2.2.2]),
   .inl (3, [rR 20, rI true 0, rI true 0, rI false c]), .inr (3, cap, .inl f), .inr (3, cap', .inl f')]
theorem nI_sle {q cap : Nat} (hq : q ≤ 100) (hc : cap ≤ 100) (h : decide (nI q - nI cap ≤ 0) = true) : q ≤ cap := by
  have h1 := of_decide_eq_true h
  rw [Int32.le_iff_toInt_le, i32_subI (by rw [nI_toInt (by omega), nI_toInt (by omega)]; omega) (by rw [nI_toInt (by omega), nI_toInt (by omega)]; omega), nI_toInt (by omega), nI_toInt (by omega)] at h1
  have e0 : (0 : Int32).toInt = 0 := rfl
  omega
theorem nI_sgt {q cap : Nat} (hq : q ≤ 100) (hc : cap ≤ 100) (h : decide (nI q - nI cap ≤ 0) = false) : cap < q := by
  have h1 := of_decide_eq_false h
  rw [Int32.le_iff_toInt_le, i32_subI (by rw [nI_toInt (by omega), nI_toInt (by omega)]; omega) (by rw [nI_toInt (by omega), nI_toInt (by omega)]; omega), nI_toInt (by omega), nI_toInt (by omega)] at h1
  have e0 : (0 : Int32).toInt = 0 := rfl
  omega
theorem bfit0 : bfit (fun _ => 0) := sb_fit0
set_option maxHeartbeats 4000000 in
set_option maxRecDepth 20000 in
theorem ens_run {P : PW} {c : Int32} {cap : Nat} {f : CF} {q : Nat} {Q : RQ} (hc : C3 cap) (hf : bfit f) (h1 : q ≤ cap + 9) (h2 : q ≤ 70) (k1 : q ≤ cap → Q (.inl none) (SW P c cap f)) (k2 : ∀ f' : CF, bfit f' → (cap = 16 ∨ cap = 34) → Q (.inl none) (SWE P c cap f (2 * cap + 2) f')) : m_ja_ensureCapacityInternal [rR 18, rI false (nI q)] (SW P c cap f) Q := by
  rcases hc with rfl | rfl | rfl
  · apply And.intro
    · intro h
      exact k1 (nI_sle (q := q) (cap := 16) (by omega) (by omega) h)
    · intro h
      have hq := nI_sgt (q := q) (cap := 16) (by omega) (by omega) h
      refine Exists.intro P ⟨c, 16, f, q, false, nI q, rfl, rfl, rfl, ⟨Or.inl rfl, hq, h1⟩, ?_⟩
      refine And.intro rfl ?_
      apply And.intro
      · exact And.intro rfl (Nat.le_of_ble_eq_true rfl)
      · apply And.intro
        · exact And.intro hf (And.intro (by decide) (And.intro (by decide) (And.intro (by decide) (And.intro (Nat.le_of_ble_eq_true rfl) (Nat.le_of_ble_eq_true rfl)))))
        · exact k2 _ (sb_fitC hf bfit0) (Or.inl rfl)
  · apply And.intro
    · intro h
      exact k1 (nI_sle (q := q) (cap := 34) (by omega) (by omega) h)
    · intro h
      have hq := nI_sgt (q := q) (cap := 34) (by omega) (by omega) h
      refine Exists.intro P ⟨c, 34, f, q, false, nI q, rfl, rfl, rfl, ⟨Or.inr rfl, hq, h1⟩, ?_⟩
      refine And.intro rfl ?_
      apply And.intro
      · exact And.intro rfl (Nat.le_of_ble_eq_true rfl)
      · apply And.intro
        · exact And.intro hf (And.intro (by decide) (And.intro (by decide) (And.intro (by decide) (And.intro (Nat.le_of_ble_eq_true rfl) (Nat.le_of_ble_eq_true rfl)))))
        · exact k2 _ (sb_fitC hf bfit0) (Or.inr rfl)
  · apply And.intro
    · intro h
      exact k1 (nI_sle (q := q) (cap := 70) (by omega) (by omega) h)
    · intro h
      have hq := nI_sgt (q := q) (cap := 70) (by omega) (by omega) h
      omega
/-- the place 19 is taken over by what lies at 20 -/
theorem swe_ext {G : RG} {P : PW} {c : Int32} {cap cap' : Nat} {f f' : CF} : [0, 1, 2, 3, 4, 5, 6, 7, 8, 9, 10, 11, 12, 13, 14, 15, 16, 17, 18, 20].map (fun i => (rW (rAd G) (rTy G) 0 (SWE P c cap f cap' f'))[i]?) = (rW (rAd (rGw G 19 (rAd G 20))) (rTy (rGw G 19 (rAd G 20))) 0 (SW P c cap' f')).map some := by
  have e : rW (rAd (rGw G 19 (rAd G 20))) (rTy (rGw G 19 (rAd G 20))) 0 (SW P c cap' f') = rW (rAd G) (rTy G) 0 (CWP P) ++ [(rAd G 18, .inr (3, [.ref (rAd G 20), .int 0, .int 0, .int c])), (rAd G 20, .inl (rTy G 3, cap', .inl f'))] := by
    rw [← rW_ext (σ := CWP P) (k := 0) (rGw_ext (G := G) (n := 19) (q := rAd G 20) (by decide)) (Nat.le_of_ble_eq_true rfl) rfl]
    rfl
  rw [e]
  rfl
set_option maxHeartbeats 4000000 in
set_option maxRecDepth 20000 in
theorem okS_ja_ensure : rMetX 19 y_ja_ensureCapacityInternal (Cond.code y_ja_ensureCapacityInternal prog_5_method_9_code 3 none :: rT) rm_ja_ensureCapacityInternal 9 s_ja_ensure := by
  refine rMetX_conv (by decide) ok_ja_ensureCapacityInternal (fun as σ Q h => ?_)
  obtain ⟨P, c, cap, f, q, g, x, rfl, rfl, rfl, ⟨hc, hf, h1, h2⟩, h⟩ := h
  refine ⟨[rR 18, rI false (nI q)], fun z σ' => z = .inl none ∧ ((q ≤ cap ∧ σ' = SW P c cap f) ∨ ((cap = 16 ∨ cap = 34) ∧ ∃ f' : CF, bfit f' ∧ σ' = SWE P c cap f (2 * cap + 2) f')), fun _ => rfl, ens_run hc hf h1 h2 (fun hq => ⟨rfl, Or.inl ⟨hq, rfl⟩⟩) (fun f' hf' hc' => ⟨rfl, Or.inr ⟨hc', f', hf', rfl⟩⟩), ?_⟩
  intro G r σ' hq
  obtain ⟨e1, e2⟩ := hq
  cases e1
  rcases e2 with ⟨hq, rfl⟩ | ⟨hc', f', hf', rfl⟩
  · exact ⟨G, none, _, rExt.rf, rfl, h cap f hc hq hf, [0, 1, 2, 3, 4, 5, 6, 7, 8, 9, 10, 11, 12, 13, 14, 15, 16, 17, 18, 19], by decide, rfl⟩
  · refine ⟨rGw G 19 (rAd G 20), none, _, rGw_ext (by decide), rfl, h (2 * cap + 2) f' ?_ ?_ hf', [0, 1, 2, 3, 4, 5, 6, 7, 8, 9, 10, 11, 12, 13, 14, 15, 16, 17, 18, 20], by decide, swe_ext⟩
    · rcases hc' with rfl | rfl
      · exact Or.inr (Or.inl rfl)
      · exact Or.inr (Or.inr rfl)
    · omega
def ps_ja_append__C_AbstractStringBuilder_ : List Nat := [0, 1, 2, 5, 6, 7, 10, 11, 14, 17, 18, 21, 24, 25, 28, 29, 30, 33, 34, 35, 36, 39, 40, 41, 42, 45, 46, 49, 52, 53, 56, 57, 60, 61, 62, 65, 66, 67, 68, 71, 72, 75, 76]
def tb_ja_append__C_AbstractStringBuilder_ : List RT := [tq_al 0, tq_al 0, tq_getf 3 3, tq_ic 1, tq_i2 (fun x y => x + y), tq_callX 19 (rV 3 s_ja_ensure) 2 9 9, tq_al 0, tq_callH (rV 3 m_ja_isLatin1) 1 0 9 [], tq_if1 (fun x => decide (x = 0)) 25, tq_il 1, tq_callH m_jl_canEncode 1 0 9 [], tq_if1 (fun x => decide (x = 0)) 25, tq_al 0, tq_getf 3 0, tq_al 0, tq_dup, tq_getf 3 3, tq_dupx1, tq_ic 1, tq_i2 (fun x y => x + y), tq_putf 3 3 0, tq_il 1, tq_i1f (fun x => x.toInt8.toInt32), tq_bast 3, tq_go 41, tq_bad, tq_bad, tq_bad, tq_bad, tq_bad, tq_bad, tq_bad, tq_bad, tq_bad, tq_bad, tq_bad, tq_bad, tq_bad, tq_bad, tq_bad, tq_bad, tq_al 0, tq_xaret 9]
def m_ja_append__C_AbstractStringBuilder_ : RM := rMeth tb_ja_append__C_AbstractStringBuilder_ 200 2
abbrev rm_ja_append__C_AbstractStringBuilder_ : Room := { frames := 4, cells := 9, slots := 108, locals := 104 }
set_option maxHeartbeats 4000000 in
set_option maxRecDepth 20000 in
theorem ok_ja_append__C_AbstractStringBuilder_ : rMetX 19 y_ja_append__C_AbstractStringBuilder_ (Cond.code y_ja_append__C_AbstractStringBuilder_ prog_5_method_31_code 2 (some (.object "java/lang/AbstractStringBuilder")) :: rT) rm_ja_append__C_AbstractStringBuilder_ 9 m_ja_append__C_AbstractStringBuilder_ := by
  refine rMethX_ok (ps := ps_ja_append__C_AbstractStringBuilder_) (tab := tb_ja_append__C_AbstractStringBuilder_) (by decide +kernel) rfl rfl rfl rfl ?_
  refine rcons (rOkX.of (ro_aload_n (k := 0) rfl (by decide +kernel) rfl) (fun _ _ => rfl)) ?_
  refine rcons (rOkX.of (ro_aload_n (k := 0) rfl (by decide +kernel) rfl) (fun _ _ => rfl)) ?_
  refine rcons (rOkX.of (ro_getf (C := rN3) (T := rF3) (N := 4) (k := 3) (by decide +kernel) rfl (rU3c _) (by decide) (List.mem_cons_of_mem _ q_92) rfl) (fun _ _ => rfl)) ?_
  refine rcons (rOkX.of (ro_iconst (n := 1) (by decide +kernel) rfl rfl) (fun _ _ => rfl)) ?_
  refine rcons (rOkX.of (ro_iadd (by decide +kernel) rfl) (fun _ _ => rfl)) ?_
  refine rcons (ro_xcallU (C := rN3) (T := rF3) (N := 4) (by decide) rfl okS_ja_ensure (by decide +kernel) (fun s args ht hI => rcwU (owner := "java/lang/AbstractStringBuilder") (C := "java/lang/StringBuilder") (x := y_ja_ensureCapacityInternal) 1 ht (rgoodc (fun w h => List.mem_cons_of_mem _ h) q_113 (rgood (fun w h => List.mem_cons_of_mem _ h))) rfl rfl rfl (List.mem_cons_of_mem _ q_110) (List.mem_cons_of_mem _ q_1292) (List.mem_cons_of_mem _ q_112) (List.mem_cons_of_mem _ q_23) (rselP (y0 := y_ja_isLatin1) rfl ⟨hy_ja_ensureCapacityInternal.1, hy_ja_ensureCapacityInternal.2.1⟩ (ht _ (List.mem_cons_of_mem _ q_148)) (rfc_at hI f_111) (ht _ (List.mem_cons_of_mem _ q_112))) rfl hy_ja_ensureCapacityInternal ⟨Nat.le_of_ble_eq_true rfl, Nat.le_of_ble_eq_true rfl⟩) rfl) ?_
  refine rcons (rOkX.of (ro_aload_n (k := 0) rfl (by decide +kernel) rfl) (fun _ _ => rfl)) ?_
  refine rcons (rOkX.of (ro_callU0 (C := rN3) (T := rF3) (N := 4) rfl ok_ja_isLatin1 (by decide +kernel) (fun s args ht hI => rcwU (owner := "java/lang/AbstractStringBuilder") (C := "java/lang/StringBuilder") (x := y_ja_isLatin1) 0 ht (rgoodc (fun w h => List.mem_cons_of_mem _ h) q_149 (rgood (fun w h => List.mem_cons_of_mem _ h))) rfl rfl rfl (List.mem_cons_of_mem _ q_145) (List.mem_cons_of_mem _ q_147) (List.mem_cons_of_mem _ q_146) (List.mem_cons_of_mem _ q_23) (ht _ (List.mem_cons_of_mem _ q_148)) rfl hy_ja_isLatin1 ⟨Nat.le_of_ble_eq_true rfl, Nat.le_of_ble_eq_true rfl⟩) rfl) (fun _ _ => rfl)) ?_
  refine rcons (rOkX.of (ro_if_eq (off := 31) (by decide +kernel) rfl rfl) (fun _ _ => rfl)) ?_
  refine rcons (rOkX.of (ro_iload_n (k := 1) rfl (by decide +kernel) rfl) (fun _ _ => rfl)) ?_
  refine rcons (rOkX.of (ro_callS0 ok_jl_canEncode (by decide +kernel) (fun s args ht => va_cwS 1 ht (rgoodS (fun w h => List.mem_cons_of_mem _ h) q_150 q_151 q_30 q_152) rfl rfl rfl hy_jl_canEncode ⟨Nat.le_of_ble_eq_true rfl, Nat.le_of_ble_eq_true rfl⟩) rfl) (fun _ _ => rfl)) ?_
  refine rcons (rOkX.of (ro_if_eq (off := 24) (by decide +kernel) rfl rfl) (fun _ _ => rfl)) ?_
  refine rcons (rOkX.of (ro_aload_n (k := 0) rfl (by decide +kernel) rfl) (fun _ _ => rfl)) ?_
  refine rcons (rOkX.of (ro_getf (C := rN3) (T := rF3) (N := 4) (k := 0) (by decide +kernel) rfl (rU3c _) (by decide) (List.mem_cons_of_mem _ q_89) rfl) (fun _ _ => rfl)) ?_
  refine rcons (rOkX.of (ro_aload_n (k := 0) rfl (by decide +kernel) rfl) (fun _ _ => rfl)) ?_
  refine rcons (rOkX.of (ro_dup (by decide +kernel) rfl) (fun _ _ => rfl)) ?_
  refine rcons (rOkX.of (ro_getf (C := rN3) (T := rF3) (N := 4) (k := 3) (by decide +kernel) rfl (rU3c _) (by decide) (List.mem_cons_of_mem _ q_92) rfl) (fun _ _ => rfl)) ?_
  refine rcons (rOkX.of (ro_dupx1 (by decide +kernel) rfl) (fun _ _ => rfl)) ?_
  refine rcons (rOkX.of (ro_iconst (n := 1) (by decide +kernel) rfl rfl) (fun _ _ => rfl)) ?_
  refine rcons (rOkX.of (ro_iadd (by decide +kernel) rfl) (fun _ _ => rfl)) ?_
  refine rcons (rOkX.of (ro_putfI (C := rN3) (T := rF3) (N := 4) (k := 3) (Y := rY3) (by decide +kernel) rfl (rU3c _) rY3_ok rD3 (by decide) (List.mem_cons_of_mem _ q_92) rfl rfl rfl) (fun _ _ => rfl)) ?_
  refine rcons (rOkX.of (ro_iload_n (k := 1) rfl (by decide +kernel) rfl) (fun _ _ => rfl)) ?_
  refine rcons (rOkX.of (ro_i2b (by decide +kernel) rfl) (fun _ _ => rfl)) ?_
  refine rcons (rOkX.of (ro_bast (by decide +kernel) rfl) (fun _ _ => rfl)) ?_
  refine rcons (rOkX.of (ro_goto (off := 33) (by decide +kernel) rfl) (fun _ _ => rfl)) ?_
  refine rcons (rOkX.of (ro_bad) (fun _ _ => rfl)) ?_
  refine rcons (rOkX.of (ro_bad) (fun _ _ => rfl)) ?_
  refine rcons (rOkX.of (ro_bad) (fun _ _ => rfl)) ?_
  refine rcons (rOkX.of (ro_bad) (fun _ _ => rfl)) ?_
  refine rcons (rOkX.of (ro_bad) (fun _ _ => rfl)) ?_
  refine rcons (rOkX.of (ro_bad) (fun _ _ => rfl)) ?_
  refine rcons (rOkX.of (ro_bad) (fun _ _ => rfl)) ?_
  refine rcons (rOkX.of (ro_bad) (fun _ _ => rfl)) ?_
  refine rcons (rOkX.of (ro_bad) (fun _ _ => rfl)) ?_
  refine rcons (rOkX.of (ro_bad) (fun _ _ => rfl)) ?_
  refine rcons (rOkX.of (ro_bad) (fun _ _ => rfl)) ?_
  refine rcons (rOkX.of (ro_bad) (fun _ _ => rfl)) ?_
  refine rcons (rOkX.of (ro_bad) (fun _ _ => rfl)) ?_
  refine rcons (rOkX.of (ro_bad) (fun _ _ => rfl)) ?_
  refine rcons (rOkX.of (ro_bad) (fun _ _ => rfl)) ?_
  refine rcons (rOkX.of (ro_bad) (fun _ _ => rfl)) ?_
  refine rcons (rOkX.of (ro_aload_n (k := 0) rfl (by decide +kernel) rfl) (fun _ _ => rfl)) ?_
  refine rcons (ro_xaret (Or.inl ⟨_, rfl⟩) (by decide +kernel)) ?_
  exact rnil
def ps_jb_append__C_StringBuilder_ : List Nat := [0, 1, 2, 5, 6, 7]
def tb_jb_append__C_StringBuilder_ : List RT := [tq_al 0, tq_il 1, tq_callX 19 (rV 3 m_ja_append__C_AbstractStringBuilder_) 2 9 9, tq_pop, tq_al 0, tq_xaret 9]
def m_jb_append__C_StringBuilder_ : RM := rMeth tb_jb_append__C_StringBuilder_ 200 2
abbrev rm_jb_append__C_StringBuilder_ : Room := { frames := 5, cells := 9, slots := 108, locals := 125 }
set_option maxHeartbeats 4000000 in
set_option maxRecDepth 20000 in
theorem ok_jb_append__C_StringBuilder_ : rMetX 19 y_jb_append__C_StringBuilder_ (Cond.code y_jb_append__C_StringBuilder_ prog_15_method_14_code 2 (some (.object "java/lang/StringBuilder")) :: rT) rm_jb_append__C_StringBuilder_ 9 m_jb_append__C_StringBuilder_ := by
  refine rMethX_ok (ps := ps_jb_append__C_StringBuilder_) (tab := tb_jb_append__C_StringBuilder_) (by decide +kernel) rfl rfl rfl rfl ?_
  refine rcons (rOkX.of (ro_aload_n (k := 0) rfl (by decide +kernel) rfl) (fun _ _ => rfl)) ?_
  refine rcons (rOkX.of (ro_iload_n (k := 1) rfl (by decide +kernel) rfl) (fun _ _ => rfl)) ?_
  refine rcons (ro_xcallSU (C := rN3) (T := rF3) (N := 4) (by decide) rfl ok_ja_append__C_AbstractStringBuilder_ (by decide +kernel) (fun s args ht => va_cwSU 1 ht (rgoodc (fun w h => List.mem_cons_of_mem _ h) q_107 (rgoodc (fun w h => List.mem_cons_of_mem _ h) q_1291 (rgoodc (fun w h => List.mem_cons_of_mem _ h) q_101 (rgoodc (fun w h => List.mem_cons_of_mem _ h) q_108 (rgoodc (fun w h => List.mem_cons_of_mem _ h) q_23 (rgoodc (fun w h => List.mem_cons_of_mem _ h) q_109 (rgood (fun w h => List.mem_cons_of_mem _ h)))))))) rfl rfl rfl ⟨by decide, hy_ja_append__C_AbstractStringBuilder_.2.2⟩ ⟨Nat.le_of_ble_eq_true rfl, Nat.le_of_ble_eq_true rfl⟩) rfl) ?_
  refine rcons (rOkX.of (ro_pop (by decide +kernel) rfl) (fun _ _ => rfl)) ?_
  refine rcons (rOkX.of (ro_aload_n (k := 0) rfl (by decide +kernel) rfl) (fun _ _ => rfl)) ?_
  refine rcons (ro_xaret (Or.inl ⟨_, rfl⟩) (by decide +kernel)) ?_
  exact rnil
def s_jb_appC : RM := fun as σ Q => ∃ (P : PW) (c : Nat) (cap : Nat) (f : CF), as = [rR 18, rI true 32] ∧ σ = SW P (nI c) cap f ∧ (C3 cap ∧ bfit f ∧ c ≤ cap ∧ c + 1 ≤ 70) ∧ ∀ (cap' : Nat) (f' : CF), C3 cap' → c + 1 ≤ cap' → bfit f' → Q (.inl (some (rR 18))) (SW P (nI (c + 1)) cap' f')
set_option maxHeartbeats 4000000 in
set_option maxRecDepth 20000 in
theorem appC_run {P : PW} {c : Nat} {cap : Nat} {f : CF} {Q : RQ} (hc : C3 cap) (hf : bfit f) (h1 : c ≤ cap) (h2 : c + 1 ≤ 70) (k : ∀ (cap' : Nat) (f' : CF), C3 cap' → c + 1 ≤ cap' → bfit f' → Q (.inl (some (rR 18))) (SW P (nI c + 1) cap' f')) : m_jb_append__C_StringBuilder_ [rR 18, rI true 32] (SW P (nI c) cap f) Q := by
  refine And.intro rfl (And.intro rfl (Exists.intro P ⟨nI c, cap, f, c + 1, false, _, rfl, nI_1 c, rfl, ⟨hc, hf, by omega, h2⟩, ?_⟩))
  intro cap' f' hc' hq hf'
  apply And.intro
  · rfl
  · apply And.intro
    · rfl
    · apply And.intro
      · exact vp_in_nI (n := c) (N := cap') (by omega) (by have := hc'.le; omega)
      · exact k cap' _ hc' hq (sb_fitU hf' rfl)
theorem okS_jb_appC : rMetX 19 y_jb_append__C_StringBuilder_ (Cond.code y_jb_append__C_StringBuilder_ prog_15_method_14_code 2 (some (.object "java/lang/StringBuilder")) :: rT) rm_jb_append__C_StringBuilder_ 9 s_jb_appC := by
  refine rMetX_mono ok_jb_append__C_StringBuilder_ (fun as σ Q h => ?_)
  obtain ⟨P, c, cap, f, rfl, rfl, ⟨hc, hf, h1, h2⟩, h⟩ := h
  exact appC_run hc hf h1 h2 (fun cap' f' h3 h4 h5 => by rw [nI_1]; exact h cap' f' h3 h4 h5)
def ps_ja_append__String__AbstractStringBuilder_ : List Nat := [0, 1, 4, 5, 8, 9, 10, 13, 14, 15, 16, 19, 20, 21, 24, 25, 26, 29, 30, 33, 34, 35, 38, 39, 40, 43, 44]
def tb_ja_append__String__AbstractStringBuilder_ : List RT := [tq_al 1, tq_nn 5, tq_bad, tq_bad, tq_bad, tq_al 1, tq_callH (rVK m_js_length) 1 0 9 [], tq_is 3 2, tq_al 0, tq_al 0, tq_getf 3 3, tq_il 2, tq_i2 (fun x y => x + y), tq_callX 19 (rV 3 s_ja_ensure) 2 9 9, tq_al 0, tq_al 0, tq_getf 3 3, tq_al 1, tq_callH (rV 3 m_ja_putStringAt) 3 0 9 [], tq_al 0, tq_dup, tq_getf 3 3, tq_il 2, tq_i2 (fun x y => x + y), tq_putf 3 3 0, tq_al 0, tq_xaret 9]
def m_ja_append__String__AbstractStringBuilder_ : RM := rMeth tb_ja_append__String__AbstractStringBuilder_ 200 3
abbrev rm_ja_append__String__AbstractStringBuilder_ : Room := { frames := 4, cells := 9, slots := 108, locals := 105 }
set_option maxHeartbeats 4000000 in
set_option maxRecDepth 20000 in
theorem ok_ja_append__String__AbstractStringBuilder_ : rMetX 19 y_ja_append__String__AbstractStringBuilder_ (Cond.code y_ja_append__String__AbstractStringBuilder_ prog_5_method_22_code 3 (some (.object "java/lang/AbstractStringBuilder")) :: rT) rm_ja_append__String__AbstractStringBuilder_ 9 m_ja_append__String__AbstractStringBuilder_ := by
  refine rMethX_ok (ps := ps_ja_append__String__AbstractStringBuilder_) (tab := tb_ja_append__String__AbstractStringBuilder_) (by decide +kernel) rfl rfl rfl rfl ?_
  refine rcons (rOkX.of (ro_aload_n (k := 1) rfl (by decide +kernel) rfl) (fun _ _ => rfl)) ?_
  refine rcons (rOkX.of (ro_nn (off := 8) (by decide +kernel) rfl) (fun _ _ => rfl)) ?_
  refine rcons (rOkX.of (ro_bad) (fun _ _ => rfl)) ?_
  refine rcons (rOkX.of (ro_bad) (fun _ _ => rfl)) ?_
  refine rcons (rOkX.of (ro_bad) (fun _ _ => rfl)) ?_
  refine rcons (rOkX.of (ro_aload_n (k := 1) rfl (by decide +kernel) rfl) (fun _ _ => rfl)) ?_
  refine rcons (rOkX.of (ro_callK0 ok_js_length (by decide +kernel) (fun s args ht => cwV (C := rN4) 0 ht (rgoodV (C := rN4) (fun w h => List.mem_cons_of_mem _ h) q_231 q_232 q_233 q_25 q_234) rfl rfl rfl hv_js_length ⟨Nat.le_of_ble_eq_true rfl, Nat.le_of_ble_eq_true rfl⟩) rfl) (fun _ _ => rfl)) ?_
  refine rcons (rOkX.of (ro_istore_n (k := 2) rfl (by decide +kernel) rfl) (fun _ _ => rfl)) ?_
  refine rcons (rOkX.of (ro_aload_n (k := 0) rfl (by decide +kernel) rfl) (fun _ _ => rfl)) ?_
  refine rcons (rOkX.of (ro_aload_n (k := 0) rfl (by decide +kernel) rfl) (fun _ _ => rfl)) ?_
  refine rcons (rOkX.of (ro_getf (C := rN3) (T := rF3) (N := 4) (k := 3) (by decide +kernel) rfl (rU3c _) (by decide) (List.mem_cons_of_mem _ q_92) rfl) (fun _ _ => rfl)) ?_
  refine rcons (rOkX.of (ro_iload_n (k := 2) rfl (by decide +kernel) rfl) (fun _ _ => rfl)) ?_
  refine rcons (rOkX.of (ro_iadd (by decide +kernel) rfl) (fun _ _ => rfl)) ?_
  refine rcons (ro_xcallU (C := rN3) (T := rF3) (N := 4) (by decide) rfl okS_ja_ensure (by decide +kernel) (fun s args ht hI => rcwU (owner := "java/lang/AbstractStringBuilder") (C := "java/lang/StringBuilder") (x := y_ja_ensureCapacityInternal) 1 ht (rgoodc (fun w h => List.mem_cons_of_mem _ h) q_113 (rgood (fun w h => List.mem_cons_of_mem _ h))) rfl rfl rfl (List.mem_cons_of_mem _ q_110) (List.mem_cons_of_mem _ q_1292) (List.mem_cons_of_mem _ q_112) (List.mem_cons_of_mem _ q_23) (rselP (y0 := y_ja_isLatin1) rfl ⟨hy_ja_ensureCapacityInternal.1, hy_ja_ensureCapacityInternal.2.1⟩ (ht _ (List.mem_cons_of_mem _ q_148)) (rfc_at hI f_111) (ht _ (List.mem_cons_of_mem _ q_112))) rfl hy_ja_ensureCapacityInternal ⟨Nat.le_of_ble_eq_true rfl, Nat.le_of_ble_eq_true rfl⟩) rfl) ?_
  refine rcons (rOkX.of (ro_aload_n (k := 0) rfl (by decide +kernel) rfl) (fun _ _ => rfl)) ?_
  refine rcons (rOkX.of (ro_aload_n (k := 0) rfl (by decide +kernel) rfl) (fun _ _ => rfl)) ?_
  refine rcons (rOkX.of (ro_getf (C := rN3) (T := rF3) (N := 4) (k := 3) (by decide +kernel) rfl (rU3c _) (by decide) (List.mem_cons_of_mem _ q_92) rfl) (fun _ _ => rfl)) ?_
  refine rcons (rOkX.of (ro_aload_n (k := 1) rfl (by decide +kernel) rfl) (fun _ _ => rfl)) ?_
  refine rcons (rOkX.of (ro_callU0 (C := rN3) (T := rF3) (N := 4) rfl ok_ja_putStringAt (by decide +kernel) (fun s args ht hI => rcwU (owner := "java/lang/AbstractStringBuilder") (C := "java/lang/StringBuilder") (x := y_ja_putStringAt) 2 ht (rgoodc (fun w h => List.mem_cons_of_mem _ h) q_243 (rgood (fun w h => List.mem_cons_of_mem _ h))) rfl rfl rfl (List.mem_cons_of_mem _ q_240) (List.mem_cons_of_mem _ q_1297) (List.mem_cons_of_mem _ q_242) (List.mem_cons_of_mem _ q_23) (rselP (y0 := y_ja_isLatin1) rfl ⟨hy_ja_putStringAt.1, hy_ja_putStringAt.2.1⟩ (ht _ (List.mem_cons_of_mem _ q_148)) (rfc_at hI f_241) (ht _ (List.mem_cons_of_mem _ q_242))) rfl hy_ja_putStringAt ⟨Nat.le_of_ble_eq_true rfl, Nat.le_of_ble_eq_true rfl⟩) rfl) (fun _ _ => rfl)) ?_
  refine rcons (rOkX.of (ro_aload_n (k := 0) rfl (by decide +kernel) rfl) (fun _ _ => rfl)) ?_
  refine rcons (rOkX.of (ro_dup (by decide +kernel) rfl) (fun _ _ => rfl)) ?_
  refine rcons (rOkX.of (ro_getf (C := rN3) (T := rF3) (N := 4) (k := 3) (by decide +kernel) rfl (rU3c _) (by decide) (List.mem_cons_of_mem _ q_92) rfl) (fun _ _ => rfl)) ?_
  refine rcons (rOkX.of (ro_iload_n (k := 2) rfl (by decide +kernel) rfl) (fun _ _ => rfl)) ?_
  refine rcons (rOkX.of (ro_iadd (by decide +kernel) rfl) (fun _ _ => rfl)) ?_
  refine rcons (rOkX.of (ro_putfI (C := rN3) (T := rF3) (N := 4) (k := 3) (Y := rY3) (by decide +kernel) rfl (rU3c _) rY3_ok rD3 (by decide) (List.mem_cons_of_mem _ q_92) rfl rfl rfl) (fun _ _ => rfl)) ?_
  refine rcons (rOkX.of (ro_aload_n (k := 0) rfl (by decide +kernel) rfl) (fun _ _ => rfl)) ?_
  refine rcons (ro_xaret (Or.inl ⟨_, rfl⟩) (by decide +kernel)) ?_
  exact rnil
def ps_jb_append__String__StringBuilder_ : List Nat := [0, 1, 2, 5, 6, 7]
def tb_jb_append__String__StringBuilder_ : List RT := [tq_al 0, tq_al 1, tq_callX 19 (rV 3 m_ja_append__String__AbstractStringBuilder_) 2 9 9, tq_pop, tq_al 0, tq_xaret 9]
def m_jb_append__String__StringBuilder_ : RM := rMeth tb_jb_append__String__StringBuilder_ 200 2
abbrev rm_jb_append__String__StringBuilder_ : Room := { frames := 5, cells := 9, slots := 108, locals := 127 }
set_option maxHeartbeats 4000000 in
set_option maxRecDepth 20000 in
theorem ok_jb_append__String__StringBuilder_ : rMetX 19 y_jb_append__String__StringBuilder_ (Cond.code y_jb_append__String__StringBuilder_ prog_15_method_7_code 2 (some (.object "java/lang/StringBuilder")) :: rT) rm_jb_append__String__StringBuilder_ 9 m_jb_append__String__StringBuilder_ := by
  refine rMethX_ok (ps := ps_jb_append__String__StringBuilder_) (tab := tb_jb_append__String__StringBuilder_) (by decide +kernel) rfl rfl rfl rfl ?_
  refine rcons (rOkX.of (ro_aload_n (k := 0) rfl (by decide +kernel) rfl) (fun _ _ => rfl)) ?_
  refine rcons (rOkX.of (ro_aload_n (k := 1) rfl (by decide +kernel) rfl) (fun _ _ => rfl)) ?_
  refine rcons (ro_xcallSU (C := rN3) (T := rF3) (N := 4) (by decide) rfl ok_ja_append__String__AbstractStringBuilder_ (by decide +kernel) (fun s args ht => va_cwSU 1 ht (rgoodc (fun w h => List.mem_cons_of_mem _ h) q_212 (rgoodc (fun w h => List.mem_cons_of_mem _ h) q_1295 (rgoodc (fun w h => List.mem_cons_of_mem _ h) q_101 (rgoodc (fun w h => List.mem_cons_of_mem _ h) q_213 (rgoodc (fun w h => List.mem_cons_of_mem _ h) q_23 (rgoodc (fun w h => List.mem_cons_of_mem _ h) q_214 (rgood (fun w h => List.mem_cons_of_mem _ h)))))))) rfl rfl rfl ⟨by decide, hy_ja_append__String__AbstractStringBuilder_.2.2⟩ ⟨Nat.le_of_ble_eq_true rfl, Nat.le_of_ble_eq_true rfl⟩) rfl) ?_
  refine rcons (rOkX.of (ro_pop (by decide +kernel) rfl) (fun _ _ => rfl)) ?_
  refine rcons (rOkX.of (ro_aload_n (k := 0) rfl (by decide +kernel) rfl) (fun _ _ => rfl)) ?_
  refine rcons (ro_xaret (Or.inl ⟨_, rfl⟩) (by decide +kernel)) ?_
  exact rnil
def rSl (k : Nat) : Nat := rSLen.getD (k - 100) 0
def s_jb_appS : RM := fun as σ Q => ∃ (P : PW) (c : Nat) (cap : Nat) (f : CF) (k : Nat), as = [rR 18, rR k] ∧ σ = SW P (nI c) cap f ∧ (C3 cap ∧ bfit f ∧ c ≤ cap ∧ c + rSl k ≤ 70 ∧ rSl k ≤ 9 ∧ 100 ≤ k ∧ k < 145) ∧ ∀ (cap' : Nat) (f' : CF), C3 cap' → c + rSl k ≤ cap' → bfit f' → Q (.inl (some (rR 18))) (SW P (nI (c + rSl k)) cap' f')
theorem sl_val {c k : Nat} : nI c + Int32.ofNat (rSLen.getD (k + 100 - 200) 0) >>> ((0 : Int32) &&& 31) = nI (c + rSl k) := by
  rw [sb_shr0, show k + 100 - 200 = k - 100 by omega]
  exact nI_add c (rSl k)
theorem cp_ok {c k cap : Nat} (h1 : c + rSl k ≤ cap) (h2 : cap ≤ 70) : cpok 0 (nI c <<< ((0 : Int32) &&& 31)) (Int32.ofNat (rSLen.getD (k + 100 - 200) 0)) (rSLen.getD (k + 100 - 200) 0) cap := by
  have e : rSLen.getD (k + 100 - 200) 0 = rSl k := by rw [show k + 100 - 200 = k - 100 by omega]; rfl
  rw [e, sb_shl0]
  have e2 : (nI c).toNatClampNeg = c := nI_clamp (by omega)
  have e3 : (Int32.ofNat (rSl k)).toNatClampNeg = rSl k := nI_clamp (n := rSl k) (by omega)
  have e4 : (0 : Int32).toNatClampNeg = 0 := rfl
  exact ⟨by decide, nI_pos (by omega), nI_pos (n := rSl k) (by omega), by rw [e3, e4]; omega, by rw [e2, e3]; exact h1⟩
theorem chk2 {x y : Bool} (hx : x = true) (hy : y = true) : (x && y) = true := by rw [hx, hy]; rfl
set_option maxHeartbeats 4000000 in
set_option maxRecDepth 20000 in
theorem appS_run {P : PW} {c k : Nat} {cap : Nat} {f : CF} {Q : RQ} (hc : C3 cap) (hf : bfit f) (h1 : c ≤ cap) (h2 : c + rSl k ≤ 70) (h3 : rSl k ≤ 9) (h4 : 100 ≤ k) (h5 : k < 145) (kk : ∀ (cap' : Nat) (f' : CF), C3 cap' → c + rSl k ≤ cap' → bfit f' → Q (.inl (some (rR 18))) (SW P (nI c + Int32.ofNat (rSLen.getD (k + 100 - 200) 0) >>> ((0 : Int32) &&& 31)) cap' f')) : m_jb_append__String__StringBuilder_ [rR 18, rR k] (SW P (nI c) cap f) Q := by
  have hk : 100 ≤ k ∧ k < 145 := ⟨h4, h5⟩
  have hk2 : 200 ≤ k + 100 ∧ k + 100 < 245 := by omega
  have hk50 : (Nat.blt k 19 || Nat.ble 50 k) = true := by
    rw [Bool.or_eq_true]
    exact Or.inr (Nat.ble_eq_true_of_le (by omega))
  refine And.intro (chk2 rfl (chk2 hk50 rfl)) ?_
  refine And.intro hk (And.intro hk (And.intro hk2 (And.intro hk (And.intro hk (And.intro rfl ?_)))))
  refine And.intro (chk2 rfl (chk2 hk50 rfl)) ?_
  refine Exists.intro P ⟨nI c, cap, f, c + rSl k, false, _, rfl, sl_val, rfl, ⟨hc, hf, by omega, h2⟩, ?_⟩
  intro cap' f' hc' hq hf'
  have hle := hc'.le
  have hcp := cp_ok hq hle
  repeat' (first | exact kk cap' _ hc' hq (sb_fitC (rsb_fit (i := k + 100 - 200) (by omega)) hf') | exact hk | exact hk2 | exact hcp | apply And.intro | rfl)
theorem okS_jb_appS : rMetX 19 y_jb_append__String__StringBuilder_ (Cond.code y_jb_append__String__StringBuilder_ prog_15_method_7_code 2 (some (.object "java/lang/StringBuilder")) :: rT) rm_jb_append__String__StringBuilder_ 9 s_jb_appS := by
  refine rMetX_mono ok_jb_append__String__StringBuilder_ (fun as σ Q h => ?_)
  obtain ⟨P, c, cap, f, k, rfl, rfl, ⟨hc, hf, h1, h2, h3, h4, h5⟩, h⟩ := h
  exact appS_run hc hf h1 h2 h3 h4 h5 (fun cap' f' g1 g2 g3 => by rw [sl_val]; exact h cap' f' g1 g2 g3)
def ps_ja_init : List Nat := [0, 1, 4, 7, 10, 11, 12, 14, 17, 18, 19, 22, 25, 26, 27, 30, 33, 34, 35, 38]
def tb_ja_init : List RT := [tq_al 0, tq_objinit, tq_ic 1, tq_if1 (fun x => decide (x = 0)) 12, tq_al 0, tq_il 1, tq_newb 19 9, tq_putf 3 0 2, tq_al 0, tq_ic 0, tq_put01 3 1, tq_go 19, tq_bad, tq_bad, tq_bad, tq_bad, tq_bad, tq_bad, tq_bad, tq_xvret 9]
def m_ja_init : RM := rMeth tb_ja_init 200 2
abbrev rm_ja_init : Room := { frames := 1, cells := 9, slots := 108, locals := 20 }
set_option maxHeartbeats 4000000 in
set_option maxRecDepth 20000 in
theorem ok_ja_init : rMetX 19 y_ja_init (Cond.code y_ja_init prog_5_method_2_code 2 none :: rT) rm_ja_init 9 m_ja_init := by
  refine rMethX_ok (ps := ps_ja_init) (tab := tb_ja_init) (by decide +kernel) rfl rfl rfl rfl ?_
  refine rcons (rOkX.of (ro_aload_n (k := 0) rfl (by decide +kernel) rfl) (fun _ _ => rfl)) ?_
  refine rcons (rOkX.of (ro_objinit (List.mem_cons_of_mem _ q_79) (List.mem_cons_of_mem _ q_39) (List.mem_cons_of_mem _ q_40) (by decide) (by decide +kernel) rfl) (fun _ _ => rfl)) ?_
  refine rcons (rOkX.of (ro_getsI (C := "java/lang/String") (n := "COMPACT_STRINGS") (d := "Z") (fun _ _ h => h.2.2.2.2.2.2.2.2.2.2.1) (List.mem_cons_of_mem _ q_80) (by decide +kernel) rfl) (fun _ _ => rfl)) ?_
  refine rcons (rOkX.of (ro_if_eq (off := 18) (by decide +kernel) rfl rfl) (fun _ _ => rfl)) ?_
  refine rcons (rOkX.of (ro_aload_n (k := 0) rfl (by decide +kernel) rfl) (fun _ _ => rfl)) ?_
  refine rcons (rOkX.of (ro_iload_n (k := 1) rfl (by decide +kernel) rfl) (fun _ _ => rfl)) ?_
  refine rcons (ro_newb (by decide) (by decide) (List.mem_cons_of_mem _ q_102) (by decide +kernel) rfl) ?_
  refine rcons (rOkX.of (ro_putfA (C := rN3) (T := rF3) (N := 4) (k := 0) (Y := rY3) (by decide +kernel) rfl (rU3c _) rY3_ok rD3 (by decide) (List.mem_cons_of_mem _ q_89) rfl ⟨rfl, _, rfl⟩ rfl) (fun _ _ => rfl)) ?_
  refine rcons (rOkX.of (ro_aload_n (k := 0) rfl (by decide +kernel) rfl) (fun _ _ => rfl)) ?_
  refine rcons (rOkX.of (ro_iconst (n := 0) (by decide +kernel) rfl rfl) (fun _ _ => rfl)) ?_
  refine rcons (rOkX.of (ro_put01 (C := rN3) (T := rF3) (N := 4) (k := 1) (Y := rY3) (by decide +kernel) rfl (rU3c _) rY3_ok rD3 (by decide) (List.mem_cons_of_mem _ q_90) rfl (Or.inl rfl) rfl) (fun _ _ => rfl)) ?_
  refine rcons (rOkX.of (ro_goto (off := 16) (by decide +kernel) rfl) (fun _ _ => rfl)) ?_
  refine rcons (rOkX.of (ro_bad) (fun _ _ => rfl)) ?_
  refine rcons (rOkX.of (ro_bad) (fun _ _ => rfl)) ?_
  refine rcons (rOkX.of (ro_bad) (fun _ _ => rfl)) ?_
  refine rcons (rOkX.of (ro_bad) (fun _ _ => rfl)) ?_
  refine rcons (rOkX.of (ro_bad) (fun _ _ => rfl)) ?_
  refine rcons (rOkX.of (ro_bad) (fun _ _ => rfl)) ?_
  refine rcons (rOkX.of (ro_bad) (fun _ _ => rfl)) ?_
  refine rcons (ro_xvret (by decide +kernel)) ?_
  exact rnil
def ps_jb_init : List Nat := [0, 1, 3, 6]
def tb_jb_init : List RT := [tq_al 0, tq_ic 16, tq_callX 19 (rThis m_ja_init) 2 9 9, tq_xvret 9]
def m_jb_init : RM := rMeth tb_jb_init 200 1
abbrev rm_jb_init : Room := { frames := 2, cells := 9, slots := 108, locals := 41 }
set_option maxHeartbeats 4000000 in
set_option maxRecDepth 20000 in
theorem ok_jb_init : rMetX 19 y_jb_init (Cond.code y_jb_init prog_15_method_1_code 1 none :: rT) rm_jb_init 9 m_jb_init := by
  refine rMethX_ok (ps := ps_jb_init) (tab := tb_jb_init) (by decide +kernel) rfl rfl rfl rfl ?_
  refine rcons (rOkX.of (ro_aload_n (k := 0) rfl (by decide +kernel) rfl) (fun _ _ => rfl)) ?_
  refine rcons (rOkX.of (ro_bipush (n := 16) (by decide +kernel) rfl rfl) (fun _ _ => rfl)) ?_
  refine rcons (ro_xcallI (by decide) ok_ja_init (by decide +kernel) (fun s args ht => cwI 1 ht (rgoodc (fun w h => List.mem_cons_of_mem _ h) q_78 (rgood (fun w h => List.mem_cons_of_mem _ h))) rfl rfl rfl (ht _ (List.mem_cons_of_mem _ q_23)) (ht _ (List.mem_cons_of_mem _ q_76)) (ht _ (List.mem_cons_of_mem _ q_77)) rfl hy_ja_init ⟨Nat.le_of_ble_eq_true rfl, Nat.le_of_ble_eq_true rfl⟩) rfl) ?_
  refine rcons (ro_xvret (by decide +kernel)) ?_
  exact rnil
def ps_jr_copyOfRangeByte : List Nat := [0, 1, 2, 5, 6, 7, 8, 9, 10, 12, 14, 15, 16, 18, 19, 20, 21, 22, 23, 24, 27, 30, 32]
def tb_jr_copyOfRangeByte : List RT := [tq_il 1, tq_il 2, tq_callH m_jr_checkLength 2 0 9 [], tq_il 2, tq_il 1, tq_i2 (fun x y => x - y), tq_is 5 3, tq_il 3, tq_newb 21 9, tq_as 5 4, tq_al 0, tq_il 1, tq_al 4, tq_ic 0, tq_al 0, tq_len, tq_il 1, tq_i2 (fun x y => x - y), tq_il 3, tq_mminR 9, tq_cpW 9, tq_al 4, tq_xaret 9]
def m_jr_copyOfRangeByte : RM := rMeth tb_jr_copyOfRangeByte 200 5
abbrev rm_jr_copyOfRangeByte : Room := { frames := 1, cells := 9, slots := 108, locals := 60 }
set_option maxHeartbeats 4000000 in
set_option maxRecDepth 20000 in
theorem ok_jr_copyOfRangeByte : rMetX 21 y_jr_copyOfRangeByte (Cond.code y_jr_copyOfRangeByte prog_20_method_133_code 5 (some (.array .byte)) :: rT) rm_jr_copyOfRangeByte 9 m_jr_copyOfRangeByte := by
  refine rMethX_ok (ps := ps_jr_copyOfRangeByte) (tab := tb_jr_copyOfRangeByte) (by decide +kernel) rfl rfl rfl rfl ?_
  refine rcons (rOkX.of (ro_iload_n (k := 1) rfl (by decide +kernel) rfl) (fun _ _ => rfl)) ?_
  refine rcons (rOkX.of (ro_iload_n (k := 2) rfl (by decide +kernel) rfl) (fun _ _ => rfl)) ?_
  refine rcons (rOkX.of (ro_callS0 ok_jr_checkLength (by decide +kernel) (fun s args ht => va_cwS 2 ht (rgoodS (fun w h => List.mem_cons_of_mem _ h) q_288 q_289 q_28 q_290) rfl rfl rfl hy_jr_checkLength ⟨Nat.le_of_ble_eq_true rfl, Nat.le_of_ble_eq_true rfl⟩) rfl) (fun _ _ => rfl)) ?_
  refine rcons (rOkX.of (ro_iload_n (k := 2) rfl (by decide +kernel) rfl) (fun _ _ => rfl)) ?_
  refine rcons (rOkX.of (ro_iload_n (k := 1) rfl (by decide +kernel) rfl) (fun _ _ => rfl)) ?_
  refine rcons (rOkX.of (ro_isub (by decide +kernel) rfl) (fun _ _ => rfl)) ?_
  refine rcons (rOkX.of (ro_istore_n (k := 3) rfl (by decide +kernel) rfl) (fun _ _ => rfl)) ?_
  refine rcons (rOkX.of (ro_iload_n (k := 3) rfl (by decide +kernel) rfl) (fun _ _ => rfl)) ?_
  refine rcons (ro_newb (by decide) (by decide) (List.mem_cons_of_mem _ q_102) (by decide +kernel) rfl) ?_
  refine rcons (rOkX.of (ro_astore (by decide +kernel) rfl) (fun _ _ => rfl)) ?_
  refine rcons (rOkX.of (ro_aload_n (k := 0) rfl (by decide +kernel) rfl) (fun _ _ => rfl)) ?_
  refine rcons (rOkX.of (ro_iload_n (k := 1) rfl (by decide +kernel) rfl) (fun _ _ => rfl)) ?_
  refine rcons (rOkX.of (ro_aload (by decide +kernel) rfl) (fun _ _ => rfl)) ?_
  refine rcons (rOkX.of (ro_iconst (n := 0) (by decide +kernel) rfl rfl) (fun _ _ => rfl)) ?_
  refine rcons (rOkX.of (ro_aload_n (k := 0) rfl (by decide +kernel) rfl) (fun _ _ => rfl)) ?_
  refine rcons (rOkX.of (ro_len (by decide +kernel) rfl) (fun _ _ => rfl)) ?_
  refine rcons (rOkX.of (ro_iload_n (k := 1) rfl (by decide +kernel) rfl) (fun _ _ => rfl)) ?_
  refine rcons (rOkX.of (ro_isub (by decide +kernel) rfl) (fun _ _ => rfl)) ?_
  refine rcons (rOkX.of (ro_iload_n (k := 3) rfl (by decide +kernel) rfl) (fun _ _ => rfl)) ?_
  refine rcons (rOkX.of (ro_minR (List.mem_cons_of_mem _ q_139) (List.mem_cons_of_mem _ q_140) (List.mem_cons_of_mem _ q_21) (List.mem_cons_of_mem _ q_141) (by decide) (by decide +kernel) rfl) (fun _ _ => rfl)) ?_
  refine rcons (rOkX.of (ro_cpW (List.mem_cons_of_mem _ q_142) (List.mem_cons_of_mem _ q_144) (List.mem_cons_of_mem _ q_143) (List.mem_cons_of_mem _ q_29) (by decide) (by decide +kernel) rfl) (fun _ _ => rfl)) ?_
  refine rcons (rOkX.of (ro_aload (by decide +kernel) rfl) (fun _ _ => rfl)) ?_
  refine rcons (ro_xaret (Or.inr ⟨_, rfl⟩) (by decide +kernel)) ?_
  exact rnil
def ps_jr_copyOfRange : List Nat := [0, 1, 4, 5, 6, 7, 10, 11, 12, 13, 16, 17, 18, 21, 24]
def tb_jr_copyOfRange : List RT := [tq_il 1, tq_if1 (fun x => !decide (x = 0)) 6, tq_il 2, tq_al 0, tq_len, tq_if2 (fun x y => decide (x = y)) 11, tq_al 0, tq_il 1, tq_il 2, tq_callX 21 m_jr_copyOfRangeByte 3 9 18, tq_xaret 18, tq_al 0, tq_clone 21 18, tq_castA, tq_xaret 18]
def m_jr_copyOfRange : RM := rMeth tb_jr_copyOfRange 200 3
abbrev rm_jr_copyOfRange : Room := { frames := 2, cells := 18, slots := 216, locals := 84 }
set_option maxHeartbeats 4000000 in
set_option maxRecDepth 20000 in
theorem ok_jr_copyOfRange : rMetX 21 y_jr_copyOfRange (Cond.code y_jr_copyOfRange prog_20_method_132_code 3 (some (.array .byte)) :: rT) rm_jr_copyOfRange 18 m_jr_copyOfRange := by
  refine rMethX_ok (ps := ps_jr_copyOfRange) (tab := tb_jr_copyOfRange) (by decide +kernel) rfl rfl rfl rfl ?_
  refine rcons (rOkX.of (ro_iload_n (k := 1) rfl (by decide +kernel) rfl) (fun _ _ => rfl)) ?_
  refine rcons (rOkX.of (ro_if_ne (off := 9) (by decide +kernel) rfl rfl) (fun _ _ => rfl)) ?_
  refine rcons (rOkX.of (ro_iload_n (k := 2) rfl (by decide +kernel) rfl) (fun _ _ => rfl)) ?_
  refine rcons (rOkX.of (ro_aload_n (k := 0) rfl (by decide +kernel) rfl) (fun _ _ => rfl)) ?_
  refine rcons (rOkX.of (ro_len (by decide +kernel) rfl) (fun _ _ => rfl)) ?_
  refine rcons (rOkX.of (ro_icmp_eq (off := 10) (by decide +kernel) rfl rfl) (fun _ _ => rfl)) ?_
  refine rcons (rOkX.of (ro_aload_n (k := 0) rfl (by decide +kernel) rfl) (fun _ _ => rfl)) ?_
  refine rcons (rOkX.of (ro_iload_n (k := 1) rfl (by decide +kernel) rfl) (fun _ _ => rfl)) ?_
  refine rcons (rOkX.of (ro_iload_n (k := 2) rfl (by decide +kernel) rfl) (fun _ _ => rfl)) ?_
  refine rcons (ro_xcallS (by decide) ok_jr_copyOfRangeByte (by decide +kernel) (fun s args ht => va_cwS 3 ht (rgoodS (fun w h => List.mem_cons_of_mem _ h) q_285 q_286 q_28 q_287) rfl rfl rfl hy_jr_copyOfRangeByte ⟨Nat.le_of_ble_eq_true rfl, Nat.le_of_ble_eq_true rfl⟩) rfl) ?_
  refine rcons (ro_xaret (Or.inr ⟨_, rfl⟩) (by decide +kernel)) ?_
  refine rcons (rOkX.of (ro_aload_n (k := 0) rfl (by decide +kernel) rfl) (fun _ _ => rfl)) ?_
  refine rcons (ro_clone (by decide) (by decide) (List.mem_cons_of_mem _ q_132) (List.mem_cons_of_mem _ q_133) (List.mem_cons_of_mem _ q_134) (List.mem_cons_of_mem _ q_135) (List.mem_cons_of_mem _ q_136) f_137 (by decide) (by decide +kernel) rfl) ?_
  refine rcons (rOkX.of (ro_castA (List.mem_cons_of_mem _ q_138) (by decide +kernel) rfl) (fun _ _ => rfl)) ?_
  refine rcons (ro_xaret (Or.inr ⟨_, rfl⟩) (by decide +kernel)) ?_
  exact rnil
def ps_js_init__AbstractStringBuilder_Void__V : List Nat := [0, 1, 4, 5, 8, 9, 10, 13, 15, 16, 19, 22, 23, 24, 27, 28, 29, 30, 32, 35, 38, 41, 44, 47, 48, 51, 54, 55, 56, 57, 59, 62, 65, 66, 67, 70, 72, 75, 78, 79, 80, 81, 84, 85, 86, 87, 89, 90, 91, 94, 97]
def tb_js_init__AbstractStringBuilder_Void__V : List RT := [tq_al 0, tq_objinit, tq_al 1, tq_callH (rV 3 m_ja_getValue) 1 0 18 [], tq_as 5 3, tq_al 1, tq_callH (rV 3 m_jb_length) 1 0 18 [], tq_is 5 4, tq_al 1, tq_callH (rV 3 m_ja_isLatin1) 1 0 18 [], tq_if1 (fun x => decide (x = 0)) 21, tq_al 0, tq_ic 0, tq_put01 4 1, tq_al 0, tq_al 3, tq_ic 0, tq_il 4, tq_callX 21 m_jr_copyOfRange 3 18 18, tq_putf 4 0 2, tq_go 50, tq_bad, tq_bad, tq_bad, tq_bad, tq_bad, tq_bad, tq_bad, tq_bad, tq_bad, tq_bad, tq_bad, tq_bad, tq_bad, tq_bad, tq_bad, tq_bad, tq_bad, tq_bad, tq_bad, tq_bad, tq_bad, tq_bad, tq_bad, tq_bad, tq_bad, tq_bad, tq_bad, tq_bad, tq_bad, tq_xvret 18]
def m_js_init__AbstractStringBuilder_Void__V : RM := rMeth tb_js_init__AbstractStringBuilder_Void__V 200 5
abbrev rm_js_init__AbstractStringBuilder_Void__V : Room := { frames := 3, cells := 18, slots := 216, locals := 106 }
set_option maxHeartbeats 4000000 in
set_option maxRecDepth 20000 in
theorem ok_js_init__AbstractStringBuilder_Void__V : rMetX 21 y_js_init__AbstractStringBuilder_Void__V (Cond.code y_js_init__AbstractStringBuilder_Void__V prog_14_method_150_code 5 none :: rT) rm_js_init__AbstractStringBuilder_Void__V 18 m_js_init__AbstractStringBuilder_Void__V := by
  refine rMethX_ok (ps := ps_js_init__AbstractStringBuilder_Void__V) (tab := tb_js_init__AbstractStringBuilder_Void__V) (by decide +kernel) rfl rfl rfl rfl ?_
  refine rcons (rOkX.of (ro_aload_n (k := 0) rfl (by decide +kernel) rfl) (fun _ _ => rfl)) ?_
  refine rcons (rOkX.of (ro_objinit (List.mem_cons_of_mem _ q_267) (List.mem_cons_of_mem _ q_39) (List.mem_cons_of_mem _ q_40) (by decide) (by decide +kernel) rfl) (fun _ _ => rfl)) ?_
  refine rcons (rOkX.of (ro_aload_n (k := 1) rfl (by decide +kernel) rfl) (fun _ _ => rfl)) ?_
  refine rcons (rOkX.of (ro_callU0 (C := rN3) (T := rF3) (N := 4) rfl ok_ja_getValue (by decide +kernel) (fun s args ht hI => rcwU (owner := "java/lang/AbstractStringBuilder") (C := "java/lang/StringBuilder") (x := y_ja_getValue) 0 ht (rgoodc (fun w h => List.mem_cons_of_mem _ h) q_272 (rgood (fun w h => List.mem_cons_of_mem _ h))) rfl rfl rfl (List.mem_cons_of_mem _ q_268) (List.mem_cons_of_mem _ q_270) (List.mem_cons_of_mem _ q_269) (List.mem_cons_of_mem _ q_23) (ht _ (List.mem_cons_of_mem _ q_271)) rfl hy_ja_getValue ⟨Nat.le_of_ble_eq_true rfl, Nat.le_of_ble_eq_true rfl⟩) rfl) (fun _ _ => rfl)) ?_
  refine rcons (rOkX.of (ro_astore_n (k := 3) rfl (by decide +kernel) rfl) (fun _ _ => rfl)) ?_
  refine rcons (rOkX.of (ro_aload_n (k := 1) rfl (by decide +kernel) rfl) (fun _ _ => rfl)) ?_
  refine rcons (rOkX.of (ro_callU0 (C := rN3) (T := rF3) (N := 4) rfl ok_jb_length (by decide +kernel) (fun s args ht _ => va_cwO (owner := "java/lang/AbstractStringBuilder") (C := "java/lang/StringBuilder") (x := y_ja_length) 0 ht (rgoodc (fun w h => List.mem_cons_of_mem _ h) q_273 (rgoodc (fun w h => List.mem_cons_of_mem _ h) q_275 (rgoodc (fun w h => List.mem_cons_of_mem _ h) q_274 (rgoodc (fun w h => List.mem_cons_of_mem _ h) q_276 (rgoodc (fun w h => List.mem_cons_of_mem _ h) q_277 (rgoodc (fun w h => List.mem_cons_of_mem _ h) q_24 (rgoodc (fun w h => List.mem_cons_of_mem _ h) q_278 (rgood (fun w h => List.mem_cons_of_mem _ h))))))))) rfl rfl rfl (List.mem_cons_of_mem _ q_280) hy_ja_length ⟨Nat.le_of_ble_eq_true rfl, Nat.le_of_ble_eq_true rfl⟩) rfl) (fun _ _ => rfl)) ?_
  refine rcons (rOkX.of (ro_istore (by decide +kernel) rfl) (fun _ _ => rfl)) ?_
  refine rcons (rOkX.of (ro_aload_n (k := 1) rfl (by decide +kernel) rfl) (fun _ _ => rfl)) ?_
  refine rcons (rOkX.of (ro_callU0 (C := rN3) (T := rF3) (N := 4) rfl ok_ja_isLatin1 (by decide +kernel) (fun s args ht hI => rcwU (owner := "java/lang/AbstractStringBuilder") (C := "java/lang/StringBuilder") (x := y_ja_isLatin1) 0 ht (rgoodc (fun w h => List.mem_cons_of_mem _ h) q_149 (rgood (fun w h => List.mem_cons_of_mem _ h))) rfl rfl rfl (List.mem_cons_of_mem _ q_281) (List.mem_cons_of_mem _ q_147) (List.mem_cons_of_mem _ q_146) (List.mem_cons_of_mem _ q_23) (ht _ (List.mem_cons_of_mem _ q_148)) rfl hy_ja_isLatin1 ⟨Nat.le_of_ble_eq_true rfl, Nat.le_of_ble_eq_true rfl⟩) rfl) (fun _ _ => rfl)) ?_
  refine rcons (rOkX.of (ro_if_eq (off := 22) (by decide +kernel) rfl rfl) (fun _ _ => rfl)) ?_
  refine rcons (rOkX.of (ro_aload_n (k := 0) rfl (by decide +kernel) rfl) (fun _ _ => rfl)) ?_
  refine rcons (rOkX.of (ro_iconst (n := 0) (by decide +kernel) rfl rfl) (fun _ _ => rfl)) ?_
  refine rcons (ro_put01F (C := rN4) (T := rF4) (N := 4) (k := 1) (Y := rY4) (by decide +kernel) rfl (rU4c _) rY4_ok rD4 (by decide) (List.mem_cons_of_mem _ q_401) rfl rfl rfl (Or.inl rfl) rfl) ?_
  refine rcons (rOkX.of (ro_aload_n (k := 0) rfl (by decide +kernel) rfl) (fun _ _ => rfl)) ?_
  refine rcons (rOkX.of (ro_aload_n (k := 3) rfl (by decide +kernel) rfl) (fun _ _ => rfl)) ?_
  refine rcons (rOkX.of (ro_iconst (n := 0) (by decide +kernel) rfl rfl) (fun _ _ => rfl)) ?_
  refine rcons (rOkX.of (ro_iload (by decide +kernel) rfl) (fun _ _ => rfl)) ?_
  refine rcons (ro_xcallS (by decide) ok_jr_copyOfRange (by decide +kernel) (fun s args ht => va_cwS 3 ht (rgoodS (fun w h => List.mem_cons_of_mem _ h) q_282 q_283 q_28 q_284) rfl rfl rfl hy_jr_copyOfRange ⟨Nat.le_of_ble_eq_true rfl, Nat.le_of_ble_eq_true rfl⟩) rfl) ?_
  refine rcons (ro_putfF (C := rN4) (T := rF4) (N := 4) (k := 0) (Y := rY4) (by decide +kernel) rfl (rU4c _) rY4_ok rD4 (by decide) (List.mem_cons_of_mem _ q_400) rfl rfl rfl ⟨rfl, _, rfl⟩ rfl) ?_
  refine rcons (rOkX.of (ro_goto (off := 59) (by decide +kernel) rfl) (fun _ _ => rfl)) ?_
  refine rcons (rOkX.of (ro_bad) (fun _ _ => rfl)) ?_
  refine rcons (rOkX.of (ro_bad) (fun _ _ => rfl)) ?_
  refine rcons (rOkX.of (ro_bad) (fun _ _ => rfl)) ?_
  refine rcons (rOkX.of (ro_bad) (fun _ _ => rfl)) ?_
  refine rcons (rOkX.of (ro_bad) (fun _ _ => rfl)) ?_
  refine rcons (rOkX.of (ro_bad) (fun _ _ => rfl)) ?_
  refine rcons (rOkX.of (ro_bad) (fun _ _ => rfl)) ?_
  refine rcons (rOkX.of (ro_bad) (fun _ _ => rfl)) ?_
  refine rcons (rOkX.of (ro_bad) (fun _ _ => rfl)) ?_
  refine rcons (rOkX.of (ro_bad) (fun _ _ => rfl)) ?_
  refine rcons (rOkX.of (ro_bad) (fun _ _ => rfl)) ?_
  refine rcons (rOkX.of (ro_bad) (fun _ _ => rfl)) ?_
  refine rcons (rOkX.of (ro_bad) (fun _ _ => rfl)) ?_
  refine rcons (rOkX.of (ro_bad) (fun _ _ => rfl)) ?_
  refine rcons (rOkX.of (ro_bad) (fun _ _ => rfl)) ?_
  refine rcons (rOkX.of (ro_bad) (fun _ _ => rfl)) ?_
  refine rcons (rOkX.of (ro_bad) (fun _ _ => rfl)) ?_
  refine rcons (rOkX.of (ro_bad) (fun _ _ => rfl)) ?_
  refine rcons (rOkX.of (ro_bad) (fun _ _ => rfl)) ?_
  refine rcons (rOkX.of (ro_bad) (fun _ _ => rfl)) ?_
  refine rcons (rOkX.of (ro_bad) (fun _ _ => rfl)) ?_
  refine rcons (rOkX.of (ro_bad) (fun _ _ => rfl)) ?_
  refine rcons (rOkX.of (ro_bad) (fun _ _ => rfl)) ?_
  refine rcons (rOkX.of (ro_bad) (fun _ _ => rfl)) ?_
  refine rcons (rOkX.of (ro_bad) (fun _ _ => rfl)) ?_
  refine rcons (rOkX.of (ro_bad) (fun _ _ => rfl)) ?_
  refine rcons (rOkX.of (ro_bad) (fun _ _ => rfl)) ?_
  refine rcons (rOkX.of (ro_bad) (fun _ _ => rfl)) ?_
  refine rcons (rOkX.of (ro_bad) (fun _ _ => rfl)) ?_
  refine rcons (ro_xvret (by decide +kernel)) ?_
  exact rnil
def ps_js_init__StringBuilder__V : List Nat := [0, 1, 2, 3, 6]
def tb_js_init__StringBuilder__V : List RT := [tq_al 0, tq_al 1, tq_nul, tq_callX 21 (rThis m_js_init__AbstractStringBuilder_Void__V) 3 18 18, tq_xvret 18]
def m_js_init__StringBuilder__V : RM := rMeth tb_js_init__StringBuilder__V 200 2
abbrev rm_js_init__StringBuilder__V : Room := { frames := 4, cells := 18, slots := 216, locals := 130 }
set_option maxHeartbeats 4000000 in
set_option maxRecDepth 20000 in
theorem ok_js_init__StringBuilder__V : rMetX 21 y_js_init__StringBuilder__V (Cond.code y_js_init__StringBuilder__V prog_14_method_53_code 2 none :: rT) rm_js_init__StringBuilder__V 18 m_js_init__StringBuilder__V := by
  refine rMethX_ok (ps := ps_js_init__StringBuilder__V) (tab := tb_js_init__StringBuilder__V) (by decide +kernel) rfl rfl rfl rfl ?_
  refine rcons (rOkX.of (ro_aload_n (k := 0) rfl (by decide +kernel) rfl) (fun _ _ => rfl)) ?_
  refine rcons (rOkX.of (ro_aload_n (k := 1) rfl (by decide +kernel) rfl) (fun _ _ => rfl)) ?_
  refine rcons (rOkX.of (ro_nul (by decide +kernel) rfl) (fun _ _ => rfl)) ?_
  refine rcons (ro_xcallI (by decide) ok_js_init__AbstractStringBuilder_Void__V (by decide +kernel) (fun s args ht => cwI 2 ht (rgoodc (fun w h => List.mem_cons_of_mem _ h) q_266 (rgood (fun w h => List.mem_cons_of_mem _ h))) rfl rfl rfl (ht _ (List.mem_cons_of_mem _ q_25)) (ht _ (List.mem_cons_of_mem _ q_264)) (ht _ (List.mem_cons_of_mem _ q_265)) rfl hy_js_init__AbstractStringBuilder_Void__V ⟨Nat.le_of_ble_eq_true rfl, Nat.le_of_ble_eq_true rfl⟩) rfl) ?_
  refine rcons (ro_xvret (by decide +kernel)) ?_
  exact rnil
def ps_jb_toString : List Nat := [0, 3, 4, 5, 8]
def tb_jb_toString : List RT := [tq_new 20 4 [rO none, rI true 0, rI true 0, rI false 0] 19, tq_dup, tq_al 0, tq_callX 21 (rThis m_js_init__StringBuilder__V) 2 18 19, tq_xaret 19]
def m_jb_toString : RM := rMeth tb_jb_toString 200 1
abbrev rm_jb_toString : Room := { frames := 5, cells := 19, slots := 228, locals := 151 }
set_option maxHeartbeats 4000000 in
set_option maxRecDepth 20000 in
theorem ok_jb_toString : rMetX 20 y_jb_toString (Cond.code y_jb_toString prog_15_method_42_code 1 (some (.object "java/lang/String")) :: rT) rm_jb_toString 19 m_jb_toString := by
  refine rMethX_ok (ps := ps_jb_toString) (tab := tb_jb_toString) (by decide +kernel) rfl rfl rfl rfl ?_
  refine rcons (ro_new (C := rN4) (T := rF4) (N := 4) (Y := rY4) (by decide) (by decide) (by decide) (by decide +kernel) rfl (rU4c _) rY4_ok (List.mem_cons_of_mem _ q_259) (List.mem_cons_of_mem _ q_260) (List.mem_cons_of_mem _ q_25) rdf4 rfl rfl) ?_
  refine rcons (rOkX.of (ro_dup (by decide +kernel) rfl) (fun _ _ => rfl)) ?_
  refine rcons (rOkX.of (ro_aload_n (k := 0) rfl (by decide +kernel) rfl) (fun _ _ => rfl)) ?_
  refine rcons (ro_xcallI (by decide) ok_js_init__StringBuilder__V (by decide +kernel) (fun s args ht => cwI 1 ht (rgoodc (fun w h => List.mem_cons_of_mem _ h) q_263 (rgood (fun w h => List.mem_cons_of_mem _ h))) rfl rfl rfl (ht _ (List.mem_cons_of_mem _ q_25)) (ht _ (List.mem_cons_of_mem _ q_261)) (ht _ (List.mem_cons_of_mem _ q_262)) rfl hy_js_init__StringBuilder__V ⟨Nat.le_of_ble_eq_true rfl, Nat.le_of_ble_eq_true rfl⟩) rfl) ?_
  refine rcons (ro_xaret (Or.inl ⟨_, rfl⟩) (by decide +kernel)) ?_
  exact rnil
def s_jb_toS : RM := fun as σ Q => ∃ (P : PW) (c : Nat) (cap : Nat) (f : CF), as = [rR 18] ∧ σ = SW P (nI c) cap f ∧ (C3 cap ∧ bfit f ∧ c ≤ cap) ∧ ∀ (x y : RC), Q (.inl (some (rR 20))) (SW P (nI c) cap f ++ [x, y])
theorem min_c {c cap : Nat} (h : c ≤ cap) (h2 : cap ≤ 70) : (if nI c - 0 < Int32.ofNat cap - 0 then nI c - 0 else Int32.ofNat cap - 0) = nI c := by
  have e1 : nI c - 0 = nI c := Int32.sub_zero _
  have e2 : Int32.ofNat cap - 0 = nI cap := Int32.sub_zero _
  rw [e1, e2]
  by_cases hlt : c < cap
  · rw [if_pos (nI_lt hlt (by omega))]
  · rw [if_neg (nI_nlt (by omega) (by omega)), show cap = c by omega]
theorem cp_ok0 {c cap : Nat} (h : c ≤ cap) (h2 : cap ≤ 70) : cpok 0 0 (if nI c - 0 < Int32.ofNat cap - 0 then nI c - 0 else Int32.ofNat cap - 0) cap (nI c - 0).toNatClampNeg := by
  rw [min_c h h2, show nI c - 0 = nI c from Int32.sub_zero _]
  have e2 : (nI c).toNatClampNeg = c := nI_clamp (by omega)
  have e4 : (0 : Int32).toNatClampNeg = 0 := rfl
  exact ⟨by decide, by decide, nI_pos (by omega), by rw [e2, e4]; omega, by rw [e2, e4]; omega⟩
theorem new_ok {c : Nat} (h : c ≤ 70) : decide (nI c - 0 < 0) = false ∧ (nI c - 0).toNatClampNeg ≤ 96 := by
  rw [show nI c - 0 = nI c from Int32.sub_zero _]
  exact ⟨decide_eq_false (nI_pos (by omega)), by rw [nI_clamp (by omega)]; omega⟩
theorem le_c {c : Nat} (h : c ≤ 70) : decide ((0 : Int32) ≤ nI c) = true := decide_eq_true (nI_pos' (by omega))
set_option maxHeartbeats 4000000 in
set_option maxRecDepth 20000 in
theorem toS_run {P : PW} {c : Nat} {cap : Nat} {f : CF} {Q : RQ} (hc : C3 cap) (hf : bfit f) (h1 : c ≤ cap) (k : ∀ (x y : RC), Q (.inl (some (rR 20))) (SW P (nI c) cap f ++ [x, y])) : m_jb_toString [rR 18] (SW P (nI c) cap f) Q := by
  have hle := hc.le
  have g1 := le_c (c := c) (by omega)
  have g2 := new_ok (c := c) (by omega)
  have g3 := cp_ok0 h1 hle
  have g4 : bfit f ∧ cap ≤ 96 := ⟨hf, by omega⟩
  have g5 : (0 : Int32) = 0 ∨ (0 : Int32) = 1 := Or.inl rfl
  have g6 : bfit f ∧ cpok 0 0 (if nI c - 0 < Int32.ofNat cap - 0 then nI c - 0 else Int32.ofNat cap - 0) cap (nI c - 0).toNatClampNeg := ⟨hf, g3⟩
  have rno2 : ∀ {b : Bool} {T : Prop}, b = true → b = false → T := fun h1 h2 => Bool.noConfusion (h1.symm.trans h2)
  repeat' (first | exact k _ _ | exact g2 | exact g4 | exact g6 | exact g5 | apply And.intro | rfl | (intro h; first | exact rno2 g1 h | skip))
theorem okS_jb_toS : rMetX 20 y_jb_toString (Cond.code y_jb_toString prog_15_method_42_code 1 (some (.object "java/lang/String")) :: rT) rm_jb_toString 19 s_jb_toS := by
  refine rMetX_mono ok_jb_toString (fun as σ Q h => ?_)
  obtain ⟨P, c, cap, f, rfl, rfl, ⟨hc, hf, h1⟩, h⟩ := h
  exact toS_run hc hf h1 h
def ps_c_days : List Nat := [0, 3, 4, 7, 8, 9, 10, 11, 12, 15, 16, 19, 20, 22, 25, 26, 27, 28, 31, 32, 33, 36, 39, 40, 43, 46, 47, 50]
def tb_c_days : List RT := [tq_new 18 3 [rO none, rI true 0, rI true 0, rI false 0] 120, tq_dup, tq_callX 19 (rThis m_jb_init) 1 9 120, tq_as 3 1, tq_ic 0, tq_is 3 2, tq_il 2, tq_ic 4, tq_if2 (fun x y => decide (y ≤ x)) 25, tq_il 2, tq_if1 (fun x => decide (x ≤ 0)) 15, tq_al 1, tq_ic 32, tq_callX 19 (rV 3 s_jb_appC) 2 9 120, tq_pop, tq_al 1, tq_al 0, tq_getf 0 0, tq_il 2, tq_iald 0, tq_callH s_c_nameOfDay 1 0 120 [], tq_callX 19 (rV 3 s_jb_appS) 2 9 120, tq_pop, tq_inc 3 2 1, tq_go 6, tq_al 1, tq_callX 20 (rV 3 s_jb_toS) 1 19 120, tq_xaret 120]
def m_c_days : RM := rMeth tb_c_days 200 3
abbrev rm_c_days : Room := { frames := 6, cells := 120, slots := 1440, locals := 171 }
set_option maxHeartbeats 4000000 in
set_option maxRecDepth 20000 in
theorem ok_c_days : rMetX 18 y_c_days (Cond.code y_c_days prog_1_method_50_code 3 (some (.object "java/lang/String")) :: rT) rm_c_days 120 m_c_days := by
  refine rMethX_ok (ps := ps_c_days) (tab := tb_c_days) (by decide +kernel) rfl rfl rfl rfl ?_
  refine rcons (ro_new (C := rN3) (T := rF3) (N := 4) (Y := rY3) (by decide) (by decide) (by decide) (by decide +kernel) rfl (rU3c _) rY3_ok (List.mem_cons_of_mem _ q_71) (List.mem_cons_of_mem _ q_72) (List.mem_cons_of_mem _ q_24) rdf3 rfl rfl) ?_
  refine rcons (rOkX.of (ro_dup (by decide +kernel) rfl) (fun _ _ => rfl)) ?_
  refine rcons (ro_xcallI (by decide) ok_jb_init (by decide +kernel) (fun s args ht => cwI 0 ht (rgoodc (fun w h => List.mem_cons_of_mem _ h) q_75 (rgood (fun w h => List.mem_cons_of_mem _ h))) rfl rfl rfl (ht _ (List.mem_cons_of_mem _ q_24)) (ht _ (List.mem_cons_of_mem _ q_73)) (ht _ (List.mem_cons_of_mem _ q_74)) rfl hy_jb_init ⟨Nat.le_of_ble_eq_true rfl, Nat.le_of_ble_eq_true rfl⟩) rfl) ?_
  refine rcons (rOkX.of (ro_astore_n (k := 1) rfl (by decide +kernel) rfl) (fun _ _ => rfl)) ?_
  refine rcons (rOkX.of (ro_iconst (n := 0) (by decide +kernel) rfl rfl) (fun _ _ => rfl)) ?_
  refine rcons (rOkX.of (ro_istore_n (k := 2) rfl (by decide +kernel) rfl) (fun _ _ => rfl)) ?_
  refine rcons (rOkX.of (ro_iload_n (k := 2) rfl (by decide +kernel) rfl) (fun _ _ => rfl)) ?_
  refine rcons (rOkX.of (ro_iconst (n := 4) (by decide +kernel) rfl rfl) (fun _ _ => rfl)) ?_
  refine rcons (rOkX.of (ro_icmp_ge (off := 34) (by decide +kernel) rfl rfl) (fun _ _ => rfl)) ?_
  refine rcons (rOkX.of (ro_iload_n (k := 2) rfl (by decide +kernel) rfl) (fun _ _ => rfl)) ?_
  refine rcons (rOkX.of (ro_if_le (off := 10) (by decide +kernel) rfl rfl) (fun _ _ => rfl)) ?_
  refine rcons (rOkX.of (ro_aload_n (k := 1) rfl (by decide +kernel) rfl) (fun _ _ => rfl)) ?_
  refine rcons (rOkX.of (ro_bipush (n := 32) (by decide +kernel) rfl rfl) (fun _ _ => rfl)) ?_
  refine rcons (ro_xcallV (C := rN3) (T := rF3) (N := 4) (by decide) rfl okS_jb_appC (by decide +kernel) (fun s args ht => cwV (C := rN3) 1 ht (rgoodV (C := rN3) (fun w h => List.mem_cons_of_mem _ h) q_103 q_104 q_105 q_24 q_106) rfl rfl rfl hv_jb_append__C_StringBuilder_ ⟨Nat.le_of_ble_eq_true rfl, Nat.le_of_ble_eq_true rfl⟩) rfl) ?_
  refine rcons (rOkX.of (ro_pop (by decide +kernel) rfl) (fun _ _ => rfl)) ?_
  refine rcons (rOkX.of (ro_aload_n (k := 1) rfl (by decide +kernel) rfl) (fun _ _ => rfl)) ?_
  refine rcons (rOkX.of (ro_aload_n (k := 0) rfl (by decide +kernel) rfl) (fun _ _ => rfl)) ?_
  refine rcons (rOkX.of (ro_getf (C := rN0) (T := rF0) (N := 7) (k := 0) (by decide +kernel) rfl (rU0c _) (by decide) (List.mem_cons_of_mem _ q_43) rfl) (fun _ _ => rfl)) ?_
  refine rcons (rOkX.of (ro_iload_n (k := 2) rfl (by decide +kernel) rfl) (fun _ _ => rfl)) ?_
  refine rcons (rOkX.of (ro_iald (by decide +kernel) rfl) (fun _ _ => rfl)) ?_
  refine rcons (rOkX.of (ro_callS0 okS_c_nameOfDay (by decide +kernel) (fun s args ht => va_cwS 1 ht (rgoodS (fun w h => List.mem_cons_of_mem _ h) q_198 q_199 q_13 q_200) rfl rfl rfl hy_c_nameOfDay ⟨Nat.le_of_ble_eq_true rfl, Nat.le_of_ble_eq_true rfl⟩) rfl) (fun _ _ => rfl)) ?_
  refine rcons (ro_xcallV (C := rN3) (T := rF3) (N := 4) (by decide) rfl okS_jb_appS (by decide +kernel) (fun s args ht => cwV (C := rN3) 1 ht (rgoodV (C := rN3) (fun w h => List.mem_cons_of_mem _ h) q_208 q_209 q_210 q_24 q_211) rfl rfl rfl hv_jb_append__String__StringBuilder_ ⟨Nat.le_of_ble_eq_true rfl, Nat.le_of_ble_eq_true rfl⟩) rfl) ?_
  refine rcons (rOkX.of (ro_pop (by decide +kernel) rfl) (fun _ _ => rfl)) ?_
  refine rcons (rOkX.of (ro_iinc (by decide +kernel) rfl) (fun _ _ => rfl)) ?_
  refine rcons (rOkX.of (ro_goto (off := (-33)) (by decide +kernel) rfl) (fun _ _ => rfl)) ?_
  refine rcons (rOkX.of (ro_aload_n (k := 1) rfl (by decide +kernel) rfl) (fun _ _ => rfl)) ?_
  refine rcons (ro_xcallV (C := rN3) (T := rF3) (N := 4) (by decide) rfl okS_jb_toS (by decide +kernel) (fun s args ht => cwV (C := rN3) 0 ht (rgoodV (C := rN3) (fun w h => List.mem_cons_of_mem _ h) q_255 q_256 q_257 q_24 q_258) rfl rfl rfl hv_jb_toString ⟨Nat.le_of_ble_eq_true rfl, Nat.le_of_ble_eq_true rfl⟩) rfl) ?_
  refine rcons (ro_xaret (Or.inl ⟨_, rfl⟩) (by decide +kernel)) ?_
  exact rnil
def ps_c_months : List Nat := [0, 3, 4, 7, 8, 9, 10, 11, 12, 15, 16, 19, 20, 22, 25, 26, 27, 28, 31, 32, 33, 36, 39, 40, 43, 46, 47, 50]
def tb_c_months : List RT := [tq_new 18 3 [rO none, rI true 0, rI true 0, rI false 0] 120, tq_dup, tq_callX 19 (rThis m_jb_init) 1 9 120, tq_as 3 1, tq_ic 0, tq_is 3 2, tq_il 2, tq_ic 4, tq_if2 (fun x y => decide (y ≤ x)) 25, tq_il 2, tq_if1 (fun x => decide (x ≤ 0)) 15, tq_al 1, tq_ic 32, tq_callX 19 (rV 3 s_jb_appC) 2 9 120, tq_pop, tq_al 1, tq_al 0, tq_getf 0 1, tq_il 2, tq_iald 0, tq_callH s_c_nameOfMonth 1 0 120 [], tq_callX 19 (rV 3 s_jb_appS) 2 9 120, tq_pop, tq_inc 3 2 1, tq_go 6, tq_al 1, tq_callX 20 (rV 3 s_jb_toS) 1 19 120, tq_xaret 120]
def m_c_months : RM := rMeth tb_c_months 200 3
abbrev rm_c_months : Room := { frames := 6, cells := 120, slots := 1440, locals := 171 }
set_option maxHeartbeats 4000000 in
set_option maxRecDepth 20000 in
theorem ok_c_months : rMetX 18 y_c_months (Cond.code y_c_months prog_1_method_51_code 3 (some (.object "java/lang/String")) :: rT) rm_c_months 120 m_c_months := by
  refine rMethX_ok (ps := ps_c_months) (tab := tb_c_months) (by decide +kernel) rfl rfl rfl rfl ?_
  refine rcons (ro_new (C := rN3) (T := rF3) (N := 4) (Y := rY3) (by decide) (by decide) (by decide) (by decide +kernel) rfl (rU3c _) rY3_ok (List.mem_cons_of_mem _ q_71) (List.mem_cons_of_mem _ q_72) (List.mem_cons_of_mem _ q_24) rdf3 rfl rfl) ?_
  refine rcons (rOkX.of (ro_dup (by decide +kernel) rfl) (fun _ _ => rfl)) ?_
  refine rcons (ro_xcallI (by decide) ok_jb_init (by decide +kernel) (fun s args ht => cwI 0 ht (rgoodc (fun w h => List.mem_cons_of_mem _ h) q_75 (rgood (fun w h => List.mem_cons_of_mem _ h))) rfl rfl rfl (ht _ (List.mem_cons_of_mem _ q_24)) (ht _ (List.mem_cons_of_mem _ q_73)) (ht _ (List.mem_cons_of_mem _ q_74)) rfl hy_jb_init ⟨Nat.le_of_ble_eq_true rfl, Nat.le_of_ble_eq_true rfl⟩) rfl) ?_
  refine rcons (rOkX.of (ro_astore_n (k := 1) rfl (by decide +kernel) rfl) (fun _ _ => rfl)) ?_
  refine rcons (rOkX.of (ro_iconst (n := 0) (by decide +kernel) rfl rfl) (fun _ _ => rfl)) ?_
  refine rcons (rOkX.of (ro_istore_n (k := 2) rfl (by decide +kernel) rfl) (fun _ _ => rfl)) ?_
  refine rcons (rOkX.of (ro_iload_n (k := 2) rfl (by decide +kernel) rfl) (fun _ _ => rfl)) ?_
  refine rcons (rOkX.of (ro_iconst (n := 4) (by decide +kernel) rfl rfl) (fun _ _ => rfl)) ?_
  refine rcons (rOkX.of (ro_icmp_ge (off := 34) (by decide +kernel) rfl rfl) (fun _ _ => rfl)) ?_
  refine rcons (rOkX.of (ro_iload_n (k := 2) rfl (by decide +kernel) rfl) (fun _ _ => rfl)) ?_
  refine rcons (rOkX.of (ro_if_le (off := 10) (by decide +kernel) rfl rfl) (fun _ _ => rfl)) ?_
  refine rcons (rOkX.of (ro_aload_n (k := 1) rfl (by decide +kernel) rfl) (fun _ _ => rfl)) ?_
  refine rcons (rOkX.of (ro_bipush (n := 32) (by decide +kernel) rfl rfl) (fun _ _ => rfl)) ?_
  refine rcons (ro_xcallV (C := rN3) (T := rF3) (N := 4) (by decide) rfl okS_jb_appC (by decide +kernel) (fun s args ht => cwV (C := rN3) 1 ht (rgoodV (C := rN3) (fun w h => List.mem_cons_of_mem _ h) q_103 q_104 q_105 q_24 q_106) rfl rfl rfl hv_jb_append__C_StringBuilder_ ⟨Nat.le_of_ble_eq_true rfl, Nat.le_of_ble_eq_true rfl⟩) rfl) ?_
  refine rcons (rOkX.of (ro_pop (by decide +kernel) rfl) (fun _ _ => rfl)) ?_
  refine rcons (rOkX.of (ro_aload_n (k := 1) rfl (by decide +kernel) rfl) (fun _ _ => rfl)) ?_
  refine rcons (rOkX.of (ro_aload_n (k := 0) rfl (by decide +kernel) rfl) (fun _ _ => rfl)) ?_
  refine rcons (rOkX.of (ro_getf (C := rN0) (T := rF0) (N := 7) (k := 1) (by decide +kernel) rfl (rU0c _) (by decide) (List.mem_cons_of_mem _ q_44) rfl) (fun _ _ => rfl)) ?_
  refine rcons (rOkX.of (ro_iload_n (k := 2) rfl (by decide +kernel) rfl) (fun _ _ => rfl)) ?_
  refine rcons (rOkX.of (ro_iald (by decide +kernel) rfl) (fun _ _ => rfl)) ?_
  refine rcons (rOkX.of (ro_callS0 okS_c_nameOfMonth (by decide +kernel) (fun s args ht => va_cwS 1 ht (rgoodS (fun w h => List.mem_cons_of_mem _ h) q_415 q_416 q_13 q_417) rfl rfl rfl hy_c_nameOfMonth ⟨Nat.le_of_ble_eq_true rfl, Nat.le_of_ble_eq_true rfl⟩) rfl) (fun _ _ => rfl)) ?_
  refine rcons (ro_xcallV (C := rN3) (T := rF3) (N := 4) (by decide) rfl okS_jb_appS (by decide +kernel) (fun s args ht => cwV (C := rN3) 1 ht (rgoodV (C := rN3) (fun w h => List.mem_cons_of_mem _ h) q_208 q_209 q_210 q_24 q_211) rfl rfl rfl hv_jb_append__String__StringBuilder_ ⟨Nat.le_of_ble_eq_true rfl, Nat.le_of_ble_eq_true rfl⟩) rfl) ?_
  refine rcons (rOkX.of (ro_pop (by decide +kernel) rfl) (fun _ _ => rfl)) ?_
  refine rcons (rOkX.of (ro_iinc (by decide +kernel) rfl) (fun _ _ => rfl)) ?_
  refine rcons (rOkX.of (ro_goto (off := (-33)) (by decide +kernel) rfl) (fun _ _ => rfl)) ?_
  refine rcons (rOkX.of (ro_aload_n (k := 1) rfl (by decide +kernel) rfl) (fun _ _ => rfl)) ?_
  refine rcons (ro_xcallV (C := rN3) (T := rF3) (N := 4) (by decide) rfl okS_jb_toS (by decide +kernel) (fun s args ht => cwV (C := rN3) 0 ht (rgoodV (C := rN3) (fun w h => List.mem_cons_of_mem _ h) q_255 q_256 q_257 q_24 q_258) rfl rfl rfl hv_jb_toString ⟨Nat.le_of_ble_eq_true rfl, Nat.le_of_ble_eq_true rfl⟩) rfl) ?_
  refine rcons (ro_xaret (Or.inl ⟨_, rfl⟩) (by decide +kernel)) ?_
  exact rnil
def ps_d_days : List Nat := [0, 1, 2, 5, 8, 9, 12, 15, 16, 19, 20, 21, 22, 23, 24, 27, 29, 32, 35, 36, 39, 40, 41, 42, 43, 44, 47, 49, 52, 55, 56, 59, 60, 61, 62, 63, 64, 67, 69, 72, 75, 76, 79, 80, 81, 82, 83, 84, 87, 90]
def tb_d_days : List RT := [tq_al 0, tq_ic 0, tq_putf 1 0 0, tq_new 18 3 [rO none, rI true 0, rI true 0, rI false 0] 120, tq_dup, tq_callX 19 (rThis m_jb_init) 1 9 120, tq_rc 50, tq_al 0, tq_getf 1 1, tq_ic 0, tq_iald 0, tq_ic 1, tq_i2 (fun x y => x - y), tq_aldS 50 7 126, tq_callX 19 (rV 3 s_jb_appS) 2 9 120, tq_rc 125, tq_callX 19 (rV 3 s_jb_appS) 2 9 120, tq_rc 50, tq_al 0, tq_getf 1 1, tq_ic 1, tq_iald 0, tq_ic 1, tq_i2 (fun x y => x - y), tq_aldS 50 7 126, tq_callX 19 (rV 3 s_jb_appS) 2 9 120, tq_rc 125, tq_callX 19 (rV 3 s_jb_appS) 2 9 120, tq_rc 50, tq_al 0, tq_getf 1 1, tq_ic 2, tq_iald 0, tq_ic 1, tq_i2 (fun x y => x - y), tq_aldS 50 7 126, tq_callX 19 (rV 3 s_jb_appS) 2 9 120, tq_rc 125, tq_callX 19 (rV 3 s_jb_appS) 2 9 120, tq_rc 50, tq_al 0, tq_getf 1 1, tq_ic 3, tq_iald 0, tq_ic 1, tq_i2 (fun x y => x - y), tq_aldS 50 7 126, tq_callX 19 (rV 3 s_jb_appS) 2 9 120, tq_callX 20 (rV 3 s_jb_toS) 1 19 120, tq_xaret 120]
def m_d_days : RM := rMeth tb_d_days 200 1
abbrev rm_d_days : Room := { frames := 6, cells := 120, slots := 1440, locals := 171 }
set_option maxHeartbeats 4000000 in
set_option maxRecDepth 20000 in
theorem ok_d_days : rMetX 18 y_d_days (Cond.code y_d_days prog_4_method_65_code 1 (some (.object "java/lang/String")) :: rT) rm_d_days 120 m_d_days := by
  refine rMethX_ok (ps := ps_d_days) (tab := tb_d_days) (by decide +kernel) rfl rfl rfl rfl ?_
  refine rcons (rOkX.of (ro_aload_n (k := 0) rfl (by decide +kernel) rfl) (fun _ _ => rfl)) ?_
  refine rcons (rOkX.of (ro_iconst (n := 0) (by decide +kernel) rfl rfl) (fun _ _ => rfl)) ?_
  refine rcons (rOkX.of (ro_putfI (C := rN1) (T := rF1) (N := 7) (k := 0) (Y := rY1) (by decide +kernel) rfl (rU1c _) rY1_ok rD1 (by decide) (List.mem_cons_of_mem _ q_984) rfl rfl rfl) (fun _ _ => rfl)) ?_
  refine rcons (ro_new (C := rN3) (T := rF3) (N := 4) (Y := rY3) (by decide) (by decide) (by decide) (by decide +kernel) rfl (rU3c _) rY3_ok (List.mem_cons_of_mem _ q_1256) (List.mem_cons_of_mem _ q_72) (List.mem_cons_of_mem _ q_24) rdf3 rfl rfl) ?_
  refine rcons (rOkX.of (ro_dup (by decide +kernel) rfl) (fun _ _ => rfl)) ?_
  refine rcons (ro_xcallI (by decide) ok_jb_init (by decide +kernel) (fun s args ht => cwI 0 ht (rgoodc (fun w h => List.mem_cons_of_mem _ h) q_75 (rgood (fun w h => List.mem_cons_of_mem _ h))) rfl rfl rfl (ht _ (List.mem_cons_of_mem _ q_24)) (ht _ (List.mem_cons_of_mem _ q_1257)) (ht _ (List.mem_cons_of_mem _ q_74)) rfl hy_jb_init ⟨Nat.le_of_ble_eq_true rfl, Nat.le_of_ble_eq_true rfl⟩) rfl) ?_
  refine rcons (rOkX.of (ro_gets (φ := fun _ => True) (C := "RingdaysModel") (n := "DAYS") (d := "[Ljava/lang/String;") rh3 (List.mem_cons_of_mem _ q_1034) (by decide +kernel) rfl) (fun _ _ => rfl)) ?_
  refine rcons (rOkX.of (ro_aload_n (k := 0) rfl (by decide +kernel) rfl) (fun _ _ => rfl)) ?_
  refine rcons (rOkX.of (ro_getf (C := rN1) (T := rF1) (N := 7) (k := 1) (by decide +kernel) rfl (rU1c _) (by decide) (List.mem_cons_of_mem _ q_985) rfl) (fun _ _ => rfl)) ?_
  refine rcons (rOkX.of (ro_iconst (n := 0) (by decide +kernel) rfl rfl) (fun _ _ => rfl)) ?_
  refine rcons (rOkX.of (ro_iald (by decide +kernel) rfl) (fun _ _ => rfl)) ?_
  refine rcons (rOkX.of (ro_iconst (n := 1) (by decide +kernel) rfl rfl) (fun _ _ => rfl)) ?_
  refine rcons (rOkX.of (ro_isub (by decide +kernel) rfl) (fun _ _ => rfl)) ?_
  refine rcons (rOkX.of (ro_aldS (φ := fun _ => True) rh4 (by decide +kernel) rfl) (fun _ _ => rfl)) ?_
  refine rcons (ro_xcallV (C := rN3) (T := rF3) (N := 4) (by decide) rfl okS_jb_appS (by decide +kernel) (fun s args ht => cwV (C := rN3) 1 ht (rgoodV (C := rN3) (fun w h => List.mem_cons_of_mem _ h) q_1258 q_209 q_210 q_24 q_211) rfl rfl rfl hv_jb_append__String__StringBuilder_ ⟨Nat.le_of_ble_eq_true rfl, Nat.le_of_ble_eq_true rfl⟩) rfl) ?_
  refine rcons (rOkX.of (ro_ldcS (k := 25) (by decide) rfl (by decide +kernel) rfl) (fun _ _ => rfl)) ?_
  refine rcons (ro_xcallV (C := rN3) (T := rF3) (N := 4) (by decide) rfl okS_jb_appS (by decide +kernel) (fun s args ht => cwV (C := rN3) 1 ht (rgoodV (C := rN3) (fun w h => List.mem_cons_of_mem _ h) q_1258 q_209 q_210 q_24 q_211) rfl rfl rfl hv_jb_append__String__StringBuilder_ ⟨Nat.le_of_ble_eq_true rfl, Nat.le_of_ble_eq_true rfl⟩) rfl) ?_
  refine rcons (rOkX.of (ro_gets (φ := fun _ => True) (C := "RingdaysModel") (n := "DAYS") (d := "[Ljava/lang/String;") rh3 (List.mem_cons_of_mem _ q_1034) (by decide +kernel) rfl) (fun _ _ => rfl)) ?_
  refine rcons (rOkX.of (ro_aload_n (k := 0) rfl (by decide +kernel) rfl) (fun _ _ => rfl)) ?_
  refine rcons (rOkX.of (ro_getf (C := rN1) (T := rF1) (N := 7) (k := 1) (by decide +kernel) rfl (rU1c _) (by decide) (List.mem_cons_of_mem _ q_985) rfl) (fun _ _ => rfl)) ?_
  refine rcons (rOkX.of (ro_iconst (n := 1) (by decide +kernel) rfl rfl) (fun _ _ => rfl)) ?_
  refine rcons (rOkX.of (ro_iald (by decide +kernel) rfl) (fun _ _ => rfl)) ?_
  refine rcons (rOkX.of (ro_iconst (n := 1) (by decide +kernel) rfl rfl) (fun _ _ => rfl)) ?_
  refine rcons (rOkX.of (ro_isub (by decide +kernel) rfl) (fun _ _ => rfl)) ?_
  refine rcons (rOkX.of (ro_aldS (φ := fun _ => True) rh4 (by decide +kernel) rfl) (fun _ _ => rfl)) ?_
  refine rcons (ro_xcallV (C := rN3) (T := rF3) (N := 4) (by decide) rfl okS_jb_appS (by decide +kernel) (fun s args ht => cwV (C := rN3) 1 ht (rgoodV (C := rN3) (fun w h => List.mem_cons_of_mem _ h) q_1258 q_209 q_210 q_24 q_211) rfl rfl rfl hv_jb_append__String__StringBuilder_ ⟨Nat.le_of_ble_eq_true rfl, Nat.le_of_ble_eq_true rfl⟩) rfl) ?_
  refine rcons (rOkX.of (ro_ldcS (k := 25) (by decide) rfl (by decide +kernel) rfl) (fun _ _ => rfl)) ?_
  refine rcons (ro_xcallV (C := rN3) (T := rF3) (N := 4) (by decide) rfl okS_jb_appS (by decide +kernel) (fun s args ht => cwV (C := rN3) 1 ht (rgoodV (C := rN3) (fun w h => List.mem_cons_of_mem _ h) q_1258 q_209 q_210 q_24 q_211) rfl rfl rfl hv_jb_append__String__StringBuilder_ ⟨Nat.le_of_ble_eq_true rfl, Nat.le_of_ble_eq_true rfl⟩) rfl) ?_
  refine rcons (rOkX.of (ro_gets (φ := fun _ => True) (C := "RingdaysModel") (n := "DAYS") (d := "[Ljava/lang/String;") rh3 (List.mem_cons_of_mem _ q_1034) (by decide +kernel) rfl) (fun _ _ => rfl)) ?_
  refine rcons (rOkX.of (ro_aload_n (k := 0) rfl (by decide +kernel) rfl) (fun _ _ => rfl)) ?_
  refine rcons (rOkX.of (ro_getf (C := rN1) (T := rF1) (N := 7) (k := 1) (by decide +kernel) rfl (rU1c _) (by decide) (List.mem_cons_of_mem _ q_985) rfl) (fun _ _ => rfl)) ?_
  refine rcons (rOkX.of (ro_iconst (n := 2) (by decide +kernel) rfl rfl) (fun _ _ => rfl)) ?_
  refine rcons (rOkX.of (ro_iald (by decide +kernel) rfl) (fun _ _ => rfl)) ?_
  refine rcons (rOkX.of (ro_iconst (n := 1) (by decide +kernel) rfl rfl) (fun _ _ => rfl)) ?_
  refine rcons (rOkX.of (ro_isub (by decide +kernel) rfl) (fun _ _ => rfl)) ?_
  refine rcons (rOkX.of (ro_aldS (φ := fun _ => True) rh4 (by decide +kernel) rfl) (fun _ _ => rfl)) ?_
  refine rcons (ro_xcallV (C := rN3) (T := rF3) (N := 4) (by decide) rfl okS_jb_appS (by decide +kernel) (fun s args ht => cwV (C := rN3) 1 ht (rgoodV (C := rN3) (fun w h => List.mem_cons_of_mem _ h) q_1258 q_209 q_210 q_24 q_211) rfl rfl rfl hv_jb_append__String__StringBuilder_ ⟨Nat.le_of_ble_eq_true rfl, Nat.le_of_ble_eq_true rfl⟩) rfl) ?_
  refine rcons (rOkX.of (ro_ldcS (k := 25) (by decide) rfl (by decide +kernel) rfl) (fun _ _ => rfl)) ?_
  refine rcons (ro_xcallV (C := rN3) (T := rF3) (N := 4) (by decide) rfl okS_jb_appS (by decide +kernel) (fun s args ht => cwV (C := rN3) 1 ht (rgoodV (C := rN3) (fun w h => List.mem_cons_of_mem _ h) q_1258 q_209 q_210 q_24 q_211) rfl rfl rfl hv_jb_append__String__StringBuilder_ ⟨Nat.le_of_ble_eq_true rfl, Nat.le_of_ble_eq_true rfl⟩) rfl) ?_
  refine rcons (rOkX.of (ro_gets (φ := fun _ => True) (C := "RingdaysModel") (n := "DAYS") (d := "[Ljava/lang/String;") rh3 (List.mem_cons_of_mem _ q_1034) (by decide +kernel) rfl) (fun _ _ => rfl)) ?_
  refine rcons (rOkX.of (ro_aload_n (k := 0) rfl (by decide +kernel) rfl) (fun _ _ => rfl)) ?_
  refine rcons (rOkX.of (ro_getf (C := rN1) (T := rF1) (N := 7) (k := 1) (by decide +kernel) rfl (rU1c _) (by decide) (List.mem_cons_of_mem _ q_985) rfl) (fun _ _ => rfl)) ?_
  refine rcons (rOkX.of (ro_iconst (n := 3) (by decide +kernel) rfl rfl) (fun _ _ => rfl)) ?_
  refine rcons (rOkX.of (ro_iald (by decide +kernel) rfl) (fun _ _ => rfl)) ?_
  refine rcons (rOkX.of (ro_iconst (n := 1) (by decide +kernel) rfl rfl) (fun _ _ => rfl)) ?_
  refine rcons (rOkX.of (ro_isub (by decide +kernel) rfl) (fun _ _ => rfl)) ?_
  refine rcons (rOkX.of (ro_aldS (φ := fun _ => True) rh4 (by decide +kernel) rfl) (fun _ _ => rfl)) ?_
  refine rcons (ro_xcallV (C := rN3) (T := rF3) (N := 4) (by decide) rfl okS_jb_appS (by decide +kernel) (fun s args ht => cwV (C := rN3) 1 ht (rgoodV (C := rN3) (fun w h => List.mem_cons_of_mem _ h) q_1258 q_209 q_210 q_24 q_211) rfl rfl rfl hv_jb_append__String__StringBuilder_ ⟨Nat.le_of_ble_eq_true rfl, Nat.le_of_ble_eq_true rfl⟩) rfl) ?_
  refine rcons (ro_xcallV (C := rN3) (T := rF3) (N := 4) (by decide) rfl okS_jb_toS (by decide +kernel) (fun s args ht => cwV (C := rN3) 0 ht (rgoodV (C := rN3) (fun w h => List.mem_cons_of_mem _ h) q_1260 q_256 q_257 q_24 q_258) rfl rfl rfl hv_jb_toString ⟨Nat.le_of_ble_eq_true rfl, Nat.le_of_ble_eq_true rfl⟩) rfl) ?_
  refine rcons (ro_xaret (Or.inl ⟨_, rfl⟩) (by decide +kernel)) ?_
  exact rnil
def ps_d_months : List Nat := [0, 1, 2, 5, 8, 9, 12, 15, 16, 19, 20, 21, 22, 23, 24, 27, 29, 32, 35, 36, 39, 40, 41, 42, 43, 44, 47, 49, 52, 55, 56, 59, 60, 61, 62, 63, 64, 67, 69, 72, 75, 76, 79, 80, 81, 82, 83, 84, 87, 90]
def tb_d_months : List RT := [tq_al 0, tq_ic 0, tq_putf 1 0 0, tq_new 18 3 [rO none, rI true 0, rI true 0, rI false 0] 120, tq_dup, tq_callX 19 (rThis m_jb_init) 1 9 120, tq_rc 51, tq_al 0, tq_getf 1 2, tq_ic 0, tq_iald 0, tq_ic 1, tq_i2 (fun x y => x - y), tq_aldS 51 12 133, tq_callX 19 (rV 3 s_jb_appS) 2 9 120, tq_rc 125, tq_callX 19 (rV 3 s_jb_appS) 2 9 120, tq_rc 51, tq_al 0, tq_getf 1 2, tq_ic 1, tq_iald 0, tq_ic 1, tq_i2 (fun x y => x - y), tq_aldS 51 12 133, tq_callX 19 (rV 3 s_jb_appS) 2 9 120, tq_rc 125, tq_callX 19 (rV 3 s_jb_appS) 2 9 120, tq_rc 51, tq_al 0, tq_getf 1 2, tq_ic 2, tq_iald 0, tq_ic 1, tq_i2 (fun x y => x - y), tq_aldS 51 12 133, tq_callX 19 (rV 3 s_jb_appS) 2 9 120, tq_rc 125, tq_callX 19 (rV 3 s_jb_appS) 2 9 120, tq_rc 51, tq_al 0, tq_getf 1 2, tq_ic 3, tq_iald 0, tq_ic 1, tq_i2 (fun x y => x - y), tq_aldS 51 12 133, tq_callX 19 (rV 3 s_jb_appS) 2 9 120, tq_callX 20 (rV 3 s_jb_toS) 1 19 120, tq_xaret 120]
def m_d_months : RM := rMeth tb_d_months 200 1
abbrev rm_d_months : Room := { frames := 6, cells := 120, slots := 1440, locals := 171 }
set_option maxHeartbeats 4000000 in
set_option maxRecDepth 20000 in
theorem ok_d_months : rMetX 18 y_d_months (Cond.code y_d_months prog_4_method_66_code 1 (some (.object "java/lang/String")) :: rT) rm_d_months 120 m_d_months := by
  refine rMethX_ok (ps := ps_d_months) (tab := tb_d_months) (by decide +kernel) rfl rfl rfl rfl ?_
  refine rcons (rOkX.of (ro_aload_n (k := 0) rfl (by decide +kernel) rfl) (fun _ _ => rfl)) ?_
  refine rcons (rOkX.of (ro_iconst (n := 0) (by decide +kernel) rfl rfl) (fun _ _ => rfl)) ?_
  refine rcons (rOkX.of (ro_putfI (C := rN1) (T := rF1) (N := 7) (k := 0) (Y := rY1) (by decide +kernel) rfl (rU1c _) rY1_ok rD1 (by decide) (List.mem_cons_of_mem _ q_984) rfl rfl rfl) (fun _ _ => rfl)) ?_
  refine rcons (ro_new (C := rN3) (T := rF3) (N := 4) (Y := rY3) (by decide) (by decide) (by decide) (by decide +kernel) rfl (rU3c _) rY3_ok (List.mem_cons_of_mem _ q_1256) (List.mem_cons_of_mem _ q_72) (List.mem_cons_of_mem _ q_24) rdf3 rfl rfl) ?_
  refine rcons (rOkX.of (ro_dup (by decide +kernel) rfl) (fun _ _ => rfl)) ?_
  refine rcons (ro_xcallI (by decide) ok_jb_init (by decide +kernel) (fun s args ht => cwI 0 ht (rgoodc (fun w h => List.mem_cons_of_mem _ h) q_75 (rgood (fun w h => List.mem_cons_of_mem _ h))) rfl rfl rfl (ht _ (List.mem_cons_of_mem _ q_24)) (ht _ (List.mem_cons_of_mem _ q_1257)) (ht _ (List.mem_cons_of_mem _ q_74)) rfl hy_jb_init ⟨Nat.le_of_ble_eq_true rfl, Nat.le_of_ble_eq_true rfl⟩) rfl) ?_
  refine rcons (rOkX.of (ro_gets (φ := fun _ => True) (C := "RingdaysModel") (n := "MONTHS") (d := "[Ljava/lang/String;") rh5 (List.mem_cons_of_mem _ q_1121) (by decide +kernel) rfl) (fun _ _ => rfl)) ?_
  refine rcons (rOkX.of (ro_aload_n (k := 0) rfl (by decide +kernel) rfl) (fun _ _ => rfl)) ?_
  refine rcons (rOkX.of (ro_getf (C := rN1) (T := rF1) (N := 7) (k := 2) (by decide +kernel) rfl (rU1c _) (by decide) (List.mem_cons_of_mem _ q_986) rfl) (fun _ _ => rfl)) ?_
  refine rcons (rOkX.of (ro_iconst (n := 0) (by decide +kernel) rfl rfl) (fun _ _ => rfl)) ?_
  refine rcons (rOkX.of (ro_iald (by decide +kernel) rfl) (fun _ _ => rfl)) ?_
  refine rcons (rOkX.of (ro_iconst (n := 1) (by decide +kernel) rfl rfl) (fun _ _ => rfl)) ?_
  refine rcons (rOkX.of (ro_isub (by decide +kernel) rfl) (fun _ _ => rfl)) ?_
  refine rcons (rOkX.of (ro_aldS (φ := fun _ => True) rh6 (by decide +kernel) rfl) (fun _ _ => rfl)) ?_
  refine rcons (ro_xcallV (C := rN3) (T := rF3) (N := 4) (by decide) rfl okS_jb_appS (by decide +kernel) (fun s args ht => cwV (C := rN3) 1 ht (rgoodV (C := rN3) (fun w h => List.mem_cons_of_mem _ h) q_1258 q_209 q_210 q_24 q_211) rfl rfl rfl hv_jb_append__String__StringBuilder_ ⟨Nat.le_of_ble_eq_true rfl, Nat.le_of_ble_eq_true rfl⟩) rfl) ?_
  refine rcons (rOkX.of (ro_ldcS (k := 25) (by decide) rfl (by decide +kernel) rfl) (fun _ _ => rfl)) ?_
  refine rcons (ro_xcallV (C := rN3) (T := rF3) (N := 4) (by decide) rfl okS_jb_appS (by decide +kernel) (fun s args ht => cwV (C := rN3) 1 ht (rgoodV (C := rN3) (fun w h => List.mem_cons_of_mem _ h) q_1258 q_209 q_210 q_24 q_211) rfl rfl rfl hv_jb_append__String__StringBuilder_ ⟨Nat.le_of_ble_eq_true rfl, Nat.le_of_ble_eq_true rfl⟩) rfl) ?_
  refine rcons (rOkX.of (ro_gets (φ := fun _ => True) (C := "RingdaysModel") (n := "MONTHS") (d := "[Ljava/lang/String;") rh5 (List.mem_cons_of_mem _ q_1121) (by decide +kernel) rfl) (fun _ _ => rfl)) ?_
  refine rcons (rOkX.of (ro_aload_n (k := 0) rfl (by decide +kernel) rfl) (fun _ _ => rfl)) ?_
  refine rcons (rOkX.of (ro_getf (C := rN1) (T := rF1) (N := 7) (k := 2) (by decide +kernel) rfl (rU1c _) (by decide) (List.mem_cons_of_mem _ q_986) rfl) (fun _ _ => rfl)) ?_
  refine rcons (rOkX.of (ro_iconst (n := 1) (by decide +kernel) rfl rfl) (fun _ _ => rfl)) ?_
  refine rcons (rOkX.of (ro_iald (by decide +kernel) rfl) (fun _ _ => rfl)) ?_
  refine rcons (rOkX.of (ro_iconst (n := 1) (by decide +kernel) rfl rfl) (fun _ _ => rfl)) ?_
  refine rcons (rOkX.of (ro_isub (by decide +kernel) rfl) (fun _ _ => rfl)) ?_
  refine rcons (rOkX.of (ro_aldS (φ := fun _ => True) rh6 (by decide +kernel) rfl) (fun _ _ => rfl)) ?_
  refine rcons (ro_xcallV (C := rN3) (T := rF3) (N := 4) (by decide) rfl okS_jb_appS (by decide +kernel) (fun s args ht => cwV (C := rN3) 1 ht (rgoodV (C := rN3) (fun w h => List.mem_cons_of_mem _ h) q_1258 q_209 q_210 q_24 q_211) rfl rfl rfl hv_jb_append__String__StringBuilder_ ⟨Nat.le_of_ble_eq_true rfl, Nat.le_of_ble_eq_true rfl⟩) rfl) ?_
  refine rcons (rOkX.of (ro_ldcS (k := 25) (by decide) rfl (by decide +kernel) rfl) (fun _ _ => rfl)) ?_
  refine rcons (ro_xcallV (C := rN3) (T := rF3) (N := 4) (by decide) rfl okS_jb_appS (by decide +kernel) (fun s args ht => cwV (C := rN3) 1 ht (rgoodV (C := rN3) (fun w h => List.mem_cons_of_mem _ h) q_1258 q_209 q_210 q_24 q_211) rfl rfl rfl hv_jb_append__String__StringBuilder_ ⟨Nat.le_of_ble_eq_true rfl, Nat.le_of_ble_eq_true rfl⟩) rfl) ?_
  refine rcons (rOkX.of (ro_gets (φ := fun _ => True) (C := "RingdaysModel") (n := "MONTHS") (d := "[Ljava/lang/String;") rh5 (List.mem_cons_of_mem _ q_1121) (by decide +kernel) rfl) (fun _ _ => rfl)) ?_
  refine rcons (rOkX.of (ro_aload_n (k := 0) rfl (by decide +kernel) rfl) (fun _ _ => rfl)) ?_
  refine rcons (rOkX.of (ro_getf (C := rN1) (T := rF1) (N := 7) (k := 2) (by decide +kernel) rfl (rU1c _) (by decide) (List.mem_cons_of_mem _ q_986) rfl) (fun _ _ => rfl)) ?_
  refine rcons (rOkX.of (ro_iconst (n := 2) (by decide +kernel) rfl rfl) (fun _ _ => rfl)) ?_
  refine rcons (rOkX.of (ro_iald (by decide +kernel) rfl) (fun _ _ => rfl)) ?_
  refine rcons (rOkX.of (ro_iconst (n := 1) (by decide +kernel) rfl rfl) (fun _ _ => rfl)) ?_
  refine rcons (rOkX.of (ro_isub (by decide +kernel) rfl) (fun _ _ => rfl)) ?_
  refine rcons (rOkX.of (ro_aldS (φ := fun _ => True) rh6 (by decide +kernel) rfl) (fun _ _ => rfl)) ?_
  refine rcons (ro_xcallV (C := rN3) (T := rF3) (N := 4) (by decide) rfl okS_jb_appS (by decide +kernel) (fun s args ht => cwV (C := rN3) 1 ht (rgoodV (C := rN3) (fun w h => List.mem_cons_of_mem _ h) q_1258 q_209 q_210 q_24 q_211) rfl rfl rfl hv_jb_append__String__StringBuilder_ ⟨Nat.le_of_ble_eq_true rfl, Nat.le_of_ble_eq_true rfl⟩) rfl) ?_
  refine rcons (rOkX.of (ro_ldcS (k := 25) (by decide) rfl (by decide +kernel) rfl) (fun _ _ => rfl)) ?_
  refine rcons (ro_xcallV (C := rN3) (T := rF3) (N := 4) (by decide) rfl okS_jb_appS (by decide +kernel) (fun s args ht => cwV (C := rN3) 1 ht (rgoodV (C := rN3) (fun w h => List.mem_cons_of_mem _ h) q_1258 q_209 q_210 q_24 q_211) rfl rfl rfl hv_jb_append__String__StringBuilder_ ⟨Nat.le_of_ble_eq_true rfl, Nat.le_of_ble_eq_true rfl⟩) rfl) ?_
  refine rcons (rOkX.of (ro_gets (φ := fun _ => True) (C := "RingdaysModel") (n := "MONTHS") (d := "[Ljava/lang/String;") rh5 (List.mem_cons_of_mem _ q_1121) (by decide +kernel) rfl) (fun _ _ => rfl)) ?_
  refine rcons (rOkX.of (ro_aload_n (k := 0) rfl (by decide +kernel) rfl) (fun _ _ => rfl)) ?_
  refine rcons (rOkX.of (ro_getf (C := rN1) (T := rF1) (N := 7) (k := 2) (by decide +kernel) rfl (rU1c _) (by decide) (List.mem_cons_of_mem _ q_986) rfl) (fun _ _ => rfl)) ?_
  refine rcons (rOkX.of (ro_iconst (n := 3) (by decide +kernel) rfl rfl) (fun _ _ => rfl)) ?_
  refine rcons (rOkX.of (ro_iald (by decide +kernel) rfl) (fun _ _ => rfl)) ?_
  refine rcons (rOkX.of (ro_iconst (n := 1) (by decide +kernel) rfl rfl) (fun _ _ => rfl)) ?_
  refine rcons (rOkX.of (ro_isub (by decide +kernel) rfl) (fun _ _ => rfl)) ?_
  refine rcons (rOkX.of (ro_aldS (φ := fun _ => True) rh6 (by decide +kernel) rfl) (fun _ _ => rfl)) ?_
  refine rcons (ro_xcallV (C := rN3) (T := rF3) (N := 4) (by decide) rfl okS_jb_appS (by decide +kernel) (fun s args ht => cwV (C := rN3) 1 ht (rgoodV (C := rN3) (fun w h => List.mem_cons_of_mem _ h) q_1258 q_209 q_210 q_24 q_211) rfl rfl rfl hv_jb_append__String__StringBuilder_ ⟨Nat.le_of_ble_eq_true rfl, Nat.le_of_ble_eq_true rfl⟩) rfl) ?_
  refine rcons (ro_xcallV (C := rN3) (T := rF3) (N := 4) (by decide) rfl okS_jb_toS (by decide +kernel) (fun s args ht => cwV (C := rN3) 0 ht (rgoodV (C := rN3) (fun w h => List.mem_cons_of_mem _ h) q_1260 q_256 q_257 q_24 q_258) rfl rfl rfl hv_jb_toString ⟨Nat.le_of_ble_eq_true rfl, Nat.le_of_ble_eq_true rfl⟩) rfl) ?_
  refine rcons (ro_xaret (Or.inl ⟨_, rfl⟩) (by decide +kernel)) ?_
  exact rnil
theorem k45 {k : Nat} (h1 : 100 ≤ k) (h2 : k < 145) (h3 : ¬ (119 < k ∧ k < 126)) : True := trivial
theorem nm_day {n : Int32} (h : dD n = true) : 100 ≤ 99 + n.toNatClampNeg ∧ 99 + n.toNatClampNeg < 145 ∧ rSl (99 + n.toNatClampNeg) ≤ 9 := by
  obtain ⟨k, k1, k2, rfl⟩ := dD_nat h
  rcases k7 k1 k2 with rfl | rfl | rfl | rfl | rfl | rfl | rfl <;> decide +kernel
theorem nm_month {n : Int32} (h : dM n = true) : 100 ≤ 107 + n.toNatClampNeg ∧ 107 + n.toNatClampNeg < 145 ∧ rSl (107 + n.toNatClampNeg) ≤ 9 := by
  obtain ⟨k, k1, k2, rfl⟩ := dM_nat h
  rcases k12 k1 k2 with rfl | rfl | rfl | rfl | rfl | rfl | rfl | rfl | rfl | rfl | rfl | rfl <;> decide +kernel
theorem vp_D' {n : Int32} (h : dD n = true) : vp_in (n - 1) 7 := by
  obtain ⟨k, k1, k2, rfl⟩ := dD_nat h
  rcases k7 k1 k2 with rfl | rfl | rfl | rfl | rfl | rfl | rfl <;> (unfold vp_in; decide)
theorem vp_M' {n : Int32} (h : dM n = true) : vp_in (n - 1) 12 := by
  obtain ⟨k, k1, k2, rfl⟩ := dM_nat h
  rcases k12 k1 k2 with rfl | rfl | rfl | rfl | rfl | rfl | rfl | rfl | rfl | rfl | rfl | rfl <;> (unfold vp_in; decide)
theorem nd_day {n : Int32} (h : dD n = true) : 100 ≤ 126 + (n - 1).toNatClampNeg ∧ 126 + (n - 1).toNatClampNeg < 145 ∧ rSl (126 + (n - 1).toNatClampNeg) ≤ 9 := by
  obtain ⟨k, k1, k2, rfl⟩ := dD_nat h
  rcases k7 k1 k2 with rfl | rfl | rfl | rfl | rfl | rfl | rfl <;> decide +kernel
theorem nd_month {n : Int32} (h : dM n = true) : 100 ≤ 133 + (n - 1).toNatClampNeg ∧ 133 + (n - 1).toNatClampNeg < 145 ∧ rSl (133 + (n - 1).toNatClampNeg) ≤ 9 := by
  obtain ⟨k, k1, k2, rfl⟩ := dM_nat h
  rcases k12 k1 k2 with rfl | rfl | rfl | rfl | rfl | rfl | rfl | rfl | rfl | rfl | rfl | rfl <;> decide +kernel
def s_c_days : RM := fun as σ Q => as = [rR 0] ∧ (∃ P : PW, σ = CWP P ∧ (dD (P.1 0 0) = true ∧ dD (P.1 0 1) = true ∧ dD (P.1 0 2) = true ∧ dD (P.1 0 3) = true)) ∧ ∀ a : Nat, Q (.inl (some (rO (some a)))) σ
set_option maxHeartbeats 4000000 in
set_option maxRecDepth 20000 in
theorem days_run {P : PW} {Q : RQ} (h0 : dD (P.1 0 0) = true) (h1 : dD (P.1 0 1) = true) (h2 : dD (P.1 0 2) = true) (h3 : dD (P.1 0 3) = true) (k : ∀ (c : Int32) (cap : Nat) (f : CF) (x y : RC), Q (.inl (some (rR 20))) (SW P c cap f ++ [x, y])) : m_c_days [rR 0] (CWP P) Q := by
  obtain ⟨n0a, n0b, n0c⟩ := nm_day h0
  obtain ⟨n1a, n1b, n1c⟩ := nm_day h1
  obtain ⟨n2a, n2b, n2c⟩ := nm_day h2
  obtain ⟨n3a, n3b, n3c⟩ := nm_day h3
  refine And.intro rfl (And.intro rfl ?_)
  apply And.intro
  · exact ⟨rfl, Nat.le_of_ble_eq_true rfl⟩
  apply And.intro
  · exact Or.inl rfl
  apply And.intro
  · exact h0
  refine And.intro rfl (Exists.intro P ⟨0, 16, (fun _ => 0), (99 + (P.1 0 0).toNatClampNeg), rfl, rfl, ⟨(Or.inl rfl), bfit0, (Nat.zero_le _), by omega, n0c, n0a, n0b⟩, ?_⟩)
  intro cap0 f0 c0 l0 b0
  refine And.intro rfl (Exists.intro P ⟨(0 + rSl (99 + (P.1 0 0).toNatClampNeg)), cap0, f0, rfl, rfl, ⟨c0, b0, l0, by omega⟩, ?_⟩)
  intro cap1b f1b c1b l1b b1b
  apply And.intro
  · exact h1
  refine And.intro rfl (Exists.intro P ⟨((0 + rSl (99 + (P.1 0 0).toNatClampNeg)) + 1), cap1b, f1b, (99 + (P.1 0 1).toNatClampNeg), rfl, rfl, ⟨c1b, b1b, l1b, by omega, n1c, n1a, n1b⟩, ?_⟩)
  intro cap1 f1 c1 l1 b1
  refine And.intro rfl (Exists.intro P ⟨(((0 + rSl (99 + (P.1 0 0).toNatClampNeg)) + 1) + rSl (99 + (P.1 0 1).toNatClampNeg)), cap1, f1, rfl, rfl, ⟨c1, b1, l1, by omega⟩, ?_⟩)
  intro cap2b f2b c2b l2b b2b
  apply And.intro
  · exact h2
  refine And.intro rfl (Exists.intro P ⟨((((0 + rSl (99 + (P.1 0 0).toNatClampNeg)) + 1) + rSl (99 + (P.1 0 1).toNatClampNeg)) + 1), cap2b, f2b, (99 + (P.1 0 2).toNatClampNeg), rfl, rfl, ⟨c2b, b2b, l2b, by omega, n2c, n2a, n2b⟩, ?_⟩)
  intro cap2 f2 c2 l2 b2
  refine And.intro rfl (Exists.intro P ⟨(((((0 + rSl (99 + (P.1 0 0).toNatClampNeg)) + 1) + rSl (99 + (P.1 0 1).toNatClampNeg)) + 1) + rSl (99 + (P.1 0 2).toNatClampNeg)), cap2, f2, rfl, rfl, ⟨c2, b2, l2, by omega⟩, ?_⟩)
  intro cap3b f3b c3b l3b b3b
  apply And.intro
  · exact h3
  refine And.intro rfl (Exists.intro P ⟨((((((0 + rSl (99 + (P.1 0 0).toNatClampNeg)) + 1) + rSl (99 + (P.1 0 1).toNatClampNeg)) + 1) + rSl (99 + (P.1 0 2).toNatClampNeg)) + 1), cap3b, f3b, (99 + (P.1 0 3).toNatClampNeg), rfl, rfl, ⟨c3b, b3b, l3b, by omega, n3c, n3a, n3b⟩, ?_⟩)
  intro cap3 f3 c3 l3 b3
  refine And.intro rfl (Exists.intro P ⟨(((((((0 + rSl (99 + (P.1 0 0).toNatClampNeg)) + 1) + rSl (99 + (P.1 0 1).toNatClampNeg)) + 1) + rSl (99 + (P.1 0 2).toNatClampNeg)) + 1) + rSl (99 + (P.1 0 3).toNatClampNeg)), cap3, f3, rfl, rfl, ⟨c3, b3, l3⟩, ?_⟩)
  intro x y
  exact k _ _ _ x y
set_option maxHeartbeats 4000000 in
set_option maxRecDepth 20000 in
theorem okS_c_days : rMet y_c_days (Cond.code y_c_days prog_1_method_50_code 3 (some (.object "java/lang/String")) :: rT) rm_c_days 120 s_c_days := by
  refine rMetX_plain ok_c_days (fun as σ Q h => ?_)
  obtain ⟨rfl, ⟨P, rfl, h0, h1, h2, h3⟩, h⟩ := h
  refine ⟨fun z σ' => z = .inl (some (rR 20)) ∧ ∃ (c : Int32) (cap : Nat) (f : CF) (x y : RC), σ' = SW P c cap f ++ [x, y], days_run h0 h1 h2 h3 (fun c cap f x y => ⟨rfl, c, cap, f, x, y, rfl⟩), ?_⟩
  intro G G' r σ' hx hq
  obtain ⟨e1, c, cap, f, x, y, rfl⟩ := hq
  cases e1
  refine ⟨some (rO (some (rAd G' 20))), CWP P, rfl, h _, [0, 1, 2, 3, 4, 5, 6, 7, 8, 9, 10, 11, 12, 13, 14, 15, 16, 17], by decide, ?_⟩
  rw [← rW_ext (σ := CWP P) (k := 0) hx (Nat.le_of_ble_eq_true rfl) rfl]
  rfl
def s_c_months : RM := fun as σ Q => as = [rR 0] ∧ (∃ P : PW, σ = CWP P ∧ (dM (P.1 1 0) = true ∧ dM (P.1 1 1) = true ∧ dM (P.1 1 2) = true ∧ dM (P.1 1 3) = true)) ∧ ∀ a : Nat, Q (.inl (some (rO (some a)))) σ
set_option maxHeartbeats 4000000 in
set_option maxRecDepth 20000 in
theorem months_run {P : PW} {Q : RQ} (h0 : dM (P.1 1 0) = true) (h1 : dM (P.1 1 1) = true) (h2 : dM (P.1 1 2) = true) (h3 : dM (P.1 1 3) = true) (k : ∀ (c : Int32) (cap : Nat) (f : CF) (x y : RC), Q (.inl (some (rR 20))) (SW P c cap f ++ [x, y])) : m_c_months [rR 0] (CWP P) Q := by
  obtain ⟨n0a, n0b, n0c⟩ := nm_month h0
  obtain ⟨n1a, n1b, n1c⟩ := nm_month h1
  obtain ⟨n2a, n2b, n2c⟩ := nm_month h2
  obtain ⟨n3a, n3b, n3c⟩ := nm_month h3
  refine And.intro rfl (And.intro rfl ?_)
  apply And.intro
  · exact ⟨rfl, Nat.le_of_ble_eq_true rfl⟩
  apply And.intro
  · exact Or.inl rfl
  apply And.intro
  · exact h0
  refine And.intro rfl (Exists.intro P ⟨0, 16, (fun _ => 0), (107 + (P.1 1 0).toNatClampNeg), rfl, rfl, ⟨(Or.inl rfl), bfit0, (Nat.zero_le _), by omega, n0c, n0a, n0b⟩, ?_⟩)
  intro cap0 f0 c0 l0 b0
  refine And.intro rfl (Exists.intro P ⟨(0 + rSl (107 + (P.1 1 0).toNatClampNeg)), cap0, f0, rfl, rfl, ⟨c0, b0, l0, by omega⟩, ?_⟩)
  intro cap1b f1b c1b l1b b1b
  apply And.intro
  · exact h1
  refine And.intro rfl (Exists.intro P ⟨((0 + rSl (107 + (P.1 1 0).toNatClampNeg)) + 1), cap1b, f1b, (107 + (P.1 1 1).toNatClampNeg), rfl, rfl, ⟨c1b, b1b, l1b, by omega, n1c, n1a, n1b⟩, ?_⟩)
  intro cap1 f1 c1 l1 b1
  refine And.intro rfl (Exists.intro P ⟨(((0 + rSl (107 + (P.1 1 0).toNatClampNeg)) + 1) + rSl (107 + (P.1 1 1).toNatClampNeg)), cap1, f1, rfl, rfl, ⟨c1, b1, l1, by omega⟩, ?_⟩)
  intro cap2b f2b c2b l2b b2b
  apply And.intro
  · exact h2
  refine And.intro rfl (Exists.intro P ⟨((((0 + rSl (107 + (P.1 1 0).toNatClampNeg)) + 1) + rSl (107 + (P.1 1 1).toNatClampNeg)) + 1), cap2b, f2b, (107 + (P.1 1 2).toNatClampNeg), rfl, rfl, ⟨c2b, b2b, l2b, by omega, n2c, n2a, n2b⟩, ?_⟩)
  intro cap2 f2 c2 l2 b2
  refine And.intro rfl (Exists.intro P ⟨(((((0 + rSl (107 + (P.1 1 0).toNatClampNeg)) + 1) + rSl (107 + (P.1 1 1).toNatClampNeg)) + 1) + rSl (107 + (P.1 1 2).toNatClampNeg)), cap2, f2, rfl, rfl, ⟨c2, b2, l2, by omega⟩, ?_⟩)
  intro cap3b f3b c3b l3b b3b
  apply And.intro
  · exact h3
  refine And.intro rfl (Exists.intro P ⟨((((((0 + rSl (107 + (P.1 1 0).toNatClampNeg)) + 1) + rSl (107 + (P.1 1 1).toNatClampNeg)) + 1) + rSl (107 + (P.1 1 2).toNatClampNeg)) + 1), cap3b, f3b, (107 + (P.1 1 3).toNatClampNeg), rfl, rfl, ⟨c3b, b3b, l3b, by omega, n3c, n3a, n3b⟩, ?_⟩)
  intro cap3 f3 c3 l3 b3
  refine And.intro rfl (Exists.intro P ⟨(((((((0 + rSl (107 + (P.1 1 0).toNatClampNeg)) + 1) + rSl (107 + (P.1 1 1).toNatClampNeg)) + 1) + rSl (107 + (P.1 1 2).toNatClampNeg)) + 1) + rSl (107 + (P.1 1 3).toNatClampNeg)), cap3, f3, rfl, rfl, ⟨c3, b3, l3⟩, ?_⟩)
  intro x y
  exact k _ _ _ x y
set_option maxHeartbeats 4000000 in
set_option maxRecDepth 20000 in
theorem okS_c_months : rMet y_c_months (Cond.code y_c_months prog_1_method_51_code 3 (some (.object "java/lang/String")) :: rT) rm_c_months 120 s_c_months := by
  refine rMetX_plain ok_c_months (fun as σ Q h => ?_)
  obtain ⟨rfl, ⟨P, rfl, h0, h1, h2, h3⟩, h⟩ := h
  refine ⟨fun z σ' => z = .inl (some (rR 20)) ∧ ∃ (c : Int32) (cap : Nat) (f : CF) (x y : RC), σ' = SW P c cap f ++ [x, y], months_run h0 h1 h2 h3 (fun c cap f x y => ⟨rfl, c, cap, f, x, y, rfl⟩), ?_⟩
  intro G G' r σ' hx hq
  obtain ⟨e1, c, cap, f, x, y, rfl⟩ := hq
  cases e1
  refine ⟨some (rO (some (rAd G' 20))), CWP P, rfl, h _, [0, 1, 2, 3, 4, 5, 6, 7, 8, 9, 10, 11, 12, 13, 14, 15, 16, 17], by decide, ?_⟩
  rw [← rW_ext (σ := CWP P) (k := 0) hx (Nat.le_of_ble_eq_true rfl) rfl]
  rfl
def thr0 (P : PW) : PW := (P.1, P.2.1, (true, 0), P.2.2.2)
def s_d_days : RM := fun as σ Q => as = [rR 10] ∧ ∃ P : PW, σ = CWP P ∧ (dD (P.1 7 0) = true ∧ dD (P.1 7 1) = true ∧ dD (P.1 7 2) = true ∧ dD (P.1 7 3) = true) ∧ ∀ a : Nat, Q (.inl (some (rO (some a)))) (CWP (thr0 P))
set_option maxHeartbeats 4000000 in
set_option maxRecDepth 20000 in
theorem ddays_run {P : PW} {Q : RQ} (h0 : dD (P.1 7 0) = true) (h1 : dD (P.1 7 1) = true) (h2 : dD (P.1 7 2) = true) (h3 : dD (P.1 7 3) = true) (k : ∀ (c : Int32) (cap : Nat) (f : CF) (x y : RC), Q (.inl (some (rR 20))) (SW (thr0 P) c cap f ++ [x, y])) : m_d_days [rR 10] (CWP P) Q := by
  obtain ⟨n0a, n0b, n0c⟩ := nd_day h0
  obtain ⟨n1a, n1b, n1c⟩ := nd_day h1
  obtain ⟨n2a, n2b, n2c⟩ := nd_day h2
  obtain ⟨n3a, n3b, n3c⟩ := nd_day h3
  have sp : rSl 125 = 1 := rfl
  refine And.intro rfl (And.intro rfl ?_)
  apply And.intro
  · exact ⟨rfl, Nat.le_of_ble_eq_true rfl⟩
  apply And.intro
  · exact Or.inl rfl
  apply And.intro
  · exact vp_D' h0
  refine And.intro rfl (Exists.intro (thr0 P) ⟨0, 16, (fun _ => 0), (126 + (P.1 7 0 - 1).toNatClampNeg), rfl, rfl, ⟨(Or.inl rfl), bfit0, (Nat.zero_le _), by omega, n0c, n0a, n0b⟩, ?_⟩)
  intro cap0 f0 c0 l0 b0
  refine And.intro rfl (Exists.intro (thr0 P) ⟨(0 + rSl (126 + (P.1 7 0 - 1).toNatClampNeg)), cap0, f0, 125, rfl, rfl, ⟨c0, b0, l0, by omega, by omega, by omega, by omega⟩, ?_⟩)
  intro cap1b f1b c1b l1b b1b
  apply And.intro
  · exact vp_D' h1
  refine And.intro rfl (Exists.intro (thr0 P) ⟨((0 + rSl (126 + (P.1 7 0 - 1).toNatClampNeg)) + rSl 125), cap1b, f1b, (126 + (P.1 7 1 - 1).toNatClampNeg), rfl, rfl, ⟨c1b, b1b, l1b, by omega, n1c, n1a, n1b⟩, ?_⟩)
  intro cap1 f1 c1 l1 b1
  refine And.intro rfl (Exists.intro (thr0 P) ⟨(((0 + rSl (126 + (P.1 7 0 - 1).toNatClampNeg)) + rSl 125) + rSl (126 + (P.1 7 1 - 1).toNatClampNeg)), cap1, f1, 125, rfl, rfl, ⟨c1, b1, l1, by omega, by omega, by omega, by omega⟩, ?_⟩)
  intro cap2b f2b c2b l2b b2b
  apply And.intro
  · exact vp_D' h2
  refine And.intro rfl (Exists.intro (thr0 P) ⟨((((0 + rSl (126 + (P.1 7 0 - 1).toNatClampNeg)) + rSl 125) + rSl (126 + (P.1 7 1 - 1).toNatClampNeg)) + rSl 125), cap2b, f2b, (126 + (P.1 7 2 - 1).toNatClampNeg), rfl, rfl, ⟨c2b, b2b, l2b, by omega, n2c, n2a, n2b⟩, ?_⟩)
  intro cap2 f2 c2 l2 b2
  refine And.intro rfl (Exists.intro (thr0 P) ⟨(((((0 + rSl (126 + (P.1 7 0 - 1).toNatClampNeg)) + rSl 125) + rSl (126 + (P.1 7 1 - 1).toNatClampNeg)) + rSl 125) + rSl (126 + (P.1 7 2 - 1).toNatClampNeg)), cap2, f2, 125, rfl, rfl, ⟨c2, b2, l2, by omega, by omega, by omega, by omega⟩, ?_⟩)
  intro cap3b f3b c3b l3b b3b
  apply And.intro
  · exact vp_D' h3
  refine And.intro rfl (Exists.intro (thr0 P) ⟨((((((0 + rSl (126 + (P.1 7 0 - 1).toNatClampNeg)) + rSl 125) + rSl (126 + (P.1 7 1 - 1).toNatClampNeg)) + rSl 125) + rSl (126 + (P.1 7 2 - 1).toNatClampNeg)) + rSl 125), cap3b, f3b, (126 + (P.1 7 3 - 1).toNatClampNeg), rfl, rfl, ⟨c3b, b3b, l3b, by omega, n3c, n3a, n3b⟩, ?_⟩)
  intro cap3 f3 c3 l3 b3
  refine And.intro rfl (Exists.intro (thr0 P) ⟨(((((((0 + rSl (126 + (P.1 7 0 - 1).toNatClampNeg)) + rSl 125) + rSl (126 + (P.1 7 1 - 1).toNatClampNeg)) + rSl 125) + rSl (126 + (P.1 7 2 - 1).toNatClampNeg)) + rSl 125) + rSl (126 + (P.1 7 3 - 1).toNatClampNeg)), cap3, f3, rfl, rfl, ⟨c3, b3, l3⟩, ?_⟩)
  intro x y
  exact k _ _ _ x y
set_option maxHeartbeats 4000000 in
set_option maxRecDepth 20000 in
theorem okS_d_days : rMet y_d_days (Cond.code y_d_days prog_4_method_65_code 1 (some (.object "java/lang/String")) :: rT) rm_d_days 120 s_d_days := by
  refine rMetX_plain ok_d_days (fun as σ Q h => ?_)
  obtain ⟨rfl, P, rfl, ⟨h0, h1, h2, h3⟩, h⟩ := h
  refine ⟨fun z σ' => z = .inl (some (rR 20)) ∧ ∃ (c : Int32) (cap : Nat) (f : CF) (x y : RC), σ' = SW (thr0 P) c cap f ++ [x, y], ddays_run h0 h1 h2 h3 (fun c cap f x y => ⟨rfl, c, cap, f, x, y, rfl⟩), ?_⟩
  intro G G' r σ' hx hq
  obtain ⟨e1, c, cap, f, x, y, rfl⟩ := hq
  cases e1
  refine ⟨some (rO (some (rAd G' 20))), CWP (thr0 P), rfl, h _, [0, 1, 2, 3, 4, 5, 6, 7, 8, 9, 10, 11, 12, 13, 14, 15, 16, 17], by decide, ?_⟩
  rw [← rW_ext (σ := CWP (thr0 P)) (k := 0) hx (Nat.le_of_ble_eq_true rfl) rfl]
  rfl
def s_d_months : RM := fun as σ Q => as = [rR 10] ∧ ∃ P : PW, σ = CWP P ∧ (dM (P.1 8 0) = true ∧ dM (P.1 8 1) = true ∧ dM (P.1 8 2) = true ∧ dM (P.1 8 3) = true) ∧ ∀ a : Nat, Q (.inl (some (rO (some a)))) (CWP (thr0 P))
set_option maxHeartbeats 4000000 in
set_option maxRecDepth 20000 in
theorem dmonths_run {P : PW} {Q : RQ} (h0 : dM (P.1 8 0) = true) (h1 : dM (P.1 8 1) = true) (h2 : dM (P.1 8 2) = true) (h3 : dM (P.1 8 3) = true) (k : ∀ (c : Int32) (cap : Nat) (f : CF) (x y : RC), Q (.inl (some (rR 20))) (SW (thr0 P) c cap f ++ [x, y])) : m_d_months [rR 10] (CWP P) Q := by
  obtain ⟨n0a, n0b, n0c⟩ := nd_month h0
  obtain ⟨n1a, n1b, n1c⟩ := nd_month h1
  obtain ⟨n2a, n2b, n2c⟩ := nd_month h2
  obtain ⟨n3a, n3b, n3c⟩ := nd_month h3
  have sp : rSl 125 = 1 := rfl
  refine And.intro rfl (And.intro rfl ?_)
  apply And.intro
  · exact ⟨rfl, Nat.le_of_ble_eq_true rfl⟩
  apply And.intro
  · exact Or.inl rfl
  apply And.intro
  · exact vp_M' h0
  refine And.intro rfl (Exists.intro (thr0 P) ⟨0, 16, (fun _ => 0), (133 + (P.1 8 0 - 1).toNatClampNeg), rfl, rfl, ⟨(Or.inl rfl), bfit0, (Nat.zero_le _), by omega, n0c, n0a, n0b⟩, ?_⟩)
  intro cap0 f0 c0 l0 b0
  refine And.intro rfl (Exists.intro (thr0 P) ⟨(0 + rSl (133 + (P.1 8 0 - 1).toNatClampNeg)), cap0, f0, 125, rfl, rfl, ⟨c0, b0, l0, by omega, by omega, by omega, by omega⟩, ?_⟩)
  intro cap1b f1b c1b l1b b1b
  apply And.intro
  · exact vp_M' h1
  refine And.intro rfl (Exists.intro (thr0 P) ⟨((0 + rSl (133 + (P.1 8 0 - 1).toNatClampNeg)) + rSl 125), cap1b, f1b, (133 + (P.1 8 1 - 1).toNatClampNeg), rfl, rfl, ⟨c1b, b1b, l1b, by omega, n1c, n1a, n1b⟩, ?_⟩)
  intro cap1 f1 c1 l1 b1
  refine And.intro rfl (Exists.intro (thr0 P) ⟨(((0 + rSl (133 + (P.1 8 0 - 1).toNatClampNeg)) + rSl 125) + rSl (133 + (P.1 8 1 - 1).toNatClampNeg)), cap1, f1, 125, rfl, rfl, ⟨c1, b1, l1, by omega, by omega, by omega, by omega⟩, ?_⟩)
  intro cap2b f2b c2b l2b b2b
  apply And.intro
  · exact vp_M' h2
  refine And.intro rfl (Exists.intro (thr0 P) ⟨((((0 + rSl (133 + (P.1 8 0 - 1).toNatClampNeg)) + rSl 125) + rSl (133 + (P.1 8 1 - 1).toNatClampNeg)) + rSl 125), cap2b, f2b, (133 + (P.1 8 2 - 1).toNatClampNeg), rfl, rfl, ⟨c2b, b2b, l2b, by omega, n2c, n2a, n2b⟩, ?_⟩)
  intro cap2 f2 c2 l2 b2
  refine And.intro rfl (Exists.intro (thr0 P) ⟨(((((0 + rSl (133 + (P.1 8 0 - 1).toNatClampNeg)) + rSl 125) + rSl (133 + (P.1 8 1 - 1).toNatClampNeg)) + rSl 125) + rSl (133 + (P.1 8 2 - 1).toNatClampNeg)), cap2, f2, 125, rfl, rfl, ⟨c2, b2, l2, by omega, by omega, by omega, by omega⟩, ?_⟩)
  intro cap3b f3b c3b l3b b3b
  apply And.intro
  · exact vp_M' h3
  refine And.intro rfl (Exists.intro (thr0 P) ⟨((((((0 + rSl (133 + (P.1 8 0 - 1).toNatClampNeg)) + rSl 125) + rSl (133 + (P.1 8 1 - 1).toNatClampNeg)) + rSl 125) + rSl (133 + (P.1 8 2 - 1).toNatClampNeg)) + rSl 125), cap3b, f3b, (133 + (P.1 8 3 - 1).toNatClampNeg), rfl, rfl, ⟨c3b, b3b, l3b, by omega, n3c, n3a, n3b⟩, ?_⟩)
  intro cap3 f3 c3 l3 b3
  refine And.intro rfl (Exists.intro (thr0 P) ⟨(((((((0 + rSl (133 + (P.1 8 0 - 1).toNatClampNeg)) + rSl 125) + rSl (133 + (P.1 8 1 - 1).toNatClampNeg)) + rSl 125) + rSl (133 + (P.1 8 2 - 1).toNatClampNeg)) + rSl 125) + rSl (133 + (P.1 8 3 - 1).toNatClampNeg)), cap3, f3, rfl, rfl, ⟨c3, b3, l3⟩, ?_⟩)
  intro x y
  exact k _ _ _ x y
set_option maxHeartbeats 4000000 in
set_option maxRecDepth 20000 in
theorem okS_d_months : rMet y_d_months (Cond.code y_d_months prog_4_method_66_code 1 (some (.object "java/lang/String")) :: rT) rm_d_months 120 s_d_months := by
  refine rMetX_plain ok_d_months (fun as σ Q h => ?_)
  obtain ⟨rfl, P, rfl, ⟨h0, h1, h2, h3⟩, h⟩ := h
  refine ⟨fun z σ' => z = .inl (some (rR 20)) ∧ ∃ (c : Int32) (cap : Nat) (f : CF) (x y : RC), σ' = SW (thr0 P) c cap f ++ [x, y], dmonths_run h0 h1 h2 h3 (fun c cap f x y => ⟨rfl, c, cap, f, x, y, rfl⟩), ?_⟩
  intro G G' r σ' hx hq
  obtain ⟨e1, c, cap, f, x, y, rfl⟩ := hq
  cases e1
  refine ⟨some (rO (some (rAd G' 20))), CWP (thr0 P), rfl, h _, [0, 1, 2, 3, 4, 5, 6, 7, 8, 9, 10, 11, 12, 13, 14, 15, 16, 17], by decide, ?_⟩
  rw [← rW_ext (σ := CWP (thr0 P)) (k := 0) hx (Nat.le_of_ble_eq_true rfl) rfl]
  rfl
end RKM
