section RKM
def chE (k p : Nat) : Int32 := ((((rSByt.getD (k + 100 - 200) []).getD (nI p).toNatClampNeg 0) &&& 255).toUInt32 % 65536).toInt32
noncomputable def hs (k : Nat) (j : Nat) : Nat → Int64 → Int64 := Nat.rec (motive := fun _ => Nat → Int64 → Int64) (fun _ w => w) (fun _ ih p w => ih (p + 1) (w * 31 + (chE k p).toInt64)) j
noncomputable def hN (k : Nat) (w : Int64) : Int64 := hs k (rSl k) 0 w
def mx (w : Int64) (v : Int32) : Int64 := w * 31 + v.toInt64
noncomputable def cellX (ka kb : Nat) (a b : Int32) (w : Int64) : Int64 :=
  mx (mx (mx (mx (mx (hN kb (hN ka (mx (mx w a) b))) (lenF b 0)) (lenF b 1)) (firstF b 0)) (firstF b 1)) (b - restF (b - 1).toInt64 3)
def mxL (w : Int64) (v : Int64) : Int64 := w * 31 + v
def oX (al : Int32 → Int32 → Int64) (d m : CF) (i j : Nat) (w : Int64) : Int64 := mxL (mx (mx w (ordF (d i) (d j))) (ordF (m i) (m j))) (al (m i) (m j))
def rX (al : Int32 → Int32 → Int64) (d m : CF) (i : Nat) (w : Int64) : Int64 := oX al d m i 3 (oX al d m i 2 (oX al d m i 1 (oX al d m i 0 w)))
noncomputable def cX (ka kb : Int32 → Nat) (d m : CF) (j : Nat) (w : Int64) : Int64 := cellX (ka (d j)) (kb (m j)) (d j) (m j) w
noncomputable def digG (ka kb : Int32 → Nat) (al : Int32 → Int32 → Int64) (qf : Int32 → Int64) (d m q : CF) (a k : Int32) : Int64 :=
  mxL (mxL (mxL (rX al d m 3 (rX al d m 2 (rX al d m 1 (rX al d m 0 (cX ka kb d m 3 (cX ka kb d m 2 (cX ka kb d m 1 (cX ka kb d m 0 (mx (mx 7793 a) k)))))))))
    (qf (q 0))) (qf (q 1))) 1
def qC (x : Int32) : Int64 := (bif decide (x = 0) then (0 : Int32) else 1).toInt64
def qM (x : Int32) : Int64 := bif decide (x = 0) then 0 else 1
theorem tl_x {c : Bool} : (bif c then (0 : Int32) else 1).toInt64 = (bif c then (0 : Int64) else 1) := by cases c <;> rfl
def kaC (a : Int32) : Nat := 99 + a.toNatClampNeg
def kbC (b : Int32) : Nat := 107 + b.toNatClampNeg
def kaM (a : Int32) : Nat := 126 + (a - 1).toNatClampNeg
def kbM (b : Int32) : Nat := 133 + (b - 1).toNatClampNeg
noncomputable def alC (a b : Int32) : Int64 := (bif decide ((bif !decide (restF (firstF a 0).toInt64 7 = restF (firstF b 0).toInt64 7) then (0 : Int32) else 1) = 0) then (0 : Int32) else 1).toInt64
noncomputable def alM (a b : Int32) : Int64 := bif decide ((bif !decide (firstF a 0 - firstF a 0 / 7 * 7 = firstF b 0 - firstF b 0 / 7 * 7) then (0 : Int32) else 1) = 0) then 0 else 1
theorem al_x {a b : Int32} (ha : dM a = true) (hb : dM b = true) : alC a b = alM a b := by
  unfold alC alM
  rw [al_r ha rfl, al_r hb rfl]
  exact tl_x
theorem ka_x {a : Int32} (h : dD a = true) (w : Int64) : hN (kaC a) w = hN (kaM a) w := by
  obtain ⟨k, k1, k2, rfl⟩ := dD_nat h
  rcases k7 k1 k2 with rfl | rfl | rfl | rfl | rfl | rfl | rfl <;> rfl
theorem kb_x {a : Int32} (h : dM a = true) (w : Int64) : hN (kbC a) w = hN (kbM a) w := by
  obtain ⟨k, k1, k2, rfl⟩ := dM_nat h
  rcases k12 k1 k2 with rfl | rfl | rfl | rfl | rfl | rfl | rfl | rfl | rfl | rfl | rfl | rfl <;> rfl
theorem c_x {d m : CF} {j : Nat} (h1 : dD (d j) = true) (h2 : dM (m j) = true) (w : Int64) : cX kaC kbC d m j w = cX kaM kbM d m j w := by
  unfold cX cellX
  rw [ka_x h1, kb_x h2]
theorem o_x {d m : CF} {i j : Nat} (h1 : dM (m i) = true) (h2 : dM (m j) = true) (w : Int64) : oX alC d m i j w = oX alM d m i j w := by
  unfold oX
  rw [al_x h1 h2]
theorem dig_x {d m q : CF} {a k : Int32} (hd : dD (d 0) = true ∧ dD (d 1) = true ∧ dD (d 2) = true ∧ dD (d 3) = true) (hm : dM (m 0) = true ∧ dM (m 1) = true ∧ dM (m 2) = true ∧ dM (m 3) = true) : digG kaC kbC alC qC d m q a k = digG kaM kbM alM qM d m q a k := by
  obtain ⟨d0, d1, d2, d3⟩ := hd
  obtain ⟨m0, m1, m2, m3⟩ := hm
  have r0 : ∀ w, rX alC d m 0 w = rX alM d m 0 w := fun w => by unfold rX; rw [o_x m0 m0, o_x m0 m1, o_x m0 m2, o_x m0 m3]
  have r1 : ∀ w, rX alC d m 1 w = rX alM d m 1 w := fun w => by unfold rX; rw [o_x m1 m0, o_x m1 m1, o_x m1 m2, o_x m1 m3]
  have r2 : ∀ w, rX alC d m 2 w = rX alM d m 2 w := fun w => by unfold rX; rw [o_x m2 m0, o_x m2 m1, o_x m2 m2, o_x m2 m3]
  have r3 : ∀ w, rX alC d m 3 w = rX alM d m 3 w := fun w => by unfold rX; rw [o_x m3 m0, o_x m3 m1, o_x m3 m2, o_x m3 m3]
  have hq : ∀ x, qC x = qM x := fun x => tl_x
  unfold digG
  rw [r3, r2, r1, r0, c_x d3 m3, c_x d2 m2, c_x d1 m1, c_x d0 m0, hq, hq]
def s_c_mixedX : RM := fun as σ Q => match as with
  | [.inr (.inl d), .inl v] => Q (.inl (some (rL false (mx d.2 v.2)))) σ
  | _ => False
set_option maxHeartbeats 40000000 in
set_option maxRecDepth 20000 in
theorem okX_c_mixed : rMet y_c_mixed (Cond.code y_c_mixed prog_1_method_88_code 3 (some .long) :: rT) rm_c_mixed 0 s_c_mixedX := by
  refine rMet_val ok_c_mixed (fun as σ Q h => ?_)
  unfold s_c_mixedX at h
  split at h
  · next d v => exact ⟨[rL false d.2, rI false v.2], some (rL false (mx d.2 v.2)), some (rL false (mx d.2 v.2)), fun _ => rfl, And.intro rfl rfl, fun _ => rfl, h⟩
  · exact h.elim
def s_d_addX : RM := fun as σ Q => match as with
  | [.inr (.inl d), .inr (.inl v)] => Q (.inl (some (rL false (d.2 * 31 + v.2)))) σ
  | _ => False
set_option maxHeartbeats 40000000 in
set_option maxRecDepth 20000 in
theorem okX_d_add : rMet y_d_add__JJ_J (Cond.code y_d_add__JJ_J prog_4_method_70_code 4 (some .long) :: rT) rm_d_add__JJ_J 0 s_d_addX := by
  refine rMet_val ok_d_add__JJ_J (fun as σ Q h => ?_)
  unfold s_d_addX at h
  split at h
  · next d v => exact ⟨[rL false d.2, rL false v.2], some (rL false (d.2 * 31 + v.2)), some (rL false (d.2 * 31 + v.2)), fun _ => rfl, And.intro rfl rfl, fun _ => rfl, h⟩
  · exact h.elim
def ps_c_mixedName : List Nat := [0, 1, 2, 3, 5, 7, 8, 11, 14, 15, 16, 18, 21, 24, 25, 28, 31, 32]
def tb_c_mixedName : List RT := [tq_ll 0, tq_ls 6 3, tq_ic 0, tq_isf 6 5, tq_il 5, tq_al 2, tq_callH (rVK m_js_length) 1 0 0 [], tq_if2 (fun x y => decide (y ≤ x)) 16, tq_ll 3, tq_al 2, tq_il 5, tq_callH (rVK m_js_charAt) 2 0 0 [], tq_callH s_c_mixedX 2 0 0 [], tq_ls 6 3, tq_inc 6 5 1, tq_go 4, tq_ll 3, tq_lret 0]
def m_c_mixedName : RM := rMeth tb_c_mixedName 6000 6
abbrev rm_c_mixedName : Room := { frames := 4, cells := 0, slots := 0, locals := 85 }
set_option maxHeartbeats 4000000 in
set_option maxRecDepth 20000 in
theorem ok_c_mixedName : rMet y_c_mixedName (Cond.code y_c_mixedName prog_1_method_89_code 6 (some .long) :: rT) rm_c_mixedName 0 m_c_mixedName := by
  refine rMeth_ok (ps := ps_c_mixedName) (tab := tb_c_mixedName) (by decide +kernel) rfl rfl rfl rfl ?_
  refine rcons (ro_lload_n (k := 0) rfl (by decide +kernel) rfl) ?_
  refine rcons (ro_lstore_n (k := 3) rfl (by decide +kernel) rfl) ?_
  refine rcons (ro_iconst (n := 0) (by decide +kernel) rfl rfl) ?_
  refine rcons (ro_isf (by decide +kernel) rfl) ?_
  refine rcons (ro_iload (by decide +kernel) rfl) ?_
  refine rcons (ro_aload_n (k := 2) rfl (by decide +kernel) rfl) ?_
  refine rcons (ro_callK0 ok_js_length (by decide +kernel) (fun s args ht => cwV (C := rN4) 0 ht (rgoodV (C := rN4) (fun w h => List.mem_cons_of_mem _ h) q_533 q_232 q_233 q_25 q_234) rfl rfl rfl hv_js_length ⟨Nat.le_of_ble_eq_true rfl, Nat.le_of_ble_eq_true rfl⟩) rfl) ?_
  refine rcons (ro_icmp_ge (off := 20) (by decide +kernel) rfl rfl) ?_
  refine rcons (ro_lload_n (k := 3) rfl (by decide +kernel) rfl) ?_
  refine rcons (ro_aload_n (k := 2) rfl (by decide +kernel) rfl) ?_
  refine rcons (ro_iload (by decide +kernel) rfl) ?_
  refine rcons (ro_callK0 ok_js_charAt (by decide +kernel) (fun s args ht => cwV (C := rN4) 1 ht (rgoodV (C := rN4) (fun w h => List.mem_cons_of_mem _ h) q_534 q_535 q_536 q_25 q_537) rfl rfl rfl hv_js_charAt ⟨Nat.le_of_ble_eq_true rfl, Nat.le_of_ble_eq_true rfl⟩) rfl) ?_
  refine rcons (ro_callS0 okX_c_mixed (by decide +kernel) (fun s args ht => va_cwS 2 ht (rgoodS (fun w h => List.mem_cons_of_mem _ h) q_523 q_524 q_13 q_525) rfl rfl rfl hy_c_mixed ⟨Nat.le_of_ble_eq_true rfl, Nat.le_of_ble_eq_true rfl⟩) rfl) ?_
  refine rcons (ro_lstore_n (k := 3) rfl (by decide +kernel) rfl) ?_
  refine rcons (ro_iinc (by decide +kernel) rfl) ?_
  refine rcons (ro_goto (off := (-23)) (by decide +kernel) rfl) ?_
  refine rcons (ro_lload_n (k := 3) rfl (by decide +kernel) rfl) ?_
  refine rcons (ro_lret (by decide +kernel)) ?_
  exact rnil
set_option maxHeartbeats 4000000 in
set_option maxRecDepth 20000 in
theorem lx_c_mixedName {Q : RQ} {σ : List RC} {k : Nat} {d : Int64} (hk : 100 ≤ k ∧ k < 145) : ∀ (j p : Nat) (x : Int32) (w : Int64) (n : Nat), x = nI p → p + j = rSl k → rSl k ≤ 100 → 40 * j + 60 ≤ n → Q (.inl (some (rL false (hs k j p w)))) σ →
    rEv tb_c_mixedName Q n (rdrop 4 tb_c_mixedName) [(5, rI false x), (3, rL false w), (0, rL false d), (2, rR k)] [] σ 0
  | 0, p, x, w, n, hx, hp, hm, hn, hQ => by
    obtain ⟨n, rfl⟩ : ∃ z, n = z + 40 := ⟨n - 40, by omega⟩
    subst hx
    have hk2 : 200 ≤ k + 100 ∧ k + 100 < 245 := by omega
    have e : Int32.ofNat (rSLen.getD (k + 100 - 200) 0) >>> ((0 : Int32) &&& 31) = nI (rSl k) := by
      rw [sb_shr0, show k + 100 - 200 = k - 100 by omega]
      rfl
    refine And.intro hk (And.intro hk (And.intro hk2 (And.intro hk (And.intro hk (And.intro rfl ?_)))))
    apply And.intro
    · intro h
      exact hQ
    · intro h
      have h2 : ¬ Int32.ofNat (rSLen.getD (k + 100 - 200) 0) >>> ((0 : Int32) &&& 31) ≤ nI p := of_decide_eq_false h
      rw [e] at h2
      exact absurd (nI_le (show rSl k ≤ p by omega) (by omega)) h2
  | j + 1, p, x, w, n, hx, hp, hm, hn, hQ => by
    obtain ⟨n, rfl⟩ : ∃ z, n = z + 40 := ⟨n - 40, by omega⟩
    subst hx
    have hk2 : 200 ≤ k + 100 ∧ k + 100 < 245 := by omega
    have e : Int32.ofNat (rSLen.getD (k + 100 - 200) 0) >>> ((0 : Int32) &&& 31) = nI (rSl k) := by
      rw [sb_shr0, show k + 100 - 200 = k - 100 by omega]
      rfl
    have e2 : Int32.ofNat (rSLen.getD (k + 100 - 200) 0) = nI (rSl k) := by
      rw [show k + 100 - 200 = k - 100 by omega]
      rfl
    have e3 : vp_in (nI p) (rSLen.getD (k + 100 - 200) 0) := by
      rw [show k + 100 - 200 = k - 100 by omega]
      exact vp_in_nI (n := p) (N := rSl k) (by omega) (by omega)
    refine And.intro hk (And.intro hk (And.intro hk2 (And.intro hk (And.intro hk (And.intro rfl ?_)))))
    apply And.intro
    · intro h
      have h2 : Int32.ofNat (rSLen.getD (k + 100 - 200) 0) >>> ((0 : Int32) &&& 31) ≤ nI p := of_decide_eq_true h
      rw [e] at h2
      exact absurd h2 (nI_ge (show p < rSl k by omega) (by omega))
    · intro h
      refine And.intro hk (And.intro hk (And.intro hk (And.intro rfl (And.intro hk (And.intro hk2 ?_)))))
      intro o
      apply And.intro
      · intro h1
        have h2 : nI p < 0 := of_decide_eq_true h1
        exact absurd h2 (nI_pos (by omega))
      · intro h1
        apply And.intro
        · intro h2
          refine And.intro hk2 (And.intro e3 (And.intro (pk_nc _) (And.intro (pk_nc _) ?_)))
          exact lx_c_mixedName hk j (p + 1) (nI p + Int32.ofInt 1) _ (n + 28) (nI_1 p) (by omega) hm (by omega) hQ
        · intro h2
          have h3 : ¬ nI p < Int32.ofNat (rSLen.getD (k + 100 - 200) 0) := of_decide_eq_false h2
          rw [e2] at h3
          exact absurd (nI_lt (show p < rSl k by omega) (by omega)) h3
def s_c_mixedNameX : RM := fun as σ Q => match as with
  | [.inr (.inl d), .inr (.inr (.inl k))] => (100 ≤ k ∧ k < 145) ∧ Q (.inl (some (rL false (hN k d.2)))) σ
  | _ => False
set_option maxHeartbeats 40000000 in
set_option maxRecDepth 20000 in
theorem okX_c_mixedName : rMet y_c_mixedName (Cond.code y_c_mixedName prog_1_method_89_code 6 (some .long) :: rT) rm_c_mixedName 0 s_c_mixedNameX := by
  refine rMet_val ok_c_mixedName (fun as σ Q h => ?_)
  unfold s_c_mixedNameX at h
  split at h
  · next d k =>
    obtain ⟨hk, h⟩ := h
    exact ⟨[rL false d.2, rR k], some (rL false (hN k d.2)), some (rL false (hN k d.2)), fun _ => rfl, lx_c_mixedName (Q := fun z σ' => z = .inl (some (rL false (hN k d.2))) ∧ σ' = σ) hk (rSl k) 0 0 d.2 5996 rfl (by omega) (sl_100 hk) (by have := sl_100 hk; omega) ⟨rfl, rfl⟩, fun _ => rfl, h⟩
  · exact h.elim
def ps_d_add__JString__J : List Nat := [0, 1, 2, 3, 5, 7, 8, 11, 14, 15, 16, 18, 21, 22, 25, 26, 29, 32, 33]
def tb_d_add__JString__J : List RT := [tq_ll 0, tq_ls 6 3, tq_ic 0, tq_isf 6 5, tq_il 5, tq_al 2, tq_callH (rVK m_js_length) 1 0 0 [], tq_if2 (fun x y => decide (y ≤ x)) 17, tq_ll 3, tq_al 2, tq_il 5, tq_callH (rVK m_js_charAt) 2 0 0 [], tq_i2l, tq_callH s_d_addX 2 0 0 [], tq_ls 6 3, tq_inc 6 5 1, tq_go 4, tq_ll 3, tq_lret 0]
def m_d_add__JString__J : RM := rMeth tb_d_add__JString__J 6000 6
abbrev rm_d_add__JString__J : Room := { frames := 4, cells := 0, slots := 0, locals := 85 }
set_option maxHeartbeats 4000000 in
set_option maxRecDepth 20000 in
theorem ok_d_add__JString__J : rMet y_d_add__JString__J (Cond.code y_d_add__JString__J prog_4_method_71_code 6 (some .long) :: rT) rm_d_add__JString__J 0 m_d_add__JString__J := by
  refine rMeth_ok (ps := ps_d_add__JString__J) (tab := tb_d_add__JString__J) (by decide +kernel) rfl rfl rfl rfl ?_
  refine rcons (ro_lload_n (k := 0) rfl (by decide +kernel) rfl) ?_
  refine rcons (ro_lstore_n (k := 3) rfl (by decide +kernel) rfl) ?_
  refine rcons (ro_iconst (n := 0) (by decide +kernel) rfl rfl) ?_
  refine rcons (ro_isf (by decide +kernel) rfl) ?_
  refine rcons (ro_iload (by decide +kernel) rfl) ?_
  refine rcons (ro_aload_n (k := 2) rfl (by decide +kernel) rfl) ?_
  refine rcons (ro_callK0 ok_js_length (by decide +kernel) (fun s args ht => cwV (C := rN4) 0 ht (rgoodV (C := rN4) (fun w h => List.mem_cons_of_mem _ h) q_1289 q_232 q_233 q_25 q_234) rfl rfl rfl hv_js_length ⟨Nat.le_of_ble_eq_true rfl, Nat.le_of_ble_eq_true rfl⟩) rfl) ?_
  refine rcons (ro_icmp_ge (off := 21) (by decide +kernel) rfl rfl) ?_
  refine rcons (ro_lload_n (k := 3) rfl (by decide +kernel) rfl) ?_
  refine rcons (ro_aload_n (k := 2) rfl (by decide +kernel) rfl) ?_
  refine rcons (ro_iload (by decide +kernel) rfl) ?_
  refine rcons (ro_callK0 ok_js_charAt (by decide +kernel) (fun s args ht => cwV (C := rN4) 1 ht (rgoodV (C := rN4) (fun w h => List.mem_cons_of_mem _ h) q_1290 q_535 q_536 q_25 q_537) rfl rfl rfl hv_js_charAt ⟨Nat.le_of_ble_eq_true rfl, Nat.le_of_ble_eq_true rfl⟩) rfl) ?_
  refine rcons (ro_i2l (by decide +kernel) rfl) ?_
  refine rcons (ro_callS0 okX_d_add (by decide +kernel) (fun s args ht => va_cwS 2 ht (rgoodS (fun w h => List.mem_cons_of_mem _ h) q_1282 q_1283 q_14 q_1284) rfl rfl rfl hy_d_add__JJ_J ⟨Nat.le_of_ble_eq_true rfl, Nat.le_of_ble_eq_true rfl⟩) rfl) ?_
  refine rcons (ro_lstore_n (k := 3) rfl (by decide +kernel) rfl) ?_
  refine rcons (ro_iinc (by decide +kernel) rfl) ?_
  refine rcons (ro_goto (off := (-24)) (by decide +kernel) rfl) ?_
  refine rcons (ro_lload_n (k := 3) rfl (by decide +kernel) rfl) ?_
  refine rcons (ro_lret (by decide +kernel)) ?_
  exact rnil
set_option maxHeartbeats 4000000 in
set_option maxRecDepth 20000 in
theorem lx_d_addS {Q : RQ} {σ : List RC} {k : Nat} {d : Int64} (hk : 100 ≤ k ∧ k < 145) : ∀ (j p : Nat) (x : Int32) (w : Int64) (n : Nat), x = nI p → p + j = rSl k → rSl k ≤ 100 → 40 * j + 60 ≤ n → Q (.inl (some (rL false (hs k j p w)))) σ →
    rEv tb_d_add__JString__J Q n (rdrop 4 tb_d_add__JString__J) [(5, rI false x), (3, rL false w), (0, rL false d), (2, rR k)] [] σ 0
  | 0, p, x, w, n, hx, hp, hm, hn, hQ => by
    obtain ⟨n, rfl⟩ : ∃ z, n = z + 40 := ⟨n - 40, by omega⟩
    subst hx
    have hk2 : 200 ≤ k + 100 ∧ k + 100 < 245 := by omega
    have e : Int32.ofNat (rSLen.getD (k + 100 - 200) 0) >>> ((0 : Int32) &&& 31) = nI (rSl k) := by
      rw [sb_shr0, show k + 100 - 200 = k - 100 by omega]
      rfl
    refine And.intro hk (And.intro hk (And.intro hk2 (And.intro hk (And.intro hk (And.intro rfl ?_)))))
    apply And.intro
    · intro h
      exact hQ
    · intro h
      have h2 : ¬ Int32.ofNat (rSLen.getD (k + 100 - 200) 0) >>> ((0 : Int32) &&& 31) ≤ nI p := of_decide_eq_false h
      rw [e] at h2
      exact absurd (nI_le (show rSl k ≤ p by omega) (by omega)) h2
  | j + 1, p, x, w, n, hx, hp, hm, hn, hQ => by
    obtain ⟨n, rfl⟩ : ∃ z, n = z + 40 := ⟨n - 40, by omega⟩
    subst hx
    have hk2 : 200 ≤ k + 100 ∧ k + 100 < 245 := by omega
    have e : Int32.ofNat (rSLen.getD (k + 100 - 200) 0) >>> ((0 : Int32) &&& 31) = nI (rSl k) := by
      rw [sb_shr0, show k + 100 - 200 = k - 100 by omega]
      rfl
    have e2 : Int32.ofNat (rSLen.getD (k + 100 - 200) 0) = nI (rSl k) := by
      rw [show k + 100 - 200 = k - 100 by omega]
      rfl
    have e3 : vp_in (nI p) (rSLen.getD (k + 100 - 200) 0) := by
      rw [show k + 100 - 200 = k - 100 by omega]
      exact vp_in_nI (n := p) (N := rSl k) (by omega) (by omega)
    refine And.intro hk (And.intro hk (And.intro hk2 (And.intro hk (And.intro hk (And.intro rfl ?_)))))
    apply And.intro
    · intro h
      have h2 : Int32.ofNat (rSLen.getD (k + 100 - 200) 0) >>> ((0 : Int32) &&& 31) ≤ nI p := of_decide_eq_true h
      rw [e] at h2
      exact absurd h2 (nI_ge (show p < rSl k by omega) (by omega))
    · intro h
      refine And.intro hk (And.intro hk (And.intro hk (And.intro rfl (And.intro hk (And.intro hk2 ?_)))))
      intro o
      apply And.intro
      · intro h1
        have h2 : nI p < 0 := of_decide_eq_true h1
        exact absurd h2 (nI_pos (by omega))
      · intro h1
        apply And.intro
        · intro h2
          refine And.intro hk2 (And.intro e3 (And.intro (pk_nc _) (And.intro (pk_nc _) ?_)))
          exact lx_d_addS hk j (p + 1) (nI p + Int32.ofInt 1) _ (n + 27) (nI_1 p) (by omega) hm (by omega) hQ
        · intro h2
          have h3 : ¬ nI p < Int32.ofNat (rSLen.getD (k + 100 - 200) 0) := of_decide_eq_false h2
          rw [e2] at h3
          exact absurd (nI_lt (show p < rSl k by omega) (by omega)) h3
def s_d_addSX : RM := fun as σ Q => match as with
  | [.inr (.inl d), .inr (.inr (.inl k))] => (100 ≤ k ∧ k < 145) ∧ Q (.inl (some (rL false (hN k d.2)))) σ
  | _ => False
set_option maxHeartbeats 40000000 in
set_option maxRecDepth 20000 in
theorem okX_d_addS : rMet y_d_add__JString__J (Cond.code y_d_add__JString__J prog_4_method_71_code 6 (some .long) :: rT) rm_d_add__JString__J 0 s_d_addSX := by
  refine rMet_val ok_d_add__JString__J (fun as σ Q h => ?_)
  unfold s_d_addSX at h
  split at h
  · next d k =>
    obtain ⟨hk, h⟩ := h
    exact ⟨[rL false d.2, rR k], some (rL false (hN k d.2)), some (rL false (hN k d.2)), fun _ => rfl, lx_d_addS (Q := fun z σ' => z = .inl (some (rL false (hN k d.2))) ∧ σ' = σ) hk (rSl k) 0 0 d.2 5996 rfl (by omega) (sl_100 hk) (by have := sl_100 hk; omega) ⟨rfl, rfl⟩, fun _ => rfl, h⟩
  · exact h.elim
def ps_c_mixedCellX : List Nat := [0, 1, 2, 5, 7, 9, 10, 13, 15, 17, 18, 21, 24, 26, 28, 29, 32, 35, 37, 39, 40, 41, 44, 47, 49, 51, 52, 53, 56, 59, 61, 63, 64, 65, 68, 71, 73, 75, 76, 77, 80, 83, 85, 87, 88, 91, 94]
def tb_c_mixedCellX : List RT := [tq_ll 0, tq_il 2, tq_call s_c_mixedX 2 0 0, tq_ls 6 4, tq_ll 4, tq_il 3, tq_call s_c_mixedX 2 0 0, tq_ls 6 4, tq_ll 4, tq_il 2, tq_call s_c_nameOfDay 1 0 0, tq_call s_c_mixedNameX 2 0 0, tq_ls 6 4, tq_ll 4, tq_il 3, tq_call s_c_nameOfMonth 1 0 0, tq_call s_c_mixedNameX 2 0 0, tq_ls 6 4, tq_ll 4, tq_il 3, tq_ic 0, tq_call s_c_lengthOf 2 0 0, tq_call s_c_mixedX 2 0 0, tq_ls 6 4, tq_ll 4, tq_il 3, tq_ic 1, tq_call s_c_lengthOf 2 0 0, tq_call s_c_mixedX 2 0 0, tq_ls 6 4, tq_ll 4, tq_il 3, tq_ic 0, tq_call s_c_firstOf 2 0 0, tq_call s_c_mixedX 2 0 0, tq_ls 6 4, tq_ll 4, tq_il 3, tq_ic 1, tq_call s_c_firstOf 2 0 0, tq_call s_c_mixedX 2 0 0, tq_ls 6 4, tq_ll 4, tq_il 3, tq_call m_c_quarterOf 1 0 0, tq_call s_c_mixedX 2 0 0, tq_lret 0]
def m_c_mixedCellX : RM := rMeth tb_c_mixedCellX 400 6
abbrev rm_c_mixedCellX : Room := { frames := 5, cells := 0, slots := 0, locals := 110 }
set_option maxHeartbeats 4000000 in
set_option maxRecDepth 20000 in
theorem ok_c_mixedCellX : rMet y_c_mixedCell (Cond.code y_c_mixedCell prog_1_method_90_code 6 (some .long) :: rT) rm_c_mixedCellX 0 m_c_mixedCellX := by
  refine rMeth_ok (ps := ps_c_mixedCellX) (tab := tb_c_mixedCellX) (by decide +kernel) rfl rfl rfl rfl ?_
  refine rcons (ro_lload_n (k := 0) rfl (by decide +kernel) rfl) ?_
  refine rcons (ro_iload_n (k := 2) rfl (by decide +kernel) rfl) ?_
  refine rcons (ro_callS okX_c_mixed (by decide +kernel) rfl (fun s args ht => va_cwS 2 ht (rgoodS (fun w h => List.mem_cons_of_mem _ h) q_523 q_524 q_13 q_525) rfl rfl rfl hy_c_mixed ⟨Nat.le_of_ble_eq_true rfl, Nat.le_of_ble_eq_true rfl⟩) rfl) ?_
  refine rcons (ro_lstore (by decide +kernel) rfl) ?_
  refine rcons (ro_lload (by decide +kernel) rfl) ?_
  refine rcons (ro_iload_n (k := 3) rfl (by decide +kernel) rfl) ?_
  refine rcons (ro_callS okX_c_mixed (by decide +kernel) rfl (fun s args ht => va_cwS 2 ht (rgoodS (fun w h => List.mem_cons_of_mem _ h) q_523 q_524 q_13 q_525) rfl rfl rfl hy_c_mixed ⟨Nat.le_of_ble_eq_true rfl, Nat.le_of_ble_eq_true rfl⟩) rfl) ?_
  refine rcons (ro_lstore (by decide +kernel) rfl) ?_
  refine rcons (ro_lload (by decide +kernel) rfl) ?_
  refine rcons (ro_iload_n (k := 2) rfl (by decide +kernel) rfl) ?_
  refine rcons (ro_callS okS_c_nameOfDay (by decide +kernel) rfl (fun s args ht => va_cwS 1 ht (rgoodS (fun w h => List.mem_cons_of_mem _ h) q_198 q_199 q_13 q_200) rfl rfl rfl hy_c_nameOfDay ⟨Nat.le_of_ble_eq_true rfl, Nat.le_of_ble_eq_true rfl⟩) rfl) ?_
  refine rcons (ro_callS okX_c_mixedName (by decide +kernel) rfl (fun s args ht => va_cwS 2 ht (rgoodS (fun w h => List.mem_cons_of_mem _ h) q_530 q_531 q_13 q_532) rfl rfl rfl hy_c_mixedName ⟨Nat.le_of_ble_eq_true rfl, Nat.le_of_ble_eq_true rfl⟩) rfl) ?_
  refine rcons (ro_lstore (by decide +kernel) rfl) ?_
  refine rcons (ro_lload (by decide +kernel) rfl) ?_
  refine rcons (ro_iload_n (k := 3) rfl (by decide +kernel) rfl) ?_
  refine rcons (ro_callS okS_c_nameOfMonth (by decide +kernel) rfl (fun s args ht => va_cwS 1 ht (rgoodS (fun w h => List.mem_cons_of_mem _ h) q_415 q_416 q_13 q_417) rfl rfl rfl hy_c_nameOfMonth ⟨Nat.le_of_ble_eq_true rfl, Nat.le_of_ble_eq_true rfl⟩) rfl) ?_
  refine rcons (ro_callS okX_c_mixedName (by decide +kernel) rfl (fun s args ht => va_cwS 2 ht (rgoodS (fun w h => List.mem_cons_of_mem _ h) q_530 q_531 q_13 q_532) rfl rfl rfl hy_c_mixedName ⟨Nat.le_of_ble_eq_true rfl, Nat.le_of_ble_eq_true rfl⟩) rfl) ?_
  refine rcons (ro_lstore (by decide +kernel) rfl) ?_
  refine rcons (ro_lload (by decide +kernel) rfl) ?_
  refine rcons (ro_iload_n (k := 3) rfl (by decide +kernel) rfl) ?_
  refine rcons (ro_iconst (n := 0) (by decide +kernel) rfl rfl) ?_
  refine rcons (ro_callS okS_c_lengthOf (by decide +kernel) rfl (fun s args ht => va_cwS 2 ht (rgoodS (fun w h => List.mem_cons_of_mem _ h) q_466 q_467 q_13 q_468) rfl rfl rfl hy_c_lengthOf ⟨Nat.le_of_ble_eq_true rfl, Nat.le_of_ble_eq_true rfl⟩) rfl) ?_
  refine rcons (ro_callS okX_c_mixed (by decide +kernel) rfl (fun s args ht => va_cwS 2 ht (rgoodS (fun w h => List.mem_cons_of_mem _ h) q_523 q_524 q_13 q_525) rfl rfl rfl hy_c_mixed ⟨Nat.le_of_ble_eq_true rfl, Nat.le_of_ble_eq_true rfl⟩) rfl) ?_
  refine rcons (ro_lstore (by decide +kernel) rfl) ?_
  refine rcons (ro_lload (by decide +kernel) rfl) ?_
  refine rcons (ro_iload_n (k := 3) rfl (by decide +kernel) rfl) ?_
  refine rcons (ro_iconst (n := 1) (by decide +kernel) rfl rfl) ?_
  refine rcons (ro_callS okS_c_lengthOf (by decide +kernel) rfl (fun s args ht => va_cwS 2 ht (rgoodS (fun w h => List.mem_cons_of_mem _ h) q_466 q_467 q_13 q_468) rfl rfl rfl hy_c_lengthOf ⟨Nat.le_of_ble_eq_true rfl, Nat.le_of_ble_eq_true rfl⟩) rfl) ?_
  refine rcons (ro_callS okX_c_mixed (by decide +kernel) rfl (fun s args ht => va_cwS 2 ht (rgoodS (fun w h => List.mem_cons_of_mem _ h) q_523 q_524 q_13 q_525) rfl rfl rfl hy_c_mixed ⟨Nat.le_of_ble_eq_true rfl, Nat.le_of_ble_eq_true rfl⟩) rfl) ?_
  refine rcons (ro_lstore (by decide +kernel) rfl) ?_
  refine rcons (ro_lload (by decide +kernel) rfl) ?_
  refine rcons (ro_iload_n (k := 3) rfl (by decide +kernel) rfl) ?_
  refine rcons (ro_iconst (n := 0) (by decide +kernel) rfl rfl) ?_
  refine rcons (ro_callS okS_c_firstOf (by decide +kernel) rfl (fun s args ht => va_cwS 2 ht (rgoodS (fun w h => List.mem_cons_of_mem _ h) q_480 q_481 q_13 q_482) rfl rfl rfl hy_c_firstOf ⟨Nat.le_of_ble_eq_true rfl, Nat.le_of_ble_eq_true rfl⟩) rfl) ?_
  refine rcons (ro_callS okX_c_mixed (by decide +kernel) rfl (fun s args ht => va_cwS 2 ht (rgoodS (fun w h => List.mem_cons_of_mem _ h) q_523 q_524 q_13 q_525) rfl rfl rfl hy_c_mixed ⟨Nat.le_of_ble_eq_true rfl, Nat.le_of_ble_eq_true rfl⟩) rfl) ?_
  refine rcons (ro_lstore (by decide +kernel) rfl) ?_
  refine rcons (ro_lload (by decide +kernel) rfl) ?_
  refine rcons (ro_iload_n (k := 3) rfl (by decide +kernel) rfl) ?_
  refine rcons (ro_iconst (n := 1) (by decide +kernel) rfl rfl) ?_
  refine rcons (ro_callS okS_c_firstOf (by decide +kernel) rfl (fun s args ht => va_cwS 2 ht (rgoodS (fun w h => List.mem_cons_of_mem _ h) q_480 q_481 q_13 q_482) rfl rfl rfl hy_c_firstOf ⟨Nat.le_of_ble_eq_true rfl, Nat.le_of_ble_eq_true rfl⟩) rfl) ?_
  refine rcons (ro_callS okX_c_mixed (by decide +kernel) rfl (fun s args ht => va_cwS 2 ht (rgoodS (fun w h => List.mem_cons_of_mem _ h) q_523 q_524 q_13 q_525) rfl rfl rfl hy_c_mixed ⟨Nat.le_of_ble_eq_true rfl, Nat.le_of_ble_eq_true rfl⟩) rfl) ?_
  refine rcons (ro_lstore (by decide +kernel) rfl) ?_
  refine rcons (ro_lload (by decide +kernel) rfl) ?_
  refine rcons (ro_iload_n (k := 3) rfl (by decide +kernel) rfl) ?_
  refine rcons (ro_callS ok_c_quarterOf (by decide +kernel) rfl (fun s args ht => va_cwS 1 ht (rgoodS (fun w h => List.mem_cons_of_mem _ h) q_486 q_487 q_13 q_488) rfl rfl rfl hy_c_quarterOf ⟨Nat.le_of_ble_eq_true rfl, Nat.le_of_ble_eq_true rfl⟩) rfl) ?_
  refine rcons (ro_callS okX_c_mixed (by decide +kernel) rfl (fun s args ht => va_cwS 2 ht (rgoodS (fun w h => List.mem_cons_of_mem _ h) q_523 q_524 q_13 q_525) rfl rfl rfl hy_c_mixed ⟨Nat.le_of_ble_eq_true rfl, Nat.le_of_ble_eq_true rfl⟩) rfl) ?_
  refine rcons (ro_lret (by decide +kernel)) ?_
  exact rnil
def s_c_mixedCellX : RM := fun as σ Q => match as with
  | [.inr (.inl d), .inl a, .inl b] => (dD a.2 = true ∧ dM b.2 = true) ∧ Q (.inl (some (rL false (cellX (kaC a.2) (kbC b.2) a.2 b.2 d.2)))) σ
  | _ => False
section
seal dD dM dR dR3 dO dB opF opB restF lenF firstF ordF
set_option maxHeartbeats 40000000 in
set_option maxRecDepth 20000 in
theorem cellX_run {σ : List RC} {d : Int64} {a b : Int32} (ha : dD a = true) (hb : dM b = true) : m_c_mixedCellX [rL false d, rI false a, rI false b] σ (fun z σ' => z = .inl (some (rL false (cellX (kaC a) (kbC b) a b d))) ∧ σ' = σ) := by
  have hk0 : true = true := rfl
  have hk1 : true = true := rfl
  obtain ⟨n1, n2, -⟩ := nm_day ha
  obtain ⟨n3, n4, -⟩ := nm_month hb
  repeat' (first | with_reducible (first | assumption | exact rfl) | (refine rand_id ?_; first | with_reducible (first | refine rbr_no (by assumption) ?_ | refine rbr_yes (by assumption) ?_ | refine rbr_yes (s01 _) ?_) | with_reducible refine And.intro ?_ ?_) | with_reducible (first | exact dR_7 | exact dR_12 | exact dB_0 | exact dB_1 | exact dR3_3 | exact dR3_7 | exact n70 | refine and_mk ?_ ?_ | refine vp_D ?_ | refine vp_M ?_) | exact rfl | exact dB_0 | exact dB_1 | exact dR_7 | exact dR_12 | assumption | refine and_mk ?_ ?_ | refine vp_D ?_ | refine vp_M ?_ | exact dR3_3 | exact dR3_7 | with_reducible refine dM_D ?_)
end
set_option maxHeartbeats 40000000 in
set_option maxRecDepth 20000 in
theorem okX_c_mixedCell : rMet y_c_mixedCell (Cond.code y_c_mixedCell prog_1_method_90_code 6 (some .long) :: rT) rm_c_mixedCellX 0 s_c_mixedCellX := by
  refine rMet_val ok_c_mixedCellX (fun as σ Q h => ?_)
  unfold s_c_mixedCellX at h
  split at h
  · next d a b =>
    obtain ⟨⟨ha, hb⟩, h⟩ := h
    exact ⟨[rL false d.2, rI false a.2, rI false b.2], some (rL false (cellX (kaC a.2) (kbC b.2) a.2 b.2 d.2)), some (rL false (cellX (kaC a.2) (kbC b.2) a.2 b.2 d.2)), fun _ => rfl, cellX_run ha hb, fun _ => rfl, h⟩
  · exact h.elim
end RKM
