/-! THE CLAIM OUT OF ONE WALK OF THE LAW'S BODY. Your part is whole_start (and what it stands on); all else here is the same for every law, but numbers. -/
def R_law : String := "RingdaysLaw"
def lw_P (b : Addr) (xs : List Int32) (args : Array Value) (s : State) : Prop := args = #[.ref b] ∧ s.IntsAt b xs ∧ xs.length ≤ 2560 ∧ (Jvm.Cond.and given_1 narrow_1).before args s = true
def lw_Q (_ : Array Value) (s : State) (o : Outcome) (t : State) : Prop := o = .returned (some (.int 1)) ∧ Framed s o t [] 601024 7293034
def lw_Z (below : List Frame) (a : Array Value) (s : State) : State → Prop := fun t => ∃ o, t.status = .running ∧ Ended t below o ∧ lw_Q a s o t
/-- the law's own end, with 1 on the stack, nothing written that was there before, its room as the claim has it -/
theorem lw_ret {p : Program} {l : Launch} {e : Env} {s : State} {m : MethodId} {below : List Frame} {meth : Method} {c : Code} {b : Nat} (hx : p.tables.exec = Jvm.exec) (hb : c.code = code) (hr : meth.sig.returnType = ret) (hlocks : meth.locks = false) {pc : Nat} {H : Heap} {ls : Array Slot} (hdg : decode code pc = .ok (.ireturn, 1)) : W p l e room_1 s m #[Value.ref b] below meth c H [] 601024 7293034 (lw_Z below #[Value.ref b] s) (F0 m pc ls [.int 1]) := by
  intro T hT X
  obtain ⟨fs, hret, hrun, hended, hW, hframe⟩ := X.leave (v := some (.int 1)) (hlocks := hlocks) (fun h => by rw [hr] at h; cases h)
  have hmeth' : T.vm.method? m = some meth := X.method'
  refine ⟨T.setFrames fs, ?_, .returned (some (.int 1)), hrun, hended, rfl, ⟨_, rfl⟩, hW, hframe⟩
  jvm_step X.here [X.here.top, hx, hb, hdg, hmeth', hr, ret, narrow_b1]
  (try refine ⟨rfl, ?_⟩); (try refine ⟨rfl, ?_⟩)
  first | (intro acts; rw [hret _ acts rfl rfl rfl]) | rw [hret _ _ rfl rfl rfl]
  exact Steps.refl _
/-- what holds at the law's entry: the machine, the code, the tables' words (any of lw_tbl by 'hts w (by decide +kernel)'), the script of L ints xs at the cell b, what the Statement gives of the start (any of its parts by flat_of_before) -/
def lw_At (p : Program) (s : State) (m : MethodId) (meth : Method) (c : Code) (b L : Nat) (xs : Nat → Int32) : Prop :=
  p.tables.exec = Jvm.exec ∧ c.code = code ∧ meth.sig.returnType = ret ∧ c.maxLocals = 7 ∧ s.vm.findClass R_law = some m.cls ∧ (∀ w ∈ lw_tbl, w.before #[Value.ref b] s = true) ∧ va_X b L xs s s.heap ∧ b < s.heap.size ∧ meth.locks = false ∧ (Jvm.Cond.and given_1 narrow_1).before #[Value.ref b] s = true
section RKX
variable {p : Program} {l : Launch} {e : Env} {s : State} {m : MethodId} {args : Array Value} {below : List Frame} {meth : Method} {c : Code} {Z : State → Prop} {G : RG} {L : Nat} {xs : Nat → Int32}
theorem lw_narrow {ls : Array Slot} {lv : RLv} {i : Int32} (hl : lv_has ls 7 (rl (rAd G) lv)) (h : rLw lv i) : lv_has ls 7 (rl (rAd G) (lv0 i)) := by
  refine ⟨hl.1, hl.2.1, ?_⟩
  obtain ⟨h4, h0, h1, h2, h3⟩ := h
  intro q hq
  simp only [rl, lv0, List.map_cons, List.map_nil, List.mem_cons, List.not_mem_nil, or_false] at hq
  rcases hq with rfl | rfl | rfl | rfl | rfl
  · exact rlook_at hl h4
  · exact rlook_at hl h3
  · exact rlook_at hl h2
  · exact rlook_at hl h1
  · exact rlook_at hl h0
/-- at the loop's head, the j-th time -/
def LAt (p : Program) (l : Launch) (e : Env) (s : State) (m : MethodId) (args : Array Value) (below : List Frame) (meth : Method) (c : Code) (Z : State → Prop) (G : RG) (j b0 : Nat) : Prop :=
  ∀ (d m' kd0 kd1 km0 km1 mk q0 q1 : CF) (a k t : Int32) (n : Int64) (w : Option Nat), IV d m' kd0 kd1 km0 km1 mk q0 q1 → ∀ (H : Heap) (locs : List Loc) (ls : Array Slot),
    va_P (rDD G) rCl (rW (rAd G) (rTy G) 0 (CW d m' kd0 kd1 km0 km1 mk q0 q1 a k t n w)) H → va_D (rA G) (rW (rAd G) (rTy G) 0 (CW d m' kd0 kd1 km0 km1 mk q0 q1 a k t n w)) → va_S (rA G) s.heap H locs → lv_has ls 7 (rl (rAd G) (lv0 (nI (5 * j)))) →
    W p l e room_1 s m args below meth c H locs b0 (12 * b0) Z (F0 m 27 ls [])
set_option maxRecDepth 20000 in
theorem turn_end {j b0 : Nat} (hx : p.tables.exec = Jvm.exec) (hc : c.code = code) (hnext : ∀ b : Nat, b ≤ 1000 → LAt p l e s m args below meth c Z G (j + 1) (b0 + b)) : rZ G p l e room_1 s m args below meth c 7 LQ 1000 b0 Z (.inr (2451, nI (5 * j))) := by
  intro lv σ b hlw hq
  obtain ⟨b', hb, hle, d, m', kd0, kd1, km0, km1, mk, q0, q1, a, k, t, n, w, hW, hIV⟩ := hq
  cases hb
  intro H locs ls hP hD hS hl
  rw [hW] at hP hD
  have hl0 : lv_has ls 7 (rl (rAd G) (lv0 (nI (5 * j)))) := lw_narrow hl hlw
  show W p l e room_1 s m args below meth c H locs (b0 + b) (12 * (b0 + b)) Z (F0 m 2451 ls [])
  exact lv_iinc hx hc (i := 4) (n := 5) (k := 0) (v := nI (5 * (j + 1))) (by decide +kernel) hl0 rfl (by rw [show 5 * (j + 1) = 5 * j + 5 by omega]; exact nI_add (5 * j) 5) (by decide) rfl
    (fun ls' hl' => lv_goto hx hc (off := (-2427)) (tgt := 27) (by decide +kernel) (by decide) (hnext b (Nat.le_of_ble_eq_true hle) d m' kd0 kd1 km0 km1 mk q0 q1 a k t n w hIV H locs ls' hP hD hS hl'))
theorem and63 (x : Int32) : ∃ n : Nat, n < 64 ∧ x &&& 63 = nI n := by
  have e : (x &&& 63).toBitVec = x.toBitVec &&& 63#32 := rfl
  have h2 : (x &&& 63).toBitVec.toNat = x.toBitVec.toNat % 64 := by
    rw [e, BitVec.toNat_and]
    exact Nat.and_two_pow_sub_one_eq_mod _ 6
  refine ⟨x.toBitVec.toNat % 64, Nat.mod_lt _ (by decide), ?_⟩
  apply Int32.toInt_inj.mp
  rw [nI_toInt (by omega)]
  have h6 : (x &&& 63).toInt = (x &&& 63).toBitVec.toInt := rfl
  rw [h6, BitVec.toInt_eq_toNat_cond, h2]
  have := x.toBitVec.isLt
  split <;> omega
theorem d_sw : decode code 43 = .ok (.tableswitch 2408 0 53 loffs, 229) := by decide +kernel
set_option maxHeartbeats 4000000 in
set_option maxRecDepth 20000 in
theorem law_loop (hL : L ≤ 2560) (hsc : rSc G = (L, xs)) (hlo : rLo G = s.heap.size) {b : Nat} (hargs : args = #[Value.ref b]) (hret : meth.sig.returnType = ret)
    (hF : ∀ b0 : Nat, b0 ≤ 512200 → rFr G p l room_1 s m args meth c code "RingdaysLaw" 7 rTL [] b0 1000) (hZ : Z = lw_Z below #[Value.ref b] s) :
    ∀ (r j b0 : Nat), j + r = 513 → 5 * j ≤ L → b0 ≤ 200 + 1000 * j → LAt p l e s m args below meth c Z G j b0
  | 0, j, b0, h1, h2, h3 => by omega
  | r + 1, j, b0, h1, h2, h3 => by
    intro d m' kd0 kd1 km0 km1 mk q0 q1 a k t n w hI H locs ls hP hD hS hl
    have F := hF b0 (by omega)
    obtain ⟨-, -, -, -, -, -, -, -, -, -, -, -, -, -, -, -, -, h18⟩ := F.2.2.2.2.2.2.1
    rw [hsc] at h18
    have hi0 : ls[4]? = some (.val (.int (nI (5 * j)))) := lv_at hl 0 rfl
    have hs0 : ls[0]? = some (.val (.ref (rAd G 60))) := lv_at hl 4 rfl
    refine lv_iload F.1 F.2.1 (i := 4) (by decide +kernel) hi0 ?_
    refine lv_aload_n F.1 F.2.1 (k := 0) (i := 0) (by decide +kernel) rfl hs0 ?_
    refine va_tlen F.1 F.2.1 h18 hS rfl (by decide +kernel) ?_
    refine lv_iconst F.1 F.2.1 (n := 5) (v := 5) (by decide +kernel) rfl ?_
    refine lv_isub F.1 F.2.1 (by decide +kernel) ?_
    have eL : (Int32.ofNat L - 5).toInt = (L : Int) - 5 := by
      rw [Int32.toInt_sub, show (Int32.ofNat L).toInt = (L : Int) from nI_toInt (n := L) (by omega)]
      have e5 : (5 : Int32).toInt = 5 := rfl
      rw [e5]
      exact Int.bmod_eq_of_le_mul_two (by show -(4294967296 : Int) ≤ _ * 2; omega) (by show _ * 2 < (4294967296 : Int); omega)
    have ei : (nI (5 * j)).toInt = ((5 * j : Nat) : Int) := nI_toInt (by omega)
    refine lv_icmp_gt F.1 F.2.1 (off := 2424) (tgt := 2457) (by decide +kernel) (by decide) (fun _ => ?_) (fun hq => ?_)
    · refine lv_iconst F.1 F.2.1 (n := 1) (v := 1) (by decide +kernel) rfl ?_
      refine va_forget (fun q hq => ?_) ?_
      · have h9 := hS.2.2 q hq
        rw [rA, hlo] at h9
        exact h9
      · subst hargs
        subst hZ
        exact W.widen (by omega) (by omega) (lw_ret (b := b) F.1 F.2.1 hret F.2.2.2.2.2.2.2.2.1 (by decide +kernel))
    · rw [Int32.lt_iff_toInt_lt, eL, ei] at hq
      have hin : ∀ q : Nat, q < 5 → vp_in (nI (5 * j) + nI q) L := fun q h9 => by
        rw [nI_add]
        exact vp_in_nI (by omega) (by omega)
      have hin0 : vp_in (nI (5 * j)) L := vp_in_nI (by omega) (by omega)
      refine lv_aload_n F.1 F.2.1 (k := 0) (i := 0) (by decide +kernel) rfl hs0 ?_
      refine lv_iload F.1 F.2.1 (i := 4) (by decide +kernel) hi0 ?_
      refine va_ti F.1 F.2.1 h18 hS hin0 rfl (by decide +kernel) ?_
      refine lv_bipush F.1 F.2.1 (n := 63) (v := 63) (by decide +kernel) rfl ?_
      refine lv_iand F.1 F.2.1 (by decide +kernel) ?_
      obtain ⟨z, hz, ez⟩ := and63 ((L, xs).2 (nI (5 * j)).toNatClampNeg)
      rw [ez]
      have hend := turn_end (j := j) (b0 := b0) (p := p) (l := l) (e := e) (s := s) (m := m) (args := args) (below := below) (meth := meth) (Z := Z) (G := G) F.1 F.2.1 (fun b1 hb1 => law_loop hL hsc hlo hargs hret hF hZ r (j + 1) (b0 + b1) (by omega) (by omega) (by omega))
      have zi : (nI z).toInt = (z : Int) := nI_toInt (by omega)
      by_cases hz2 : z < 54
      · obtain ⟨off, tgt, tab, ps, g1, g2, g3, g4, g5⟩ := cases_go (L := L) (xs := xs) (i := nI (5 * j)) (a := a) (k := k) (t := t) (n := n) (s := w) hI (hin 1 (by decide)) (hin 2 (by decide)) (hin 3 (by decide)) (hin 4 (by decide)) z hz2
        refine lv_tableIn F.1 F.2.1 d_sw (off := off) (tgt := tgt) (by omega) (by omega) (by rw [zi]; simpa using g1) g2 ?_
        have h9 := rEv_ok g4 (G := G) hsc F hend 100 0 (lv0 (nI (5 * j))) [] _ 0 (e := e) g5 H locs ls hP hD hS hl
        rw [g3] at h9
        exact h9
      · refine lv_tableOut F.1 F.2.1 d_sw (tgt := 2451) (by omega) (by decide) ?_
        exact hend (lv0 (nI (5 * j))) _ 0 ⟨rfl, rfl, rfl, rfl, rfl⟩ (lq_mk rfl ⟨d, m', kd0, kd1, km0, km1, mk, q0, q1, a, k, t, n, w, fun _ _ => rfl, hI⟩) H locs ls hP hD hS hl
end RKX
