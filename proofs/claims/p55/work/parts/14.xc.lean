section RKXC
variable {n0 : Nat} {cc : ByteArray} {own : String} {nL : Nat} {Ts : List Cond} {R : Room} {mcO : Nat} {κ : Option FieldType ⊕ Nat} {nm : String} {J : Nat → Nat} {pc npc : Nat}
/-- a new cell at the place n -/
theorem rnew_world {n q : Nat} {G : RG} {σ : List RC} {c : RC} {H1 : Heap} {D : va_G} {e : va_E} (h50 : n < 50) (hlen : σ.length = n) (hσ : rKs n σ = true) (he : rE (rAd (rGw G n q)) (rTy (rGw G n q)) c = e) : rW (rAd (rGw G n q)) (rTy (rGw G n q)) 0 (σ ++ [c]) = rW (rAd G) (rTy G) 0 σ ++ [(q, e)] := by
  have hx := rGw_ext (G := G) (q := q) h50
  rw [rW_app, rW_ext hx (by omega) hσ, Nat.zero_add, hlen, rGw_at, he]
theorem ro_new {n ci idx N : Nat} {C : String} {T : u_T} {Y : Nat → FieldType} {df : List AV} (hle : n0 ≤ n) (h50 : n < 50) (hN12 : N ≤ 12) (hd : decode cc pc = .ok (.new idx, 3)) (hc : rCl[ci]? = some (C, T, N)) (hin : ∀ w ∈ u_ws C T N, w ∈ Ts) (hY : ∀ k, k < N → parseFieldDescriptor (T k).2.2.1 = some (Y k)) (hcl : Cond.classLink own idx C ∈ Ts) (hins : Cond.instantiable C N ∈ Ts) (hini : Cond.initialized C ∈ Ts)
    (hdf : ∀ (ad : Nat → Nat) (j : Nat), j < N → defaultValue (Y j) = vp_V (df.map (rv ad)) j) (hdk : rKl n df = true) (hn : npc = pc + 3) : rOkX n0 cc own nL Ts R mcO κ nm J pc npc (tq_new n ci df mcO) := by
  intro G0 G hx p l e s m args below meth c Z Q F hZ hnm KN KJ hN hJ lv st σ b h H locs ls hP hD hS hl
  subst hn
  unfold tq_new at h
  split at h
  · next hb =>
    rw [Bool.and_eq_true, Bool.and_eq_true, Bool.and_eq_true, Bool.and_eq_true] at hb
    obtain ⟨b1, b2, b3, b4, b5⟩ := hb
    have b1 := Nat.eq_of_beq_eq_true b1
    have b5 := Nat.le_of_ble_eq_true b5
    rw [rlen_eq] at b1
    rw [rforce_eq, rapp_eq] at h
    obtain ⟨f1, f2, f3, f4, f5, f6, f7, f8, f9, f10, f11, f12, f13⟩ := id F
    refine va_new f1 f2 f5 hin Y hY f4 (f5 _ hcl) (f5 _ hins) (f5 _ hini) f6 hP hD hS f8 hc (hdf (rAd G)) (by omega) (by omega) hd (fun q H1 hP1 hD1 hS1 => ?_)
    have hx2 : rExt n G (rGw G n q) := rGw_ext h50
    have hw := rnew_world (q := q) (D := rDD G) (H1 := H1) (c := .inl (ci, df)) (e := .inr (ci, df.map (rv (rAd G)))) h50 b1 b4 (by show (Sum.inr (ci, df.map (rv (rAd (rGw G n q)))) : va_E) = _; rw [rmap_ext hx2 hdk])
    have k := hN (rGw G n q) (hx.tr (hx2.le hle)) lv (rR n :: st) (σ ++ [.inl (ci, df)]) (b + 1) h H1 locs ls (by rw [hw]; exact hP1) (by rw [hw]; exact hD1) hS1 (by rw [rl_ext hx2 b2]; exact hl)
    have e1 : (rR n :: st).map (rv (rAd (rGw G n q))) = .ref q :: st.map (rv (rAd G)) := by
      rw [List.map_cons, rmap_ext hx2 b3]
      show Value.ref (rAd (rGw G n q) n) :: _ = _
      rw [rGw_at]
    rw [e1] at k
    exact W.widen (by omega) (by omega) k
  · exact h.elim
theorem ro_newb {n : Nat} (hle : n0 ≤ n) (h50 : n < 50) (harr : Cond.arrayClass (newarray.typeOf .byte) ∈ Ts) (hd : decode cc pc = .ok (.newarray .byte, 2)) (hn : npc = pc + 2) : rOkX n0 cc own nL Ts R mcO κ nm J pc npc (tq_newb n mcO) := by
  intro G0 G hx p l e s m args below meth c Z Q F hZ hnm KN KJ hN hJ lv st σ b h H locs ls hP hD hS hl
  subst hn
  unfold tq_newb at h
  split at h
  · next x r =>
    split at h
    · next hb =>
      rw [Bool.and_eq_true, Bool.and_eq_true, Bool.and_eq_true, Bool.and_eq_true] at hb
      obtain ⟨b1, b2, b3, b4, b5⟩ := hb
      have b1 := Nat.eq_of_beq_eq_true b1
      have b5 := Nat.le_of_ble_eq_true b5
      rw [rlen_eq] at b1
      obtain ⟨⟨o1, o2⟩, h⟩ := h
      rw [rforce_eq, rapp_eq] at h
      obtain ⟨f1, f2, f3, f4, f5, f6, f7, f8, f9, f10, f11, f12, f13⟩ := id F
      refine va_newa (atype := .byte) (ty := .byte) (a0 := (x.2.toNatClampNeg, .inl (fun _ => 0))) f1 f2 (f5 _ harr) rfl f6 hP hD hS f8 (fun _ => rfl) (of_decide_eq_false o1) rfl (by show x.2.toNatClampNeg * 1 ≤ 536870912; omega) (by omega) (by omega) hd (fun q cA H1 hK1 hP1 hD1 hS1 => ?_)
      have hcA : cA = rTy G 3 := Option.some.inj ((show s.vm.findClass _ = some cA from (hK1.2 4 _ rfl).2).symm.trans (show s.vm.findClass _ = some (rTy G 3) from (f6.2 3 _ rfl).2))
      subst hcA
      have hx2 : rExt n G (rGw G n q) := rGw_ext h50
      have hw := rnew_world (q := q) (D := rDD G) (H1 := H1) (c := .inr (3, x.2.toNatClampNeg, .inl (fun _ => 0))) (e := .inl (rTy G 3, x.2.toNatClampNeg, .inl (fun _ => 0))) h50 b1 b4 rfl
      have k := hN (rGw G n q) (hx.tr (hx2.le hle)) lv (rR n :: r) (σ ++ [.inr (3, x.2.toNatClampNeg, .inl (fun _ => 0))]) (b + 9) h H1 locs ls (by rw [hw]; exact hP1) (by rw [hw]; exact hD1) hS1 (by rw [rl_ext hx2 b2]; exact hl)
      have e1 : (rR n :: r).map (rv (rAd (rGw G n q))) = .ref q :: r.map (rv (rAd G)) := by
        rw [List.map_cons, rmap_ext hx2 b3]
        show Value.ref (rAd (rGw G n q) n) :: _ = _
        rw [rGw_at]
      rw [e1] at k
      exact W.widen (by omega) (by omega) k
    · exact h.elim
  · exact h.elim
theorem ro_clone {n idx : Nat} (hle : n0 ≤ n) (h50 : n < 50) (hlink : Cond.methodLink own idx ⟨"[B", "clone", "()Ljava/lang/Object;"⟩ ∈ Ts) (hsame : Cond.sameMethod "[B" "java/lang/Object" "clone" "()Ljava/lang/Object;" ∈ Ts) (hnat : Cond.native ⟨"java/lang/Object", "clone", "()Ljava/lang/Object;"⟩ ∈ Ts) (hinst : Cond.instanceMethod ⟨"java/lang/Object", "clone", "()Ljava/lang/Object;"⟩ ∈ Ts)
    (hsel : Cond.selects "[B" ⟨"[B", "clone", "()Ljava/lang/Object;"⟩ ⟨"java/lang/Object", "clone", "()Ljava/lang/Object;"⟩ ∈ Ts) (hcl : Cond.castable "[B" "java/lang/Cloneable" ∈ rFc) (hR : 1 ≤ R.frames ∧ 22 ≤ R.locals) (hd : decode cc pc = .ok (.invokevirtual idx, 3)) (hn : npc = pc + 3) : rOkX n0 cc own nL Ts R mcO κ nm J pc npc (tq_clone n mcO) := by
  intro G0 G hx p l e s m args below meth c Z Q F hZ hnm KN KJ hN hJ lv st σ b h H locs ls hP hD hS hl
  subst hn
  unfold tq_clone at h
  split at h
  · next i r =>
    split at h
    · next t n1 g ho =>
      split at h
      · next hb =>
        rw [Bool.and_eq_true, Bool.and_eq_true, Bool.and_eq_true, Bool.and_eq_true, Bool.and_eq_true, Bool.and_eq_true] at hb
        obtain ⟨b0, bw, b1, b2, b3, b4, b5⟩ := hb
        have b0 := Nat.eq_of_beq_eq_true b0
        subst b0
        have bw := Nat.le_of_ble_eq_true bw
        have b1 := Nat.eq_of_beq_eq_true b1
        have b5 := Nat.le_of_ble_eq_true b5
        rw [rlen_eq] at b1
        obtain ⟨⟨o1, o2⟩, h⟩ := h
        rw [rforce_eq, rapp_eq] at h
        obtain ⟨f1, f2, f3, f4, f5, f6, f7, f8, f9, f10, f11, f12, f13⟩ := id F
        obtain ⟨-, -, -, -, -, -, -, -, -, -, -, -, -, -, -, -, h17, -⟩ := id f7
        refine va_clone (x := (n1, .inl g)) f1 f2 (f3.trans hl.1.symm) f4 (f5 _ hlink) (f5 _ hsame) (f5 _ hnat) (f5 _ hinst) (f5 _ hsel) (h17 _ hcl) f6 hP hD hS f8 i 3 (rget_at G ho) rfl (f6.2 3 _ rfl).2 (fun j v hv => ?_) hR.1 (by rw [rwt_eq]; omega) (by omega) (by show 12 * (0 + b) + n1 ≤ R.slots; omega) hd (fun q H1 hK1 hP1 hD1 hS1 => ?_)
        · have hj : j < n1 := by
            have h9 := (Array.getElem?_eq_some_iff.mp hv).1
            rw [show (vp_cell (rTy G 3) (n1, .inl g)) = arrV (rTy G 3) n1 (fun j => .int (g j)) from rfl, arrV_size] at h9
            exact h9
          have h8 : (arrV (rTy G 3) n1 (fun j => .int (g j))).slots[j]? = some v := hv
          rw [arrV_read _ _ hj] at h8
          cases h8
          exact o1 j
        · have hx2 : rExt n G (rGw G n q) := rGw_ext h50
          have hw := rnew_world (q := q) (D := rDD G) (H1 := H1) (c := .inr (3, n1, .inl g)) (e := .inl (rTy G 3, n1, .inl g)) h50 b1 b4 rfl
          have k := hN (rGw G n q) (hx.tr (hx2.le hle)) lv (rR n :: r) (σ ++ [.inr (3, n1, .inl g)]) (b + 9) h H1 locs ls (by rw [hw]; exact hP1) (by rw [hw]; exact hD1) hS1 (by rw [rl_ext hx2 b2]; exact hl)
          have e1 : (rR n :: r).map (rv (rAd (rGw G n q))) = .ref q :: r.map (rv (rAd G)) := by
            rw [List.map_cons, rmap_ext hx2 b3]
            show Value.ref (rAd (rGw G n q) n) :: _ = _
            rw [rGw_at]
          rw [e1] at k
          exact W.widen (by omega) (by show 12 * (0 + b) + n1 ≤ _; omega) k
      · exact h.elim
    · exact h.elim
  · exact h.elim
-- calls
theorem rX_after {n' mc b : Nat} {G0 G : RG} {p : Program} {l : Launch} {e : Env} {s : State} {m : MethodId} {args : Array Value} {below : List Frame} {meth : Method} {c : Code} {Z : State → Prop} {H : Heap} {locs : List Loc} {ls : Array Slot} {lv : RLv} {r : List AV} {KN : RK} {a : Array Value} {st0 : List Value} (hle : n0 ≤ n') (hx : rExt n0 G0 G)
    (hN : ∀ G' : RG, rExt n0 G0 G' → ∀ lv st σ b, KN lv st σ b → rS G' p l e R s m args below meth c nL 0 Z (pc + 3) lv st σ b)
    (hr : vx_Run p l e R s m args below meth c H locs (0 + b) (12 * (0 + b)) mc (12 * mc) (F0 m pc ls st0) (r.map (rv (rAd G))) (rQX n' G (rQk KN lv r (b + mc)) a) rXF (rA G)) (hS : va_S (rA G) s.heap H locs) (hl : lv_has ls nL (rl (rAd G) lv)) (b3 : rKl n' r = true) (b4 : rKv n' lv = true) :
    W p l e R s m args below meth c H locs (0 + b) (12 * (0 + b)) Z (F0 m pc ls st0) := by
  intro T hT X
  rcases hr T hT X with ⟨v, st₀, t, T', L, h0, X', hL, e1, e2, ⟨G', rr, σ', hx', hv, hq, hP, hD, hF⟩, st⟩ | ⟨q, st₀, t, T', L, E, ce, h0, X', hL, e1, e2, hf, -⟩
  · cases hv
    obtain ⟨k1, k2, k3⟩ := vx_keep h0 e1 hS (fun _ _ h => h) (fun _ h => h) hL hF
    have e4 : 12 * (0 + b) + 12 * mc = 12 * (0 + (b + mc)) := by omega
    have e5 : 0 + b + mc = 0 + (b + mc) := by omega
    have k3' : va_S (rA G') s.heap T'.heap (locs ++ L) := by rw [rA_ext hx']; exact k3
    have hl' : lv_has ls nL (rl (rAd G') lv) := by rw [rl_ext hx' b4]; exact hl
    have hP' : va_P (rDD G') rCl (rW (rAd G') (rTy G') 0 σ') T'.heap := by rw [e1]; exact hP
    rw [e4, e5] at X'
    cases rr with
    | none =>
      have k := hN G' (hx.tr (hx'.le hle)) lv r σ' (b + mc) hq T'.heap (locs ++ L) ls hP' hD k3' hl'
      rw [rmap_ext hx' b3] at k
      obtain ⟨t2, a1, b1⟩ := k T' rfl X'
      exact ⟨t2, st t2 a1, b1⟩
    | some v =>
      have k := hN G' (hx.tr (hx'.le hle)) lv (v :: r) σ' (b + mc) hq T'.heap (locs ++ L) ls hP' hD k3' hl'
      rw [List.map_cons, rmap_ext hx' b3] at k
      obtain ⟨t2, a1, b1⟩ := k T' rfl X'
      exact ⟨t2, st t2 a1, b1⟩
  · exact hf.elim
theorem ro_xcallS {n' : Nat} {M : RM} {y : MethodName} {bytes : ByteArray} {maxL n mc idx : Nat} {rt : Option FieldType} {ws : List Cond} {rm : Room} (hle : n0 ≤ n') (hM : rMetX n' y ws rm mc M) (hd : decode cc pc = .ok (.invokestatic idx, 3))
    (hcw : ∀ (s : State) (args : Array Value), (∀ w ∈ Ts, w.before args s = true) → CallB R s args own idx y bytes maxL rt ws rm mc (12 * mc) n ∧ (Cond.static y).before args s = true) (hn : npc = pc + 3) : rOkX n0 cc own nL Ts R mcO κ nm J pc npc (tq_callX n' M n mc mcO) := by
  intro G0 G hx p l e s m args below meth c Z Q F hZ hnm KN KJ hN hJ lv st σ b h H locs ls hP hD hS hl
  subst hn
  unfold tq_callX at h
  obtain ⟨as, r, e1, e2, h⟩ := rtake_use n [] st _ h
  simp only [List.length_nil, Nat.add_zero] at e1
  simp only [List.reverse_nil, List.nil_append] at e2
  split at h
  · next hb =>
    rw [Bool.and_eq_true] at hb
    obtain ⟨b1, b2⟩ := hb
    obtain ⟨b34, h⟩ := h
    rw [Bool.and_eq_true] at b34
    obtain ⟨b3, b4⟩ := b34
    have b1 := Nat.le_of_ble_eq_true b1
    have b2 := Nat.le_of_ble_eq_true b2
    obtain ⟨f1, f2, f3, f4, f5, f6, f7, f8, f9, f10, f11, f12, f13⟩ := id F
    have hst : st.map (rv (rAd G)) = (as.map (rv (rAd G))).reverse ++ r.map (rv (rAd G)) := by rw [e2, List.map_append, List.map_reverse]
    exact rX_after hle hx hN (vx_runS (As := as.map (rv (rAd G))) (rest := r.map (rv (rAd G))) ⟨f1, f2, f3, f4, f5⟩ (hM G l f10 as σ _ h) (hcw s args f5) ⟨rPc_blind G as σ, rpcS f6 f7 f8 hP hD hS⟩ rfl (by rw [List.length_map]; exact e1) hl.1 hst (lv_room (by rw [rwt_eq]; exact b1)) hd ⟨by omega, by omega⟩) hS hl b3 b4
  · exact h.elim
theorem ro_xcallV {n' : Nat} {M : RM} {y : MethodName} {bytes : ByteArray} {maxL n mc idx ci N : Nat} {rt : Option FieldType} {ws : List Cond} {rm : Room} {C : String} {T : u_T} (hle : n0 ≤ n') (hc : rCl[ci]? = some (C, T, N)) (hM : rMetX n' y ws rm mc M) (hd : decode cc pc = .ok (.invokevirtual idx, 3))
    (hcw : ∀ (s : State) (args : Array Value), (∀ w ∈ Ts, w.before args s = true) → CallW R s args own C idx y bytes maxL rt ws rm mc (12 * mc) n) (hn : npc = pc + 3) : rOkX n0 cc own nL Ts R mcO κ nm J pc npc (tq_callX n' (rV ci M) (n + 1) mc mcO) := by
  intro G0 G hx p l e s m args below meth c Z Q F hZ hnm KN KJ hN hJ lv st σ b h H locs ls hP hD hS hl
  subst hn
  unfold tq_callX at h
  obtain ⟨as, r, e1, e2, h⟩ := rtake_use (n + 1) [] st _ h
  simp only [List.length_nil, Nat.add_zero] at e1
  simp only [List.reverse_nil, List.nil_append] at e2
  split at h
  · next hb =>
    rw [Bool.and_eq_true] at hb
    obtain ⟨b1, b2⟩ := hb
    obtain ⟨b34, h⟩ := h
    rw [Bool.and_eq_true] at b34
    obtain ⟨b3, b4⟩ := b34
    have b1 := Nat.le_of_ble_eq_true b1
    have b2 := Nat.le_of_ble_eq_true b2
    obtain ⟨f1, f2, f3, f4, f5, f6, f7, f8, f9, f10, f11, f12, f13⟩ := id F
    unfold rV at h
    split at h
    · next hre =>
      obtain ⟨i, as2, rfl, hcell⟩ := rrecv_use hc f6 hP hre
      have hst : st.map (rv (rAd G)) = (as2.map (rv (rAd G))).reverse ++ .ref (rAd G i) :: r.map (rv (rAd G)) := by
        rw [e2]
        simp [List.map_append, List.map_reverse, rv]
      exact rX_after hle hx hN (vx_runV (As := as2.map (rv (rAd G))) (rest := r.map (rv (rAd G))) ⟨f1, f2, f3, f4, f5⟩ (hM G l f10 (rR i :: as2) σ _ h) (hcw s args f5) ⟨rPc_blind G _ σ, hcell, rpcS (as := rR i :: as2) f6 f7 f8 hP hD hS⟩ rfl (by rw [List.length_map]; simpa using e1) hl.1 hst (lv_room (by rw [rwt_eq]; exact b1)) hd ⟨by omega, by omega⟩) hS hl b3 b4
    · exact h.elim
  · exact h.elim
theorem ro_xcallSU {n' : Nat} {M : RM} {y : MethodName} {bytes : ByteArray} {maxL n mc idx ci N : Nat} {rt : Option FieldType} {ws : List Cond} {rm : Room} {C : String} {T : u_T} (hle : n0 ≤ n') (hc : rCl[ci]? = some (C, T, N)) (hM : rMetX n' y ws rm mc M) (hd : decode cc pc = .ok (.invokespecial idx, 3))
    (hcw : ∀ (s : State) (args : Array Value), (∀ w ∈ Ts, w.before args s = true) → va_CS R s args own idx y bytes maxL rt ws rm mc (12 * mc) n) (hn : npc = pc + 3) : rOkX n0 cc own nL Ts R mcO κ nm J pc npc (tq_callX n' (rV ci M) (n + 1) mc mcO) := by
  intro G0 G hx p l e s m args below meth c Z Q F hZ hnm KN KJ hN hJ lv st σ b h H locs ls hP hD hS hl
  subst hn
  unfold tq_callX at h
  obtain ⟨as, r, e1, e2, h⟩ := rtake_use (n + 1) [] st _ h
  simp only [List.length_nil, Nat.add_zero] at e1
  simp only [List.reverse_nil, List.nil_append] at e2
  split at h
  · next hb =>
    rw [Bool.and_eq_true] at hb
    obtain ⟨b1, b2⟩ := hb
    obtain ⟨b34, h⟩ := h
    rw [Bool.and_eq_true] at b34
    obtain ⟨b3, b4⟩ := b34
    have b1 := Nat.le_of_ble_eq_true b1
    have b2 := Nat.le_of_ble_eq_true b2
    obtain ⟨f1, f2, f3, f4, f5, f6, f7, f8, f9, f10, f11, f12, f13⟩ := id F
    unfold rV at h
    split at h
    · next hre =>
      obtain ⟨i, as2, rfl, hcell⟩ := rrecv_use hc f6 hP hre
      have hst : st.map (rv (rAd G)) = (as2.map (rv (rAd G))).reverse ++ .ref (rAd G i) :: r.map (rv (rAd G)) := by
        rw [e2]
        simp [List.map_append, List.map_reverse, rv]
      exact rX_after hle hx hN (vx_runSU (C := C) (As := as2.map (rv (rAd G))) (rest := r.map (rv (rAd G))) (f6.1 ci _ hc).2 ⟨f1, f2, f3, f4, f5⟩ (hM G l f10 (rR i :: as2) σ _ h) (hcw s args f5) ⟨rPc_blind G _ σ, hcell, rpcS (as := rR i :: as2) f6 f7 f8 hP hD hS⟩ rfl (by rw [List.length_map]; simpa using e1) hl.1 hst (lv_room (by rw [rwt_eq]; exact b1)) hd ⟨by omega, by omega⟩) hS hl b3 b4
    · exact h.elim
  · exact h.elim
theorem ro_xcallU {n' : Nat} {M : RM} {x y : MethodName} {bytes : ByteArray} {maxL n mc idx ci N : Nat} {rt : Option FieldType} {ws : List Cond} {rm : Room} {C owner : String} {T : u_T} (hle : n0 ≤ n') (hc : rCl[ci]? = some (C, T, N)) (hM : rMetX n' y ws rm mc M) (hd : decode cc pc = .ok (.invokevirtual idx, 3))
    (hcw : ∀ (s : State) (args : Array Value), (∀ w ∈ Ts, w.before args s = true) → (∀ w ∈ rFc, w.before #[] s = true) → va_CU R s args own C owner idx x y bytes maxL rt ws rm mc (12 * mc) n) (hn : npc = pc + 3) : rOkX n0 cc own nL Ts R mcO κ nm J pc npc (tq_callX n' (rV ci M) (n + 1) mc mcO) := by
  intro G0 G hx p l e s m args below meth c Z Q F hZ hnm KN KJ hN hJ lv st σ b h H locs ls hP hD hS hl
  subst hn
  unfold tq_callX at h
  obtain ⟨as, r, e1, e2, h⟩ := rtake_use (n + 1) [] st _ h
  simp only [List.length_nil, Nat.add_zero] at e1
  simp only [List.reverse_nil, List.nil_append] at e2
  split at h
  · next hb =>
    rw [Bool.and_eq_true] at hb
    obtain ⟨b1, b2⟩ := hb
    obtain ⟨b34, h⟩ := h
    rw [Bool.and_eq_true] at b34
    obtain ⟨b3, b4⟩ := b34
    have b1 := Nat.le_of_ble_eq_true b1
    have b2 := Nat.le_of_ble_eq_true b2
    obtain ⟨f1, f2, f3, f4, f5, f6, f7, f8, f9, f10, f11, f12, f13⟩ := id F
    obtain ⟨-, -, -, -, -, -, -, -, -, -, -, -, -, -, -, -, h17, -⟩ := id f7
    unfold rV at h
    split at h
    · next hre =>
      obtain ⟨i, as2, rfl, hcell⟩ := rrecv_use hc f6 hP hre
      have hst : st.map (rv (rAd G)) = (as2.map (rv (rAd G))).reverse ++ .ref (rAd G i) :: r.map (rv (rAd G)) := by
        rw [e2]
        simp [List.map_append, List.map_reverse, rv]
      exact rX_after hle hx hN (vx_runU (C := C) (As := as2.map (rv (rAd G))) (rest := r.map (rv (rAd G))) ⟨f1, f2, f3, f4, f5⟩ (hM G l f10 (rR i :: as2) σ _ h) (hcw s args f5 h17) ⟨rPc_blind G _ σ, hcell, rpcS (as := rR i :: as2) f6 f7 f8 hP hD hS⟩ rfl (by rw [List.length_map]; simpa using e1) hl.1 hst (lv_room (by rw [rwt_eq]; exact b1)) hd ⟨by omega, by omega⟩) hS hl b3 b4
    · exact h.elim
  · exact h.elim
theorem ro_xcallI {n' : Nat} {M : RM} {y : MethodName} {bytes : ByteArray} {maxL n mc idx : Nat} {ws : List Cond} {rm : Room} (hle : n0 ≤ n') (hM : rMetX n' y ws rm mc M) (hd : decode cc pc = .ok (.invokespecial idx, 3))
    (hcw : ∀ (s : State) (args : Array Value), (∀ w ∈ Ts, w.before args s = true) → CallB R s args own idx y bytes maxL none ws rm mc (12 * mc) n ∧ y.name = "<init>" ∧ (Cond.instanceMethod y).before args s = true) (hn : npc = pc + 3) : rOkX n0 cc own nL Ts R mcO κ nm J pc npc (tq_callX n' (rThis M) (n + 1) mc mcO) := by
  intro G0 G hx p l e s m args below meth c Z Q F hZ hnm KN KJ hN hJ lv st σ b h H locs ls hP hD hS hl
  subst hn
  unfold tq_callX at h
  obtain ⟨as, r, e1, e2, h⟩ := rtake_use (n + 1) [] st _ h
  simp only [List.length_nil, Nat.add_zero] at e1
  simp only [List.reverse_nil, List.nil_append] at e2
  split at h
  · next hb =>
    rw [Bool.and_eq_true] at hb
    obtain ⟨b1, b2⟩ := hb
    obtain ⟨b34, h⟩ := h
    rw [Bool.and_eq_true] at b34
    obtain ⟨b3, b4⟩ := b34
    have b1 := Nat.le_of_ble_eq_true b1
    have b2 := Nat.le_of_ble_eq_true b2
    obtain ⟨f1, f2, f3, f4, f5, f6, f7, f8, f9, f10, f11, f12, f13⟩ := id F
    unfold rThis at h
    split at h
    · next i as2 =>
      have hst : st.map (rv (rAd G)) = (as2.map (rv (rAd G))).reverse ++ .ref (rAd G i) :: r.map (rv (rAd G)) := by
        rw [e2]
        simp [List.map_append, List.map_reverse, rv]
      exact rX_after hle hx hN (vx_runI (As := as2.map (rv (rAd G))) (rest := r.map (rv (rAd G))) (b := rAd G i) ⟨f1, f2, f3, f4, f5⟩ (hM G l f10 (rR i :: as2) σ _ h) (hcw s args f5) ⟨rPc_blind G _ σ, rpcS (as := rR i :: as2) f6 f7 f8 hP hD hS⟩ rfl (by rw [List.length_map]; simpa using e1) hl.1 hst (lv_room (by rw [rwt_eq]; exact b1)) hd ⟨by omega, by omega⟩) hS hl b3 b4
    · exact h.elim
  · exact h.elim
-- returns
theorem ro_xvret (hd : decode cc pc = .ok (.return_, 1)) : rOkX n0 cc own nL Ts R mcO (.inl none) nm J pc npc (tq_xvret mcO) := by
  intro G0 G hx p l e s m args below meth c Z Q F hZ hnm KN KJ hN hJ lv st σ b h H locs ls hP hD hS hl
  obtain ⟨rfl, hr⟩ := hZ
  unfold tq_xvret at h
  split at h
  · split at h
    · next hb =>
      rw [← rA_ext hx]
      exact rwiden hb (vx_ret (W.vret F.1 F.2.1 hr (fun t ht hW => ⟨G, none, σ, hx, rfl, h, by rw [ht]; exact hP, hD, by rw [← rA_ext hx]; exact hS.F ht⟩) hS.2.2 hd (hlocks := F.2.2.2.2.2.2.2.2.1)))
    · exact h.elim
  · exact h.elim
theorem ro_xaret {rt : FieldType} (hrt : (∃ n, rt = .object n) ∨ ∃ t, rt = .array t) (hd : decode cc pc = .ok (.areturn, 1)) : rOkX n0 cc own nL Ts R mcO (.inl (some rt)) nm J pc npc (tq_xaret mcO) := by
  intro G0 G hx p l e s m args below meth c Z Q F hZ hnm KN KJ hN hJ lv st σ b h H locs ls hP hD hS hl
  obtain ⟨rfl, hr⟩ := hZ
  unfold tq_xaret at h
  split at h
  · next x =>
    split at h
    · next hb =>
      have hv : rv (rAd G) (.inr (.inr x)) = .null ∨ ∃ a, rv (rAd G) (.inr (.inr x)) = .ref a := by
        rcases x with k | o
        · exact Or.inr ⟨_, rfl⟩
        · cases o
          · exact Or.inl rfl
          · exact Or.inr ⟨_, rfl⟩
      rw [← rA_ext hx]
      exact rwiden hb (vx_ret (W.aret F.1 F.2.1 hr hrt hv (fun t ht hW => ⟨G, some (.inr (.inr x)), σ, hx, rfl, h, by rw [ht]; exact hP, hD, by rw [← rA_ext hx]; exact hS.F ht⟩) hS.2.2 hd (hlocks := F.2.2.2.2.2.2.2.2.1)))
    · exact h.elim
  · exact h.elim
/-- a final field, in the constructor -/
theorem ro_putfF {ci k kd idx N : Nat} {C : String} {T : u_T} {Y : Nat → FieldType} (hd : decode cc pc = .ok (.putfield idx, 3)) (hc : rCl[ci]? = some (C, T, N)) (hin : ∀ w ∈ u_ws C T N, w ∈ Ts) (hY : ∀ k, k < N → parseFieldDescriptor (T k).2.2.1 = some (Y k)) (hnm9 : ∀ a, a < N → ∀ b, b < N → a ≠ b → (T a).2.1 ≠ (T b).2.1) (hk : k < N) (hlink : Cond.fieldLink own idx (T k).1 (T k).2.1 (T k).2.2.1 ∈ Ts) (hfin : (T k).2.2.2 = true) (hini : nm = "<init>") (hdecl : (T k).1 = own)
    (hkd : kd = 2 ∧ ∃ t, Y k = .array t) (hn : npc = pc + 3) : rOkX n0 cc own nL Ts R mcO κ nm J pc npc (tq_putf ci k kd) := by
  intro G0 G hx p l e s m args below meth c Z Q F hZ hnm KN KJ hN hJ lv st σ b h H locs ls hP hD hS hl
  subst hn
  obtain ⟨rfl, t9, hY9⟩ := hkd
  unfold tq_putf at h
  split at h
  · next v i r =>
    split at h
    · next o ho =>
      split at h
      · next hb =>
        rw [Bool.and_eq_true, Bool.and_eq_true] at hb
        obtain ⟨hb1, hb2, hb3⟩ := hb
        have e : o.1 = ci := Nat.eq_of_beq_eq_true hb1
        subst e
        rw [rforce_eq, rforce_eq] at h
        have hnf : narrow (Y k) (rv (rAd G) v) = rv (rAd G) v ∧ fits (Y k) (rv (rAd G) v) = true := by
          rw [hY9]
          rcases v with q | q | q | q
          · cases hb2
          · cases hb2
          · exact ⟨rfl, rfl⟩
          · cases q <;> exact ⟨rfl, rfl⟩
        refine va_putF F.1 F.2.1 F.2.2.2.2.1 hin Y hY hnm9 F.2.2.2.1 F.2.2.2.2.2.1 hP hD hS i (rget_at G ho) hc k hk (F.2.2.2.2.1 _ hlink) (fun _ h9 => h9) hfin (hnm.trans hini) hdecl (hY k hk) hnf.1 hnf.2 (by rw [List.length_map]; exact Nat.le_of_ble_eq_true hb3) hd (fun H1 locs1 hP1 hD1 hS1 => ?_)
        have e9 : (o.2.map (rv (rAd G))).set k (rv (rAd G) v) = (rset o.2 k v).map (rv (rAd G)) := by rw [rset_eq, List.map_set]
        rw [e9] at hP1 hD1
        have e8 := rset_at (y := .inl (o.1, rset o.2 k v)) G ho
        rw [show (rW (rAd G) (rTy G) 0 σ).set i (rAd G i, (Sum.inr (o.1, (rset o.2 k v).map (rv (rAd G))) : va_E)) = rW (rAd G) (rTy G) 0 (rset σ i (.inl (o.1, rset o.2 k v))) from e8] at hP1 hD1
        exact hN G hx _ _ _ _ h H1 locs1 ls hP1 hD1 hS1 hl
      · exact h.elim
    · exact h.elim
  · exact h.elim
theorem r01_nf {ty : FieldType} {x : Int32} (hty : ty = .byte ∨ ty = .boolean) (hx : x = 0 ∨ x = 1) : narrow ty (.int x) = .int x ∧ fits ty (.int x) = true := by
  rcases hty with rfl | rfl <;> rcases hx with rfl | rfl <;> exact ⟨rfl, rfl⟩
theorem ro_put01F {ci k idx N : Nat} {C : String} {T : u_T} {Y : Nat → FieldType} (hd : decode cc pc = .ok (.putfield idx, 3)) (hc : rCl[ci]? = some (C, T, N)) (hin : ∀ w ∈ u_ws C T N, w ∈ Ts) (hY : ∀ k, k < N → parseFieldDescriptor (T k).2.2.1 = some (Y k)) (hnm9 : ∀ a, a < N → ∀ b, b < N → a ≠ b → (T a).2.1 ≠ (T b).2.1) (hk : k < N) (hlink : Cond.fieldLink own idx (T k).1 (T k).2.1 (T k).2.2.1 ∈ Ts) (hfin : (T k).2.2.2 = true) (hini : nm = "<init>") (hdecl : (T k).1 = own)
    (hkd : Y k = .byte ∨ Y k = .boolean) (hn : npc = pc + 3) : rOkX n0 cc own nL Ts R mcO κ nm J pc npc (tq_put01 ci k) := by
  intro G0 G hx p l e s m args below meth c Z Q F hZ hnm KN KJ hN hJ lv st σ b h H locs ls hP hD hS hl
  subst hn
  unfold tq_put01 at h
  split at h
  · next x i r =>
    split at h
    · next o ho =>
      split at h
      · next hb =>
        rw [Bool.and_eq_true, Bool.and_eq_true] at hb
        obtain ⟨hb1, hb2, hb3⟩ := hb
        have e : o.1 = ci := Nat.eq_of_beq_eq_true hb1
        subst e
        obtain ⟨h01, h⟩ := h
        rw [rforce_eq, rforce_eq] at h
        have hnf := r01_nf hkd h01
        refine va_putF (v := rv (rAd G) (.inl x)) F.1 F.2.1 F.2.2.2.2.1 hin Y hY hnm9 F.2.2.2.1 F.2.2.2.2.2.1 hP hD hS i (rget_at G ho) hc k hk (F.2.2.2.2.1 _ hlink) (fun _ h9 => h9) hfin (hnm.trans hini) hdecl (hY k hk) hnf.1 hnf.2 (by rw [List.length_map]; exact Nat.le_of_ble_eq_true hb2) hd (fun H1 locs1 hP1 hD1 hS1 => ?_)
        have e9 : (o.2.map (rv (rAd G))).set k (rv (rAd G) (.inl x)) = (rset o.2 k (.inl x)).map (rv (rAd G)) := by rw [rset_eq, List.map_set]
        rw [e9] at hP1 hD1
        have e8 := rset_at (y := .inl (o.1, rset o.2 k (.inl x))) G ho
        rw [show (rW (rAd G) (rTy G) 0 σ).set i (rAd G i, (Sum.inr (o.1, (rset o.2 k (.inl x)).map (rv (rAd G))) : va_E)) = rW (rAd G) (rTy G) 0 (rset σ i (.inl (o.1, rset o.2 k (.inl x)))) from e8] at hP1 hD1
        exact hN G hx _ _ _ _ h H1 locs1 ls hP1 hD1 hS1 hl
      · exact h.elim
    · exact h.elim
  · exact h.elim
end RKXC
section RKXD
variable {φ : RG → Prop} {cc : ByteArray} {own : String} {nL : Nat} {Ts : List Cond} {R : Room} {hh : List (Nat × Nat × Nat × Nat)} {mcO : Nat} {κ : Option FieldType ⊕ (Nat × Int32)} {J : Nat → Nat} {pc npc : Nat}
theorem ro_callS0 {M : RM} {y : MethodName} {bytes : ByteArray} {maxL n mc idx : Nat} {rt : Option FieldType} {ws : List Cond} {rm : Room} (hM : rMet y ws rm mc M) (hd : decode cc pc = .ok (.invokestatic idx, 3))
    (hcw : ∀ (s : State) (args : Array Value), (∀ w ∈ Ts, w.before args s = true) → CallB R s args own idx y bytes maxL rt ws rm mc (12 * mc) n ∧ (Cond.static y).before args s = true) (hn : npc = pc + 3) : rOk φ cc own nL Ts R hh mcO κ J pc npc (tq_callH M n mc mcO []) := by
  intro G hG p l e s m args below meth c b0 Z Q F hZ KN KJ hN hJ lv st σ b h H locs ls hP hD hS hl
  subst hn
  unfold tq_callH at h
  obtain ⟨as, r, e1, e2, h⟩ := rtake_use n [] st _ h
  simp only [List.length_nil, Nat.add_zero] at e1
  simp only [List.reverse_nil, List.nil_append] at e2
  split at h
  · next hb =>
    rw [Bool.and_eq_true] at hb
    have hb1 := Nat.le_of_ble_eq_true hb.1
    have hb2 := Nat.le_of_ble_eq_true hb.2
    obtain ⟨f1, f2, f3, f4, f5, f6, f7, f8, f9, f10, f11, f12, f13⟩ := id F
    have hst : st.map (rv (rAd G)) = (as.map (rv (rAd G))).reverse ++ r.map (rv (rAd G)) := by rw [e2, List.map_append, List.map_reverse]
    have e4 : 12 * (b0 + b) + 12 * mc = 12 * (b0 + (b + mc)) := by omega
    have e5 : b0 + b + mc = b0 + (b + mc) := by omega
    refine rrun (Q := _) (vx_runS (As := as.map (rv (rAd G))) (rest := r.map (rv (rAd G))) ⟨f1, f2, f3, f4, f5⟩ (hM G l f10 as σ _ h) (hcw s args f5) ⟨rPc_blind G as σ, rpcS f6 f7 f8 hP hD hS⟩ rfl (by rw [List.length_map]; exact e1) hl.1 hst (lv_room (by rw [rwt_eq]; exact hb1)) hd ⟨by omega, by omega⟩) hS ?_ ?_
    · intro k σ' q ce H1 locs1 hq hP1 hD1 hS1 hce hcv hcl
      exact hq.elim
    · intro z σ' H1 locs1 hq hP1 hD1 hS1
      rw [e4, e5]
      cases z with
      | none => exact hN _ _ _ _ hq H1 locs1 ls hP1 hD1 hS1 hl
      | some v => exact hN _ _ _ _ hq H1 locs1 ls hP1 hD1 hS1 hl
  · exact h.elim
theorem ro_callU0 {M : RM} {x y : MethodName} {bytes : ByteArray} {maxL n mc idx ci N : Nat} {rt : Option FieldType} {ws : List Cond} {rm : Room} {C owner : String} {T : u_T} (hc : rCl[ci]? = some (C, T, N)) (hM : rMet y ws rm mc M) (hd : decode cc pc = .ok (.invokevirtual idx, 3))
    (hcw : ∀ (s : State) (args : Array Value), (∀ w ∈ Ts, w.before args s = true) → (∀ w ∈ rFc, w.before #[] s = true) → va_CU R s args own C owner idx x y bytes maxL rt ws rm mc (12 * mc) n) (hn : npc = pc + 3) : rOk φ cc own nL Ts R hh mcO κ J pc npc (tq_callH (rV ci M) (n + 1) mc mcO []) := by
  intro G hG p l e s m args below meth c b0 Z Q F hZ KN KJ hN hJ lv st σ b h H locs ls hP hD hS hl
  subst hn
  unfold tq_callH at h
  obtain ⟨as, r, e1, e2, h⟩ := rtake_use (n + 1) [] st _ h
  simp only [List.length_nil, Nat.add_zero] at e1
  simp only [List.reverse_nil, List.nil_append] at e2
  split at h
  · next hb =>
    rw [Bool.and_eq_true] at hb
    have hb1 := Nat.le_of_ble_eq_true hb.1
    have hb2 := Nat.le_of_ble_eq_true hb.2
    obtain ⟨f1, f2, f3, f4, f5, f6, f7, f8, f9, f10, f11, f12, f13⟩ := id F
    obtain ⟨-, -, -, -, -, -, -, -, -, -, -, -, -, -, -, -, h17, -⟩ := id f7
    unfold rV at h
    split at h
    · next hre =>
      obtain ⟨i, as2, rfl, hcell⟩ := rrecv_use hc f6 hP hre
      have hst : st.map (rv (rAd G)) = (as2.map (rv (rAd G))).reverse ++ .ref (rAd G i) :: r.map (rv (rAd G)) := by
        rw [e2]
        simp [List.map_append, List.map_reverse, rv]
      have e4 : 12 * (b0 + b) + 12 * mc = 12 * (b0 + (b + mc)) := by omega
      have e5 : b0 + b + mc = b0 + (b + mc) := by omega
      refine rrun (Q := _) (vx_runU (C := C) (As := as2.map (rv (rAd G))) (rest := r.map (rv (rAd G))) ⟨f1, f2, f3, f4, f5⟩ (hM G l f10 (rR i :: as2) σ _ h) (hcw s args f5 h17) ⟨rPc_blind G _ σ, hcell, rpcS (as := rR i :: as2) f6 f7 f8 hP hD hS⟩ rfl (by rw [List.length_map]; simpa using e1) hl.1 hst (lv_room (by rw [rwt_eq]; exact hb1)) hd ⟨by omega, by omega⟩) hS ?_ ?_
      · intro k σ' q ce H1 locs1 hq hP1 hD1 hS1 hce hcv hcl
        exact hq.elim
      · intro z σ' H1 locs1 hq hP1 hD1 hS1
        rw [e4, e5]
        cases z with
        | none => exact hN _ _ _ _ hq H1 locs1 ls hP1 hD1 hS1 hl
        | some v => exact hN _ _ _ _ hq H1 locs1 ls hP1 hD1 hS1 hl
    · exact h.elim
  · exact h.elim
theorem ro_callSU0 {M : RM} {y : MethodName} {bytes : ByteArray} {maxL n mc idx ci N : Nat} {rt : Option FieldType} {ws : List Cond} {rm : Room} {C : String} {T : u_T} (hc : rCl[ci]? = some (C, T, N)) (hM : rMet y ws rm mc M) (hd : decode cc pc = .ok (.invokespecial idx, 3))
    (hcw : ∀ (s : State) (args : Array Value), (∀ w ∈ Ts, w.before args s = true) → va_CS R s args own idx y bytes maxL rt ws rm mc (12 * mc) n) (hn : npc = pc + 3) : rOk φ cc own nL Ts R hh mcO κ J pc npc (tq_callH (rV ci M) (n + 1) mc mcO []) := by
  intro G hG p l e s m args below meth c b0 Z Q F hZ KN KJ hN hJ lv st σ b h H locs ls hP hD hS hl
  subst hn
  unfold tq_callH at h
  obtain ⟨as, r, e1, e2, h⟩ := rtake_use (n + 1) [] st _ h
  simp only [List.length_nil, Nat.add_zero] at e1
  simp only [List.reverse_nil, List.nil_append] at e2
  split at h
  · next hb =>
    rw [Bool.and_eq_true] at hb
    have hb1 := Nat.le_of_ble_eq_true hb.1
    have hb2 := Nat.le_of_ble_eq_true hb.2
    obtain ⟨f1, f2, f3, f4, f5, f6, f7, f8, f9, f10, f11, f12, f13⟩ := id F
    unfold rV at h
    split at h
    · next hre =>
      obtain ⟨i, as2, rfl, hcell⟩ := rrecv_use hc f6 hP hre
      have hst : st.map (rv (rAd G)) = (as2.map (rv (rAd G))).reverse ++ .ref (rAd G i) :: r.map (rv (rAd G)) := by
        rw [e2]
        simp [List.map_append, List.map_reverse, rv]
      have e4 : 12 * (b0 + b) + 12 * mc = 12 * (b0 + (b + mc)) := by omega
      have e5 : b0 + b + mc = b0 + (b + mc) := by omega
      refine rrun (Q := _) (vx_runSU (C := C) (As := as2.map (rv (rAd G))) (rest := r.map (rv (rAd G))) (f6.1 ci _ hc).2 ⟨f1, f2, f3, f4, f5⟩ (hM G l f10 (rR i :: as2) σ _ h) (hcw s args f5) ⟨rPc_blind G _ σ, hcell, rpcS (as := rR i :: as2) f6 f7 f8 hP hD hS⟩ rfl (by rw [List.length_map]; simpa using e1) hl.1 hst (lv_room (by rw [rwt_eq]; exact hb1)) hd ⟨by omega, by omega⟩) hS ?_ ?_
      · intro k σ' q ce H1 locs1 hq hP1 hD1 hS1 hce hcv hcl
        exact hq.elim
      · intro z σ' H1 locs1 hq hP1 hD1 hS1
        rw [e4, e5]
        cases z with
        | none => exact hN _ _ _ _ hq H1 locs1 ls hP1 hD1 hS1 hl
        | some v => exact hN _ _ _ _ hq H1 locs1 ls hP1 hD1 hS1 hl
    · exact h.elim
  · exact h.elim
/-- a method of a String constant -/
theorem ro_callK0 {M : RM} {y : MethodName} {bytes : ByteArray} {maxL n mc idx : Nat} {rt : Option FieldType} {ws : List Cond} {rm : Room} (hM : rMet y ws rm mc M) (hd : decode cc pc = .ok (.invokevirtual idx, 3))
    (hcw : ∀ (s : State) (args : Array Value), (∀ w ∈ Ts, w.before args s = true) → CallW R s args own "java/lang/String" idx y bytes maxL rt ws rm mc (12 * mc) n) (hn : npc = pc + 3) : rOk φ cc own nL Ts R hh mcO κ J pc npc (tq_callH (rVK M) (n + 1) mc mcO []) := by
  intro G hG p l e s m args below meth c b0 Z Q F hZ KN KJ hN hJ lv st σ b h H locs ls hP hD hS hl
  subst hn
  unfold tq_callH at h
  obtain ⟨as, r, e1, e2, h⟩ := rtake_use (n + 1) [] st _ h
  simp only [List.length_nil, Nat.add_zero] at e1
  simp only [List.reverse_nil, List.nil_append] at e2
  split at h
  · next hb =>
    rw [Bool.and_eq_true] at hb
    have hb1 := Nat.le_of_ble_eq_true hb.1
    have hb2 := Nat.le_of_ble_eq_true hb.2
    obtain ⟨f1, f2, f3, f4, f5, f6, f7, f8, f9, f10, f11, f12, f13⟩ := id F
    unfold rVK at h
    split at h
    · next i as2 =>
      obtain ⟨hk, h⟩ := h
      have hcell : ∃ cell : Cell, H[rAd G i]? = some cell ∧ cell.vm.isStatics = false ∧ s.vm.findClass "java/lang/String" = some cell.cls := by
        obtain ⟨cell, g1, g2, g3, -⟩ := (rstr_of f7 hk).1.kept hS.2.1
        exact ⟨cell, g1, g2, g3⟩
      have hst : st.map (rv (rAd G)) = (as2.map (rv (rAd G))).reverse ++ .ref (rAd G i) :: r.map (rv (rAd G)) := by
        rw [e2]
        simp [List.map_append, List.map_reverse, rv]
      have e4 : 12 * (b0 + b) + 12 * mc = 12 * (b0 + (b + mc)) := by omega
      have e5 : b0 + b + mc = b0 + (b + mc) := by omega
      refine rrun (Q := _) (vx_runV (C := "java/lang/String") (As := as2.map (rv (rAd G))) (rest := r.map (rv (rAd G))) ⟨f1, f2, f3, f4, f5⟩ (hM G l f10 (rR i :: as2) σ _ h) (hcw s args f5) ⟨rPc_blind G _ σ, hcell, rpcS (as := rR i :: as2) f6 f7 f8 hP hD hS⟩ rfl (by rw [List.length_map]; simpa using e1) hl.1 hst (lv_room (by rw [rwt_eq]; exact hb1)) hd ⟨by omega, by omega⟩) hS ?_ ?_
      · intro k σ' q ce H1 locs1 hq hP1 hD1 hS1 hce hcv hcl
        exact hq.elim
      · intro z σ' H1 locs1 hq hP1 hD1 hS1
        rw [e4, e5]
        cases z with
        | none => exact hN _ _ _ _ hq H1 locs1 ls hP1 hD1 hS1 hl
        | some v => exact hN _ _ _ _ hq H1 locs1 ls hP1 hD1 hS1 hl
    · exact h.elim
  · exact h.elim
theorem ro_put01 {ci k idx N : Nat} {C : String} {T : u_T} {Y : Nat → FieldType} (hd : decode cc pc = .ok (.putfield idx, 3)) (hc : rCl[ci]? = some (C, T, N)) (hin : ∀ w ∈ u_ws C T N, w ∈ Ts) (hY : ∀ k, k < N → parseFieldDescriptor (T k).2.2.1 = some (Y k)) (hnm9 : ∀ a, a < N → ∀ b, b < N → a ≠ b → (T a).2.1 ≠ (T b).2.1) (hk : k < N) (hlink : Cond.fieldLink own idx (T k).1 (T k).2.1 (T k).2.2.1 ∈ Ts) (hfin : (T k).2.2.2 = false)
    (hkd : Y k = .byte ∨ Y k = .boolean) (hn : npc = pc + 3) : rOk φ cc own nL Ts R hh mcO κ J pc npc (tq_put01 ci k) := by
  intro G hG p l e s m args below meth c b0 Z Q F hZ KN KJ hN hJ lv st σ b h H locs ls hP hD hS hl
  subst hn
  unfold tq_put01 at h
  split at h
  · next x i r =>
    split at h
    · next o ho =>
      split at h
      · next hb =>
        rw [Bool.and_eq_true, Bool.and_eq_true] at hb
        obtain ⟨hb1, hb2, hb3⟩ := hb
        have e : o.1 = ci := Nat.eq_of_beq_eq_true hb1
        subst e
        obtain ⟨h01, h⟩ := h
        rw [rforce_eq, rforce_eq] at h
        have hnf := r01_nf hkd h01
        refine va_put (v := rv (rAd G) (.inl x)) F.1 F.2.1 F.2.2.2.2.1 hin Y hY hnm9 F.2.2.2.1 F.2.2.2.2.2.1 hP hD hS i (rget_at G ho) hc k hk (F.2.2.2.2.1 _ hlink) (fun _ h9 => h9) hfin (hY k hk) hnf.1 hnf.2 (by rw [List.length_map]; exact Nat.le_of_ble_eq_true hb2) hd (fun H1 locs1 hP1 hD1 hS1 => ?_)
        have e9 : (o.2.map (rv (rAd G))).set k (rv (rAd G) (.inl x)) = (rset o.2 k (.inl x)).map (rv (rAd G)) := by rw [rset_eq, List.map_set]
        rw [e9] at hP1 hD1
        have e8 := rset_at (y := .inl (o.1, rset o.2 k (.inl x))) G ho
        rw [show (rW (rAd G) (rTy G) 0 σ).set i (rAd G i, (Sum.inr (o.1, (rset o.2 k (.inl x)).map (rv (rAd G))) : va_E)) = rW (rAd G) (rTy G) 0 (rset σ i (.inl (o.1, rset o.2 k (.inl x)))) from e8] at hP1 hD1
        exact hN _ _ _ _ h H1 locs1 ls hP1 hD1 hS1 hl
      · exact h.elim
    · exact h.elim
  · exact h.elim
theorem ro_putfA {ci k kd idx N : Nat} {C : String} {T : u_T} {Y : Nat → FieldType} (hd : decode cc pc = .ok (.putfield idx, 3)) (hc : rCl[ci]? = some (C, T, N)) (hin : ∀ w ∈ u_ws C T N, w ∈ Ts) (hY : ∀ k, k < N → parseFieldDescriptor (T k).2.2.1 = some (Y k)) (hnm9 : ∀ a, a < N → ∀ b, b < N → a ≠ b → (T a).2.1 ≠ (T b).2.1) (hk : k < N) (hlink : Cond.fieldLink own idx (T k).1 (T k).2.1 (T k).2.2.1 ∈ Ts) (hfin : (T k).2.2.2 = false)
    (hkd : kd = 2 ∧ ∃ t, Y k = .array t) (hn : npc = pc + 3) : rOk φ cc own nL Ts R hh mcO κ J pc npc (tq_putf ci k kd) := by
  intro G hG p l e s m args below meth c b0 Z Q F hZ KN KJ hN hJ lv st σ b h H locs ls hP hD hS hl
  subst hn
  obtain ⟨rfl, t9, hY9⟩ := hkd
  unfold tq_putf at h
  split at h
  · next v i r =>
    split at h
    · next o ho =>
      split at h
      · next hb =>
        rw [Bool.and_eq_true, Bool.and_eq_true] at hb
        obtain ⟨hb1, hb2, hb3⟩ := hb
        have e : o.1 = ci := Nat.eq_of_beq_eq_true hb1
        subst e
        rw [rforce_eq, rforce_eq] at h
        have hnf : narrow (Y k) (rv (rAd G) v) = rv (rAd G) v ∧ fits (Y k) (rv (rAd G) v) = true := by
          rw [hY9]
          rcases v with q | q | q | q
          · cases hb2
          · cases hb2
          · exact ⟨rfl, rfl⟩
          · cases q <;> exact ⟨rfl, rfl⟩
        refine va_put F.1 F.2.1 F.2.2.2.2.1 hin Y hY hnm9 F.2.2.2.1 F.2.2.2.2.2.1 hP hD hS i (rget_at G ho) hc k hk (F.2.2.2.2.1 _ hlink) (fun _ h9 => h9) hfin (hY k hk) hnf.1 hnf.2 (by rw [List.length_map]; exact Nat.le_of_ble_eq_true hb3) hd (fun H1 locs1 hP1 hD1 hS1 => ?_)
        have e9 : (o.2.map (rv (rAd G))).set k (rv (rAd G) v) = (rset o.2 k v).map (rv (rAd G)) := by rw [rset_eq, List.map_set]
        rw [e9] at hP1 hD1
        have e8 := rset_at (y := .inl (o.1, rset o.2 k v)) G ho
        rw [show (rW (rAd G) (rTy G) 0 σ).set i (rAd G i, (Sum.inr (o.1, (rset o.2 k v).map (rv (rAd G))) : va_E)) = rW (rAd G) (rTy G) 0 (rset σ i (.inl (o.1, rset o.2 k v))) from e8] at hP1 hD1
        exact hN _ _ _ _ h H1 locs1 ls hP1 hD1 hS1 hl
      · exact h.elim
    · exact h.elim
  · exact h.elim
theorem ro_putfI {ci k idx N : Nat} {C : String} {T : u_T} {Y : Nat → FieldType} (hd : decode cc pc = .ok (.putfield idx, 3)) (hc : rCl[ci]? = some (C, T, N)) (hin : ∀ w ∈ u_ws C T N, w ∈ Ts) (hY : ∀ k, k < N → parseFieldDescriptor (T k).2.2.1 = some (Y k)) (hnm9 : ∀ a, a < N → ∀ b, b < N → a ≠ b → (T a).2.1 ≠ (T b).2.1) (hk : k < N) (hlink : Cond.fieldLink own idx (T k).1 (T k).2.1 (T k).2.2.1 ∈ Ts) (hfin : (T k).2.2.2 = false)
    (hkd : Y k = .int) (hn : npc = pc + 3) : rOk φ cc own nL Ts R hh mcO κ J pc npc (tq_putf ci k 0) := ro_putf hd hc hin hY hnm9 hk hlink hfin (Or.inl ⟨rfl, hkd⟩) hn
-- a private method of the class itself is taken whatever the class of the thing is
theorem rselP {C : String} {y y0 : MethodName} {args : Array Value} {s : State} (hcls : y0.cls = y.cls) (hy : y.cls ≠ "java/lang/invoke/MethodHandle" ∧ y.cls ≠ "java/lang/invoke/VarHandle") (h0 : (Cond.selects C y0 y0).before args s = true) (hp : (Cond.privateMethod y).before args s = true) (hi : (Cond.instanceMethod y).before args s = true) : (Cond.selects C y y).before args s = true := by
  obtain ⟨c, r, m0, q1, q2, q3, q4, k0, hk0, hk0i⟩ := Cond.selects_spec h0
  obtain ⟨mk, methM, hnamed, hmethM, -, -⟩ := Cond.instanceMethod_spec hi
  have hfound : s.methodFound? y.cls y.name y.desc = some mk := State.methodFound?_of_named hnamed hy
  have hsel : selectMethod {} s.vm c mk = .method mk := selectMethod_private hmethM (Cond.privateMethod_at hp mk methM hnamed hmethM)
  have hc0 : mk.cls = m0.cls := Option.some.inj ((findClass_of_methodNamed hnamed).symm.trans ((congrArg s.vm.findClass hcls.symm).trans (findClass_of_methodNamed q3)))
  simp only [Cond.before, Cond.holds, Cond.value, q1, hfound, hnamed, hsel, hc0, hk0]
  simp [hk0i]
theorem rcwU {R : Room} {s : State} {args : Array Value} {own C owner : String} {index maxL mc ms : Nat} {x y : MethodName} {bytes : ByteArray} {ret : Option FieldType} {Ts ws ws' : List Cond} {rm : Room} (n : Nat) (ht : ∀ w ∈ Ts, w.before args s = true) (hG : GoodIn Ts ws) (hw : ws = Cond.code y bytes maxL ret :: ws') (hrc : rm.cells = mc) (hrs : rm.slots = ms)
    (hl : Cond.methodLink own index x ∈ Ts) (hsm : Cond.sameMethod x.cls owner x.name x.desc ∈ Ts) (hin : Cond.instanceMethod y ∈ Ts) (hini : Cond.initialized y.cls ∈ Ts) (hsel : (Cond.selects C x y).before args s = true)
    (hyx : y = ⟨owner, x.name, x.desc⟩) (hd : owner ≠ "java/lang/invoke/MethodHandle" ∧ owner ≠ "java/lang/invoke/VarHandle" ∧ (parseMethodDescriptor x.desc).map (fun d => d.parameters.length) = some n) (hR : rm.frames + 1 ≤ R.frames ∧ 8 + (maxL + 11) + rm.locals ≤ R.locals) : va_CU R s args own C owner index x y bytes maxL ret ws rm mc ms n := by
  have hc : Cond.code y bytes maxL ret ∈ ws := by rw [hw]; exact List.mem_cons_self
  refine ⟨⟨hrc, hrs, hR.1, hR.2, pay_in ht hG, hc⟩, ht _ (hG _ hc).1, ht _ hini, ⟨hd.1, hd.2.1⟩, fun sig h => ?_, ht _ hl, ht _ hsm, by rw [← hyx]; exact va_Decl.of (ht _ hin) (ht _ (hG _ hc).1), hsel, ht _ hin⟩
  have h2 := hd.2.2
  rw [h] at h2
  exact (Option.some.inj h2).symm
theorem rfc_at {s : State} {args : Array Value} {w : Cond} (hI : ∀ w ∈ rFc, w.before #[] s = true) (hw : w ∈ rFc) : w.before args s = true := by
  have h1 := (List.mem_filter.mp hw).2
  rw [Bool.and_eq_true] at h1
  exact va_tabs h1.2 rfl (hI w hw)
-- contracts turned
theorem rMetX_conv {n n2 : Nat} {y : MethodName} {ws : List Cond} {rm : Room} {mc : Nat} {M M' : RM} (hn : n2 ≤ n) (h : rMetX n y ws rm mc M)
    (hm : ∀ (as : List AV) (σ : List RC) (Q : RQ), M' as σ Q → ∃ (as' : List AV) (Q' : RQ), (∀ ad : Nat → Nat, as'.map (rv ad) = as.map (rv ad)) ∧ M as' σ Q' ∧
      ∀ (G' : RG) (r : Option AV) (σ' : List RC), Q' (.inl r) σ' → ∃ (G'' : RG) (r2 : Option AV) (σ2 : List RC), rExt n2 G' G'' ∧ r2.map (rv (rAd G'')) = r.map (rv (rAd G')) ∧ Q (.inl r2) σ2 ∧ ∃ is : List Nat, va_nd is = true ∧ is.map (fun i => (rW (rAd G') (rTy G') 0 σ')[i]?) = (rW (rAd G'') (rTy G'') 0 σ2).map some) : rMetX n2 y ws rm mc M' := by
  intro G l hl as σ Q hq
  obtain ⟨as', Q', h1, h2, h3⟩ := hm as σ Q hq
  have hM := h G l hl as' σ Q' h2
  intro p e ha hc hk s m args below hf happ hP hK
  have hP' : rPc G as' σ args s := ⟨by rw [h1]; exact hP.1, hP.2⟩
  obtain ⟨k, o, g1, g2, g3, g4⟩ := hM p e ha hc hk s m args below hf happ hP' hK
  refine ⟨k, o, g1, g2, g3, ?_⟩
  rcases g4 with ⟨⟨G', r, σ', x0, e1, e2, e3, e4, e5⟩, g5⟩ | ⟨q, e1, E, ce, L, hf9, -⟩
  · obtain ⟨G'', r2, σ2, x1, f1, f2, is, f3, f4⟩ := h3 G' r σ' e2
    refine Or.inl ⟨⟨G'', r2, σ2, (x0.le hn).tr x1, by rw [f1]; exact e1, f2, ?_, ?_, e5⟩, g5⟩
    · rw [rDD_ext x1]
      refine e3.sub is ?_
      have : is.filterMap (fun i => (rW (rAd G') (rTy G') 0 σ')[i]?) = (is.map (fun i => (rW (rAd G') (rTy G') 0 σ')[i]?)).filterMap id := by rw [List.filterMap_map]; rfl
      rw [this, f4, List.filterMap_map]
      simp
    · rw [rA_ext x1]
      exact e4.sub is f3 f4
  · exact hf9.elim
theorem rMetX_mono {n : Nat} {y : MethodName} {ws : List Cond} {rm : Room} {mc : Nat} {M M' : RM} (h : rMetX n y ws rm mc M) (hm : ∀ as σ Q, M' as σ Q → M as σ Q) : rMetX n y ws rm mc M' := fun G l hl as σ Q hq => h G l hl as σ Q (hm as σ Q hq)
/-- nothing made is kept: as any other method -/
theorem rMetX_plain {n : Nat} {y : MethodName} {ws : List Cond} {rm : Room} {mc : Nat} {M M' : RM} (h : rMetX n y ws rm mc M)
    (hm : ∀ (as : List AV) (σ : List RC) (Q : RQ), M' as σ Q → ∃ Q' : RQ, M as σ Q' ∧
      ∀ (G G' : RG) (r : Option AV) (σ' : List RC), rExt n G G' → Q' (.inl r) σ' → ∃ (r2 : Option AV) (σ2 : List RC), r2.map (rv (rAd G)) = r.map (rv (rAd G')) ∧ Q (.inl r2) σ2 ∧ ∃ is : List Nat, va_nd is = true ∧ is.map (fun i => (rW (rAd G') (rTy G') 0 σ')[i]?) = (rW (rAd G) (rTy G) 0 σ2).map some) : rMet y ws rm mc M' := by
  intro G l hl as σ Q hq
  obtain ⟨Q', h2, h3⟩ := hm as σ Q hq
  have hM := h G l hl as σ Q' h2
  intro p e ha hc hk s m args below hf happ hP hK
  obtain ⟨k, o, g1, g2, g3, g4⟩ := hM p e ha hc hk s m args below hf happ hP hK
  refine ⟨k, o, g1, g2, g3, ?_⟩
  rcases g4 with ⟨⟨G', r, σ', x0, e1, e2, e3, e4, e5⟩, g5⟩ | ⟨q, e1, E, ce, L, hf9, -⟩
  · obtain ⟨r2, σ2, f1, f2, is, f3, f4⟩ := h3 G G' r σ' x0 e2
    refine Or.inl ⟨⟨r2, σ2, by rw [f1]; exact e1, f2, ?_, ?_, e5⟩, g5⟩
    · rw [← rDD_ext x0]
      refine e3.sub is ?_
      have : is.filterMap (fun i => (rW (rAd G') (rTy G') 0 σ')[i]?) = (is.map (fun i => (rW (rAd G') (rTy G') 0 σ')[i]?)).filterMap id := by rw [List.filterMap_map]; rfl
      rw [this, f4, List.filterMap_map]
      simp
    · rw [← rA_ext x0]
      exact e4.sub is f3 f4
  · exact hf9.elim
end RKXD
section RKXE
def tq_mminR (mcO : Nat) : RT := fun _ K _ lv st σ b => match st with
  | .inl y :: .inl x :: r => match Nat.ble b mcO && Nat.ble (rwt r) 8 with
    | true => K lv (rI (x.1 && y.1) (if y.2 < x.2 then y.2 else x.2) :: r) σ b
    | false => False
  | _ => False
def tq_mmaxR (mcO : Nat) : RT := fun _ K _ lv st σ b => match st with
  | .inl y :: .inl x :: r => match Nat.ble b mcO && Nat.ble (rwt r) 8 with
    | true => K lv (rI (x.1 && y.1) (if x.2 < y.2 then y.2 else x.2) :: r) σ b
    | false => False
  | _ => False
def tq_nret (ty : FieldType) (mcO : Nat) : RT := fun Q _ _ _ st σ b => match st with
  | [.inl x] => match Nat.ble b mcO with
    | true => narrow ty (.int x.2) = .int x.2 ∧ Q (.inl (some (.inl x))) σ
    | false => False
  | _ => False
section
variable {φ : RG → Prop} {cc : ByteArray} {own : String} {nL : Nat} {Ts : List Cond} {R : Room} {hh : List (Nat × Nat × Nat × Nat)} {mcO : Nat} {κ : Option FieldType ⊕ (Nat × Int32)} {J : Nat → Nat} {pc npc : Nat}
theorem ro_minR {idx : Nat} (hlink : Cond.methodLink own idx Lib.Math.min.name ∈ Ts) (hstat : Cond.static Lib.Math.min.name ∈ Ts) (hini : Cond.initialized "java/lang/Math" ∈ Ts) (hcode : Cond.code Lib.Math.min.name Lib.Math.min.code 2 (some .int) ∈ Ts) (hR : 1 ≤ R.frames ∧ 29 ≤ R.locals) (hd : decode cc pc = .ok (.invokestatic idx, 3)) (hn : npc = pc + 3) :
    rOk φ cc own nL Ts R hh mcO κ J pc npc (tq_mminR mcO) := by
  intro G hG p l e s m args below meth c b0 Z Q F hZ KN KJ hN hJ lv st σ b h H locs ls hP hD hS hl
  subst hn
  obtain ⟨f1, f2, f3, f4, f5, f6, f7, f8, f9, f10, f11, f12, f13⟩ := F
  unfold tq_mminR at h
  split at h
  · next y x r =>
    split at h
    · next hb =>
      rw [Bool.and_eq_true] at hb
      have hb1 := Nat.le_of_ble_eq_true hb.1
      have hb2 := Nat.le_of_ble_eq_true hb.2
      exact va_mmin (rest := r.map (rv (rAd G))) f1 f2 (f3.trans hl.1.symm) f4 (f5 _ hlink) (f5 _ hstat) (f5 _ hini) (f5 _ hcode) hR.1 (by rw [rwt_eq]; omega) (by omega) (by omega) hd (hN _ _ _ _ h H locs ls hP hD hS hl)
    · exact h.elim
  · exact h.elim
theorem ro_maxR {idx : Nat} (hlink : Cond.methodLink own idx Lib.Math.max.name ∈ Ts) (hstat : Cond.static Lib.Math.max.name ∈ Ts) (hini : Cond.initialized "java/lang/Math" ∈ Ts) (hcode : Cond.code Lib.Math.max.name Lib.Math.max.code 2 (some .int) ∈ Ts) (hR : 1 ≤ R.frames ∧ 29 ≤ R.locals) (hd : decode cc pc = .ok (.invokestatic idx, 3)) (hn : npc = pc + 3) :
    rOk φ cc own nL Ts R hh mcO κ J pc npc (tq_mmaxR mcO) := by
  intro G hG p l e s m args below meth c b0 Z Q F hZ KN KJ hN hJ lv st σ b h H locs ls hP hD hS hl
  subst hn
  obtain ⟨f1, f2, f3, f4, f5, f6, f7, f8, f9, f10, f11, f12, f13⟩ := F
  unfold tq_mmaxR at h
  split at h
  · next y x r =>
    split at h
    · next hb =>
      rw [Bool.and_eq_true] at hb
      have hb1 := Nat.le_of_ble_eq_true hb.1
      have hb2 := Nat.le_of_ble_eq_true hb.2
      exact va_mmax (rest := r.map (rv (rAd G))) f1 f2 (f3.trans hl.1.symm) f4 (f5 _ hlink) (f5 _ hstat) (f5 _ hini) (f5 _ hcode) hR.1 (by rw [rwt_eq]; omega) (by omega) (by omega) hd (hN _ _ _ _ h H locs ls hP hD hS hl)
    · exact h.elim
  · exact h.elim
theorem ro_sald (hd : decode cc pc = .ok (.baload, 1)) (hn : npc = pc + 1) : rOk φ cc own nL Ts R hh mcO κ J pc npc tq_sald := by
  intro G hG p l e s m args below meth c b0 Z Q F hZ KN KJ hN hJ lv st σ b h H locs ls hP hD hS hl
  subst hn
  unfold tq_sald at h
  split at h
  · next j k r => 
    obtain ⟨h1, h2, h3⟩ := h
    have k9 := hN _ _ _ _ h3 H locs ls hP hD hS hl
    rw [List.map_cons] at k9
    have hT := rbyt_of F.2.2.2.2.2.2.1 h1
    generalize rSByt.getD (k - 200) [] = Lb at hT k9
    exact va_tb F.1 F.2.1 hT hS h2 rfl hd k9
  · exact h.elim
theorem ro_nret {ty : FieldType} (hd : decode cc pc = .ok (.ireturn, 1)) : rOk φ cc own nL Ts R hh mcO (.inl (some ty)) J pc npc (tq_nret ty mcO) := by
  intro G hG p l e s m args below meth c b0 Z Q F hZ KN KJ hN hJ lv st σ b h H locs ls hP hD hS hl
  obtain ⟨rfl, hr, rfl⟩ := hZ
  unfold tq_nret at h
  split at h
  · next x =>
    split at h
    · next hb => exact rwiden hb (vx_ret (W.zret F.1 F.2.1 hr h.1 (fun t ht hW => ⟨some (.inl x), σ, rfl, h.2, by rw [ht]; exact hP, hD, hS.F ht⟩) hS.2.2 hd (hlocks := F.2.2.2.2.2.2.2.2.1)))
    · exact h.elim
  · exact h.elim
theorem ro_aretA {t : FieldType} (hd : decode cc pc = .ok (.areturn, 1)) : rOk φ cc own nL Ts R hh mcO (.inl (some (.array t))) J pc npc (tq_aret mcO) := by
  intro G hG p l e s m args below meth c b0 Z Q F hZ KN KJ hN hJ lv st σ b h H locs ls hP hD hS hl
  obtain ⟨rfl, hr, rfl⟩ := hZ
  unfold tq_aret at h
  split at h
  · next x =>
    split at h
    · next hb =>
      have hv : rv (rAd G) (.inr (.inr x)) = .null ∨ ∃ a, rv (rAd G) (.inr (.inr x)) = .ref a := by
        rcases x with k | o
        · exact Or.inr ⟨_, rfl⟩
        · cases o
          · exact Or.inl rfl
          · exact Or.inr ⟨_, rfl⟩
      exact rwiden hb (vx_ret (W.aret F.1 F.2.1 hr (Or.inr ⟨t, rfl⟩) hv (fun t ht hW => ⟨some (.inr (.inr x)), σ, rfl, h, by rw [ht]; exact hP, hD, hS.F ht⟩) hS.2.2 hd (hlocks := F.2.2.2.2.2.2.2.2.1)))
    · exact h.elim
  · exact h.elim
end
theorem rdf3 : ∀ (ad : Nat → Nat) (j : Nat), j < 4 → defaultValue (rY3 j) = vp_V ([rO none, rI true 0, rI true 0, rI false 0].map (rv ad)) j
  | _, 0, _ => rfl
  | _, 1, _ => rfl
  | _, 2, _ => rfl
  | _, 3, _ => rfl
  | _, j + 4, h => absurd h (by omega)
theorem rdf4 : ∀ (ad : Nat → Nat) (j : Nat), j < 4 → defaultValue (rY4 j) = vp_V ([rO none, rI true 0, rI true 0, rI false 0].map (rv ad)) j
  | _, 0, _ => rfl
  | _, 1, _ => rfl
  | _, 2, _ => rfl
  | _, 3, _ => rfl
  | _, j + 4, h => absurd h (by omega)
end RKXE
