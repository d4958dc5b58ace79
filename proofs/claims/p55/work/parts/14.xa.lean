section RKXA
/-! Methods that make things: the places from n on are given out while the method runs. -/
/-- v doesn't speak of the places n .. 49 -/
def rK1 (n : Nat) (v : AV) : Bool := match v with
  | .inl _ => true
  | .inr (.inl _) => true
  | .inr (.inr (.inl k)) => Nat.blt k n || Nat.ble 50 k
  | .inr (.inr (.inr _)) => true
noncomputable def rKl (n : Nat) (l : List AV) : Bool := List.rec (motive := fun _ => Bool) true (fun v _ ih => rK1 n v && ih) l
noncomputable def rKv (n : Nat) (l : RLv) : Bool := List.rec (motive := fun _ => Bool) true (fun q _ ih => rK1 n q.2 && ih) l
noncomputable def rKc (n : Nat) (c : RC) : Bool := match c with
  | .inl o => rKl n o.2
  | .inr (_, _, .inl _) => true
  | .inr (_, _, .inr g) => rK1 n (rR (g 0)) && rK1 n (rR (g 1))
noncomputable def rKs (n : Nat) (l : List RC) : Bool := List.rec (motive := fun _ => Bool) true (fun c _ ih => rKc n c && ih) l
noncomputable def rlen {α : Type} (l : List α) : Nat := List.rec (motive := fun _ => Nat) 0 (fun _ _ ih => ih + 1) l
noncomputable def rapp {α : Type} (l : List α) (x : α) : List α := List.rec (motive := fun _ => List α) [x] (fun a _ ih => a :: ih) l
noncomputable def rtk {α : Type} (n : Nat) : List α → List α := Nat.rec (motive := fun _ => List α → List α) (fun _ => []) (fun _ ih l => List.rec (motive := fun _ => List α) [] (fun a r _ => a :: ih r) l) n
theorem rlen_eq {α : Type} : ∀ l : List α, rlen l = l.length
  | [] => rfl
  | a :: r => by rw [show rlen (a :: r) = rlen r + 1 from rfl, rlen_eq r]; rfl
theorem rapp_eq {α : Type} : ∀ (l : List α) (x : α), rapp l x = l ++ [x]
  | [], x => rfl
  | a :: r, x => by rw [show rapp (a :: r) x = a :: rapp r x from rfl, rapp_eq r x]; rfl
theorem rtk_eq {α : Type} : ∀ (n : Nat) (l : List α), rtk n l = l.take n
  | 0, l => rfl
  | n + 1, [] => rfl
  | n + 1, a :: r => by rw [show rtk (n + 1) (a :: r) = a :: rtk n r from rfl, rtk_eq n r]; rfl
/-- the same world, but for where the places n .. 49 lie -/
def rExt (n : Nat) (G G' : RG) : Prop := G'.1 = G.1 ∧ G'.2.1 = G.2.1 ∧ G'.2.2.2 = G.2.2.2 ∧ ∀ k : Nat, k < n ∨ 50 ≤ k → rAd G' k = rAd G k
theorem rExt.rf {n : Nat} {G : RG} : rExt n G G := ⟨rfl, rfl, rfl, fun _ _ => rfl⟩
theorem rExt.tr {n : Nat} {G G' G'' : RG} (h : rExt n G G') (k : rExt n G' G'') : rExt n G G'' := ⟨k.1.trans h.1, k.2.1.trans h.2.1, k.2.2.1.trans h.2.2.1, fun q hq => (k.2.2.2 q hq).trans (h.2.2.2 q hq)⟩
theorem rExt.le {n n' : Nat} {G G' : RG} (hn : n ≤ n') (h : rExt n' G G') : rExt n G G' := ⟨h.1, h.2.1, h.2.2.1, fun q hq => h.2.2.2 q (by omega)⟩
theorem rv_ext {n : Nat} {G G' : RG} (h : rExt n G G') : ∀ {v : AV}, rK1 n v = true → rv (rAd G') v = rv (rAd G) v
  | .inl q, _ => rfl
  | .inr (.inl q), _ => rfl
  | .inr (.inr (.inr o)), _ => rfl
  | .inr (.inr (.inl k)), hk => by
    have h1 : (Nat.blt k n || Nat.ble 50 k) = true := hk
    rw [Bool.or_eq_true] at h1
    have h2 : rAd G' k = rAd G k := h.2.2.2 k (h1.elim (fun q => Or.inl (Nat.le_of_ble_eq_true q)) (fun q => Or.inr (Nat.le_of_ble_eq_true q)))
    show Value.ref (rAd G' k) = Value.ref (rAd G k)
    rw [h2]
theorem rmap_ext {n : Nat} {G G' : RG} (h : rExt n G G') : ∀ {l : List AV}, rKl n l = true → l.map (rv (rAd G')) = l.map (rv (rAd G))
  | [], _ => rfl
  | v :: r, hk => by
    have h1 : (rK1 n v && rKl n r) = true := hk
    rw [Bool.and_eq_true] at h1
    rw [List.map_cons, List.map_cons, rv_ext h h1.1, rmap_ext h h1.2]
theorem rl_ext {n : Nat} {G G' : RG} (h : rExt n G G') : ∀ {l : RLv}, rKv n l = true → rl (rAd G') l = rl (rAd G) l
  | [], _ => rfl
  | v :: r, hk => by
    have h1 : (rK1 n v.2 && rKv n r) = true := hk
    rw [Bool.and_eq_true] at h1
    have h2 := rl_ext h h1.2
    show (v.1, rv (rAd G') v.2) :: rl (rAd G') r = (v.1, rv (rAd G) v.2) :: rl (rAd G) r
    rw [rv_ext h h1.1, h2]
theorem rE_ext {n : Nat} {G G' : RG} (h : rExt n G G') : ∀ {c : RC}, rKc n c = true → rE (rAd G') (rTy G') c = rE (rAd G) (rTy G) c
  | .inl o, hk => by
    show (Sum.inr (o.1, o.2.map (rv (rAd G'))) : va_E) = Sum.inr (o.1, o.2.map (rv (rAd G)))
    rw [rmap_ext h hk]
  | .inr (t, m, .inl f), _ => by
    show (Sum.inl (G'.2.1 t, m, .inl f) : va_E) = Sum.inl (G.2.1 t, m, .inl f)
    rw [h.2.1]
  | .inr (t, m, .inr g), hk => by
    have h1 : (rK1 n (rR (g 0)) && rK1 n (rR (g 1))) = true := hk
    rw [Bool.and_eq_true] at h1
    have e0 : rAd G' (g 0) = rAd G (g 0) := by
      have := rv_ext h h1.1
      exact Value.ref.inj this
    have e1 : rAd G' (g 1) = rAd G (g 1) := by
      have := rv_ext h h1.2
      exact Value.ref.inj this
    show (Sum.inl (G'.2.1 t, m, .inr (.inr (.inr (.inr (fun j => some (rAd G' (bif Nat.beq j 0 then g 0 else g 1))))))) : va_E) = Sum.inl (G.2.1 t, m, .inr (.inr (.inr (.inr (fun j => some (rAd G (bif Nat.beq j 0 then g 0 else g 1)))))))
    rw [h.2.1, show (fun j => some (rAd G' (bif Nat.beq j 0 then g 0 else g 1))) = fun j => some (rAd G (bif Nat.beq j 0 then g 0 else g 1)) from funext fun j => by
      cases Nat.beq j 0
      · exact congrArg some e1
      · exact congrArg some e0]
theorem rW_ext {n : Nat} {G G' : RG} (h : rExt n G G') : ∀ {σ : List RC} {k : Nat}, k + σ.length ≤ n → rKs n σ = true → rW (rAd G') (rTy G') k σ = rW (rAd G) (rTy G) k σ
  | [], k, _, _ => rfl
  | c :: r, k, hl, hk => by
    have h1 : (rKc n c && rKs n r) = true := hk
    rw [Bool.and_eq_true] at h1
    have hl2 : k + (r.length + 1) ≤ n := hl
    show (rAd G' k, rE (rAd G') (rTy G') c) :: rW (rAd G') (rTy G') (k + 1) r = (rAd G k, rE (rAd G) (rTy G) c) :: rW (rAd G) (rTy G) (k + 1) r
    rw [h.2.2.2 k (Or.inl (by omega)), rE_ext h h1.1, rW_ext h (by omega) h1.2]
theorem rW_app (ad : Nat → Nat) (ty : Nat → ClassId) (c : RC) : ∀ (σ : List RC) (k : Nat), rW ad ty k (σ ++ [c]) = rW ad ty k σ ++ [(ad (k + σ.length), rE ad ty c)]
  | [], k => rfl
  | a :: r, k => by
    show (ad k, rE ad ty a) :: rW ad ty (k + 1) (r ++ [c]) = (ad k, rE ad ty a) :: (rW ad ty (k + 1) r ++ [(ad (k + (r.length + 1)), rE ad ty c)])
    rw [rW_app ad ty c r (k + 1), show k + 1 + r.length = k + (r.length + 1) by omega]
theorem rIm_ext {n : Nat} {G G' : RG} {U : State} {H : Heap} (h : rExt n G G') (k : rIm G U H) : rIm G' U H := by
  obtain ⟨D, ty, ad, lo⟩ := G
  obtain ⟨D', ty', ad', lo'⟩ := G'
  obtain ⟨e1, e2, e3, hk⟩ := h
  have e1 : D' = D := e1
  have e2 : ty' = ty := e2
  have e3 : lo' = lo := e3
  subst e1
  subst e2
  subst e3
  have E : ∀ q : Nat, 50 ≤ q → ad q = ad' q := fun q hq => (hk q (Or.inr hq)).symm
  obtain ⟨h1, h2, h3, h4, h5, h6, h7, h8, h9, h10, h11, h12, h13, h14, h15, h16, h17, h18⟩ := k
  refine ⟨h1, h2, ?_, ?_, ?_, ?_, ?_, ?_, ?_, ?_, h11, h12, h13, h14, h15, h16, h17, ?_⟩
  · have h3 : va_Z "RingdaysModel" "DAYS" "[Ljava/lang/String;" (.ref (ad 50)) (rA (D', ty', ad', lo')) U H := h3
    rw [E 50 (by decide)] at h3
    exact h3
  · have h4 : va_T (.object "java/lang/String") (ad 50) 7 (fun j => .ref (ad (126 + j))) (rA (D', ty', ad', lo')) U H := h4
    rw [E 50 (by decide), show (fun j => Value.ref (ad (126 + j))) = fun j => Value.ref (ad' (126 + j)) from funext fun j => by rw [E _ (by omega)]] at h4
    exact h4
  · have h5 : va_Z "RingdaysModel" "MONTHS" "[Ljava/lang/String;" (.ref (ad 51)) (rA (D', ty', ad', lo')) U H := h5
    rw [E 51 (by decide)] at h5
    exact h5
  · have h6 : va_T (.object "java/lang/String") (ad 51) 12 (fun j => .ref (ad (133 + j))) (rA (D', ty', ad', lo')) U H := h6
    rw [E 51 (by decide), show (fun j => Value.ref (ad (133 + j))) = fun j => Value.ref (ad' (133 + j)) from funext fun j => by rw [E _ (by omega)]] at h6
    exact h6
  · have h7 : va_Z "RingdaysModel" "LENGTHS" "[I" (.ref (ad 52)) (rA (D', ty', ad', lo')) U H := h7
    rw [E 52 (by decide)] at h7
    exact h7
  · have h8 : va_T .int (ad 52) 12 (fun j => .int (rLen j)) (rA (D', ty', ad', lo')) U H := h8
    rw [E 52 (by decide)] at h8
    exact h8
  · intro i hi
    have h9 : vk_R (rStr.getD i ("", 0, "")).1 (rStr.getD i ("", 0, "")).2.1 (rStr.getD i ("", 0, "")).2.2 (ad (100 + i)) U := h9 i hi
    rw [E _ (by omega)] at h9
    exact h9
  · intro i hi
    have h10 : va_O "java/lang/String" (ad (100 + i)) (rA (D', ty', ad', lo')) U H ∧ va_OF "java/lang/String" "coder" "B" (.int 0) (ad (100 + i)) (rA (D', ty', ad', lo')) U H ∧ va_OF "java/lang/String" "value" "[B" (.ref (ad (200 + i))) (ad (100 + i)) (rA (D', ty', ad', lo')) U H ∧ va_T .byte (ad (200 + i)) (rSLen.getD i 0) (fun j => .int ((rSByt.getD i []).getD j 0)) (rA (D', ty', ad', lo')) U H := h10 i hi
    rw [E (100 + i) (by omega), E (200 + i) (by omega)] at h10
    exact h10
  · have h18 : va_T .int (ad 60) lo'.2.1 (fun j => .int (lo'.2.2 j)) (rA (D', ty', ad', lo')) U H := h18
    rw [E 60 (by decide)] at h18
    exact h18
theorem rK_ext {n : Nat} {G G' : RG} {U : State} (h : rExt n G G') (k : va_K (rDD G) rCl (rTys G) U) : va_K (rDD G') rCl (rTys G') U := by
  obtain ⟨D, ty, ad, lo⟩ := G
  obtain ⟨D', ty', ad', lo'⟩ := G'
  obtain ⟨e1, e2, e3, hk⟩ := h
  have e1 : D' = D := e1
  have e2 : ty' = ty := e2
  subst e1
  subst e2
  exact k
theorem rA_ext {n : Nat} {G G' : RG} (h : rExt n G G') : rA G' = rA G := by
  unfold rA rLo
  rw [h.2.2.1]
theorem rDD_ext {n : Nat} {G G' : RG} (h : rExt n G G') : rDD G' = rDD G := h.1
theorem rFr_ext {n : Nat} {G G' : RG} {p : Program} {l : Launch} {R : Room} {s : State} {m : MethodId} {args : Array Value} {meth : Method} {c : Code} {cc : ByteArray} {own : String} {nL : Nat} {Ts : List Cond} {hh : List (Nat × Nat × Nat × Nat)} {b0 mcO : Nat} (h : rExt n G G') (F : rFr G p l R s m args meth c cc own nL Ts hh b0 mcO) : rFr G' p l R s m args meth c cc own nL Ts hh b0 mcO := by
  obtain ⟨f1, f2, f3, f4, f5, f6, f7, f8, f9⟩ := F
  refine ⟨f1, f2, f3, f4, f5, rK_ext h f6, rIm_ext h f7, ?_, f9⟩
  rw [rA_ext h]
  exact f8
/-- the place n is given out -/
def rGw (G : RG) (n q : Nat) : RG := (G.1, G.2.1, fun k => bif Nat.beq k n then q else rAd G k, G.2.2.2)
theorem rGw_ext {G : RG} {n q : Nat} (hn : n < 50) : rExt n G (rGw G n q) := by
  refine ⟨rfl, rfl, rfl, fun k hk => ?_⟩
  show (bif Nat.beq k n then q else rAd G k) = rAd G k
  rw [show Nat.beq k n = false from by
    cases h : Nat.beq k n
    · rfl
    · have := Nat.eq_of_beq_eq_true h
      omega]
  rfl
theorem rGw_at {G : RG} {n q : Nat} : rAd (rGw G n q) n = q := by
  show (bif Nat.beq n n then q else rAd G n) = q
  rw [Nat.beq_refl]
  rfl
-- contracts
def rQX (n : Nat) (G : RG) (Q : RQ) : Array Value → State → Outcome → State → Prop := fun _ st o t =>
  ∃ (G' : RG) (r : Option AV) (σ : List RC), rExt n G G' ∧ o = .returned (r.map (rv (rAd G'))) ∧ Q (.inl r) σ ∧ va_P (rDD G') rCl (rW (rAd G') (rTy G') 0 σ) t.heap ∧ va_D (rA G') (rW (rAd G') (rTy G') 0 σ) ∧ va_F (rA G) st t
def rXF : String → State → State → Prop := fun _ _ _ => False
def rMetX (n : Nat) (y : MethodName) (ws : List Cond) (rm : Room) (mc : Nat) (M : RM) : Prop :=
  ∀ (G : RG) (l : Launch), l.stackTraces = false → ∀ (as : List AV) (σ : List RC) (Q : RQ), M as σ Q → vx_Met l y ws rm (rPc G as σ) (rQX n G Q) rXF mc (12 * mc) (rA G)
def rZX (n0 : Nat) (G0 : RG) (Q : RQ) (mcO : Nat) (κ : Option FieldType ⊕ Nat) (p : Program) (l : Launch) (e : Env) (R : Room) (s : State) (m : MethodId) (args : Array Value) (below : List Frame) (meth : Method) (c : Code) (nL : Nat) (Z : State → Prop) : Prop := match κ with
  | .inl ret => Z = vx_MQ below (rQX n0 G0 Q) rXF args s mcO (12 * mcO) (rA G0) ∧ meth.sig.returnType = ret
  | .inr x => ∀ G : RG, rExt n0 G0 G → ∀ (lv : RLv) (σ : List RC) (b : Nat), rLw lv 0 → Q (.inr b) σ → rS G p l e R s m args below meth c nL 0 Z x lv [] σ b
/-- a row's step is paid, where things are made -/
def rOkX (n0 : Nat) (cc : ByteArray) (own : String) (nL : Nat) (Ts : List Cond) (R : Room) (mcO : Nat) (κ : Option FieldType ⊕ Nat) (nm : String) (J : Nat → Nat) (pc npc : Nat) (t : RT) : Prop :=
  ∀ (G0 G : RG), rExt n0 G0 G → ∀ (p : Program) (l : Launch) (e : Env) (s : State) (m : MethodId) (args : Array Value) (below : List Frame) (meth : Method) (c : Code) (Z : State → Prop) (Q : RQ),
    rFr G p l R s m args meth c cc own nL Ts [] 0 mcO → rZX n0 G0 Q mcO κ p l e R s m args below meth c nL Z → meth.name = nm → ∀ (KN : RK) (KJ : Nat → RK),
    (∀ G' : RG, rExt n0 G0 G' → ∀ lv st σ b, KN lv st σ b → rS G' p l e R s m args below meth c nL 0 Z npc lv st σ b) → (∀ G' : RG, rExt n0 G0 G' → ∀ o lv st σ b, KJ o lv st σ b → rS G' p l e R s m args below meth c nL 0 Z (J o) lv st σ b) →
    ∀ lv st σ b, t Q KN KJ lv st σ b → rS G p l e R s m args below meth c nL 0 Z pc lv st σ b
theorem rOkX.of {n0 : Nat} {cc : ByteArray} {own : String} {nL : Nat} {Ts : List Cond} {R : Room} {mcO : Nat} {κ : Option FieldType ⊕ Nat} {nm : String} {J : Nat → Nat} {pc npc : Nat} {t : RT} (h : rOk (fun _ => True) cc own nL Ts R [] mcO (.inr (0, 0)) J pc npc t) (hQ : ∀ Q Q' : RQ, t Q = t Q') : rOkX n0 cc own nL Ts R mcO κ nm J pc npc t := by
  intro G0 G hx p l e s m args below meth c Z Q F hZ _ KN KJ hN hJ lv st σ b ht
  refine h G trivial p l e s m args below meth c 0 Z (fun _ _ => False) F (fun _ _ _ _ hf => hf.elim) KN KJ (hN G hx) (hJ G hx) lv st σ b ?_
  rw [hQ _ Q]
  exact ht
theorem rEv_okX {n0 : Nat} {cc : ByteArray} {own : String} {nL : Nat} {Ts : List Cond} {R : Room} {mcO : Nat} {κ : Option FieldType ⊕ Nat} {nm : String} {tab : List RT} {ps : List Nat} (hA : rAll (rOkX n0 cc own nL Ts R mcO κ nm (fun o => ps.getD o 0)) ps tab) {G0 : RG} {p : Program} {l : Launch} {e : Env} {s : State} {m : MethodId} {args : Array Value} {below : List Frame} {meth : Method} {c : Code} {Z : State → Prop} {Q : RQ}
    (F : rFr G0 p l R s m args meth c cc own nL Ts [] 0 mcO) (hZ : rZX n0 G0 Q mcO κ p l e R s m args below meth c nL Z) (hnm : meth.name = nm) : ∀ (n k : Nat) (G : RG), rExt n0 G0 G → ∀ (lv : RLv) (st : List AV) (σ : List RC) (b : Nat), rEv tab Q n (tab.drop k) lv st σ b → rS G p l e R s m args below meth c nL 0 Z (ps.getD k 0) lv st σ b
  | 0, k, G, _, lv, st, σ, b, h => (show False from h).elim
  | n + 1, k, G, hx, lv, st, σ, b, h => by
    have h : (match tab.drop k with
      | t :: r => t Q (rEv tab Q n r) (fun o => rEv tab Q n (rdrop o tab)) lv st σ b
      | [] => False) := h
    split at h
    · next t r he =>
      obtain ⟨h1, h2⟩ := rAll_at hA k t r he
      refine h1 G0 G hx p l e s m args below meth c Z Q (rFr_ext hx F) hZ hnm _ _ ?_ ?_ lv st σ b h
      · intro G' hx' lv2 st2 σ2 b2 h3
        rw [h2] at h3
        exact rEv_okX hA F hZ hnm n (k + 1) G' hx' lv2 st2 σ2 b2 h3
      · intro G' hx' o lv2 st2 σ2 b2 h3
        rw [rdrop_eq] at h3
        exact rEv_okX hA F hZ hnm n o G' hx' lv2 st2 σ2 b2 h3
    · exact h.elim
theorem rMethX_ok {n0 : Nat} {cc : ByteArray} {own : String} {nL : Nat} {mcO : Nat} {y : MethodName} {ps : List Nat} {tab : List RT} {fuel : Nat} {ret : Option FieldType} {rm : Room} (hy : plainFor y = true) (hc : y.cls = own) (hrc : rm.cells = mcO) (hrs : rm.slots = 12 * mcO) (hp0 : ps.getD 0 0 = 0)
    (hA : rAll (rOkX n0 cc own nL (Cond.code y cc nL ret :: rT) rm mcO (.inl ret) y.name (fun o => ps.getD o 0)) ps tab) : rMetX n0 y (Cond.code y cc nL ret :: rT) rm mcO (rMeth tab fuel nL) := by
  intro G l hl as σ Q h
  refine rofW (cc := cc) (maxL := nL) (ret := ret) hy rfl ?_
  intro p e s m args below meth c s₁ B hml htb hv
  obtain ⟨rfl, hP, hD, hK, hI, hlo⟩ := hv
  unfold rMeth at h
  split at h
  · next hb =>
    rw [rforce_eq] at h
    have hle := lv_entry (as.map (rv (rAd G))) (n := nL) (by rw [rsl_len]; exact Nat.le_of_ble_eq_true hb)
    rw [lg_entry_eq]
    have F : rFr G p l (headSpec (Cond.code y cc nL ret :: rT) rm).room s m (as.map (rv (rAd G))).toArray meth c cc own nL (Cond.code y cc nL ret :: rT) [] 0 mcO := by
      refine ⟨B.exec, B.bytes, hml, by rw [← hc]; exact findClass_of_methodNamed B.named, atoms_spec (ws := Cond.code y cc nL ret :: rT) B.pre, hK, hI, fun q hq => Nat.le_trans hlo hq, B.notSynchronized, hl, by show 0 + mcO ≤ rm.cells; omega, by show 12 * (0 + mcO) ≤ rm.slots; omega, ?_⟩
      cases ht : c.exceptionTable.toList with
      | nil => rfl
      | cons x r => exact (htb x (by rw [ht]; exact List.mem_cons_self)).elim
    have hZ : rZX n0 G Q mcO (.inl ret) p l e (headSpec (Cond.code y cc nL ret :: rT) rm).room s m (as.map (rv (rAd G))).toArray below meth c nL (vx_MQ below (rQX n0 G Q) rXF (as.map (rv (rAd G))).toArray s mcO (12 * mcO) (rA G)) := ⟨rfl, B.returns⟩
    have h2 := rEv_okX hA F hZ (name_of_methodNamed B.named B.method).1 fuel 0 G rExt.rf (rent 0 as) [] σ 0 (e := e) h s.heap [] _ hP hD va_S.rf (by rw [rent_eq]; exact hle)
    rw [hp0] at h2
    exact h2
  · exact h.elim
end RKXA
