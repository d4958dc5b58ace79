/-! ===== BEGIN new T[n][m]: the outer array a place, the inner ones among the pooled ===== -/
/-- f, but v at every address of l -/
def vr_up {α : Type} (f : Nat → α) (l : List Nat) (v : α) : Nat → α := fun a => if a ∈ l then v else f a
theorem vr_up_in {α : Type} {f : Nat → α} {l : List Nat} {v : α} {a : Nat} (h : a ∈ l) : vr_up f l v a = v := if_pos h
theorem vr_up_ne {α : Type} {f : Nat → α} {l : List Nat} {v : α} {a : Nat} (h : a ∉ l) : vr_up f l v a = f a := if_neg h
theorem vr_rows {L l : List Nat} {f : Nat → va_E} {e : va_E} (h : ∀ a, a ∈ l → a ∉ L) : va_pl L f ++ l.map (fun a => (a, e)) = va_pl (L ++ l) (vr_up f l e) := by
  unfold va_pl
  rw [List.map_append]
  congr 1
  · apply List.map_congr_left
    intro a ha
    rw [vr_up_ne (fun q => h a q ha)]
  · apply List.map_congr_left
    intro a ha
    rw [vr_up_in ha]
theorem vr_lay {X rows : va_W} {x : Nat × va_E} {pl : va_W} {D : va_G} {cl : List vw_C} {H : Heap} (hP : va_P D cl (((X ++ pl) ++ [x]) ++ rows) H) : va_P D cl ((X ++ [x]) ++ (pl ++ rows)) H := by
  rw [List.append_assoc (X ++ pl)] at hP
  have h := va_P.swap hP
  rw [← List.append_assoc X] at h
  have h2 := va_P.swap h
  rw [List.append_assoc (X ++ [x])] at h2
  exact h2
theorem vr_layD {X rows : va_W} {x : Nat × va_E} {pl : va_W} {A : Nat → Prop} (hD : va_D A (((X ++ pl) ++ [x]) ++ rows)) : va_D A ((X ++ [x]) ++ (pl ++ rows)) := by
  rw [List.append_assoc (X ++ pl)] at hD
  have h := va_D.swap hD
  rw [← List.append_assoc X] at h
  have h2 := va_D.swap h
  rw [List.append_assoc (X ++ [x])] at h2
  exact h2
theorem vr_outer (c : ClassId) (N h0 : Nat) : ∀ i : Nat, Jvm.Free.Multi.outerC c N h0 i = arrV c N (fun j => va_rf (if j < i then some (h0 + 1 + j) else none))
  | 0 => by
    show ({ cls := c, slots := Array.replicate N .null, vm := .none } : Cell) = _
    rw [arrV_new]
    refine congrArg (arrV c N) (funext fun j => ?_)
    simp [va_rf]
  | i + 1 => by
    show (Jvm.Free.Multi.outerC c N h0 i).setSlot i (.ref (h0 + 1 + i)) = _
    rw [vr_outer c N h0 i, arrV_store]
    refine congrArg (arrV c N) (funext fun j => ?_)
    by_cases e : j = i
    · subst e
      simp [updV, va_rf]
    · by_cases h : j < i
      · simp [updV, e, h, Nat.lt_succ_of_lt h]
      · simp [updV, e, h, show ¬ j < i + 1 by omega]
section VGM
variable {p : Program} {l : Launch} {e : Env} {R : Room} {s : State} {m : MethodId} {args : Array Value} {below : List Frame} {meth : Method} {c : Code} {H : Heap} {locs : List Loc} {cells slots : Nat} {Q : State → Prop}
variable {cc : ByteArray} {pc : Nat} {ls : Array Slot} {rest : List Value} {D : va_G} {cl : List vw_C} {A : Nat → Prop} {a : Nat} {tys : List (ClassId × FieldType)} {ws : va_W} {H0 : Heap}
theorem va_mna {X : va_W} {L : List Nat} {f : Nat → va_E} {cc : ByteArray} (hexec : p.tables.exec = Jvm.exec) (hb : c.code = cc) {own : String} {index : Nat} {ty : FieldType} {cy : ClassId} (hown : s.vm.findClass own = some m.cls) (hclink : (Cond.classLink own index ("[" ++ (FieldType.array ty).toString)).before args s = true) (hover : (Cond.arrayOver (.array ty)).before args s = true) (harr : (Cond.arrayClass ty).before args s = true) (hcy : s.vm.findClass (FieldType.array ty).toString = some cy)
    (hK : va_K D cl tys s) (hP : va_P D cl (X ++ va_pl L f) H) (hD : va_D A (X ++ va_pl L f)) (hS : va_S A H0 H locs) (hA : ∀ q, H0.size ≤ q → A q) {n k : Int32} {N' K' : Nat} {z : vp_A} (hn : ¬ n < 0) (hk : ¬ k < 0) (hN : n.toNatClampNeg = N') (hM : k.toNatClampNeg = K')
    (hb1 : N' * 4 ≤ 536870912) (hb2 : K' * componentBytes ty ≤ 536870912) (hb3 : K' ≤ 536870912) (hdf : fits ty (defaultValue ty) = true) (hdd : (defaultValue ty).isDefault = true) (hcells : cells + (1 + N') ≤ R.cells) (hslots : slots + (N' + N' * K') ≤ R.slots) (hz : ∀ c : ClassId, Jvm.Free.Multi.innerC c K' (defaultValue ty) = vp_cell c z) (hdg : decode cc pc = .ok (.multianewarray index 2, 4))
    (kk : ∀ (q : Nat) (r : Nat → Nat) (cA : ClassId) (H1 : Heap), (∀ i j : Nat, i < N' → j < N' → r i = r j → i = j) → (∀ i : Nat, i < N' → r i ∉ L) → va_K D cl (tys ++ [(cA, .array ty)]) s →
      va_P D cl ((X ++ [(q, .inl (cA, N', .inr (.inr (.inr (.inr (fun i => if i < N' then some (r i) else none))))))]) ++ va_pl (L ++ (List.range N').map r) (vr_up f ((List.range N').map r) (.inl (cy, z)))) H1 → va_D A ((X ++ [(q, .inl (cA, N', .inr (.inr (.inr (.inr (fun i => if i < N' then some (r i) else none))))))]) ++ va_pl (L ++ (List.range N').map r) (vr_up f ((List.range N').map r) (.inl (cy, z)))) → va_S A H0 H1 locs →
      W p l e R s m args below meth c H1 locs (cells + 1 + N') (slots + N' + N' * K') Q (F0 m (pc + 4) ls (.ref q :: rest))) : W p l e R s m args below meth c H locs cells slots Q (F0 m pc ls (.int k :: .int n :: rest)) := by
  subst hN
  subst hM
  intro T hT Xs
  obtain ⟨vm₁, cA, comp, -, fA, fC, hO, -, X', step⟩ := Xs.multianewarray2F hexec hown hclink hover harr (g := F0 m pc ls (.int k :: .int n :: rest)) rfl (by rw [hb]; exact hdg) rfl hn hk hb1 hb2 hb3 hdf hdd hcells hslots
  have ec : some cy = some comp := hcy.symm.trans fC
  cases ec
  generalize hF : Jvm.Free.Multi.fill (T.setVm vm₁) cA cy n.toNatClampNeg k.toNatClampNeg (defaultValue ty) n.toNatClampNeg = F at X' step
  have hTh : (T.setVm vm₁).heap = H := hT
  obtain ⟨f1, f2, -, -⟩ := Jvm.Free.Multi.fill_facts (T.setVm vm₁) cA cy n.toNatClampNeg k.toNatClampNeg (defaultValue ty) n.toNatClampNeg
  rw [hF, hTh] at f1 f2
  have hold : ∀ x : Nat, x < H.size → F.heap[x]? = H[x]? := fun x hx => by
    have := Jvm.Free.Multi.fill_old (T.setVm vm₁) cA cy n.toNatClampNeg k.toNatClampNeg (defaultValue ty) (a := x) (by rw [hTh]; exact hx) n.toNatClampNeg
    rw [hF, hTh] at this
    exact this
  have hrow : ∀ j : Nat, j < n.toNatClampNeg → F.heap[H.size + 1 + j]? = some (vp_cell cy z) := fun j hj => by
    have := Jvm.Free.Multi.fill_inner (T.setVm vm₁) cA cy n.toNatClampNeg k.toNatClampNeg (defaultValue ty) n.toNatClampNeg j hj
    rw [hF, hTh, hz] at this
    exact this
  have hout : Jvm.Free.Multi.outerC cA n.toNatClampNeg H.size n.toNatClampNeg = vp_cell cA (n.toNatClampNeg, .inr (.inr (.inr (.inr (fun i => if i < n.toNatClampNeg then some (H.size + 1 + i) else none))))) := by
    rw [vp_cell_q]
    exact vr_outer cA n.toNatClampNeg H.size n.toNatClampNeg
  rw [hout] at f2
  have hlt : ∀ a, a ∈ L → a < H.size := fun a ha => by
    obtain ⟨k9, hk9⟩ := va_pl_get (X := X) (f := f) ha
    exact (hP k9 _ hk9).lt
  have hnl : ∀ i : Nat, i < n.toNatClampNeg → H.size + 1 + i ∉ L := fun i _ h => by
    have := hlt _ h
    omega
  have hnm : ∀ a, a ∈ (List.range n.toNatClampNeg).map (fun i => H.size + 1 + i) → a ∉ L := fun a ha h => by
    obtain ⟨i, -, rfl⟩ := List.mem_map.mp ha
    have := hlt _ h
    omega
  have hP0 : va_P D cl (X ++ va_pl L f) F.heap := hP.kept (fun k9 x hx => hold x.1 ((hP k9 x hx).lt))
  have hP1 : va_P D cl ((X ++ va_pl L f) ++ [(H.size, .inl (cA, n.toNatClampNeg, .inr (.inr (.inr (.inr (fun i => if i < n.toNatClampNeg then some (H.size + 1 + i) else none))))))]) F.heap := hP0.app (fun k9 x hx => by
    have h0 : k9 < 1 := (List.getElem?_eq_some_iff.mp hx).1
    rw [show k9 = 0 by omega] at hx
    cases hx
    exact f2)
  have hP2 : va_P D cl (((X ++ va_pl L f) ++ [(H.size, .inl (cA, n.toNatClampNeg, .inr (.inr (.inr (.inr (fun i => if i < n.toNatClampNeg then some (H.size + 1 + i) else none))))))]) ++ ((List.range n.toNatClampNeg).map (fun i => H.size + 1 + i)).map (fun a => (a, .inl (cy, z)))) F.heap := hP1.app (fun k9 x hx => by
    obtain ⟨a, ha, rfl⟩ := List.mem_map.mp (List.mem_of_getElem? hx)
    obtain ⟨i, hi, rfl⟩ := List.mem_map.mp ha
    exact hrow i (List.mem_range.mp hi))
  have hD2 : va_D A (((X ++ va_pl L f) ++ [(H.size, .inl (cA, n.toNatClampNeg, .inr (.inr (.inr (.inr (fun i => if i < n.toNatClampNeg then some (H.size + 1 + i) else none))))))]) ++ ((List.range n.toNatClampNeg).map (fun i => H.size + 1 + i)).map (fun a => (a, .inl (cy, z)))) := by
    have hD1 := hD.push (e := .inl (cA, n.toNatClampNeg, .inr (.inr (.inr (.inr (fun i => if i < n.toNatClampNeg then some (H.size + 1 + i) else none)))))) hP rfl (hA _ hS.1)
    generalize hW1 : (X ++ va_pl L f) ++ [(H.size, .inl (cA, n.toNatClampNeg, .inr (.inr (.inr (.inr (fun i => if i < n.toNatClampNeg then some (H.size + 1 + i) else none))))))] = W1 at hD1 hP1 ⊢
    have hle : ∀ (k9 : Nat) (x : Nat × va_E), W1[k9]? = some x → x.1 ≤ H.size := fun k9 x hx => by
      rw [← hW1] at hx
      by_cases hl : k9 < (X ++ va_pl L f).length
      · rw [List.getElem?_append_left hl] at hx
        exact Nat.le_of_lt ((hP k9 x hx).lt)
      · rw [List.getElem?_append_right (by omega)] at hx
        have h0 : k9 - (X ++ va_pl L f).length < 1 := (List.getElem?_eq_some_iff.mp hx).1
        rw [show k9 - (X ++ va_pl L f).length = 0 by omega] at hx
        cases hx
        exact Nat.le_refl _
    have hr : ∀ (k9 : Nat) (x : Nat × va_E), (((List.range n.toNatClampNeg).map (fun i => H.size + 1 + i)).map (fun a => ((a, .inl (cy, z)) : Nat × va_E)))[k9]? = some x → x.1 = H.size + 1 + k9 := fun k9 x hx => by
      rw [List.getElem?_map, List.getElem?_map] at hx
      by_cases h9 : k9 < n.toNatClampNeg
      · rw [List.getElem?_range h9] at hx
        cases hx
        rfl
      · have hn0 : (List.range n.toNatClampNeg)[k9]? = none := List.getElem?_eq_none (by rw [List.length_range]; omega)
        rw [hn0] at hx
        cases hx
    refine ⟨fun i j x y hi hj hxy => ?_, fun k9 x hx => ?_⟩
    · by_cases h1 : i < W1.length <;> by_cases h2 : j < W1.length
      · rw [List.getElem?_append_left h1] at hi
        rw [List.getElem?_append_left h2] at hj
        exact hD1.1 i j x y hi hj hxy
      · rw [List.getElem?_append_left h1] at hi
        rw [List.getElem?_append_right (by omega)] at hj
        have := hle _ _ hi
        have := hr _ _ hj
        omega
      · rw [List.getElem?_append_right (by omega)] at hi
        rw [List.getElem?_append_left h2] at hj
        have := hle _ _ hj
        have := hr _ _ hi
        omega
      · rw [List.getElem?_append_right (by omega)] at hi hj
        have := hr _ _ hi
        have := hr _ _ hj
        omega
    · by_cases h1 : k9 < W1.length
      · rw [List.getElem?_append_left h1] at hx
        exact hD1.2 k9 x hx
      · rw [List.getElem?_append_right (by omega)] at hx
        have := hr _ _ hx
        exact hA _ (by have := hS.1; omega)
  have hAr : ArrOfT s cA (.array ty) := fun N9 z9 => by
    obtain ⟨-, k9, hk9, cm9, hkk9⟩ := (hO 0 0 0).1
    exact ⟨(fun q hq => by cases hq), k9, hk9, cm9, hkk9⟩
  have hK2 : va_K D cl (tys ++ [(cA, .array ty)]) s := ⟨hK.1, fun k9 x hx => by
    by_cases hl : k9 < tys.length
    · rw [List.getElem?_append_left hl] at hx
      exact hK.2 k9 x hx
    · rw [List.getElem?_append_right (by omega)] at hx
      have h0 : k9 - tys.length < 1 := (List.getElem?_eq_some_iff.mp hx).1
      rw [show k9 - tys.length = 0 by omega] at hx
      cases hx
      exact ⟨hAr, fA⟩⟩
  obtain ⟨t, a1, b1⟩ := kk H.size (fun i => H.size + 1 + i) cA F.heap (fun i j _ _ h => by have h9 : H.size + 1 + i = H.size + 1 + j := h; omega) hnl hK2 (by rw [← vr_rows hnm]; exact vr_lay hP2) (by rw [← vr_rows hnm]; exact vr_layD hD2) ⟨by rw [f1]; have := hS.1; omega, fun x h1 h2 => (hold x (Nat.lt_of_lt_of_le h1 hS.1)).trans (hS.2.1 x h1 h2), hS.2.2⟩ F rfl X'
  refine ⟨t, step t ?_, b1⟩
  have e : T.heap.size = H.size := by rw [hT]
  rw [e]
  exact a1
end VGM
section RKXF
/-! Constructors: rows, rows of rows; what they ask besides. -/
def rAO (U : State) : Prop := (Cond.arrayOver (.array .int)).before #[] U = true
def rIdx (vm : Vm) (comp : ClassId) : Option Nat := vm.classes.findIdx? fun (x : Class) => match x.kind with | .array component _ => component == comp | _ => false
theorem rIdx_bare (vm : Vm) (comp : ClassId) : rIdx vm.bare comp = rIdx vm comp := by
  unfold rIdx
  simp only [Vm.bare, Array.findIdx?_map]
  rfl
theorem rAO.spec {s : State} (h : rAO s) :
    ∃ comp c k, s.vm.findClass (FieldType.array .int).toString = some comp ∧ rIdx s.vm comp = some c ∧ s.vm.classes[c]? = some k ∧ k.kind = .array comp (.array .int) ∧ s.vm.findClass ("[" ++ (FieldType.array .int).toString) = some c := by
  unfold rAO Cond.before at h
  simp only [Cond.holds, Cond.value, beq_iff_eq] at h
  cases hc : s.vm.findClass (FieldType.array .int).toString with
  | none => simp [hc] at h
  | some comp =>
    simp only [hc, Option.bind_some, Option.bind_eq_some_iff, Option.map_eq_some_iff] at h
    obtain ⟨c, hi, k, hk, hb⟩ := h
    obtain ⟨hlt, hp, -⟩ := Array.findIdx?_eq_some_iff_getElem.mp hi
    have hkk : s.vm.classes[c] = k := (Array.getElem?_eq_some_iff.mp hk).2
    rw [hkk] at hp
    cases hkind : k.kind with
    | array component ty =>
      rw [hkind] at hb hp
      simp at hb hp
      obtain ⟨h1, h2⟩ := hb
      subst h1
      subst hp
      exact ⟨_, c, k, rfl, hi, hk, hkind, h2⟩
    | _ => rw [hkind] at hb; simp at hb
theorem rAO.moved {u U : State} (hvm : u.vm.Alike U.vm) (h : rAO u) : rAO U := by
  obtain ⟨comp, c, k, h1, h2, h3, h4, h5⟩ := h.spec
  obtain ⟨k', hk', he⟩ := hvm.2.2 _ _ h3
  have hi : rIdx U.vm comp = some c := by
    rw [← rIdx_bare]
    first | rw [hvm.bare_eq] | rw [← hvm.bare_eq]
    rw [rIdx_bare]
    exact h2
  have hkind : k'.kind = .array comp (.array .int) := by rw [he]; exact h4
  have f1 : U.vm.findClass (FieldType.array .int).toString = some comp := by rw [hvm.findClass]; exact h1
  have f2 : U.vm.findClass ("[" ++ (FieldType.array .int).toString) = some c := by rw [hvm.findClass]; exact h5
  unfold rAO Cond.before Cond.holds
  simp only [Cond.value]
  rw [f1, Option.bind_some]
  refine (congrArg (fun o : Option Nat => (o.bind (fun c => (U.vm.classes[c]?).map fun (k : Class) => match k.kind with | .array _ ty => decide (ty = FieldType.array .int) && decide (U.vm.findClass ("[" ++ (FieldType.array .int).toString) = some c) | _ => false) == some true)) hi).trans ?_
  simp [hk', hkind, f2]
theorem arrV_congr {c : ClassId} {N : Nat} {f g : Nat → Value} (h : ∀ j : Nat, j < N → f j = g j) : arrV c N f = arrV c N g := by
  unfold arrV
  congr 1
  congr 1
  funext j
  exact h j.val j.isLt
theorem va_P.left {D : va_G} {cl : List vw_C} {a b : va_W} {H : Heap} (h : va_P D cl (a ++ b) H) : va_P D cl a H := fun k q hq => h k q (by rw [List.getElem?_append_left (List.getElem?_eq_some_iff.mp hq).1]; exact hq)
theorem va_P.right {D : va_G} {cl : List vw_C} {a b : va_W} {H : Heap} (h : va_P D cl (a ++ b) H) : va_P D cl b H := fun k q hq => h (a.length + k) q (by rw [List.getElem?_append_right (by omega), show a.length + k - a.length = k by omega]; exact hq)
theorem va_D.fst {A : Nat → Prop} {a b : va_W} (h : va_D A a) (e : a.map (·.1) = b.map (·.1)) : va_D A b := by
  have hlen : a.length = b.length := by have := congrArg List.length e; simpa using this
  have key : ∀ (k : Nat) (q : Nat × va_E), b[k]? = some q → ∃ q' : Nat × va_E, a[k]? = some q' ∧ q'.1 = q.1 := fun k q hq => by
    have h1 : (b.map (·.1))[k]? = some q.1 := by rw [List.getElem?_map, hq]; rfl
    rw [← e, List.getElem?_map] at h1
    cases ha : a[k]? with
    | none => rw [ha] at h1; cases h1
    | some q' => rw [ha] at h1; exact ⟨q', rfl, Option.some.inj h1⟩
  refine ⟨fun i j p q hi hj hpq => ?_, fun k q hq => ?_⟩
  · obtain ⟨p', h1, h2⟩ := key i p hi
    obtain ⟨q', h3, h4⟩ := key j q hj
    exact h.1 i j p' q' h1 h3 (by rw [h2, h4]; exact hpq)
  · obtain ⟨q', h1, h2⟩ := key k q hq
    rw [← h2]
    exact h.2 k q' h1
def tq_newA (n t0 mcO : Nat) : RT := fun _ K _ lv st σ b => match st with
  | .inl x :: r => match Nat.beq (rlen σ) n && (rKv n lv && (rKl n r && (rKs n σ && Nat.ble (b + 9) mcO))) with
    | true => (decide (x.2 < 0) = false ∧ x.2.toNatClampNeg ≤ 96) ∧ rforce (rapp σ (.inr (t0, x.2.toNatClampNeg, .inl (fun _ => 0)))) (fun σ' => K lv (rR n :: r) σ' (b + 9))
    | false => False
  | _ => False
def tq_mna (n K mcO : Nat) : RT := fun _ KK _ lv st σ b => match st with
  | .inl y :: .inl x :: r => match Nat.beq (rlen σ) n && (rKv n lv && (rKl n r && (rKs n σ && Nat.ble (b + 3) mcO))) with
    | true => (x.2 = 2 ∧ decide (y.2 < 0) = false ∧ y.2.toNatClampNeg = K) ∧ rforce (rapp (rapp (rapp σ (.inr (2, 2, .inr (fun j => n + 1 + j)))) (.inr (0, K, .inl (fun _ => 0)))) (.inr (0, K, .inl (fun _ => 0)))) (fun σ' => KK lv (rR n :: r) σ' (b + 3))
    | false => False
  | _ => False
def tq_xstop (x : Nat) : RT := fun Q _ _ lv st σ b => match st with
  | [] => rLw lv 0 ∧ Q (.inr b) σ
  | _ => False
section
variable {n0 : Nat} {cc : ByteArray} {own : String} {nL : Nat} {Ts : List Cond} {R : Room} {mcO : Nat} {κ : Option FieldType ⊕ Nat} {nm : String} {J : Nat → Nat} {pc npc : Nat}
theorem ro_newI {n : Nat} (hle : n0 ≤ n) (h50 : n < 50) (harr : Cond.arrayClass (newarray.typeOf .int) ∈ Ts) (hd : decode cc pc = .ok (.newarray .int, 2)) (hn : npc = pc + 2) : rOkX n0 cc own nL Ts R mcO κ nm J pc npc (tq_newA n 0 mcO) := by
  intro G0 G hx p l e s m args below meth c Z Q F hZ hnm KN KJ hN hJ lv st σ b h H locs ls hP hD hS hl
  subst hn
  unfold tq_newA at h
  split at h
  · next x r =>
    split at h
    · next hb =>
      rw [Bool.and_eq_true, Bool.and_eq_true, Bool.and_eq_true, Bool.and_eq_true] at hb
      obtain ⟨b1, b2, b3, b4, b5⟩ := hb
      have b1 := Nat.eq_of_beq_eq_true b1
      have b5 := Nat.le_of_ble_eq_true b5
      rw [rlen_eq] at b1
      obtain ⟨⟨o1, o2⟩, h⟩ := h
      rw [rforce_eq, rapp_eq] at h
      obtain ⟨f1, f2, f3, f4, f5, f6, f7, f8, f9, f10, f11, f12, f13⟩ := id F
      refine va_newa (atype := .int) (ty := .int) (a0 := (x.2.toNatClampNeg, .inl (fun _ => 0))) f1 f2 (f5 _ harr) rfl f6 hP hD hS f8 (fun _ => rfl) (of_decide_eq_false o1) rfl (by show x.2.toNatClampNeg * 4 ≤ 536870912; omega) (by omega) (by omega) hd (fun q cA H1 hK1 hP1 hD1 hS1 => ?_)
      have hcA : cA = rTy G 0 := Option.some.inj ((show s.vm.findClass _ = some cA from (hK1.2 4 _ rfl).2).symm.trans (show s.vm.findClass _ = some (rTy G 0) from (f6.2 0 _ rfl).2))
      subst hcA
      have hx2 : rExt n G (rGw G n q) := rGw_ext h50
      have hw := rnew_world (q := q) (D := rDD G) (H1 := H1) (c := .inr (0, x.2.toNatClampNeg, .inl (fun _ => 0))) (e := .inl (rTy G 0, x.2.toNatClampNeg, .inl (fun _ => 0))) h50 b1 b4 rfl
      have k := hN (rGw G n q) (hx.tr (hx2.le hle)) lv (rR n :: r) (σ ++ [.inr (0, x.2.toNatClampNeg, .inl (fun _ => 0))]) (b + 9) h H1 locs ls (by rw [hw]; exact hP1) (by rw [hw]; exact hD1) hS1 (by rw [rl_ext hx2 b2]; exact hl)
      have e1 : (rR n :: r).map (rv (rAd (rGw G n q))) = .ref q :: r.map (rv (rAd G)) := by
        rw [List.map_cons, rmap_ext hx2 b3]
        show Value.ref (rAd (rGw G n q) n) :: _ = _
        rw [rGw_at]
      rw [e1] at k
      exact W.widen (by omega) (by omega) k
    · exact h.elim
  · exact h.elim
theorem ro_newZ {n : Nat} (hle : n0 ≤ n) (h50 : n < 50) (harr : Cond.arrayClass (newarray.typeOf .boolean) ∈ Ts) (hd : decode cc pc = .ok (.newarray .boolean, 2)) (hn : npc = pc + 2) : rOkX n0 cc own nL Ts R mcO κ nm J pc npc (tq_newA n 1 mcO) := by
  intro G0 G hx p l e s m args below meth c Z Q F hZ hnm KN KJ hN hJ lv st σ b h H locs ls hP hD hS hl
  subst hn
  unfold tq_newA at h
  split at h
  · next x r =>
    split at h
    · next hb =>
      rw [Bool.and_eq_true, Bool.and_eq_true, Bool.and_eq_true, Bool.and_eq_true] at hb
      obtain ⟨b1, b2, b3, b4, b5⟩ := hb
      have b1 := Nat.eq_of_beq_eq_true b1
      have b5 := Nat.le_of_ble_eq_true b5
      rw [rlen_eq] at b1
      obtain ⟨⟨o1, o2⟩, h⟩ := h
      rw [rforce_eq, rapp_eq] at h
      obtain ⟨f1, f2, f3, f4, f5, f6, f7, f8, f9, f10, f11, f12, f13⟩ := id F
      refine va_newa (atype := .boolean) (ty := .boolean) (a0 := (x.2.toNatClampNeg, .inl (fun _ => 0))) f1 f2 (f5 _ harr) rfl f6 hP hD hS f8 (fun _ => rfl) (of_decide_eq_false o1) rfl (by show x.2.toNatClampNeg * 1 ≤ 536870912; omega) (by omega) (by omega) hd (fun q cA H1 hK1 hP1 hD1 hS1 => ?_)
      have hcA : cA = rTy G 1 := Option.some.inj ((show s.vm.findClass _ = some cA from (hK1.2 4 _ rfl).2).symm.trans (show s.vm.findClass _ = some (rTy G 1) from (f6.2 1 _ rfl).2))
      subst hcA
      have hx2 : rExt n G (rGw G n q) := rGw_ext h50
      have hw := rnew_world (q := q) (D := rDD G) (H1 := H1) (c := .inr (1, x.2.toNatClampNeg, .inl (fun _ => 0))) (e := .inl (rTy G 1, x.2.toNatClampNeg, .inl (fun _ => 0))) h50 b1 b4 rfl
      have k := hN (rGw G n q) (hx.tr (hx2.le hle)) lv (rR n :: r) (σ ++ [.inr (1, x.2.toNatClampNeg, .inl (fun _ => 0))]) (b + 9) h H1 locs ls (by rw [hw]; exact hP1) (by rw [hw]; exact hD1) hS1 (by rw [rl_ext hx2 b2]; exact hl)
      have e1 : (rR n :: r).map (rv (rAd (rGw G n q))) = .ref q :: r.map (rv (rAd G)) := by
        rw [List.map_cons, rmap_ext hx2 b3]
        show Value.ref (rAd (rGw G n q) n) :: _ = _
        rw [rGw_at]
      rw [e1] at k
      exact W.widen (by omega) (by omega) k
    · exact h.elim
  · exact h.elim
theorem ro_xstop : rOkX n0 cc own nL Ts R mcO (.inr pc) nm J pc npc (tq_xstop pc) := by
  intro G0 G hx p l e s m args below meth c Z Q F hZ hnm KN KJ hN hJ lv st σ b h H locs ls hP hD hS hl
  unfold tq_xstop at h
  split at h
  · exact hZ G hx lv σ b h.1 h.2 H locs ls hP hD hS hl
  · exact h.elim
theorem rmna_world {n q r0 r1 K : Nat} {G : RG} {σ : List RC} (h50 : n + 2 < 50) (hlen : σ.length = n) (hσ : rKs n σ = true) : rW (rAd (rGw (rGw (rGw G n q) (n + 1) r0) (n + 2) r1)) (rTy (rGw (rGw (rGw G n q) (n + 1) r0) (n + 2) r1)) 0 (((σ ++ [.inr (2, 2, .inr (fun j => n + 1 + j))]) ++ [.inr (0, K, .inl (fun _ => 0))]) ++ [.inr (0, K, .inl (fun _ => 0))])
    = rW (rAd G) (rTy G) 0 σ ++ [(q, .inl (rTy G 2, 2, .inr (.inr (.inr (.inr (fun j => some (bif Nat.beq j 0 then r0 else r1))))))), (r0, .inl (rTy G 0, K, .inl (fun _ => 0))), (r1, .inl (rTy G 0, K, .inl (fun _ => 0)))] := by
  have hx : rExt n G (rGw (rGw (rGw G n q) (n + 1) r0) (n + 2) r1) := ((rGw_ext (by omega)).tr ((rGw_ext (by omega)).le (by omega))).tr ((rGw_ext (by omega)).le (by omega))
  have a2 : rAd (rGw (rGw (rGw G n q) (n + 1) r0) (n + 2) r1) (n + 2) = r1 := rGw_at
  have a1 : rAd (rGw (rGw (rGw G n q) (n + 1) r0) (n + 2) r1) (n + 1) = r0 := ((rGw_ext (G := rGw (rGw G n q) (n + 1) r0) (n := n + 2) (q := r1) (by omega)).2.2.2 (n + 1) (Or.inl (by omega))).trans rGw_at
  have a0 : rAd (rGw (rGw (rGw G n q) (n + 1) r0) (n + 2) r1) n = q := ((rGw_ext (G := rGw (rGw G n q) (n + 1) r0) (n := n + 2) (q := r1) (by omega)).2.2.2 n (Or.inl (by omega))).trans (((rGw_ext (G := rGw G n q) (n := n + 1) (q := r0) (by omega)).2.2.2 n (Or.inl (by omega))).trans rGw_at)
  rw [rW_app, rW_app, rW_app, rW_ext hx (by omega) hσ]
  simp only [List.length_append, List.length_cons, List.length_nil, Nat.zero_add, hlen]
  rw [a0, a1, a2]
  have e : rE (rAd (rGw (rGw (rGw G n q) (n + 1) r0) (n + 2) r1)) (rTy (rGw (rGw (rGw G n q) (n + 1) r0) (n + 2) r1)) (.inr (2, 2, .inr (fun j => n + 1 + j))) = (.inl (rTy G 2, 2, .inr (.inr (.inr (.inr (fun j => some (bif Nat.beq j 0 then r0 else r1)))))) : va_E) := by
    show (Sum.inl (G.2.1 2, 2, .inr (.inr (.inr (.inr (fun j => some (rAd (rGw (rGw (rGw G n q) (n + 1) r0) (n + 2) r1) (bif Nat.beq j 0 then n + 1 + 0 else n + 1 + 1))))))) : va_E) = _
    rw [show (fun j => some (rAd (rGw (rGw (rGw G n q) (n + 1) r0) (n + 2) r1) (bif Nat.beq j 0 then n + 1 + 0 else n + 1 + 1))) = fun j => some (bif Nat.beq j 0 then r0 else r1) from funext fun j => by
      cases Nat.beq j 0
      · exact congrArg some a2
      · exact congrArg some a1]
  rw [e]
  simp only [List.append_assoc, List.cons_append, List.nil_append]
  rfl
theorem ro_mna {n K idx : Nat} (hle : n0 ≤ n) (h50 : n + 2 < 50) (hK8 : K ≤ 8) (hclink : Cond.classLink own idx ("[" ++ (FieldType.array .int).toString) ∈ Ts) (hover : Cond.arrayOver (.array .int) ∈ Ts) (harr : Cond.arrayClass .int ∈ Ts) (hd : decode cc pc = .ok (.multianewarray idx 2, 4)) (hn : npc = pc + 4) : rOkX n0 cc own nL Ts R mcO κ nm J pc npc (tq_mna n K mcO) := by
  intro G0 G hx p l e s m args below meth c Z Q F hZ hnm KN KJ hN hJ lv st σ b h H locs ls hP hD hS hl
  subst hn
  unfold tq_mna at h
  split at h
  · next y x r =>
    split at h
    · next hb =>
      rw [Bool.and_eq_true, Bool.and_eq_true, Bool.and_eq_true, Bool.and_eq_true] at hb
      obtain ⟨b1, b2, b3, b4, b5⟩ := hb
      have b1 := Nat.eq_of_beq_eq_true b1
      have b5 := Nat.le_of_ble_eq_true b5
      rw [rlen_eq] at b1
      obtain ⟨⟨o1, o2, o3⟩, h⟩ := h
      rw [rforce_eq, rapp_eq, rapp_eq, rapp_eq] at h
      obtain ⟨f1, f2, f3, f4, f5, f6, f7, f8, f9, f10, f11, f12, f13⟩ := id F
      have hst : (.inl y :: .inl x :: r : List AV).map (rv (rAd G)) = .int y.2 :: .int 2 :: r.map (rv (rAd G)) := by
        show Value.int y.2 :: Value.int x.2 :: r.map (rv (rAd G)) = _
        rw [o1]
      rw [hst]
      refine va_mna (X := rW (rAd G) (rTy G) 0 σ) (L := []) (f := fun _ => .inr (0, [])) (ty := .int) (cy := rTy G 0) (N' := 2) (K' := K) (z := (K, .inl (fun _ => 0))) f1 f2 f4 (f5 _ hclink) (f5 _ hover) (f5 _ harr) (f6.2 0 _ rfl).2 f6 (by rw [show va_pl [] (fun _ => (.inr (0, []) : va_E)) = [] from rfl, List.append_nil]; exact hP) (by rw [show va_pl [] (fun _ => (.inr (0, []) : va_E)) = [] from rfl, List.append_nil]; exact hD) hS f8 (by decide) (of_decide_eq_false o2) rfl o3 (by decide) (by show K * 4 ≤ 536870912; omega) (by omega) rfl rfl (by omega) (by omega) (fun c => by
        show ({ cls := c, slots := Array.replicate K (.int 0), vm := .none } : Cell) = arrV c K (fun _ => .int 0)
        exact arrV_new c K (.int 0)) hd (fun q rr cA H1 hinj hnin hK1 hP1 hD1 hS1 => ?_)
      have hcA : cA = rTy G 2 := Option.some.inj ((show s.vm.findClass _ = some cA from (hK1.2 4 _ rfl).2).symm.trans (show s.vm.findClass _ = some (rTy G 2) from (f6.2 2 _ rfl).2))
      subst hcA
      have hpl : va_pl ([] ++ (List.range 2).map rr) (vr_up (fun _ => (.inr (0, []) : va_E)) ((List.range 2).map rr) (.inl (rTy G 0, K, .inl (fun _ => 0)))) = [(rr 0, .inl (rTy G 0, K, .inl (fun _ => 0))), (rr 1, .inl (rTy G 0, K, .inl (fun _ => 0)))] := by
        rw [← vr_rows (fun a _ h => by cases h)]
        rfl
      rw [hpl] at hP1 hD1
      have hw := rmna_world (G := G) (q := q) (r0 := rr 0) (r1 := rr 1) (K := K) h50 b1 b4
      have hPf : va_P (rDD G) rCl (rW (rAd G) (rTy G) 0 σ ++ [(q, .inl (rTy G 2, 2, .inr (.inr (.inr (.inr (fun j => some (bif Nat.beq j 0 then rr 0 else rr 1))))))), (rr 0, .inl (rTy G 0, K, .inl (fun _ => 0))), (rr 1, .inl (rTy G 0, K, .inl (fun _ => 0)))]) H1 := by
        have hPx := hP1.left.left
        have hPq := hP1.left.right
        have hPr := hP1.right
        refine hPx.app (fun k z hz => ?_)
        match k, hz with
        | 0, hz =>
          cases hz
          have h9 := hPq 0 _ rfl
          have h8 : H1[q]? = some (arrV (rTy G 2) 2 (fun j => va_rf (if j < 2 then some (rr j) else none))) := h9
          show H1[q]? = some (arrV (rTy G 2) 2 (fun j => va_rf (some (bif Nat.beq j 0 then rr 0 else rr 1))))
          rw [h8]
          refine congrArg some (arrV_congr (fun j hj => ?_))
          match j, hj with
          | 0, _ => rfl
          | 1, _ => rfl
        | 1, hz => cases hz; exact hPr 0 _ rfl
        | 2, hz => cases hz; exact hPr 1 _ rfl
        | k + 3, hz => cases hz
      have hDf : va_D (rA G) (rW (rAd G) (rTy G) 0 σ ++ [(q, .inl (rTy G 2, 2, .inr (.inr (.inr (.inr (fun j => some (bif Nat.beq j 0 then rr 0 else rr 1))))))), (rr 0, .inl (rTy G 0, K, .inl (fun _ => 0))), (rr 1, .inl (rTy G 0, K, .inl (fun _ => 0)))]) := hD1.fst (by simp)
      have hx2 : rExt n G (rGw (rGw (rGw G n q) (n + 1) (rr 0)) (n + 2) (rr 1)) := ((rGw_ext (by omega)).tr ((rGw_ext (by omega)).le (by omega))).tr ((rGw_ext (by omega)).le (by omega))
      have k := hN _ (hx.tr (hx2.le hle)) lv (rR n :: r) _ (b + 3) h H1 locs ls (by rw [hw]; exact hPf) (by rw [hw]; exact hDf) hS1 (by rw [rl_ext hx2 b2]; exact hl)
      have a0 : rAd (rGw (rGw (rGw G n q) (n + 1) (rr 0)) (n + 2) (rr 1)) n = q := ((rGw_ext (G := rGw (rGw G n q) (n + 1) (rr 0)) (n := n + 2) (q := rr 1) (by omega)).2.2.2 n (Or.inl (by omega))).trans (((rGw_ext (G := rGw G n q) (n := n + 1) (q := rr 0) (by omega)).2.2.2 n (Or.inl (by omega))).trans rGw_at)
      have e1 : (rR n :: r).map (rv (rAd (rGw (rGw (rGw G n q) (n + 1) (rr 0)) (n + 2) (rr 1)))) = .ref q :: r.map (rv (rAd G)) := by
        rw [List.map_cons, rmap_ext hx2 b3]
        show Value.ref (rAd (rGw (rGw (rGw G n q) (n + 1) (rr 0)) (n + 2) (rr 1)) n) :: _ = _
        rw [a0]
      rw [e1] at k
      exact W.widen (by omega) (by omega) k
    · exact h.elim
  · exact h.elim
end
/-- the contract of a constructor that asks for the class of rows of rows -/
def rMetC (n : Nat) (y : MethodName) (ws : List Cond) (rm : Room) (mc : Nat) (M : RM) : Prop :=
  ∀ (G : RG) (l : Launch), l.stackTraces = false → ∀ (as : List AV) (σ : List RC) (Q : RQ), M as σ Q → vx_Met l y ws rm (fun a U => rPc G as σ a U ∧ rAO U) (rQX n G Q) rXF mc (12 * mc) (rA G)
theorem rMethC_ok {n0 : Nat} {cc : ByteArray} {own : String} {nL : Nat} {mcO : Nat} {y : MethodName} {ps : List Nat} {tab : List RT} {fuel : Nat} {ret : Option FieldType} {rm : Room} (hy : plainFor y = true) (hc : y.cls = own) (hrc : rm.cells = mcO) (hrs : rm.slots = 12 * mcO) (hp0 : ps.getD 0 0 = 0)
    (hA : rAll (rOkX n0 cc own nL (Cond.arrayOver (.array .int) :: Cond.code y cc nL ret :: rT) rm mcO (.inl ret) y.name (fun o => ps.getD o 0)) ps tab) : rMetC n0 y (Cond.code y cc nL ret :: rT) rm mcO (rMeth tab fuel nL) := by
  intro G l hl as σ Q h
  refine rofW (cc := cc) (maxL := nL) (ret := ret) hy rfl ?_
  intro p e s m args below meth c s₁ B hml htb hv
  obtain ⟨⟨rfl, hP, hD, hK, hI, hlo⟩, hAO⟩ := hv
  unfold rMeth at h
  split at h
  · next hb =>
    rw [rforce_eq] at h
    have hle := lv_entry (as.map (rv (rAd G))) (n := nL) (by rw [rsl_len]; exact Nat.le_of_ble_eq_true hb)
    rw [lg_entry_eq]
    have F : rFr G p l (headSpec (Cond.code y cc nL ret :: rT) rm).room s m (as.map (rv (rAd G))).toArray meth c cc own nL (Cond.arrayOver (.array .int) :: Cond.code y cc nL ret :: rT) [] 0 mcO := by
      refine ⟨B.exec, B.bytes, hml, by rw [← hc]; exact findClass_of_methodNamed B.named, fun w hw => ?_, hK, hI, fun q hq => Nat.le_trans hlo hq, B.notSynchronized, hl, by show 0 + mcO ≤ rm.cells; omega, by show 12 * (0 + mcO) ≤ rm.slots; omega, ?_⟩
      · rcases List.mem_cons.mp hw with e9 | hw
        · rw [e9]
          exact hAO
        · exact atoms_spec (ws := Cond.code y cc nL ret :: rT) B.pre w hw
      · cases ht : c.exceptionTable.toList with
        | nil => rfl
        | cons x r => exact (htb x (by rw [ht]; exact List.mem_cons_self)).elim
    have hZ : rZX n0 G Q mcO (.inl ret) p l e (headSpec (Cond.code y cc nL ret :: rT) rm).room s m (as.map (rv (rAd G))).toArray below meth c nL (vx_MQ below (rQX n0 G Q) rXF (as.map (rv (rAd G))).toArray s mcO (12 * mcO) (rA G)) := ⟨rfl, B.returns⟩
    have h2 := rEv_okX hA F hZ (name_of_methodNamed B.named B.method).1 fuel 0 G rExt.rf (rent 0 as) [] σ 0 (e := e) h s.heap [] _ hP hD va_S.rf (by rw [rent_eq]; exact hle)
    rw [hp0] at h2
    exact h2
  · exact h.elim
section
variable {n0 : Nat} {cc : ByteArray} {own : String} {nL : Nat} {Ts : List Cond} {R : Room} {mcO : Nat} {κ : Option FieldType ⊕ Nat} {nm : String} {J : Nat → Nat} {pc npc : Nat}
theorem ro_xcallIC {n' : Nat} {M : RM} {y : MethodName} {bytes : ByteArray} {maxL n mc idx : Nat} {ws : List Cond} {rm : Room} (hle : n0 ≤ n') (hM : rMetC n' y ws rm mc M) (hao : Cond.arrayOver (.array .int) ∈ Ts) (hd : decode cc pc = .ok (.invokespecial idx, 3))
    (hcw : ∀ (s : State) (args : Array Value), (∀ w ∈ Ts, w.before args s = true) → CallB R s args own idx y bytes maxL none ws rm mc (12 * mc) n ∧ y.name = "<init>" ∧ (Cond.instanceMethod y).before args s = true) (hn : npc = pc + 3) : rOkX n0 cc own nL Ts R mcO κ nm J pc npc (tq_callX n' (rThis M) (n + 1) mc mcO) := by
  intro G0 G hx p l e s m args below meth c Z Q F hZ hnm KN KJ hN hJ lv st σ b h H locs ls hP hD hS hl
  subst hn
  unfold tq_callX at h
  obtain ⟨as, r, e1, e2, h⟩ := rtake_use (n + 1) [] st _ h
  simp only [List.length_nil, Nat.add_zero] at e1
  simp only [List.reverse_nil, List.nil_append] at e2
  split at h
  · next hb =>
    rw [Bool.and_eq_true] at hb
    obtain ⟨b1, b2⟩ := hb
    obtain ⟨b34, h⟩ := h
    rw [Bool.and_eq_true] at b34
    obtain ⟨b3, b4⟩ := b34
    have b1 := Nat.le_of_ble_eq_true b1
    have b2 := Nat.le_of_ble_eq_true b2
    obtain ⟨f1, f2, f3, f4, f5, f6, f7, f8, f9, f10, f11, f12, f13⟩ := id F
    unfold rThis at h
    split at h
    · next i as2 =>
      have hst : st.map (rv (rAd G)) = (as2.map (rv (rAd G))).reverse ++ .ref (rAd G i) :: r.map (rv (rAd G)) := by
        rw [e2]
        simp [List.map_append, List.map_reverse, rv]
      exact rX_after hle hx hN (vx_runI (As := as2.map (rv (rAd G))) (rest := r.map (rv (rAd G))) (b := rAd G i) ⟨f1, f2, f3, f4, f5⟩ (hM G l f10 (rR i :: as2) σ _ h) (hcw s args f5) ⟨fun a U g mk q => ⟨rPc_blind G (rR i :: as2) σ a U g mk q.1, rAO.moved (u := U) (U := U.calling g mk a) (Vm.Alike.refl U.vm) q.2⟩, fun U hU hW => ⟨rpcS (as := rR i :: as2) f6 f7 f8 hP hD hS U hU hW, rAO.moved hW.alike (f5 _ hao)⟩⟩ rfl (by rw [List.length_map]; simpa using e1) hl.1 hst (lv_room (by rw [rwt_eq]; exact b1)) hd ⟨by omega, by omega⟩) hS hl b3 b4
    · exact h.elim
  · exact h.elim

theorem ro_xcallIN {n' : Nat} {M : RM} {y : MethodName} {bytes : ByteArray} {maxL n mc idx : Nat} {ws : List Cond} {rm : Room} {host : String} (hle : n0 ≤ n') (hM : rMetX n' y ws rm mc M) (hd : decode cc pc = .ok (.invokespecial idx, 3))
    (hcw : ∀ (s : State) (args : Array Value), (∀ w ∈ Ts, w.before args s = true) → va_CN R s args own idx y host bytes maxL none ws rm mc (12 * mc) n ∧ y.name = "<init>" ∧ (Cond.instanceMethod y).before args s = true) (hn : npc = pc + 3) : rOkX n0 cc own nL Ts R mcO κ nm J pc npc (tq_callX n' (rThis M) (n + 1) mc mcO) := by
  intro G0 G hx p l e s m args below meth c Z Q F hZ hnm KN KJ hN hJ lv st σ b h H locs ls hP hD hS hl
  subst hn
  unfold tq_callX at h
  obtain ⟨as, r, e1, e2, h⟩ := rtake_use (n + 1) [] st _ h
  simp only [List.length_nil, Nat.add_zero] at e1
  simp only [List.reverse_nil, List.nil_append] at e2
  split at h
  · next hb =>
    rw [Bool.and_eq_true] at hb
    obtain ⟨b1, b2⟩ := hb
    obtain ⟨b34, h⟩ := h
    rw [Bool.and_eq_true] at b34
    obtain ⟨b3, b4⟩ := b34
    have b1 := Nat.le_of_ble_eq_true b1
    have b2 := Nat.le_of_ble_eq_true b2
    obtain ⟨f1, f2, f3, f4, f5, f6, f7, f8, f9, f10, f11, f12, f13⟩ := id F
    unfold rThis at h
    split at h
    · next i as2 =>
      have hst : st.map (rv (rAd G)) = (as2.map (rv (rAd G))).reverse ++ .ref (rAd G i) :: r.map (rv (rAd G)) := by
        rw [e2]
        simp [List.map_append, List.map_reverse, rv]
      exact rX_after hle hx hN (vx_runIN (As := as2.map (rv (rAd G))) (rest := r.map (rv (rAd G))) (b := rAd G i) ⟨f1, f2, f3, f4, f5⟩ (hM G l f10 (rR i :: as2) σ _ h) (hcw s args f5) ⟨rPc_blind G _ σ, rpcS (as := rR i :: as2) f6 f7 f8 hP hD hS⟩ rfl (by rw [List.length_map]; simpa using e1) hl.1 hst (lv_room (by rw [rwt_eq]; exact b1)) hd ⟨by omega, by omega⟩) hS hl b3 b4
    · exact h.elim
  · exact h.elim

end
end RKXF
