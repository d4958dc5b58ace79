section RKN
/-- the tables' words that hold at every state of a run -/
def rT : List Cond := lw_tbl.filter goodWord
theorem rmem {w : Cond} (i : Nat) (h : lw_tbl[i]? = some w) (g : goodWord w = true) : w ∈ rT := List.mem_filter.mpr ⟨List.mem_of_getElem? h, g⟩
theorem rgood {big : List Cond} (hb : ∀ w ∈ rT, w ∈ big) : GoodIn big rT := fun w hw => ⟨hb w hw, good_of_word (List.mem_filter.mp hw).2⟩
theorem rgood1 {big : List Cond} {w0 : Cond} (hb : ∀ w ∈ rT, w ∈ big) (h : w0 ∈ rT) : w0 ∈ big ∧ ((w0.onTables && w0.keeps) = true ∨ ∃ ty, w0 = .arrayClass ty) := rgood hb w0 h
theorem rgoodc {big ws : List Cond} {w0 : Cond} (hb : ∀ w ∈ rT, w ∈ big) (h : w0 ∈ rT) (hw : GoodIn big ws) : GoodIn big (w0 :: ws) := fun w hm => (List.mem_cons.mp hm).elim (fun e => by rw [e]; exact rgood1 hb h) (hw w)
theorem rgoodS {big : List Cond} {own : String} {idx : Nat} {y : MethodName} {cw : Cond} (hb : ∀ w ∈ rT, w ∈ big) (h1 : Cond.methodLink own idx y ∈ rT) (h2 : Cond.static y ∈ rT) (h3 : Cond.initialized y.cls ∈ rT) (h4 : cw ∈ rT) : GoodIn big (va_wsS own idx y (cw :: rT)) :=
  rgoodc hb h1 (rgoodc hb h2 (rgoodc hb h3 (rgoodc hb h4 (rgood hb))))
theorem rgoodV {big : List Cond} {own C : String} {idx : Nat} {y : MethodName} {cw : Cond} (hb : ∀ w ∈ rT, w ∈ big) (h1 : Cond.methodLink own idx y ∈ rT) (h2 : Cond.instanceMethod y ∈ rT) (h5 : Cond.selects C y y ∈ rT) (h3 : Cond.initialized C ∈ rT) (h4 : cw ∈ rT) : GoodIn big (wsV own idx C y (cw :: rT)) :=
  rgoodc hb h1 (rgoodc hb h2 (rgoodc hb h5 (rgoodc hb h3 (rgoodc hb h4 (rgood hb)))))
-- the classes whose objects the world holds
def rN0 : String := "Ringdays"
def rF0 : u_T := fun k => match k with
  | 0 => ("Ringdays", "dayRow", "[I", true)
  | 1 => ("Ringdays", "monthRow", "[I", true)
  | 2 => ("Ringdays", "keptDays", "[[I", true)
  | 3 => ("Ringdays", "keptMonths", "[[I", true)
  | 4 => ("Ringdays", "keptMarks", "[Z", true)
  | 5 => ("Ringdays", "actCount", "I", false)
  | _ => ("Ringdays", "knockCount", "I", false)
def rY0 : Nat → FieldType := fun k => match k with
  | 0 => .array .int
  | 1 => .array .int
  | 2 => .array (.array .int)
  | 3 => .array (.array .int)
  | 4 => .array .boolean
  | _ => .int
def rN1 : String := "RingdaysModel"
def rF1 : u_T := fun k => match k with
  | 0 => ("RingdaysModel", "thrown", "I", false)
  | 1 => ("RingdaysModel", "days", "[I", true)
  | 2 => ("RingdaysModel", "months", "[I", true)
  | 3 => ("RingdaysModel", "kept", "[[I", true)
  | 4 => ("RingdaysModel", "isThere", "[Z", true)
  | 5 => ("RingdaysModel", "acts", "I", false)
  | _ => ("RingdaysModel", "knocks", "I", false)
def rY1 : Nat → FieldType := fun k => match k with
  | 0 => .int
  | 1 => .array .int
  | 2 => .array .int
  | 3 => .array (.array .int)
  | 4 => .array .boolean
  | _ => .int
def rN2 : String := "RingdaysLaw$Out"
def rF2 : u_T := fun k => match k with
  | 0 => ("RingdaysLaw$Out", "n", "J", false)
  | _ => ("RingdaysLaw$Out", "s", "Ljava/lang/String;", false)
def rY2 : Nat → FieldType := fun k => match k with
  | 0 => .long
  | _ => .object "java/lang/String"
def rN3 : String := "java/lang/StringBuilder"
def rF3 : u_T := fun k => match k with
  | 0 => ("java/lang/AbstractStringBuilder", "value", "[B", false)
  | 1 => ("java/lang/AbstractStringBuilder", "coder", "B", false)
  | 2 => ("java/lang/AbstractStringBuilder", "maybeLatin1", "Z", false)
  | _ => ("java/lang/AbstractStringBuilder", "count", "I", false)
def rY3 : Nat → FieldType := fun k => match k with
  | 0 => .array .byte
  | 1 => .byte
  | 2 => .boolean
  | _ => .int
def rN4 : String := "java/lang/String"
def rF4 : u_T := fun k => match k with
  | 0 => ("java/lang/String", "value", "[B", true)
  | 1 => ("java/lang/String", "coder", "B", true)
  | 2 => ("java/lang/String", "hash", "I", false)
  | _ => ("java/lang/String", "hashIsZero", "Z", false)
def rY4 : Nat → FieldType := fun k => match k with
  | 0 => .array .byte
  | 1 => .byte
  | 2 => .int
  | _ => .boolean
abbrev rCl : List vw_C := [(rN0, rF0, 7), (rN1, rF1, 7), (rN2, rF2, 2), (rN3, rF3, 4), (rN4, rF4, 4)]
theorem rY3_ok : ∀ k, k < 4 → parseFieldDescriptor (rF3 k).2.2.1 = some (rY3 k) := by decide +kernel
theorem rY4_ok : ∀ k, k < 4 → parseFieldDescriptor (rF4 k).2.2.1 = some (rY4 k) := by decide +kernel
theorem rD3 : ∀ a, a < 4 → ∀ b, b < 4 → a ≠ b → (rF3 a).2.1 ≠ (rF3 b).2.1 := by decide +kernel
theorem rD4 : ∀ a, a < 4 → ∀ b, b < 4 → a ≠ b → (rF4 a).2.1 ≠ (rF4 b).2.1 := by decide +kernel
theorem rY0_ok : ∀ k, k < 7 → parseFieldDescriptor (rF0 k).2.2.1 = some (rY0 k) := by decide +kernel
theorem rY1_ok : ∀ k, k < 7 → parseFieldDescriptor (rF1 k).2.2.1 = some (rY1 k) := by decide +kernel
theorem rY2_ok : ∀ k, k < 2 → parseFieldDescriptor (rF2 k).2.2.1 = some (rY2 k) := by decide +kernel
theorem rD0 : ∀ a, a < 7 → ∀ b, b < 7 → a ≠ b → (rF0 a).2.1 ≠ (rF0 b).2.1 := by decide +kernel
theorem rD1 : ∀ a, a < 7 → ∀ b, b < 7 → a ≠ b → (rF1 a).2.1 ≠ (rF1 b).2.1 := by decide +kernel
theorem rD2 : ∀ a, a < 2 → ∀ b, b < 2 → a ≠ b → (rF2 a).2.1 ≠ (rF2 b).2.1 := by decide +kernel
-- the classes that are thrown
def rEx (k : Nat) : String := match k with
  | 0 => "java/lang/IndexOutOfBoundsException"
  | 1 => "java/lang/IllegalArgumentException"
  | _ => "java/lang/IllegalStateException"
end RKN
section RKT
/-- the String constants: whose, which entry, the text -/
def rStr : List (String × Nat × String) := [("Ringdays", 224, "MONDAY"), ("Ringdays", 226, "TUESDAY"), ("Ringdays", 228, "WEDNESDAY"), ("Ringdays", 230, "THURSDAY"), ("Ringdays", 232, "FRIDAY"), ("Ringdays", 234, "SATURDAY"), ("Ringdays", 236, "SUNDAY"), ("java/util/Arrays", 337, " > "), ("Ringdays", 238, "JANUARY"), ("Ringdays", 240, "FEBRUARY"), ("Ringdays", 242, "MARCH"), ("Ringdays", 244, "APRIL"), ("Ringdays", 246, "MAY"), ("Ringdays", 248, "JUNE"), ("Ringdays", 250, "JULY"), ("Ringdays", 252, "AUGUST"), ("Ringdays", 254, "SEPTEMBER"), ("Ringdays", 256, "OCTOBER"), ("Ringdays", 258, "NOVEMBER"), ("Ringdays", 260, "DECEMBER"), ("Ringdays", 205, "no such cell"), ("Ringdays", 152, "no such mark"), ("Ringdays", 213, "no such number"), ("Ringdays", 137, "nothing is kept there"), ("RingdaysModel", 52, ""), ("RingdaysModel", 103, " "), ("RingdaysModel", 133, "MONDAY"), ("RingdaysModel", 135, "TUESDAY"), ("RingdaysModel", 137, "WEDNESDAY"), ("RingdaysModel", 139, "THURSDAY"), ("RingdaysModel", 141, "FRIDAY"), ("RingdaysModel", 143, "SATURDAY"), ("RingdaysModel", 145, "SUNDAY"), ("RingdaysModel", 147, "JANUARY"), ("RingdaysModel", 149, "FEBRUARY"), ("RingdaysModel", 151, "MARCH"), ("RingdaysModel", 153, "APRIL"), ("RingdaysModel", 155, "MAY"), ("RingdaysModel", 157, "JUNE"), ("RingdaysModel", 159, "JULY"), ("RingdaysModel", 161, "AUGUST"), ("RingdaysModel", 163, "SEPTEMBER"), ("RingdaysModel", 165, "OCTOBER"), ("RingdaysModel", 167, "NOVEMBER"), ("RingdaysModel", 169, "DECEMBER")]
def rSLen : List Nat := [6, 7, 9, 8, 6, 8, 6, 3, 7, 8, 5, 5, 3, 4, 4, 6, 9, 7, 8, 8, 12, 12, 14, 21, 0, 1, 6, 7, 9, 8, 6, 8, 6, 7, 8, 5, 5, 3, 4, 4, 6, 9, 7, 8, 8]
def rSByt : List (List Int32) := [[77, 79, 78, 68, 65, 89], [84, 85, 69, 83, 68, 65, 89], [87, 69, 68, 78, 69, 83, 68, 65, 89], [84, 72, 85, 82, 83, 68, 65, 89], [70, 82, 73, 68, 65, 89], [83, 65, 84, 85, 82, 68, 65, 89], [83, 85, 78, 68, 65, 89], [32, 62, 32], [74, 65, 78, 85, 65, 82, 89], [70, 69, 66, 82, 85, 65, 82, 89], [77, 65, 82, 67, 72], [65, 80, 82, 73, 76], [77, 65, 89], [74, 85, 78, 69], [74, 85, 76, 89], [65, 85, 71, 85, 83, 84], [83, 69, 80, 84, 69, 77, 66, 69, 82], [79, 67, 84, 79, 66, 69, 82], [78, 79, 86, 69, 77, 66, 69, 82], [68, 69, 67, 69, 77, 66, 69, 82], [110, 111, 32, 115, 117, 99, 104, 32, 99, 101, 108, 108], [110, 111, 32, 115, 117, 99, 104, 32, 109, 97, 114, 107], [110, 111, 32, 115, 117, 99, 104, 32, 110, 117, 109, 98, 101, 114], [110, 111, 116, 104, 105, 110, 103, 32, 105, 115, 32, 107, 101, 112, 116, 32, 116, 104, 101, 114, 101], [], [32], [77, 79, 78, 68, 65, 89], [84, 85, 69, 83, 68, 65, 89], [87, 69, 68, 78, 69, 83, 68, 65, 89], [84, 72, 85, 82, 83, 68, 65, 89], [70, 82, 73, 68, 65, 89], [83, 65, 84, 85, 82, 68, 65, 89], [83, 85, 78, 68, 65, 89], [74, 65, 78, 85, 65, 82, 89], [70, 69, 66, 82, 85, 65, 82, 89], [77, 65, 82, 67, 72], [65, 80, 82, 73, 76], [77, 65, 89], [74, 85, 78, 69], [74, 85, 76, 89], [65, 85, 71, 85, 83, 84], [83, 69, 80, 84, 69, 77, 66, 69, 82], [79, 67, 84, 79, 66, 69, 82], [78, 79, 86, 69, 77, 66, 69, 82], [68, 69, 67, 69, 77, 66, 69, 82]]
end RKT
section RKA
/-! A small machine of one's own: what a method does is a predicate transformer over plain lists (locals, stack, the cells of the world); each of its steps is paid by one row of the kit, once. -/
/-- a value: an int or a long (with a mark: written out), a thing of the world by its place, or any reference -/
abbrev AV : Type := (Bool × Int32) ⊕ (Bool × Int64) ⊕ Nat ⊕ Option Nat
abbrev rI (f : Bool) (x : Int32) : AV := .inl (f, x)
abbrev rL (f : Bool) (x : Int64) : AV := .inr (.inl (f, x))
abbrev rR (k : Nat) : AV := .inr (.inr (.inl k))
abbrev rO (o : Option Nat) : AV := .inr (.inr (.inr o))
def rv (ad : Nat → Nat) (v : AV) : Value := match v with
  | .inl q => .int q.2
  | .inr (.inl q) => .long q.2
  | .inr (.inr (.inl k)) => .ref (ad k)
  | .inr (.inr (.inr o)) => va_rf o
def rcat (v : AV) : Nat := match v with
  | .inr (.inl _) => 2
  | _ => 1
theorem rcat_eq (ad : Nat → Nat) (v : AV) : (rv ad v).category = rcat v := by
  rcases v with q | q | k | o
  · rfl
  · rfl
  · rfl
  · cases o <;> rfl
/-- a cell: an object (class, fields), a row of numbers, a row of things of the world (array class, length, contents) -/
abbrev RC : Type := (Nat × List AV) ⊕ (Nat × Nat × ((Nat → Int32) ⊕ (Nat → Nat)))
def rE (ad : Nat → Nat) (ty : Nat → ClassId) (c : RC) : va_E := match c with
  | .inl o => .inr (o.1, o.2.map (rv ad))
  | .inr (t, n, .inl f) => .inl (ty t, n, .inl f)
  | .inr (t, n, .inr g) => .inl (ty t, n, .inr (.inr (.inr (.inr (fun j => some (ad (bif Nat.beq j 0 then g 0 else g 1)))))))
def rW (ad : Nat → Nat) (ty : Nat → ClassId) : Nat → List RC → va_W
  | _, [] => []
  | k, c :: r => (ad k, rE ad ty c) :: rW ad ty (k + 1) r
/-- the thing at a place -/
noncomputable def rat {α : Type} (l : List α) : Nat → Option α := List.rec (motive := fun _ => Nat → Option α) (fun _ => none) (fun a _ ih i => Nat.rec (motive := fun _ => Option α) (some a) (fun j _ => ih j) i) l
noncomputable def rset {α : Type} (l : List α) : Nat → α → List α := List.rec (motive := fun _ => Nat → α → List α) (fun _ _ => []) (fun a r ih i x => Nat.rec (motive := fun _ => List α) (x :: r) (fun j _ => a :: ih j x) i) l
theorem rat_eq {α : Type} : ∀ (l : List α) (i : Nat), rat l i = l[i]?
  | [], i => by rw [show rat ([] : List α) i = none from rfl]; simp
  | a :: r, 0 => by rw [show rat (a :: r) 0 = some a from rfl]; simp
  | a :: r, i + 1 => by rw [show rat (a :: r) (i + 1) = rat r i from rfl, rat_eq r i]; simp
theorem rset_eq {α : Type} : ∀ (l : List α) (i : Nat) (x : α), rset l i x = l.set i x
  | [], i, x => by rw [show rset ([] : List α) i x = [] from rfl]; simp
  | a :: r, 0, x => by rw [show rset (a :: r) 0 x = x :: r from rfl]; simp
  | a :: r, i + 1, x => by rw [show rset (a :: r) (i + 1) x = a :: rset r i x from rfl, rset_eq r i x]; simp
theorem rW_get {ad : Nat → Nat} {ty : Nat → ClassId} : ∀ (σ : List RC) (k i : Nat) (c : RC), rat σ i = some c → (rW ad ty k σ)[i]? = some (ad (k + i), rE ad ty c)
  | [], k, i, c, h => by cases (show (none : Option RC) = some c from h)
  | a :: r, k, 0, c, h => by
    cases (show some a = some c from h)
    simp [rW]
  | a :: r, k, i + 1, c, h => by
    have h2 := rW_get (ad := ad) (ty := ty) r (k + 1) i c h
    simp only [rW, List.getElem?_cons_succ]
    rw [h2, show k + 1 + i = k + (i + 1) by omega]
theorem rW_set {ad : Nat → Nat} {ty : Nat → ClassId} : ∀ (σ : List RC) (k i : Nat) (c : RC), i < σ.length → rW ad ty k (rset σ i c) = (rW ad ty k σ).set i (ad (k + i), rE ad ty c)
  | [], k, i, c, h => by simp at h
  | a :: r, k, 0, c, h => by rw [show rset (a :: r) 0 c = c :: r from rfl]; simp [rW]
  | a :: r, k, i + 1, c, h => by
    have h2 := rW_set (ad := ad) (ty := ty) r (k + 1) i c (by simpa using h)
    rw [show rset (a :: r) (i + 1) c = a :: rset r i c from rfl]
    simp only [rW, List.set_cons_succ]
    rw [h2, show k + 1 + i = k + (i + 1) by omega]
theorem rat_lt {α : Type} {l : List α} {i : Nat} {x : α} (h : rat l i = some x) : i < l.length := by
  rw [rat_eq] at h
  exact (List.getElem?_eq_some_iff.mp h).1
/-- a list laid out before it goes on -/
def rforce {α : Type} (l : List α) : (List α → Prop) → Prop := List.rec (motive := fun _ => (List α → Prop) → Prop) (fun k => k []) (fun a _ ih k => ih (fun r' => k (a :: r'))) l
theorem rforce_eq {α : Type} : ∀ (l : List α) (k : List α → Prop), rforce l k = k l
  | [], k => rfl
  | a :: r, k => by rw [show rforce (a :: r) k = rforce r (fun r' => k (a :: r')) from rfl, rforce_eq r]
abbrev RLv : Type := List (Nat × AV)
noncomputable def rlook (lv : RLv) (i : Nat) : Option AV := List.rec (motive := fun _ => Option AV) none (fun q _ ih => Bool.rec (motive := fun _ => Option AV) ih (some q.2) (Nat.beq q.1 i)) lv
theorem rlook_mem : ∀ {lv : RLv} {i : Nat} {v : AV}, rlook lv i = some v → (i, v) ∈ lv
  | [], i, v, h => by cases (show (none : Option AV) = some v from h)
  | q :: r, i, v, h => by
    have h : Bool.rec (motive := fun _ => Option AV) (rlook r i) (some q.2) (Nat.beq q.1 i) = some v := h
    cases hb : Nat.beq q.1 i with
    | true =>
      rw [hb] at h
      have e : q.1 = i := Nat.eq_of_beq_eq_true hb
      cases (show some q.2 = some v from h)
      rw [← e]
      exact List.mem_cons_self
    | false =>
      rw [hb] at h
      exact List.mem_cons_of_mem _ (rlook_mem h)
def rl (ad : Nat → Nat) (lv : RLv) : List (Nat × Value) := lv.map (fun q => (q.1, rv ad q.2))
theorem rlook_at {ad : Nat → Nat} {ls : Array Slot} {nL : Nat} {lv : RLv} {i : Nat} {v : AV} (hl : lv_has ls nL (rl ad lv)) (h : rlook lv i = some v) : ls[i]? = some (.val (rv ad v)) :=
  hl.2.2 (i, rv ad v) (List.mem_map.mpr ⟨(i, v), rlook_mem h, rfl⟩)
theorem rlook_ix {ad : Nat → Nat} {lv : RLv} {i : Nat} {v : AV} (h : rlook lv i = some v) : ∃ k : Nat, (rl ad lv)[k]? = some (i, rv ad v) := by
  obtain ⟨k, hk⟩ := List.getElem?_of_mem (rlook_mem h)
  exact ⟨k, by rw [rl, List.getElem?_map, hk]; rfl⟩
theorem rbeq (a b : Nat) : (a == b) = Nat.beq a b := by
  cases h : Nat.beq a b
  · simp only [beq_eq_false_iff_ne]
    exact Nat.ne_of_beq_eq_false h
  · rw [Nat.eq_of_beq_eq_true h]
    simp
noncomputable def rfilt (f : Nat × AV → Bool) (l : RLv) : RLv := List.rec (motive := fun _ => RLv) [] (fun q _ ih => Bool.rec (motive := fun _ => RLv) ih (q :: ih) (f q)) l
theorem rfilt_eq (f : Nat × AV → Bool) : ∀ l : RLv, rfilt f l = l.filter f
  | [] => rfl
  | q :: r => by
    rw [show rfilt f (q :: r) = Bool.rec (motive := fun _ => RLv) (rfilt f r) (q :: rfilt f r) (f q) from rfl, rfilt_eq f r]
    cases hb : f q with
    | true => rw [List.filter_cons_of_pos hb]
    | false => rw [List.filter_cons_of_neg (by rw [hb]; exact Bool.false_ne_true)]
noncomputable def rst1 (lv : RLv) (i : Nat) (v : AV) : RLv := (i, v) :: rfilt (fun q => !(Nat.beq q.1 i) && !(Nat.beq (q.1 + 1) i && Nat.beq (rcat q.2) 2)) lv
noncomputable def rst2 (lv : RLv) (i : Nat) (v : AV) : RLv := (i, v) :: rfilt (fun q => !(Nat.beq q.1 i) && (!(Nat.beq q.1 (i + 1)) && !(Nat.beq (q.1 + 1) i && Nat.beq (rcat q.2) 2))) lv
theorem rst1_eq (ad : Nat → Nat) (lv : RLv) (i : Nat) (v : AV) : (i, rv ad v) :: (rl ad lv).filter (fun q => !(q.1 == i) && !(q.1 + 1 == i && q.2.category == 2)) = rl ad (rst1 lv i v) := by
  simp only [rl, rst1, rfilt_eq, List.map_cons, List.filter_map]
  congr 2
  apply List.filter_congr
  intro q _
  simp only [Function.comp, rcat_eq, rbeq]
theorem rst2_eq (ad : Nat → Nat) (lv : RLv) (i : Nat) (v : AV) : (i, rv ad v) :: (rl ad lv).filter (fun q => !(q.1 == i) && (!(q.1 == i + 1) && !(q.1 + 1 == i && q.2.category == 2))) = rl ad (rst2 lv i v) := by
  simp only [rl, rst2, rfilt_eq, List.map_cons, List.filter_map]
  congr 2
  apply List.filter_congr
  intro q _
  simp only [Function.comp, rcat_eq, rbeq]
/-- what a method comes to: an answer or none, or the number of a class that it throws -/
abbrev RR : Type := Option AV ⊕ Nat
abbrev RQ : Type := RR → List RC → Prop
abbrev RK : Type := RLv → List AV → List RC → Nat → Prop
abbrev RT : Type := RQ → RK → (Nat → RK) → RK
abbrev RM : Type := List AV → List RC → RQ → Prop
def rbr (f b : Bool) (T F : Prop) : Prop := match f with
  | true => match b with
    | true => T
    | false => F
  | false => (b = true → T) ∧ (b = false → F)
theorem rbr_t {f b : Bool} {T F : Prop} (h : rbr f b T F) (e : b = true) : T := by
  subst e
  cases f
  · exact h.1 rfl
  · exact h
theorem rbr_f {f b : Bool} {T F : Prop} (h : rbr f b T F) (e : b = false) : F := by
  subst e
  cases f
  · exact h.2 rfl
  · exact h
/-- an index in its row: looked at, where it is written out; owed, where it isn't -/
def rin (f : Bool) (i : Int32) (n : Nat) (K : Prop) : Prop := match f with
  | true => match decide (i < 0) || Nat.ble n i.toNatClampNeg with
    | true => False
    | false => K
  | false => vp_in i n ∧ K
theorem rin_use {f : Bool} {i : Int32} {n : Nat} {K : Prop} (h : rin f i n K) : vp_in i n ∧ K := by
  cases f with
  | false => exact h
  | true =>
    cases h1 : (decide (i < 0) || Nat.ble n i.toNatClampNeg) with
    | true =>
      simp only [rin, h1] at h
    | false =>
      simp only [rin, h1] at h
      simp only [Bool.or_eq_false_iff, decide_eq_false_iff_not] at h1
      refine ⟨fun q => ?_, h⟩
      rcases q with q | q
      · exact h1.1 q
      · rw [Nat.ble_eq_true_of_le q] at h1
        exact absurd h1.2 (by decide)
-- the steps
def tq_bad : RT := fun _ _ _ _ _ _ _ => False
def tq_ic (x : Int32) : RT := fun _ K _ lv st σ b => K lv (rI true x :: st) σ b
def tq_lc (x : Int64) : RT := fun _ K _ lv st σ b => K lv (rL true x :: st) σ b
def tq_rc (k : Nat) : RT := fun _ K _ lv st σ b => K lv (rR k :: st) σ b
def tq_il (i : Nat) : RT := fun _ K _ lv st σ b => match rlook lv i with
  | some (.inl q) => K lv (.inl q :: st) σ b
  | _ => False
def tq_ll (i : Nat) : RT := fun _ K _ lv st σ b => match rlook lv i with
  | some (.inr (.inl q)) => K lv (.inr (.inl q) :: st) σ b
  | _ => False
def tq_al (i : Nat) : RT := fun _ K _ lv st σ b => match rlook lv i with
  | some (.inr (.inr (.inl k))) => K lv (.inr (.inr (.inl k)) :: st) σ b
  | some (.inr (.inr (.inr (some a)))) => K lv (.inr (.inr (.inr (some a))) :: st) σ b
  | _ => False
def tq_is (nL i : Nat) : RT := fun _ K _ lv st σ b => match st with
  | .inl q :: r => match Nat.blt i nL with
    | true => rforce (rst1 lv i (.inl q)) (fun lv' => K lv' r σ b)
    | false => False
  | _ => False
def tq_ls (nL i : Nat) : RT := fun _ K _ lv st σ b => match st with
  | .inr (.inl q) :: r => match Nat.blt (i + 1) nL with
    | true => rforce (rst2 lv i (.inr (.inl q))) (fun lv' => K lv' r σ b)
    | false => False
  | _ => False
def tq_as (nL i : Nat) : RT := fun _ K _ lv st σ b => match st with
  | .inr (.inr (.inl k)) :: r => match Nat.blt i nL with
    | true => rforce (rst1 lv i (.inr (.inr (.inl k)))) (fun lv' => K lv' r σ b)
    | false => False
  | .inr (.inr (.inr (some a))) :: r => match Nat.blt i nL with
    | true => rforce (rst1 lv i (.inr (.inr (.inr (some a))))) (fun lv' => K lv' r σ b)
    | false => False
  | _ => False
def tq_inc (nL i : Nat) (n : Int) : RT := fun _ K _ lv st σ b => match rlook lv i with
  | some (.inl q) => match Nat.blt i nL with
    | true => rforce (rst1 lv i (rI q.1 (q.2 + Int32.ofInt n))) (fun lv' => K lv' st σ b)
    | false => False
  | _ => False
def tq_i2 (op : Int32 → Int32 → Int32) : RT := fun _ K _ lv st σ b => match st with
  | .inl y :: .inl x :: r => K lv (rI (x.1 && y.1) (op x.2 y.2) :: r) σ b
  | _ => False
def tq_irem : RT := fun _ K _ lv st σ b => match st with
  | .inl y :: .inl x :: r => (¬ y.2 = 0) ∧ K lv (rI (x.1 && y.1) (x.2 - x.2 / y.2 * y.2) :: r) σ b
  | _ => False
def tq_i1 (op : Int32 → Int32) : RT := fun _ K _ lv st σ b => match st with
  | .inl x :: r => K lv (rI x.1 (op x.2) :: r) σ b
  | _ => False
def tq_l2 (op : Int64 → Int64 → Int64) : RT := fun _ K _ lv st σ b => match st with
  | .inr (.inl y) :: .inr (.inl x) :: r => K lv (rL (x.1 && y.1) (op x.2 y.2) :: r) σ b
  | _ => False
def tq_lrem : RT := fun _ K _ lv st σ b => match st with
  | .inr (.inl y) :: .inr (.inl x) :: r => (¬ y.2 = 0) ∧ K lv (rL (x.1 && y.1) (x.2 - x.2 / y.2 * y.2) :: r) σ b
  | _ => False
def tq_lshl : RT := fun _ K _ lv st σ b => match st with
  | .inl y :: .inr (.inl x) :: r => K lv (rL (x.1 && y.1) (x.2 <<< (y.2.toInt64 &&& 63)) :: r) σ b
  | _ => False
def tq_i2l : RT := fun _ K _ lv st σ b => match st with
  | .inl x :: r => K lv (rL x.1 x.2.toInt64 :: r) σ b
  | _ => False
def tq_l2i : RT := fun _ K _ lv st σ b => match st with
  | .inr (.inl x) :: r => K lv (rI x.1 x.2.toInt32 :: r) σ b
  | _ => False
def tq_lcmp : RT := fun _ K _ lv st σ b => match st with
  | .inr (.inl y) :: .inr (.inl x) :: r => K lv (rI (x.1 && y.1) (lg_cmp x.2 y.2) :: r) σ b
  | _ => False
def tq_dup : RT := fun _ K _ lv st σ b => match st with
  | v :: r => match Nat.beq (rcat v) 1 with
    | true => K lv (v :: v :: r) σ b
    | false => False
  | _ => False
def tq_dupx1 : RT := fun _ K _ lv st σ b => match st with
  | v :: w :: r => match Nat.beq (rcat v) 1 && Nat.beq (rcat w) 1 with
    | true => K lv (v :: w :: v :: r) σ b
    | false => False
  | _ => False
def tq_pop : RT := fun _ K _ lv st σ b => match st with
  | v :: r => match Nat.beq (rcat v) 1 with
    | true => K lv r σ b
    | false => False
  | _ => False
def tq_go (o : Nat) : RT := fun _ _ J lv st σ b => J o lv st σ b
/-- one number against 0, or two against each other: the test as a Bool -/
def tq_if1 (c : Int32 → Bool) (o : Nat) : RT := fun _ K J lv st σ b => match st with
  | .inl x :: r => rbr x.1 (c x.2) (J o lv r σ b) (K lv r σ b)
  | _ => False
def tq_if2 (c : Int32 → Int32 → Bool) (o : Nat) : RT := fun _ K J lv st σ b => match st with
  | .inl y :: .inl x :: r => rbr (x.1 && y.1) (c x.2 y.2) (J o lv r σ b) (K lv r σ b)
  | _ => False
/-- a switch on a number written out -/
def tq_sw (lo : Int) (os : List Nat) (d : Nat) : RT := fun _ _ J lv st σ b => match st with
  | .inl x :: r => match x.1 with
    | true => match decide (x.2.toInt < lo) || decide (lo + (os.length : Int) ≤ x.2.toInt) with
      | true => J d lv r σ b
      | false => J (os.getD (x.2.toInt - lo).toNat d) lv r σ b
    | false => False
  | _ => False
def tq_getf (ci k : Nat) : RT := fun _ K _ lv st σ b => match st with
  | .inr (.inr (.inl i)) :: r => match rat σ i with
    | some (.inl o) => match Nat.beq o.1 ci with
      | true => match rat o.2 k with
        | some v => K lv (v :: r) σ b
        | none => False
      | false => False
    | _ => False
  | _ => False
/-- a field's kind: 0 an int, 1 a long, 2 a reference -/
def rkind (kd : Nat) (v : AV) : Bool := match v with
  | .inl _ => Nat.beq kd 0
  | .inr (.inl _) => Nat.beq kd 1
  | .inr (.inr _) => Nat.beq kd 2
def tq_putf (ci k kd : Nat) : RT := fun _ K _ lv st σ b => match st with
  | v :: .inr (.inr (.inl i)) :: r => match rat σ i with
    | some (.inl o) => match Nat.beq o.1 ci && (rkind kd v && Nat.blt k o.2.length) with
      | true => rforce (rset o.2 k v) (fun fs => rforce (rset σ i (.inl (o.1, fs))) (fun σ' => K lv r σ' b))
      | false => False
    | _ => False
  | _ => False
def tq_iald (t0 : Nat) : RT := fun _ K _ lv st σ b => match st with
  | .inl j :: .inr (.inr (.inl i)) :: r => match rat σ i with
    | some (.inr (t, n, .inl f)) => match Nat.beq t t0 with
      | true => rin j.1 j.2 n (K lv (rI false (f j.2.toNatClampNeg) :: r) σ b)
      | false => False
    | _ => False
  | _ => False
def tq_iast (t0 : Nat) : RT := fun _ K _ lv st σ b => match st with
  | .inl x :: .inl j :: .inr (.inr (.inl i)) :: r => match rat σ i with
    | some (.inr (t, n, .inl f)) => match Nat.beq t t0 with
      | true => rin j.1 j.2 n (rforce (rset σ i (.inr (t, n, .inl (upd f j.2.toNatClampNeg x.2)))) (fun σ' => K lv r σ' b))
      | false => False
    | _ => False
  | _ => False
def tq_zast (t0 : Nat) : RT := fun _ K _ lv st σ b => match st with
  | .inl x :: .inl j :: .inr (.inr (.inl i)) :: r => match rat σ i with
    | some (.inr (t, n, .inl f)) => match Nat.beq t t0 with
      | true => rin j.1 j.2 n (rforce (rset σ i (.inr (t, n, .inl (upd f j.2.toNatClampNeg (vp_nar .boolean x.2))))) (fun σ' => K lv r σ' b))
      | false => False
    | _ => False
  | _ => False
def tq_aald (t0 : Nat) : RT := fun _ K _ lv st σ b => match st with
  | .inl j :: .inr (.inr (.inl i)) :: r => match rat σ i with
    | some (.inr (t, n, .inr g)) => match Nat.beq t t0 with
      | true => rin j.1 j.2 n (K lv (rR (bif Nat.beq j.2.toNatClampNeg 0 then g 0 else g 1) :: r) σ b)
      | false => False
    | _ => False
  | _ => False
/-- a row that nobody writes: at the place i0, of n things, the things' places from g on -/
def tq_aldS (i0 n g : Nat) : RT := fun _ K _ lv st σ b => match st with
  | .inl j :: .inr (.inr (.inl i)) :: r => match Nat.beq i i0 with
    | true => rin j.1 j.2 n (K lv (rR (g + j.2.toNatClampNeg) :: r) σ b)
    | false => False
  | _ => False
def tq_ialdS (i0 n : Nat) (f : Nat → Int32) : RT := fun _ K _ lv st σ b => match st with
  | .inl j :: .inr (.inr (.inl i)) :: r => match Nat.beq i i0 with
    | true => rin j.1 j.2 n (K lv (rI j.1 (f j.2.toNatClampNeg) :: r) σ b)
    | false => False
  | _ => False
noncomputable def rwt (l : List AV) : Nat := List.rec (motive := fun _ => Nat) 0 (fun v _ ih => rcat v + ih) l
def rtake (n : Nat) : List AV → List AV → (List AV → List AV → Prop) → Prop := Nat.rec (motive := fun _ => List AV → List AV → (List AV → List AV → Prop) → Prop) (fun acc st k => k acc st) (fun _ ih acc st k => match st with
    | v :: r => ih (v :: acc) r k
    | [] => False) n
theorem rtake_use : ∀ (n : Nat) (acc st : List AV) (k : List AV → List AV → Prop), rtake n acc st k → ∃ as r : List AV, as.length = n + acc.length ∧ acc.reverse ++ st = as.reverse ++ r ∧ k as r
  | 0, acc, st, k, h => ⟨acc, st, by simp, rfl, h⟩
  | n + 1, acc, st, k, h => by
    cases st with
    | nil => exact h.elim
    | cons v r =>
      obtain ⟨as, r2, h1, h2, h3⟩ := rtake_use n (v :: acc) r k h
      exact ⟨as, r2, by rw [h1]; simp; omega, by rw [← h2]; simp, h3⟩
def rhand (hs : List (Nat × Nat)) (E : Nat) (A : Prop) (B : Nat → Prop) : Prop := List.rec (motive := fun _ => Prop) A (fun q _ ih => match Nat.beq q.1 E with
    | true => B q.2
    | false => ih) hs
/-- a call of a method that does M: n arguments, at most mc cells; what is thrown goes on -/
def tq_call (M : RM) (n mc mcO : Nat) : RT := fun Q K _ lv st σ b =>
  rtake n [] st (fun as r => match Nat.ble (rwt r) 8 && Nat.ble (b + mc) mcO with
    | true => M as σ (fun z σ' => match z with
      | .inl (some v) => K lv (v :: r) σ' (b + mc)
      | .inl none => K lv r σ' (b + mc)
      | .inr E => Q (.inr E) σ')
    | false => False)
/-- .. hs: which of the classes thrown is caught, and where; nothing else is thrown -/
def tq_callH (M : RM) (n mc mcO : Nat) (hs : List (Nat × Nat)) : RT := fun _ K J lv st σ b =>
  rtake n [] st (fun as r => match Nat.ble (rwt r) 8 && Nat.ble (b + mc) mcO with
    | true => M as σ (fun z σ' => match z with
      | .inl (some v) => K lv (v :: r) σ' (b + mc)
      | .inl none => K lv r σ' (b + mc)
      | .inr E => rhand hs E False (fun o => ∀ q : Nat, J o lv [rO (some q)] σ' (b + mc)))
    | false => False)
/-- 'throw new E("text")', the whole of it -/
def tq_thr (E mcO : Nat) : RT := fun Q _ _ _ st σ b => match st with
  | [] => match Nat.ble (b + 1) mcO with
    | true => Q (.inr E) σ
    | false => False
  | _ => False
def tq_vret (mcO : Nat) : RT := fun Q _ _ _ st σ b => match st with
  | [] => match Nat.ble b mcO with
    | true => Q (.inl none) σ
    | false => False
  | _ => False
/-- an int, or what is narrowed like one -/
def tq_iret (mcO : Nat) : RT := fun Q _ _ _ st σ b => match st with
  | [.inl x] => match Nat.ble b mcO with
    | true => Q (.inl (some (.inl x))) σ
    | false => False
  | _ => False
def tq_zret (mcO : Nat) : RT := fun Q _ _ _ st σ b => match st with
  | [.inl x] => match Nat.ble b mcO with
    | true => rbr x.1 (decide (x.2 = 0) || decide (x.2 = 1)) (Q (.inl (some (.inl x))) σ) False
    | false => False
  | _ => False
def tq_lret (mcO : Nat) : RT := fun Q _ _ _ st σ b => match st with
  | [.inr (.inl x)] => match Nat.ble b mcO with
    | true => Q (.inl (some (.inr (.inl x)))) σ
    | false => False
  | _ => False
def tq_aret (mcO : Nat) : RT := fun Q _ _ _ st σ b => match st with
  | [.inr (.inr x)] => match Nat.ble b mcO with
    | true => Q (.inl (some (.inr (.inr x)))) σ
    | false => False
  | _ => False
def tq_mmin (mcO : Nat) : RT := fun _ K _ lv st σ b => match st with
  | [.inl y, .inl x] => match Nat.ble b mcO with
    | true => K lv [rI (x.1 && y.1) (if y.2 < x.2 then y.2 else x.2)] σ b
    | false => False
  | _ => False
def tq_mmax (mcO : Nat) : RT := fun _ K _ lv st σ b => match st with
  | [.inl y, .inl x] => match Nat.ble b mcO with
    | true => K lv [rI (x.1 && y.1) (if x.2 < y.2 then y.2 else x.2)] σ b
    | false => False
  | _ => False
-- a method's rows, one behind the other; n: how far at most
noncomputable def rdrop {α : Type} (n : Nat) : List α → List α := Nat.rec (motive := fun _ => List α → List α) (fun l => l) (fun _ ih l => List.rec (motive := fun _ => List α) [] (fun _ r _ => ih r) l) n
theorem rdrop_eq {α : Type} : ∀ (n : Nat) (l : List α), rdrop n l = l.drop n
  | 0, l => rfl
  | n + 1, [] => rfl
  | n + 1, a :: r => rdrop_eq n r
def rEv (tab : List RT) (Q : RQ) (n : Nat) : List RT → RK := Nat.rec (motive := fun _ => List RT → RK) (fun _ _ _ _ _ => False) (fun _ ih l lv st σ b => match l with
    | t :: r => t Q (ih r) (fun o => ih (rdrop o tab)) lv st σ b
    | [] => False) n
noncomputable def rent (i : Nat) (as : List AV) : RLv := List.rec (motive := fun _ => Nat → RLv) (fun _ => []) (fun v _ ih i => (i, v) :: ih (match rcat v with
    | 2 => i + 2
    | _ => i + 1)) as i
def rMeth (tab : List RT) (fuel nL : Nat) : RM := fun as σ Q => match Nat.ble (rwt as) nL with
  | true => rforce (rent 0 as) (fun lv => rEv tab Q fuel tab lv [] σ 0)
  | false => False
def rAll (P : Nat → Nat → RT → Prop) : List Nat → List RT → Prop
  | pc :: ps, t :: ts => P pc (ps.headD 0) t ∧ rAll P ps ts
  | _, [] => True
  | [], _ :: _ => False
theorem rAll_at {P : Nat → Nat → RT → Prop} : ∀ {ps : List Nat} {ts : List RT}, rAll P ps ts → ∀ (k : Nat) (t : RT) (r : List RT), ts.drop k = t :: r → P (ps.getD k 0) (ps.getD (k + 1) 0) t ∧ r = ts.drop (k + 1)
  | ps, [], _, k, t, r, h => by simp at h
  | [], _ :: _, hA, k, t, r, h => hA.elim
  | pc :: ps, t0 :: ts, hA, 0, t, r, h => by
    simp only [List.drop_zero, List.cons.injEq] at h
    obtain ⟨rfl, rfl⟩ := h
    refine ⟨?_, by simp⟩
    have e : (pc :: ps).getD (0 + 1) 0 = ps.headD 0 := by cases ps <;> rfl
    rw [e]
    exact hA.1
  | pc :: ps, t0 :: ts, hA, k + 1, t, r, h => by
    obtain ⟨h1, h2⟩ := rAll_at hA.2 k t r (by simpa using h)
    exact ⟨by simpa using h1, by simpa using h2⟩
end RKA
section RKI
abbrev RG : Type := va_G × (Nat → ClassId) × (Nat → Nat) × Nat × Nat × (Nat → Int32)
abbrev rDD (G : RG) : va_G := G.1
abbrev rTy (G : RG) : Nat → ClassId := G.2.1
abbrev rAd (G : RG) : Nat → Nat := G.2.2.1
abbrev rLo (G : RG) : Nat := G.2.2.2.1
/-- the script: how long, what it holds -/
abbrev rSc (G : RG) : Nat × (Nat → Int32) := G.2.2.2.2
def rA (G : RG) : Nat → Prop := fun q => rLo G ≤ q
abbrev rTys (G : RG) : List (ClassId × FieldType) := [(rTy G 0, .int), (rTy G 1, .boolean), (rTy G 2, .array .int), (rTy G 3, .byte)]
def rLen (j : Nat) : Int32 := match j with
  | 1 => 28
  | 3 => 30
  | 5 => 30
  | 8 => 30
  | 10 => 30
  | _ => 31
/-- words on classes and members that stay true when the tables warm -/
def rFc : List Cond := lw_tbl.filter (fun w => w.faceAtom && w.onTables)
theorem rFc_warm {u U : State} (hv : u.vm.Alike U.vm) {w : Cond} (hw : w ∈ rFc) (h : w.before #[] u = true) : w.before #[] U = true := by
  have h1 := (List.mem_filter.mp hw).2
  rw [Bool.and_eq_true] at h1
  exact va_tabs h1.2 (rfl : (u.setVm U.vm).vm = U.vm) (Cond.faceAtom_setVm hv w h1.1 h)
/-- what nobody writes: statics, String constants, which class isn't which -/
def rIm (G : RG) (U : State) (H : Heap) : Prop :=
  vx_Zq Bundle.tN "UNASSIGNED_STACK" Bundle.steD (rA G) U H ∧ vx_Zq Bundle.tN "SUPPRESSED_SENTINEL" Bundle.listD (rA G) U H ∧
  va_Z "RingdaysModel" "DAYS" "[Ljava/lang/String;" (.ref (rAd G 50)) (rA G) U H ∧ va_T (.object "java/lang/String") (rAd G 50) 7 (fun j => .ref (rAd G (126 + j))) (rA G) U H ∧
  va_Z "RingdaysModel" "MONTHS" "[Ljava/lang/String;" (.ref (rAd G 51)) (rA G) U H ∧ va_T (.object "java/lang/String") (rAd G 51) 12 (fun j => .ref (rAd G (133 + j))) (rA G) U H ∧
  va_Z "RingdaysModel" "LENGTHS" "[I" (.ref (rAd G 52)) (rA G) U H ∧ va_T .int (rAd G 52) 12 (fun j => .int (rLen j)) (rA G) U H ∧
  (∀ i : Nat, i < 45 → vk_R (rStr.getD i ("", 0, "")).1 (rStr.getD i ("", 0, "")).2.1 (rStr.getD i ("", 0, "")).2.2 (rAd G (100 + i)) U) ∧
  (∀ i : Nat, i < 45 → va_O "java/lang/String" (rAd G (100 + i)) (rA G) U H ∧ va_OF "java/lang/String" "coder" "B" (.int 0) (rAd G (100 + i)) (rA G) U H ∧ va_OF "java/lang/String" "value" "[B" (.ref (rAd G (200 + i))) (rAd G (100 + i)) (rA G) U H ∧ va_T .byte (rAd G (200 + i)) (rSLen.getD i 0) (fun j => .int ((rSByt.getD i []).getD j 0)) (rA G) U H) ∧
  va_Z "java/lang/String" "COMPACT_STRINGS" "Z" (.int 1) (rA G) U H ∧ va_Zq "jdk/internal/util/Preconditions" "SIOOBE_FORMATTER" "Ljava/util/function/BiFunction;" (rA G) U H ∧
  va_Nc "java/lang/IllegalArgumentException" "java/lang/IndexOutOfBoundsException" U ∧ va_Nc "java/lang/IllegalStateException" "java/lang/IndexOutOfBoundsException" U ∧
  va_Nw (.fieldLinkNest "RingdaysLaw" 13 "RingdaysLaw$Out" "n" "J" "RingdaysLaw") U ∧ va_Nw (.fieldLinkNest "RingdaysLaw" 34 "RingdaysLaw$Out" "s" "Ljava/lang/String;" "RingdaysLaw") U ∧
  (∀ w ∈ rFc, w.before #[] U = true) ∧ va_T .int (rAd G 60) (rSc G).1 (fun j => .int ((rSc G).2 j)) (rA G) U H
theorem rIm.kept {G : RG} {U : State} {H H1 : Heap} (h : rIm G U H) (hq : ∀ a : Nat, a < H.size → ¬ rA G a → H1[a]? = H[a]?) : rIm G U H1 := by
  obtain ⟨h1, h2, h3, h4, h5, h6, h7, h8, h9, h10, h11, h12, h13, h14, h15, h16, h17, h18⟩ := h
  exact ⟨h1.kept hq, h2.kept hq, h3.kept hq, h4.kept hq, h5.kept hq, h6.kept hq, h7.kept hq, h8.kept hq, h9,
    fun i hi => ⟨(h10 i hi).1.kept hq, (h10 i hi).2.1.kept hq, (h10 i hi).2.2.1.kept hq, (h10 i hi).2.2.2.kept hq⟩, h11.kept hq, h12.kept hq, h13, h14, h15, h16, h17, h18.kept hq⟩
theorem rIm.warm {G : RG} {u U : State} {H : Heap} (hW : u.WarmedH U.vm) (h : rIm G u H) : rIm G U H := by
  obtain ⟨h1, h2, h3, h4, h5, h6, h7, h8, h9, h10, h11, h12, h13, h14, h15, h16, h17, h18⟩ := h
  have hv := hW.alike
  exact ⟨vx_Zq.moved hv h1, vx_Zq.moved hv h2, va_Z.moved hv h3, va_T.moved hv h4, va_Z.moved hv h5, va_T.moved hv h6, va_Z.moved hv h7, va_T.moved hv h8, fun i hi => vk_R.warm hW (h9 i hi),
    fun i hi => ⟨va_O.moved hv (h10 i hi).1, va_OF.moved hv (h10 i hi).2.1, va_OF.moved hv (h10 i hi).2.2.1, va_T.moved hv (h10 i hi).2.2.2⟩, va_Z.moved hv h11, va_Zq.moved hv h12, h13.moved hv, h14.moved hv, va_Nw.warmF hW h15, va_Nw.warmF hW h16, fun w hw => rFc_warm hv hw (h17 w hw), va_T.moved hv h18⟩
end RKI
