section RKU
-- a word's place among the tables' looked for among its like alone
def r_cz (w : Cond) : Nat := match w with
  | .methodLink _ i _ => 32 * i + 1
  | .fieldLink _ i _ _ _ => 32 * i + 2
  | .classLink _ i _ => 32 * i + 3
  | .stringRef _ i _ => 32 * i + 4
  | .static _ => 5
  | .instanceMethod _ => 6
  | .privateMethod _ => 7
  | .selects _ _ _ => 8
  | .castable _ _ => 9
  | .initialized _ => 10
  | .lays _ _ _ _ => 11
  | .laysFinal _ _ _ _ => 12
  | .laysStatic _ _ _ => 13
  | .instantiable _ _ => 14
  | .code _ _ _ _ => 15
  | .codeWith _ _ _ _ _ => 16
  | _ => 0
def r_inB (w : Cond) : Bool := lw_tbl.any (fun x => bif Nat.beq (r_cz x) (r_cz w) then decide (x = w) else false)
theorem r_inB_ok {w : Cond} (h : r_inB w = true) : w ∈ lw_tbl := by
  obtain ⟨x, hx, h⟩ := List.any_eq_true.mp h
  cases hb : Nat.beq (r_cz x) (r_cz w)
  · rw [hb] at h
    cases h
  · rw [hb] at h
    have e : x = w := of_decide_eq_true h
    rw [← e]
    exact hx
theorem r_memT {L : List Cond} (h : L.all (fun w => goodWord w && r_inB w) = true) : ∀ w ∈ L, w ∈ rT := fun w hw => by
  have h1 := List.all_eq_true.mp h w hw
  rw [Bool.and_eq_true] at h1
  exact List.mem_filter.mpr ⟨r_inB_ok h1.2, h1.1⟩
theorem r_memF {L : List Cond} (h : L.all (fun w => (w.faceAtom && w.onTables) && r_inB w) = true) : ∀ w ∈ L, w ∈ rFc := fun w hw => by
  have h1 := List.all_eq_true.mp h w hw
  rw [Bool.and_eq_true] at h1
  exact List.mem_filter.mpr ⟨r_inB_ok h1.2, h1.1⟩
theorem rU0 : ∀ w ∈ u_ws rN0 rF0 7, w ∈ rT := r_memT (by decide +kernel)
theorem rU1 : ∀ w ∈ u_ws rN1 rF1 7, w ∈ rT := r_memT (by decide +kernel)
theorem rU2 : ∀ w ∈ u_ws rN2 rF2 2, w ∈ rT := r_memT (by decide +kernel)
theorem rU3 : ∀ w ∈ u_ws rN3 rF3 4, w ∈ rT := r_memT (by decide +kernel)
theorem rU4 : ∀ w ∈ u_ws rN4 rF4 4, w ∈ rT := r_memT (by decide +kernel)
theorem rU3c (c : Cond) : ∀ w ∈ u_ws rN3 rF3 4, w ∈ c :: rT := fun w h => List.mem_cons_of_mem _ (rU3 w h)
theorem rU4c (c : Cond) : ∀ w ∈ u_ws rN4 rF4 4, w ∈ c :: rT := fun w h => List.mem_cons_of_mem _ (rU4 w h)
theorem rU0c (c : Cond) : ∀ w ∈ u_ws rN0 rF0 7, w ∈ c :: rT := fun w h => List.mem_cons_of_mem _ (rU0 w h)
theorem rU1c (c : Cond) : ∀ w ∈ u_ws rN1 rF1 7, w ∈ c :: rT := fun w h => List.mem_cons_of_mem _ (rU1 w h)
theorem rU2c (c : Cond) : ∀ w ∈ u_ws rN2 rF2 2, w ∈ c :: rT := fun w h => List.mem_cons_of_mem _ (rU2 w h)
theorem rcm {c : Cond} {L : List Cond} (h : ∀ w ∈ L, w ∈ rT) : ∀ w ∈ L, w ∈ c :: rT := fun w hw => List.mem_cons_of_mem _ (h w hw)
theorem rcons {P : Nat → Nat → RT → Prop} {pc : Nat} {ps : List Nat} {t : RT} {ts : List RT} (h : P pc (ps.headD 0) t) (k : rAll P ps ts) : rAll P (pc :: ps) (t :: ts) := ⟨h, k⟩
theorem rnil {P : Nat → Nat → RT → Prop} : rAll P [] [] := trivial
theorem rh3 {φ : RG → Prop} (G : RG) (s : State) (_ : φ G) (h : rIm G s s.heap) : va_Z "RingdaysModel" "DAYS" "[Ljava/lang/String;" (.ref (rAd G 50)) (rA G) s s.heap := h.2.2.1
theorem rh4 {φ : RG → Prop} (G : RG) (s : State) (_ : φ G) (h : rIm G s s.heap) : va_T (.object "java/lang/String") (rAd G 50) 7 (fun j => .ref (rAd G (126 + j))) (rA G) s s.heap := h.2.2.2.1
theorem rh5 {φ : RG → Prop} (G : RG) (s : State) (_ : φ G) (h : rIm G s s.heap) : va_Z "RingdaysModel" "MONTHS" "[Ljava/lang/String;" (.ref (rAd G 51)) (rA G) s s.heap := h.2.2.2.2.1
theorem rh6 {φ : RG → Prop} (G : RG) (s : State) (_ : φ G) (h : rIm G s s.heap) : va_T (.object "java/lang/String") (rAd G 51) 12 (fun j => .ref (rAd G (133 + j))) (rA G) s s.heap := h.2.2.2.2.2.1
theorem rh7 {φ : RG → Prop} (G : RG) (s : State) (_ : φ G) (h : rIm G s s.heap) : va_Z "RingdaysModel" "LENGTHS" "[I" (.ref (rAd G 52)) (rA G) s s.heap := h.2.2.2.2.2.2.1
theorem rh8 {φ : RG → Prop} (G : RG) (s : State) (_ : φ G) (h : rIm G s s.heap) : va_T .int (rAd G 52) 12 (fun j => .int (rLen j)) (rA G) s s.heap := h.2.2.2.2.2.2.2.1
theorem rh15 (G : RG) (s : State) (h : rIm G s s.heap) : va_Nw (.fieldLinkNest "RingdaysLaw" 13 "RingdaysLaw$Out" "n" "J" "RingdaysLaw") s := by
  obtain ⟨-, -, -, -, -, -, -, -, -, -, -, -, -, -, h15, -, -, -⟩ := h
  exact h15
theorem rh16 (G : RG) (s : State) (h : rIm G s s.heap) : va_Nw (.fieldLinkNest "RingdaysLaw" 34 "RingdaysLaw$Out" "s" "Ljava/lang/String;" "RingdaysLaw") s := by
  obtain ⟨-, -, -, -, -, -, -, -, -, -, -, -, -, -, -, h16, -, -⟩ := h
  exact h16
theorem rsw_ok {pc d : Nat} {offs : Array Int} {os : List Nat} {J : Nat → Nat} (h : (List.range os.length).all (fun i => match offs[i]? with
    | some off => decide ((pc : Int) + off = (J (os.getD i d) : Int))
    | none => false) = true) : ∀ i : Nat, i < os.length → ∃ off : Int, offs[i]? = some off ∧ (pc : Int) + off = (J (os.getD i d) : Int) := by
  intro i hi
  have h1 := List.all_eq_true.mp h i (List.mem_range.mpr hi)
  split at h1
  · next off ho => exact ⟨off, ho, of_decide_eq_true h1⟩
  · cases h1
end RKU
section RKW
abbrev y_c_acts : MethodName := ⟨"Ringdays", "acts", "()I"⟩
abbrev y_c_amount : MethodName := ⟨"Ringdays", "amount", "(II)J"⟩
abbrev y_c_areAlike : MethodName := ⟨"Ringdays", "areAlike", "(IIZ)Z"⟩
abbrev y_c_areCellsSound : MethodName := ⟨"Ringdays", "areCellsSound", "()Z"⟩
abbrev y_c_areMonthsSound : MethodName := ⟨"Ringdays", "areMonthsSound", "()Z"⟩
abbrev y_c_back : MethodName := ⟨"Ringdays", "back", "(I)I"⟩
abbrev y_c_become : MethodName := ⟨"Ringdays", "become", "([III)I"⟩
abbrev y_c_becomeBoth : MethodName := ⟨"Ringdays", "becomeBoth", "(IIII)I"⟩
abbrev y_c_begins : MethodName := ⟨"Ringdays", "begins", "(IIZ)I"⟩
abbrev y_c_comesToEachOnce : MethodName := ⟨"Ringdays", "comesToEachOnce", "(II)Z"⟩
abbrev y_c_copy : MethodName := ⟨"Ringdays", "copy", "([III)I"⟩
abbrev y_c_copyCells : MethodName := ⟨"Ringdays", "copyCells", "([I[I)V"⟩
abbrev y_c_countOthers : MethodName := ⟨"Ringdays", "countOthers", "([I[I)I"⟩
abbrev y_c_date : MethodName := ⟨"Ringdays", "date", "(IIZI)I"⟩
abbrev y_c_day : MethodName := ⟨"Ringdays", "day", "(II)I"⟩
abbrev y_c_dayAfterYear : MethodName := ⟨"Ringdays", "dayAfterYear", "(IZ)I"⟩
abbrev y_c_dayAhead : MethodName := ⟨"Ringdays", "dayAhead", "(II)I"⟩
abbrev y_c_dayAt : MethodName := ⟨"Ringdays", "dayAt", "(II)I"⟩
abbrev y_c_dayAtFar : MethodName := ⟨"Ringdays", "dayAtFar", "(IIIZ)I"⟩
abbrev y_c_dayBack : MethodName := ⟨"Ringdays", "dayBack", "(II)I"⟩
abbrev y_c_dayBackFar : MethodName := ⟨"Ringdays", "dayBackFar", "(III)I"⟩
abbrev y_c_dayCopy : MethodName := ⟨"Ringdays", "dayCopy", "(II)I"⟩
abbrev y_c_dayName : MethodName := ⟨"Ringdays", "dayName", "(I)Ljava/lang/String;"⟩
abbrev y_c_dayNumber : MethodName := ⟨"Ringdays", "dayNumber", "(I)I"⟩
abbrev y_c_dayOfDate : MethodName := ⟨"Ringdays", "dayOfDate", "(IIZI)I"⟩
abbrev y_c_dayOn : MethodName := ⟨"Ringdays", "dayOn", "(II)I"⟩
abbrev y_c_dayOnFar : MethodName := ⟨"Ringdays", "dayOnFar", "(III)I"⟩
abbrev y_c_dayOrder : MethodName := ⟨"Ringdays", "dayOrder", "(II)I"⟩
abbrev y_c_dayPlace : MethodName := ⟨"Ringdays", "dayPlace", "(I)I"⟩
abbrev y_c_daySwap : MethodName := ⟨"Ringdays", "daySwap", "(II)I"⟩
abbrev y_c_dayTwice : MethodName := ⟨"Ringdays", "dayTwice", "(III)I"⟩
abbrev y_c_exchange : MethodName := ⟨"Ringdays", "exchange", "([IIII)I"⟩
abbrev y_c_first : MethodName := ⟨"Ringdays", "first", "(IZ)I"⟩
abbrev y_c_firstOf : MethodName := ⟨"Ringdays", "firstOf", "(IZ)I"⟩
abbrev y_c_greatest : MethodName := ⟨"Ringdays", "greatest", "(I)I"⟩
abbrev y_c_greatestOf : MethodName := ⟨"Ringdays", "greatestOf", "(I)I"⟩
abbrev y_c_hasNumber : MethodName := ⟨"Ringdays", "hasNumber", "([IIII)Z"⟩
abbrev y_c_isDay : MethodName := ⟨"Ringdays", "isDay", "(II)Z"⟩
abbrev y_c_isFirstSound : MethodName := ⟨"Ringdays", "isFirstSound", "(IZ)Z"⟩
abbrev y_c_isKept : MethodName := ⟨"Ringdays", "isKept", "(I)Z"⟩
abbrev y_c_isMonth : MethodName := ⟨"Ringdays", "isMonth", "(II)Z"⟩
abbrev y_c_isQuarterSound : MethodName := ⟨"Ringdays", "isQuarterSound", "(I)Z"⟩
abbrev y_c_isRingSound : MethodName := ⟨"Ringdays", "isRingSound", "(I)Z"⟩
abbrev y_c_isSameDay : MethodName := ⟨"Ringdays", "isSameDay", "(II)Z"⟩
abbrev y_c_isSameMonth : MethodName := ⟨"Ringdays", "isSameMonth", "(II)Z"⟩
abbrev y_c_isSound : MethodName := ⟨"Ringdays", "isSound", "()Z"⟩
abbrev y_c_keep : MethodName := ⟨"Ringdays", "keep", "(I)I"⟩
abbrev y_c_knock : MethodName := ⟨"Ringdays", "knock", "()I"⟩
abbrev y_c_least : MethodName := ⟨"Ringdays", "least", "(I)I"⟩
abbrev y_c_leastOf : MethodName := ⟨"Ringdays", "leastOf", "(I)I"⟩
abbrev y_c_length : MethodName := ⟨"Ringdays", "length", "(IZ)I"⟩
abbrev y_c_lengthOf : MethodName := ⟨"Ringdays", "lengthOf", "(IZ)I"⟩
abbrev y_c_mixed : MethodName := ⟨"Ringdays", "mixed", "(JI)J"⟩
abbrev y_c_month : MethodName := ⟨"Ringdays", "month", "(II)I"⟩
abbrev y_c_monthAhead : MethodName := ⟨"Ringdays", "monthAhead", "(II)I"⟩
abbrev y_c_monthAt : MethodName := ⟨"Ringdays", "monthAt", "(II)I"⟩
abbrev y_c_monthAtFar : MethodName := ⟨"Ringdays", "monthAtFar", "(IIIZ)I"⟩
abbrev y_c_monthBack : MethodName := ⟨"Ringdays", "monthBack", "(II)I"⟩
abbrev y_c_monthBackFar : MethodName := ⟨"Ringdays", "monthBackFar", "(III)I"⟩
abbrev y_c_monthCopy : MethodName := ⟨"Ringdays", "monthCopy", "(II)I"⟩
abbrev y_c_monthName : MethodName := ⟨"Ringdays", "monthName", "(I)Ljava/lang/String;"⟩
abbrev y_c_monthNumber : MethodName := ⟨"Ringdays", "monthNumber", "(I)I"⟩
abbrev y_c_monthOn : MethodName := ⟨"Ringdays", "monthOn", "(II)I"⟩
abbrev y_c_monthOnFar : MethodName := ⟨"Ringdays", "monthOnFar", "(III)I"⟩
abbrev y_c_monthOrder : MethodName := ⟨"Ringdays", "monthOrder", "(II)I"⟩
abbrev y_c_monthPlace : MethodName := ⟨"Ringdays", "monthPlace", "(I)I"⟩
abbrev y_c_monthSwap : MethodName := ⟨"Ringdays", "monthSwap", "(II)I"⟩
abbrev y_c_monthTwice : MethodName := ⟨"Ringdays", "monthTwice", "(III)I"⟩
abbrev y_c_nameOfDay : MethodName := ⟨"Ringdays", "nameOfDay", "(I)Ljava/lang/String;"⟩
abbrev y_c_nameOfMonth : MethodName := ⟨"Ringdays", "nameOfMonth", "(I)Ljava/lang/String;"⟩
abbrev y_c_numberBack : MethodName := ⟨"Ringdays", "numberBack", "(IJI)I"⟩
abbrev y_c_numberIn : MethodName := ⟨"Ringdays", "numberIn", "([II)I"⟩
abbrev y_c_numberOn : MethodName := ⟨"Ringdays", "numberOn", "(IJI)I"⟩
abbrev y_c_order : MethodName := ⟨"Ringdays", "order", "(II)I"⟩
abbrev y_c_placeOf : MethodName := ⟨"Ringdays", "placeOf", "(I)I"⟩
abbrev y_c_quarter : MethodName := ⟨"Ringdays", "quarter", "(I)I"⟩
abbrev y_c_quarterOf : MethodName := ⟨"Ringdays", "quarterOf", "(I)I"⟩
abbrev y_c_refuseOutside : MethodName := ⟨"Ringdays", "refuseOutside", "(II)V"⟩
abbrev y_c_rest : MethodName := ⟨"Ringdays", "rest", "(JI)I"⟩
abbrev y_c_step : MethodName := ⟨"Ringdays", "step", "(IIZ)I"⟩
abbrev y_c_stepBack : MethodName := ⟨"Ringdays", "stepBack", "(IIZ)I"⟩
abbrev y_c_swap : MethodName := ⟨"Ringdays", "swap", "([III)I"⟩
abbrev y_c_toQuarter : MethodName := ⟨"Ringdays", "toQuarter", "(I)I"⟩
abbrev y_c_write : MethodName := ⟨"Ringdays", "write", "([III)V"⟩
abbrev y_d_acts : MethodName := ⟨"RingdaysModel", "acts", "()I"⟩
abbrev y_d_add__JJ_J : MethodName := ⟨"RingdaysModel", "add", "(JJ)J"⟩
abbrev y_d_ahead : MethodName := ⟨"RingdaysModel", "ahead", "(IIJ)I"⟩
abbrev y_d_amount : MethodName := ⟨"RingdaysModel", "amount", "(II)J"⟩
abbrev y_d_areAlike : MethodName := ⟨"RingdaysModel", "areAlike", "(IIZ)Z"⟩
abbrev y_d_areOfOneDay : MethodName := ⟨"RingdaysModel", "areOfOneDay", "(IIZ)Z"⟩
abbrev y_d_back : MethodName := ⟨"RingdaysModel", "back", "(I)I"⟩
abbrev y_d_begins : MethodName := ⟨"RingdaysModel", "begins", "(IIZ)I"⟩
abbrev y_d_date : MethodName := ⟨"RingdaysModel", "date", "(IIZI)I"⟩
abbrev y_d_day : MethodName := ⟨"RingdaysModel", "day", "(II)I"⟩
abbrev y_d_dayAhead : MethodName := ⟨"RingdaysModel", "dayAhead", "(II)I"⟩
abbrev y_d_dayAt : MethodName := ⟨"RingdaysModel", "dayAt", "(II)I"⟩
abbrev y_d_dayAtFar : MethodName := ⟨"RingdaysModel", "dayAtFar", "(IIIZ)I"⟩
abbrev y_d_dayBack : MethodName := ⟨"RingdaysModel", "dayBack", "(II)I"⟩
abbrev y_d_dayBackFar : MethodName := ⟨"RingdaysModel", "dayBackFar", "(III)I"⟩
abbrev y_d_dayBecomes : MethodName := ⟨"RingdaysModel", "dayBecomes", "(II)I"⟩
abbrev y_d_dayCopy : MethodName := ⟨"RingdaysModel", "dayCopy", "(II)I"⟩
abbrev y_d_dayName : MethodName := ⟨"RingdaysModel", "dayName", "(I)Ljava/lang/String;"⟩
abbrev y_d_dayNumber : MethodName := ⟨"RingdaysModel", "dayNumber", "(I)I"⟩
abbrev y_d_dayOn : MethodName := ⟨"RingdaysModel", "dayOn", "(II)I"⟩
abbrev y_d_dayOnFar : MethodName := ⟨"RingdaysModel", "dayOnFar", "(III)I"⟩
abbrev y_d_dayOrder : MethodName := ⟨"RingdaysModel", "dayOrder", "(II)I"⟩
abbrev y_d_dayPlace : MethodName := ⟨"RingdaysModel", "dayPlace", "(I)I"⟩
abbrev y_d_daySwap : MethodName := ⟨"RingdaysModel", "daySwap", "(II)I"⟩
abbrev y_d_dayTwice : MethodName := ⟨"RingdaysModel", "dayTwice", "(III)I"⟩
abbrev y_d_first : MethodName := ⟨"RingdaysModel", "first", "(IZ)I"⟩
abbrev y_d_firstOf : MethodName := ⟨"RingdaysModel", "firstOf", "(IZ)I"⟩
abbrev y_d_greatest : MethodName := ⟨"RingdaysModel", "greatest", "(I)I"⟩
abbrev y_d_isDay : MethodName := ⟨"RingdaysModel", "isDay", "(II)Z"⟩
abbrev y_d_isKept : MethodName := ⟨"RingdaysModel", "isKept", "(I)Z"⟩
abbrev y_d_isMonth : MethodName := ⟨"RingdaysModel", "isMonth", "(II)Z"⟩
abbrev y_d_isNoCell : MethodName := ⟨"RingdaysModel", "isNoCell", "(I)Z"⟩
abbrev y_d_isNoMark : MethodName := ⟨"RingdaysModel", "isNoMark", "(I)Z"⟩
abbrev y_d_isSameDay : MethodName := ⟨"RingdaysModel", "isSameDay", "(II)Z"⟩
abbrev y_d_isSameMonth : MethodName := ⟨"RingdaysModel", "isSameMonth", "(II)Z"⟩
abbrev y_d_isSound : MethodName := ⟨"RingdaysModel", "isSound", "()Z"⟩
abbrev y_d_keep : MethodName := ⟨"RingdaysModel", "keep", "(I)I"⟩
abbrev y_d_knock : MethodName := ⟨"RingdaysModel", "knock", "()I"⟩
abbrev y_d_least : MethodName := ⟨"RingdaysModel", "least", "(I)I"⟩
abbrev y_d_length : MethodName := ⟨"RingdaysModel", "length", "(IZ)I"⟩
abbrev y_d_lengthOf : MethodName := ⟨"RingdaysModel", "lengthOf", "(IZ)I"⟩
abbrev y_d_month : MethodName := ⟨"RingdaysModel", "month", "(II)I"⟩
abbrev y_d_monthAhead : MethodName := ⟨"RingdaysModel", "monthAhead", "(II)I"⟩
abbrev y_d_monthAt : MethodName := ⟨"RingdaysModel", "monthAt", "(II)I"⟩
abbrev y_d_monthAtFar : MethodName := ⟨"RingdaysModel", "monthAtFar", "(IIIZ)I"⟩
abbrev y_d_monthBack : MethodName := ⟨"RingdaysModel", "monthBack", "(II)I"⟩
abbrev y_d_monthBackFar : MethodName := ⟨"RingdaysModel", "monthBackFar", "(III)I"⟩
abbrev y_d_monthBecomes : MethodName := ⟨"RingdaysModel", "monthBecomes", "(II)I"⟩
abbrev y_d_monthCopy : MethodName := ⟨"RingdaysModel", "monthCopy", "(II)I"⟩
abbrev y_d_monthName : MethodName := ⟨"RingdaysModel", "monthName", "(I)Ljava/lang/String;"⟩
abbrev y_d_monthNumber : MethodName := ⟨"RingdaysModel", "monthNumber", "(I)I"⟩
abbrev y_d_monthOn : MethodName := ⟨"RingdaysModel", "monthOn", "(II)I"⟩
abbrev y_d_monthOnFar : MethodName := ⟨"RingdaysModel", "monthOnFar", "(III)I"⟩
abbrev y_d_monthOrder : MethodName := ⟨"RingdaysModel", "monthOrder", "(II)I"⟩
abbrev y_d_monthPlace : MethodName := ⟨"RingdaysModel", "monthPlace", "(I)I"⟩
abbrev y_d_monthSwap : MethodName := ⟨"RingdaysModel", "monthSwap", "(II)I"⟩
abbrev y_d_monthTwice : MethodName := ⟨"RingdaysModel", "monthTwice", "(III)I"⟩
abbrev y_d_on : MethodName := ⟨"RingdaysModel", "on", "(IIJ)I"⟩
abbrev y_d_order : MethodName := ⟨"RingdaysModel", "order", "(II)I"⟩
abbrev y_d_quarter : MethodName := ⟨"RingdaysModel", "quarter", "(I)I"⟩
abbrev y_d_quarterOf : MethodName := ⟨"RingdaysModel", "quarterOf", "(I)I"⟩
abbrev y_d_refuse : MethodName := ⟨"RingdaysModel", "refuse", "(ZI)Z"⟩
abbrev y_d_start : MethodName := ⟨"RingdaysModel", "start", "(ZI)Z"⟩
abbrev y_d_step : MethodName := ⟨"RingdaysModel", "step", "(IIZ)I"⟩
abbrev y_d_stepBack : MethodName := ⟨"RingdaysModel", "stepBack", "(IIZ)I"⟩
abbrev y_d_toQuarter : MethodName := ⟨"RingdaysModel", "toQuarter", "(I)I"⟩
abbrev y_jm_floorMod : MethodName := ⟨"java/lang/Math", "floorMod", "(JJ)J"⟩
abbrev y_w_areAlike : MethodName := ⟨"RingdaysLaw", "areAlike", "(LRingdays;IIZLRingdaysLaw$Out;)I"⟩
abbrev y_w_back : MethodName := ⟨"RingdaysLaw", "back", "(LRingdays;ILRingdaysLaw$Out;)I"⟩
abbrev y_w_begins : MethodName := ⟨"RingdaysLaw", "begins", "(LRingdays;IIZLRingdaysLaw$Out;)I"⟩
abbrev y_w_date : MethodName := ⟨"RingdaysLaw", "date", "(LRingdays;IIZILRingdaysLaw$Out;)I"⟩
abbrev y_w_day : MethodName := ⟨"RingdaysLaw", "day", "(LRingdays;IILRingdaysLaw$Out;)I"⟩
abbrev y_w_dayAhead : MethodName := ⟨"RingdaysLaw", "dayAhead", "(LRingdays;IILRingdaysLaw$Out;)I"⟩
abbrev y_w_dayAt : MethodName := ⟨"RingdaysLaw", "dayAt", "(LRingdays;IILRingdaysLaw$Out;)I"⟩
abbrev y_w_dayAtFar : MethodName := ⟨"RingdaysLaw", "dayAtFar", "(LRingdays;IIIZLRingdaysLaw$Out;)I"⟩
abbrev y_w_dayBack : MethodName := ⟨"RingdaysLaw", "dayBack", "(LRingdays;IILRingdaysLaw$Out;)I"⟩
abbrev y_w_dayBackFar : MethodName := ⟨"RingdaysLaw", "dayBackFar", "(LRingdays;IIILRingdaysLaw$Out;)I"⟩
abbrev y_w_dayCopy : MethodName := ⟨"RingdaysLaw", "dayCopy", "(LRingdays;IILRingdaysLaw$Out;)I"⟩
abbrev y_w_dayName : MethodName := ⟨"RingdaysLaw", "dayName", "(LRingdays;ILRingdaysLaw$Out;)I"⟩
abbrev y_w_dayNumber : MethodName := ⟨"RingdaysLaw", "dayNumber", "(LRingdays;ILRingdaysLaw$Out;)I"⟩
abbrev y_w_dayOn : MethodName := ⟨"RingdaysLaw", "dayOn", "(LRingdays;IILRingdaysLaw$Out;)I"⟩
abbrev y_w_dayOnFar : MethodName := ⟨"RingdaysLaw", "dayOnFar", "(LRingdays;IIILRingdaysLaw$Out;)I"⟩
abbrev y_w_dayOrder : MethodName := ⟨"RingdaysLaw", "dayOrder", "(LRingdays;IILRingdaysLaw$Out;)I"⟩
abbrev y_w_dayPlace : MethodName := ⟨"RingdaysLaw", "dayPlace", "(LRingdays;ILRingdaysLaw$Out;)I"⟩
abbrev y_w_daySwap : MethodName := ⟨"RingdaysLaw", "daySwap", "(LRingdays;IILRingdaysLaw$Out;)I"⟩
abbrev y_w_dayTwice : MethodName := ⟨"RingdaysLaw", "dayTwice", "(LRingdays;IIILRingdaysLaw$Out;)I"⟩
abbrev y_w_first : MethodName := ⟨"RingdaysLaw", "first", "(LRingdays;IZLRingdaysLaw$Out;)I"⟩
abbrev y_w_greatest : MethodName := ⟨"RingdaysLaw", "greatest", "(LRingdays;ILRingdaysLaw$Out;)I"⟩
abbrev y_w_isDay : MethodName := ⟨"RingdaysLaw", "isDay", "(LRingdays;IILRingdaysLaw$Out;)I"⟩
abbrev y_w_isKept : MethodName := ⟨"RingdaysLaw", "isKept", "(LRingdays;ILRingdaysLaw$Out;)I"⟩
abbrev y_w_isMonth : MethodName := ⟨"RingdaysLaw", "isMonth", "(LRingdays;IILRingdaysLaw$Out;)I"⟩
abbrev y_w_isSameDay : MethodName := ⟨"RingdaysLaw", "isSameDay", "(LRingdays;IILRingdaysLaw$Out;)I"⟩
abbrev y_w_isSameMonth : MethodName := ⟨"RingdaysLaw", "isSameMonth", "(LRingdays;IILRingdaysLaw$Out;)I"⟩
abbrev y_w_keep : MethodName := ⟨"RingdaysLaw", "keep", "(LRingdays;ILRingdaysLaw$Out;)I"⟩
abbrev y_w_least : MethodName := ⟨"RingdaysLaw", "least", "(LRingdays;ILRingdaysLaw$Out;)I"⟩
abbrev y_w_length : MethodName := ⟨"RingdaysLaw", "length", "(LRingdays;IZLRingdaysLaw$Out;)I"⟩
abbrev y_w_month : MethodName := ⟨"RingdaysLaw", "month", "(LRingdays;IILRingdaysLaw$Out;)I"⟩
abbrev y_w_monthAhead : MethodName := ⟨"RingdaysLaw", "monthAhead", "(LRingdays;IILRingdaysLaw$Out;)I"⟩
abbrev y_w_monthAt : MethodName := ⟨"RingdaysLaw", "monthAt", "(LRingdays;IILRingdaysLaw$Out;)I"⟩
abbrev y_w_monthAtFar : MethodName := ⟨"RingdaysLaw", "monthAtFar", "(LRingdays;IIIZLRingdaysLaw$Out;)I"⟩
abbrev y_w_monthBack : MethodName := ⟨"RingdaysLaw", "monthBack", "(LRingdays;IILRingdaysLaw$Out;)I"⟩
abbrev y_w_monthBackFar : MethodName := ⟨"RingdaysLaw", "monthBackFar", "(LRingdays;IIILRingdaysLaw$Out;)I"⟩
abbrev y_w_monthCopy : MethodName := ⟨"RingdaysLaw", "monthCopy", "(LRingdays;IILRingdaysLaw$Out;)I"⟩
abbrev y_w_monthName : MethodName := ⟨"RingdaysLaw", "monthName", "(LRingdays;ILRingdaysLaw$Out;)I"⟩
abbrev y_w_monthNumber : MethodName := ⟨"RingdaysLaw", "monthNumber", "(LRingdays;ILRingdaysLaw$Out;)I"⟩
abbrev y_w_monthOn : MethodName := ⟨"RingdaysLaw", "monthOn", "(LRingdays;IILRingdaysLaw$Out;)I"⟩
abbrev y_w_monthOnFar : MethodName := ⟨"RingdaysLaw", "monthOnFar", "(LRingdays;IIILRingdaysLaw$Out;)I"⟩
abbrev y_w_monthOrder : MethodName := ⟨"RingdaysLaw", "monthOrder", "(LRingdays;IILRingdaysLaw$Out;)I"⟩
abbrev y_w_monthPlace : MethodName := ⟨"RingdaysLaw", "monthPlace", "(LRingdays;ILRingdaysLaw$Out;)I"⟩
abbrev y_w_monthSwap : MethodName := ⟨"RingdaysLaw", "monthSwap", "(LRingdays;IILRingdaysLaw$Out;)I"⟩
abbrev y_w_monthTwice : MethodName := ⟨"RingdaysLaw", "monthTwice", "(LRingdays;IIILRingdaysLaw$Out;)I"⟩
abbrev y_w_quarter : MethodName := ⟨"RingdaysLaw", "quarter", "(LRingdays;ILRingdaysLaw$Out;)I"⟩
abbrev y_w_step : MethodName := ⟨"RingdaysLaw", "step", "(LRingdays;IIZLRingdaysLaw$Out;)I"⟩
abbrev y_w_stepBack : MethodName := ⟨"RingdaysLaw", "stepBack", "(LRingdays;IIZLRingdaysLaw$Out;)I"⟩
abbrev y_w_toQuarter : MethodName := ⟨"RingdaysLaw", "toQuarter", "(LRingdays;ILRingdaysLaw$Out;)I"⟩
theorem hv_c_acts : y_c_acts.cls = rN0 ∧ y_c_acts.cls ≠ "java/lang/invoke/MethodHandle" ∧ y_c_acts.cls ≠ "java/lang/invoke/VarHandle" ∧ (parseMethodDescriptor y_c_acts.desc).map (fun d => d.parameters.length) = some 0 := by decide +kernel
theorem hy_c_amount : y_c_amount.cls ≠ "java/lang/invoke/MethodHandle" ∧ y_c_amount.cls ≠ "java/lang/invoke/VarHandle" ∧ (parseMethodDescriptor y_c_amount.desc).map (fun d => d.parameters.length) = some 2 := by decide +kernel
theorem hv_c_areAlike : y_c_areAlike.cls = rN0 ∧ y_c_areAlike.cls ≠ "java/lang/invoke/MethodHandle" ∧ y_c_areAlike.cls ≠ "java/lang/invoke/VarHandle" ∧ (parseMethodDescriptor y_c_areAlike.desc).map (fun d => d.parameters.length) = some 3 := by decide +kernel
theorem hv_c_areCellsSound : y_c_areCellsSound.cls = rN0 ∧ y_c_areCellsSound.cls ≠ "java/lang/invoke/MethodHandle" ∧ y_c_areCellsSound.cls ≠ "java/lang/invoke/VarHandle" ∧ (parseMethodDescriptor y_c_areCellsSound.desc).map (fun d => d.parameters.length) = some 0 := by decide +kernel
theorem hy_c_areMonthsSound : y_c_areMonthsSound.cls ≠ "java/lang/invoke/MethodHandle" ∧ y_c_areMonthsSound.cls ≠ "java/lang/invoke/VarHandle" ∧ (parseMethodDescriptor y_c_areMonthsSound.desc).map (fun d => d.parameters.length) = some 0 := by decide +kernel
theorem hv_c_back : y_c_back.cls = rN0 ∧ y_c_back.cls ≠ "java/lang/invoke/MethodHandle" ∧ y_c_back.cls ≠ "java/lang/invoke/VarHandle" ∧ (parseMethodDescriptor y_c_back.desc).map (fun d => d.parameters.length) = some 1 := by decide +kernel
theorem hv_c_become : y_c_become.cls = rN0 ∧ y_c_become.cls ≠ "java/lang/invoke/MethodHandle" ∧ y_c_become.cls ≠ "java/lang/invoke/VarHandle" ∧ (parseMethodDescriptor y_c_become.desc).map (fun d => d.parameters.length) = some 3 := by decide +kernel
theorem hv_c_becomeBoth : y_c_becomeBoth.cls = rN0 ∧ y_c_becomeBoth.cls ≠ "java/lang/invoke/MethodHandle" ∧ y_c_becomeBoth.cls ≠ "java/lang/invoke/VarHandle" ∧ (parseMethodDescriptor y_c_becomeBoth.desc).map (fun d => d.parameters.length) = some 4 := by decide +kernel
theorem hv_c_begins : y_c_begins.cls = rN0 ∧ y_c_begins.cls ≠ "java/lang/invoke/MethodHandle" ∧ y_c_begins.cls ≠ "java/lang/invoke/VarHandle" ∧ (parseMethodDescriptor y_c_begins.desc).map (fun d => d.parameters.length) = some 3 := by decide +kernel
theorem hy_c_comesToEachOnce : y_c_comesToEachOnce.cls ≠ "java/lang/invoke/MethodHandle" ∧ y_c_comesToEachOnce.cls ≠ "java/lang/invoke/VarHandle" ∧ (parseMethodDescriptor y_c_comesToEachOnce.desc).map (fun d => d.parameters.length) = some 2 := by decide +kernel
theorem hv_c_copy : y_c_copy.cls = rN0 ∧ y_c_copy.cls ≠ "java/lang/invoke/MethodHandle" ∧ y_c_copy.cls ≠ "java/lang/invoke/VarHandle" ∧ (parseMethodDescriptor y_c_copy.desc).map (fun d => d.parameters.length) = some 3 := by decide +kernel
theorem hy_c_copyCells : y_c_copyCells.cls ≠ "java/lang/invoke/MethodHandle" ∧ y_c_copyCells.cls ≠ "java/lang/invoke/VarHandle" ∧ (parseMethodDescriptor y_c_copyCells.desc).map (fun d => d.parameters.length) = some 2 := by decide +kernel
theorem hy_c_countOthers : y_c_countOthers.cls ≠ "java/lang/invoke/MethodHandle" ∧ y_c_countOthers.cls ≠ "java/lang/invoke/VarHandle" ∧ (parseMethodDescriptor y_c_countOthers.desc).map (fun d => d.parameters.length) = some 2 := by decide +kernel
theorem hv_c_date : y_c_date.cls = rN0 ∧ y_c_date.cls ≠ "java/lang/invoke/MethodHandle" ∧ y_c_date.cls ≠ "java/lang/invoke/VarHandle" ∧ (parseMethodDescriptor y_c_date.desc).map (fun d => d.parameters.length) = some 4 := by decide +kernel
theorem hv_c_day : y_c_day.cls = rN0 ∧ y_c_day.cls ≠ "java/lang/invoke/MethodHandle" ∧ y_c_day.cls ≠ "java/lang/invoke/VarHandle" ∧ (parseMethodDescriptor y_c_day.desc).map (fun d => d.parameters.length) = some 2 := by decide +kernel
theorem hv_c_dayAfterYear : y_c_dayAfterYear.cls = rN0 ∧ y_c_dayAfterYear.cls ≠ "java/lang/invoke/MethodHandle" ∧ y_c_dayAfterYear.cls ≠ "java/lang/invoke/VarHandle" ∧ (parseMethodDescriptor y_c_dayAfterYear.desc).map (fun d => d.parameters.length) = some 2 := by decide +kernel
theorem hv_c_dayAhead : y_c_dayAhead.cls = rN0 ∧ y_c_dayAhead.cls ≠ "java/lang/invoke/MethodHandle" ∧ y_c_dayAhead.cls ≠ "java/lang/invoke/VarHandle" ∧ (parseMethodDescriptor y_c_dayAhead.desc).map (fun d => d.parameters.length) = some 2 := by decide +kernel
theorem hv_c_dayAt : y_c_dayAt.cls = rN0 ∧ y_c_dayAt.cls ≠ "java/lang/invoke/MethodHandle" ∧ y_c_dayAt.cls ≠ "java/lang/invoke/VarHandle" ∧ (parseMethodDescriptor y_c_dayAt.desc).map (fun d => d.parameters.length) = some 2 := by decide +kernel
theorem hv_c_dayAtFar : y_c_dayAtFar.cls = rN0 ∧ y_c_dayAtFar.cls ≠ "java/lang/invoke/MethodHandle" ∧ y_c_dayAtFar.cls ≠ "java/lang/invoke/VarHandle" ∧ (parseMethodDescriptor y_c_dayAtFar.desc).map (fun d => d.parameters.length) = some 4 := by decide +kernel
theorem hv_c_dayBack : y_c_dayBack.cls = rN0 ∧ y_c_dayBack.cls ≠ "java/lang/invoke/MethodHandle" ∧ y_c_dayBack.cls ≠ "java/lang/invoke/VarHandle" ∧ (parseMethodDescriptor y_c_dayBack.desc).map (fun d => d.parameters.length) = some 2 := by decide +kernel
theorem hv_c_dayBackFar : y_c_dayBackFar.cls = rN0 ∧ y_c_dayBackFar.cls ≠ "java/lang/invoke/MethodHandle" ∧ y_c_dayBackFar.cls ≠ "java/lang/invoke/VarHandle" ∧ (parseMethodDescriptor y_c_dayBackFar.desc).map (fun d => d.parameters.length) = some 3 := by decide +kernel
theorem hv_c_dayCopy : y_c_dayCopy.cls = rN0 ∧ y_c_dayCopy.cls ≠ "java/lang/invoke/MethodHandle" ∧ y_c_dayCopy.cls ≠ "java/lang/invoke/VarHandle" ∧ (parseMethodDescriptor y_c_dayCopy.desc).map (fun d => d.parameters.length) = some 2 := by decide +kernel
theorem hv_c_dayName : y_c_dayName.cls = rN0 ∧ y_c_dayName.cls ≠ "java/lang/invoke/MethodHandle" ∧ y_c_dayName.cls ≠ "java/lang/invoke/VarHandle" ∧ (parseMethodDescriptor y_c_dayName.desc).map (fun d => d.parameters.length) = some 1 := by decide +kernel
theorem hv_c_dayNumber : y_c_dayNumber.cls = rN0 ∧ y_c_dayNumber.cls ≠ "java/lang/invoke/MethodHandle" ∧ y_c_dayNumber.cls ≠ "java/lang/invoke/VarHandle" ∧ (parseMethodDescriptor y_c_dayNumber.desc).map (fun d => d.parameters.length) = some 1 := by decide +kernel
theorem hy_c_dayOfDate : y_c_dayOfDate.cls ≠ "java/lang/invoke/MethodHandle" ∧ y_c_dayOfDate.cls ≠ "java/lang/invoke/VarHandle" ∧ (parseMethodDescriptor y_c_dayOfDate.desc).map (fun d => d.parameters.length) = some 4 := by decide +kernel
theorem hv_c_dayOn : y_c_dayOn.cls = rN0 ∧ y_c_dayOn.cls ≠ "java/lang/invoke/MethodHandle" ∧ y_c_dayOn.cls ≠ "java/lang/invoke/VarHandle" ∧ (parseMethodDescriptor y_c_dayOn.desc).map (fun d => d.parameters.length) = some 2 := by decide +kernel
theorem hv_c_dayOnFar : y_c_dayOnFar.cls = rN0 ∧ y_c_dayOnFar.cls ≠ "java/lang/invoke/MethodHandle" ∧ y_c_dayOnFar.cls ≠ "java/lang/invoke/VarHandle" ∧ (parseMethodDescriptor y_c_dayOnFar.desc).map (fun d => d.parameters.length) = some 3 := by decide +kernel
theorem hv_c_dayOrder : y_c_dayOrder.cls = rN0 ∧ y_c_dayOrder.cls ≠ "java/lang/invoke/MethodHandle" ∧ y_c_dayOrder.cls ≠ "java/lang/invoke/VarHandle" ∧ (parseMethodDescriptor y_c_dayOrder.desc).map (fun d => d.parameters.length) = some 2 := by decide +kernel
theorem hv_c_dayPlace : y_c_dayPlace.cls = rN0 ∧ y_c_dayPlace.cls ≠ "java/lang/invoke/MethodHandle" ∧ y_c_dayPlace.cls ≠ "java/lang/invoke/VarHandle" ∧ (parseMethodDescriptor y_c_dayPlace.desc).map (fun d => d.parameters.length) = some 1 := by decide +kernel
theorem hv_c_daySwap : y_c_daySwap.cls = rN0 ∧ y_c_daySwap.cls ≠ "java/lang/invoke/MethodHandle" ∧ y_c_daySwap.cls ≠ "java/lang/invoke/VarHandle" ∧ (parseMethodDescriptor y_c_daySwap.desc).map (fun d => d.parameters.length) = some 2 := by decide +kernel
theorem hv_c_dayTwice : y_c_dayTwice.cls = rN0 ∧ y_c_dayTwice.cls ≠ "java/lang/invoke/MethodHandle" ∧ y_c_dayTwice.cls ≠ "java/lang/invoke/VarHandle" ∧ (parseMethodDescriptor y_c_dayTwice.desc).map (fun d => d.parameters.length) = some 3 := by decide +kernel
theorem hv_c_exchange : y_c_exchange.cls = rN0 ∧ y_c_exchange.cls ≠ "java/lang/invoke/MethodHandle" ∧ y_c_exchange.cls ≠ "java/lang/invoke/VarHandle" ∧ (parseMethodDescriptor y_c_exchange.desc).map (fun d => d.parameters.length) = some 4 := by decide +kernel
theorem hv_c_first : y_c_first.cls = rN0 ∧ y_c_first.cls ≠ "java/lang/invoke/MethodHandle" ∧ y_c_first.cls ≠ "java/lang/invoke/VarHandle" ∧ (parseMethodDescriptor y_c_first.desc).map (fun d => d.parameters.length) = some 2 := by decide +kernel
theorem hy_c_firstOf : y_c_firstOf.cls ≠ "java/lang/invoke/MethodHandle" ∧ y_c_firstOf.cls ≠ "java/lang/invoke/VarHandle" ∧ (parseMethodDescriptor y_c_firstOf.desc).map (fun d => d.parameters.length) = some 2 := by decide +kernel
theorem hv_c_greatest : y_c_greatest.cls = rN0 ∧ y_c_greatest.cls ≠ "java/lang/invoke/MethodHandle" ∧ y_c_greatest.cls ≠ "java/lang/invoke/VarHandle" ∧ (parseMethodDescriptor y_c_greatest.desc).map (fun d => d.parameters.length) = some 1 := by decide +kernel
theorem hy_c_greatestOf : y_c_greatestOf.cls ≠ "java/lang/invoke/MethodHandle" ∧ y_c_greatestOf.cls ≠ "java/lang/invoke/VarHandle" ∧ (parseMethodDescriptor y_c_greatestOf.desc).map (fun d => d.parameters.length) = some 1 := by decide +kernel
theorem hy_c_hasNumber : y_c_hasNumber.cls ≠ "java/lang/invoke/MethodHandle" ∧ y_c_hasNumber.cls ≠ "java/lang/invoke/VarHandle" ∧ (parseMethodDescriptor y_c_hasNumber.desc).map (fun d => d.parameters.length) = some 4 := by decide +kernel
theorem hv_c_isDay : y_c_isDay.cls = rN0 ∧ y_c_isDay.cls ≠ "java/lang/invoke/MethodHandle" ∧ y_c_isDay.cls ≠ "java/lang/invoke/VarHandle" ∧ (parseMethodDescriptor y_c_isDay.desc).map (fun d => d.parameters.length) = some 2 := by decide +kernel
theorem hy_c_isFirstSound : y_c_isFirstSound.cls ≠ "java/lang/invoke/MethodHandle" ∧ y_c_isFirstSound.cls ≠ "java/lang/invoke/VarHandle" ∧ (parseMethodDescriptor y_c_isFirstSound.desc).map (fun d => d.parameters.length) = some 2 := by decide +kernel
theorem hv_c_isKept : y_c_isKept.cls = rN0 ∧ y_c_isKept.cls ≠ "java/lang/invoke/MethodHandle" ∧ y_c_isKept.cls ≠ "java/lang/invoke/VarHandle" ∧ (parseMethodDescriptor y_c_isKept.desc).map (fun d => d.parameters.length) = some 1 := by decide +kernel
theorem hv_c_isMonth : y_c_isMonth.cls = rN0 ∧ y_c_isMonth.cls ≠ "java/lang/invoke/MethodHandle" ∧ y_c_isMonth.cls ≠ "java/lang/invoke/VarHandle" ∧ (parseMethodDescriptor y_c_isMonth.desc).map (fun d => d.parameters.length) = some 2 := by decide +kernel
theorem hy_c_isQuarterSound : y_c_isQuarterSound.cls ≠ "java/lang/invoke/MethodHandle" ∧ y_c_isQuarterSound.cls ≠ "java/lang/invoke/VarHandle" ∧ (parseMethodDescriptor y_c_isQuarterSound.desc).map (fun d => d.parameters.length) = some 1 := by decide +kernel
theorem hy_c_isRingSound : y_c_isRingSound.cls ≠ "java/lang/invoke/MethodHandle" ∧ y_c_isRingSound.cls ≠ "java/lang/invoke/VarHandle" ∧ (parseMethodDescriptor y_c_isRingSound.desc).map (fun d => d.parameters.length) = some 1 := by decide +kernel
theorem hv_c_isSameDay : y_c_isSameDay.cls = rN0 ∧ y_c_isSameDay.cls ≠ "java/lang/invoke/MethodHandle" ∧ y_c_isSameDay.cls ≠ "java/lang/invoke/VarHandle" ∧ (parseMethodDescriptor y_c_isSameDay.desc).map (fun d => d.parameters.length) = some 2 := by decide +kernel
theorem hv_c_isSameMonth : y_c_isSameMonth.cls = rN0 ∧ y_c_isSameMonth.cls ≠ "java/lang/invoke/MethodHandle" ∧ y_c_isSameMonth.cls ≠ "java/lang/invoke/VarHandle" ∧ (parseMethodDescriptor y_c_isSameMonth.desc).map (fun d => d.parameters.length) = some 2 := by decide +kernel
theorem hv_c_isSound : y_c_isSound.cls = rN0 ∧ y_c_isSound.cls ≠ "java/lang/invoke/MethodHandle" ∧ y_c_isSound.cls ≠ "java/lang/invoke/VarHandle" ∧ (parseMethodDescriptor y_c_isSound.desc).map (fun d => d.parameters.length) = some 0 := by decide +kernel
theorem hv_c_keep : y_c_keep.cls = rN0 ∧ y_c_keep.cls ≠ "java/lang/invoke/MethodHandle" ∧ y_c_keep.cls ≠ "java/lang/invoke/VarHandle" ∧ (parseMethodDescriptor y_c_keep.desc).map (fun d => d.parameters.length) = some 1 := by decide +kernel
theorem hv_c_knock : y_c_knock.cls = rN0 ∧ y_c_knock.cls ≠ "java/lang/invoke/MethodHandle" ∧ y_c_knock.cls ≠ "java/lang/invoke/VarHandle" ∧ (parseMethodDescriptor y_c_knock.desc).map (fun d => d.parameters.length) = some 0 := by decide +kernel
theorem hv_c_least : y_c_least.cls = rN0 ∧ y_c_least.cls ≠ "java/lang/invoke/MethodHandle" ∧ y_c_least.cls ≠ "java/lang/invoke/VarHandle" ∧ (parseMethodDescriptor y_c_least.desc).map (fun d => d.parameters.length) = some 1 := by decide +kernel
theorem hy_c_leastOf : y_c_leastOf.cls ≠ "java/lang/invoke/MethodHandle" ∧ y_c_leastOf.cls ≠ "java/lang/invoke/VarHandle" ∧ (parseMethodDescriptor y_c_leastOf.desc).map (fun d => d.parameters.length) = some 1 := by decide +kernel
theorem hv_c_length : y_c_length.cls = rN0 ∧ y_c_length.cls ≠ "java/lang/invoke/MethodHandle" ∧ y_c_length.cls ≠ "java/lang/invoke/VarHandle" ∧ (parseMethodDescriptor y_c_length.desc).map (fun d => d.parameters.length) = some 2 := by decide +kernel
theorem hy_c_lengthOf : y_c_lengthOf.cls ≠ "java/lang/invoke/MethodHandle" ∧ y_c_lengthOf.cls ≠ "java/lang/invoke/VarHandle" ∧ (parseMethodDescriptor y_c_lengthOf.desc).map (fun d => d.parameters.length) = some 2 := by decide +kernel
theorem hv_c_month : y_c_month.cls = rN0 ∧ y_c_month.cls ≠ "java/lang/invoke/MethodHandle" ∧ y_c_month.cls ≠ "java/lang/invoke/VarHandle" ∧ (parseMethodDescriptor y_c_month.desc).map (fun d => d.parameters.length) = some 2 := by decide +kernel
theorem hv_c_monthAhead : y_c_monthAhead.cls = rN0 ∧ y_c_monthAhead.cls ≠ "java/lang/invoke/MethodHandle" ∧ y_c_monthAhead.cls ≠ "java/lang/invoke/VarHandle" ∧ (parseMethodDescriptor y_c_monthAhead.desc).map (fun d => d.parameters.length) = some 2 := by decide +kernel
theorem hv_c_monthAt : y_c_monthAt.cls = rN0 ∧ y_c_monthAt.cls ≠ "java/lang/invoke/MethodHandle" ∧ y_c_monthAt.cls ≠ "java/lang/invoke/VarHandle" ∧ (parseMethodDescriptor y_c_monthAt.desc).map (fun d => d.parameters.length) = some 2 := by decide +kernel
theorem hv_c_monthAtFar : y_c_monthAtFar.cls = rN0 ∧ y_c_monthAtFar.cls ≠ "java/lang/invoke/MethodHandle" ∧ y_c_monthAtFar.cls ≠ "java/lang/invoke/VarHandle" ∧ (parseMethodDescriptor y_c_monthAtFar.desc).map (fun d => d.parameters.length) = some 4 := by decide +kernel
theorem hv_c_monthBack : y_c_monthBack.cls = rN0 ∧ y_c_monthBack.cls ≠ "java/lang/invoke/MethodHandle" ∧ y_c_monthBack.cls ≠ "java/lang/invoke/VarHandle" ∧ (parseMethodDescriptor y_c_monthBack.desc).map (fun d => d.parameters.length) = some 2 := by decide +kernel
theorem hv_c_monthBackFar : y_c_monthBackFar.cls = rN0 ∧ y_c_monthBackFar.cls ≠ "java/lang/invoke/MethodHandle" ∧ y_c_monthBackFar.cls ≠ "java/lang/invoke/VarHandle" ∧ (parseMethodDescriptor y_c_monthBackFar.desc).map (fun d => d.parameters.length) = some 3 := by decide +kernel
theorem hv_c_monthCopy : y_c_monthCopy.cls = rN0 ∧ y_c_monthCopy.cls ≠ "java/lang/invoke/MethodHandle" ∧ y_c_monthCopy.cls ≠ "java/lang/invoke/VarHandle" ∧ (parseMethodDescriptor y_c_monthCopy.desc).map (fun d => d.parameters.length) = some 2 := by decide +kernel
theorem hv_c_monthName : y_c_monthName.cls = rN0 ∧ y_c_monthName.cls ≠ "java/lang/invoke/MethodHandle" ∧ y_c_monthName.cls ≠ "java/lang/invoke/VarHandle" ∧ (parseMethodDescriptor y_c_monthName.desc).map (fun d => d.parameters.length) = some 1 := by decide +kernel
theorem hv_c_monthNumber : y_c_monthNumber.cls = rN0 ∧ y_c_monthNumber.cls ≠ "java/lang/invoke/MethodHandle" ∧ y_c_monthNumber.cls ≠ "java/lang/invoke/VarHandle" ∧ (parseMethodDescriptor y_c_monthNumber.desc).map (fun d => d.parameters.length) = some 1 := by decide +kernel
theorem hv_c_monthOn : y_c_monthOn.cls = rN0 ∧ y_c_monthOn.cls ≠ "java/lang/invoke/MethodHandle" ∧ y_c_monthOn.cls ≠ "java/lang/invoke/VarHandle" ∧ (parseMethodDescriptor y_c_monthOn.desc).map (fun d => d.parameters.length) = some 2 := by decide +kernel
theorem hv_c_monthOnFar : y_c_monthOnFar.cls = rN0 ∧ y_c_monthOnFar.cls ≠ "java/lang/invoke/MethodHandle" ∧ y_c_monthOnFar.cls ≠ "java/lang/invoke/VarHandle" ∧ (parseMethodDescriptor y_c_monthOnFar.desc).map (fun d => d.parameters.length) = some 3 := by decide +kernel
theorem hv_c_monthOrder : y_c_monthOrder.cls = rN0 ∧ y_c_monthOrder.cls ≠ "java/lang/invoke/MethodHandle" ∧ y_c_monthOrder.cls ≠ "java/lang/invoke/VarHandle" ∧ (parseMethodDescriptor y_c_monthOrder.desc).map (fun d => d.parameters.length) = some 2 := by decide +kernel
theorem hv_c_monthPlace : y_c_monthPlace.cls = rN0 ∧ y_c_monthPlace.cls ≠ "java/lang/invoke/MethodHandle" ∧ y_c_monthPlace.cls ≠ "java/lang/invoke/VarHandle" ∧ (parseMethodDescriptor y_c_monthPlace.desc).map (fun d => d.parameters.length) = some 1 := by decide +kernel
theorem hv_c_monthSwap : y_c_monthSwap.cls = rN0 ∧ y_c_monthSwap.cls ≠ "java/lang/invoke/MethodHandle" ∧ y_c_monthSwap.cls ≠ "java/lang/invoke/VarHandle" ∧ (parseMethodDescriptor y_c_monthSwap.desc).map (fun d => d.parameters.length) = some 2 := by decide +kernel
theorem hv_c_monthTwice : y_c_monthTwice.cls = rN0 ∧ y_c_monthTwice.cls ≠ "java/lang/invoke/MethodHandle" ∧ y_c_monthTwice.cls ≠ "java/lang/invoke/VarHandle" ∧ (parseMethodDescriptor y_c_monthTwice.desc).map (fun d => d.parameters.length) = some 3 := by decide +kernel
theorem hy_c_nameOfDay : y_c_nameOfDay.cls ≠ "java/lang/invoke/MethodHandle" ∧ y_c_nameOfDay.cls ≠ "java/lang/invoke/VarHandle" ∧ (parseMethodDescriptor y_c_nameOfDay.desc).map (fun d => d.parameters.length) = some 1 := by decide +kernel
theorem hy_c_nameOfMonth : y_c_nameOfMonth.cls ≠ "java/lang/invoke/MethodHandle" ∧ y_c_nameOfMonth.cls ≠ "java/lang/invoke/VarHandle" ∧ (parseMethodDescriptor y_c_nameOfMonth.desc).map (fun d => d.parameters.length) = some 1 := by decide +kernel
theorem hy_c_numberBack : y_c_numberBack.cls ≠ "java/lang/invoke/MethodHandle" ∧ y_c_numberBack.cls ≠ "java/lang/invoke/VarHandle" ∧ (parseMethodDescriptor y_c_numberBack.desc).map (fun d => d.parameters.length) = some 3 := by decide +kernel
theorem hy_c_numberIn : y_c_numberIn.cls ≠ "java/lang/invoke/MethodHandle" ∧ y_c_numberIn.cls ≠ "java/lang/invoke/VarHandle" ∧ (parseMethodDescriptor y_c_numberIn.desc).map (fun d => d.parameters.length) = some 2 := by decide +kernel
theorem hy_c_numberOn : y_c_numberOn.cls ≠ "java/lang/invoke/MethodHandle" ∧ y_c_numberOn.cls ≠ "java/lang/invoke/VarHandle" ∧ (parseMethodDescriptor y_c_numberOn.desc).map (fun d => d.parameters.length) = some 3 := by decide +kernel
theorem hy_c_order : y_c_order.cls ≠ "java/lang/invoke/MethodHandle" ∧ y_c_order.cls ≠ "java/lang/invoke/VarHandle" ∧ (parseMethodDescriptor y_c_order.desc).map (fun d => d.parameters.length) = some 2 := by decide +kernel
theorem hy_c_placeOf : y_c_placeOf.cls ≠ "java/lang/invoke/MethodHandle" ∧ y_c_placeOf.cls ≠ "java/lang/invoke/VarHandle" ∧ (parseMethodDescriptor y_c_placeOf.desc).map (fun d => d.parameters.length) = some 1 := by decide +kernel
theorem hv_c_quarter : y_c_quarter.cls = rN0 ∧ y_c_quarter.cls ≠ "java/lang/invoke/MethodHandle" ∧ y_c_quarter.cls ≠ "java/lang/invoke/VarHandle" ∧ (parseMethodDescriptor y_c_quarter.desc).map (fun d => d.parameters.length) = some 1 := by decide +kernel
theorem hy_c_quarterOf : y_c_quarterOf.cls ≠ "java/lang/invoke/MethodHandle" ∧ y_c_quarterOf.cls ≠ "java/lang/invoke/VarHandle" ∧ (parseMethodDescriptor y_c_quarterOf.desc).map (fun d => d.parameters.length) = some 1 := by decide +kernel
theorem hy_c_refuseOutside : y_c_refuseOutside.cls ≠ "java/lang/invoke/MethodHandle" ∧ y_c_refuseOutside.cls ≠ "java/lang/invoke/VarHandle" ∧ (parseMethodDescriptor y_c_refuseOutside.desc).map (fun d => d.parameters.length) = some 2 := by decide +kernel
theorem hy_c_rest : y_c_rest.cls ≠ "java/lang/invoke/MethodHandle" ∧ y_c_rest.cls ≠ "java/lang/invoke/VarHandle" ∧ (parseMethodDescriptor y_c_rest.desc).map (fun d => d.parameters.length) = some 2 := by decide +kernel
theorem hv_c_step : y_c_step.cls = rN0 ∧ y_c_step.cls ≠ "java/lang/invoke/MethodHandle" ∧ y_c_step.cls ≠ "java/lang/invoke/VarHandle" ∧ (parseMethodDescriptor y_c_step.desc).map (fun d => d.parameters.length) = some 3 := by decide +kernel
theorem hv_c_stepBack : y_c_stepBack.cls = rN0 ∧ y_c_stepBack.cls ≠ "java/lang/invoke/MethodHandle" ∧ y_c_stepBack.cls ≠ "java/lang/invoke/VarHandle" ∧ (parseMethodDescriptor y_c_stepBack.desc).map (fun d => d.parameters.length) = some 3 := by decide +kernel
theorem hv_c_swap : y_c_swap.cls = rN0 ∧ y_c_swap.cls ≠ "java/lang/invoke/MethodHandle" ∧ y_c_swap.cls ≠ "java/lang/invoke/VarHandle" ∧ (parseMethodDescriptor y_c_swap.desc).map (fun d => d.parameters.length) = some 3 := by decide +kernel
theorem hv_c_toQuarter : y_c_toQuarter.cls = rN0 ∧ y_c_toQuarter.cls ≠ "java/lang/invoke/MethodHandle" ∧ y_c_toQuarter.cls ≠ "java/lang/invoke/VarHandle" ∧ (parseMethodDescriptor y_c_toQuarter.desc).map (fun d => d.parameters.length) = some 1 := by decide +kernel
theorem hy_c_write : y_c_write.cls ≠ "java/lang/invoke/MethodHandle" ∧ y_c_write.cls ≠ "java/lang/invoke/VarHandle" ∧ (parseMethodDescriptor y_c_write.desc).map (fun d => d.parameters.length) = some 3 := by decide +kernel
theorem hv_d_acts : y_d_acts.cls = rN1 ∧ y_d_acts.cls ≠ "java/lang/invoke/MethodHandle" ∧ y_d_acts.cls ≠ "java/lang/invoke/VarHandle" ∧ (parseMethodDescriptor y_d_acts.desc).map (fun d => d.parameters.length) = some 0 := by decide +kernel
theorem hy_d_ahead : y_d_ahead.cls ≠ "java/lang/invoke/MethodHandle" ∧ y_d_ahead.cls ≠ "java/lang/invoke/VarHandle" ∧ (parseMethodDescriptor y_d_ahead.desc).map (fun d => d.parameters.length) = some 3 := by decide +kernel
theorem hy_d_amount : y_d_amount.cls ≠ "java/lang/invoke/MethodHandle" ∧ y_d_amount.cls ≠ "java/lang/invoke/VarHandle" ∧ (parseMethodDescriptor y_d_amount.desc).map (fun d => d.parameters.length) = some 2 := by decide +kernel
theorem hv_d_areAlike : y_d_areAlike.cls = rN1 ∧ y_d_areAlike.cls ≠ "java/lang/invoke/MethodHandle" ∧ y_d_areAlike.cls ≠ "java/lang/invoke/VarHandle" ∧ (parseMethodDescriptor y_d_areAlike.desc).map (fun d => d.parameters.length) = some 3 := by decide +kernel
theorem hy_d_areOfOneDay : y_d_areOfOneDay.cls ≠ "java/lang/invoke/MethodHandle" ∧ y_d_areOfOneDay.cls ≠ "java/lang/invoke/VarHandle" ∧ (parseMethodDescriptor y_d_areOfOneDay.desc).map (fun d => d.parameters.length) = some 3 := by decide +kernel
theorem hv_d_back : y_d_back.cls = rN1 ∧ y_d_back.cls ≠ "java/lang/invoke/MethodHandle" ∧ y_d_back.cls ≠ "java/lang/invoke/VarHandle" ∧ (parseMethodDescriptor y_d_back.desc).map (fun d => d.parameters.length) = some 1 := by decide +kernel
theorem hv_d_begins : y_d_begins.cls = rN1 ∧ y_d_begins.cls ≠ "java/lang/invoke/MethodHandle" ∧ y_d_begins.cls ≠ "java/lang/invoke/VarHandle" ∧ (parseMethodDescriptor y_d_begins.desc).map (fun d => d.parameters.length) = some 3 := by decide +kernel
theorem hv_d_date : y_d_date.cls = rN1 ∧ y_d_date.cls ≠ "java/lang/invoke/MethodHandle" ∧ y_d_date.cls ≠ "java/lang/invoke/VarHandle" ∧ (parseMethodDescriptor y_d_date.desc).map (fun d => d.parameters.length) = some 4 := by decide +kernel
theorem hv_d_day : y_d_day.cls = rN1 ∧ y_d_day.cls ≠ "java/lang/invoke/MethodHandle" ∧ y_d_day.cls ≠ "java/lang/invoke/VarHandle" ∧ (parseMethodDescriptor y_d_day.desc).map (fun d => d.parameters.length) = some 2 := by decide +kernel
theorem hv_d_dayAhead : y_d_dayAhead.cls = rN1 ∧ y_d_dayAhead.cls ≠ "java/lang/invoke/MethodHandle" ∧ y_d_dayAhead.cls ≠ "java/lang/invoke/VarHandle" ∧ (parseMethodDescriptor y_d_dayAhead.desc).map (fun d => d.parameters.length) = some 2 := by decide +kernel
theorem hv_d_dayAt : y_d_dayAt.cls = rN1 ∧ y_d_dayAt.cls ≠ "java/lang/invoke/MethodHandle" ∧ y_d_dayAt.cls ≠ "java/lang/invoke/VarHandle" ∧ (parseMethodDescriptor y_d_dayAt.desc).map (fun d => d.parameters.length) = some 2 := by decide +kernel
theorem hv_d_dayAtFar : y_d_dayAtFar.cls = rN1 ∧ y_d_dayAtFar.cls ≠ "java/lang/invoke/MethodHandle" ∧ y_d_dayAtFar.cls ≠ "java/lang/invoke/VarHandle" ∧ (parseMethodDescriptor y_d_dayAtFar.desc).map (fun d => d.parameters.length) = some 4 := by decide +kernel
theorem hv_d_dayBack : y_d_dayBack.cls = rN1 ∧ y_d_dayBack.cls ≠ "java/lang/invoke/MethodHandle" ∧ y_d_dayBack.cls ≠ "java/lang/invoke/VarHandle" ∧ (parseMethodDescriptor y_d_dayBack.desc).map (fun d => d.parameters.length) = some 2 := by decide +kernel
theorem hv_d_dayBackFar : y_d_dayBackFar.cls = rN1 ∧ y_d_dayBackFar.cls ≠ "java/lang/invoke/MethodHandle" ∧ y_d_dayBackFar.cls ≠ "java/lang/invoke/VarHandle" ∧ (parseMethodDescriptor y_d_dayBackFar.desc).map (fun d => d.parameters.length) = some 3 := by decide +kernel
theorem hv_d_dayBecomes : y_d_dayBecomes.cls = rN1 ∧ y_d_dayBecomes.cls ≠ "java/lang/invoke/MethodHandle" ∧ y_d_dayBecomes.cls ≠ "java/lang/invoke/VarHandle" ∧ (parseMethodDescriptor y_d_dayBecomes.desc).map (fun d => d.parameters.length) = some 2 := by decide +kernel
theorem hv_d_dayCopy : y_d_dayCopy.cls = rN1 ∧ y_d_dayCopy.cls ≠ "java/lang/invoke/MethodHandle" ∧ y_d_dayCopy.cls ≠ "java/lang/invoke/VarHandle" ∧ (parseMethodDescriptor y_d_dayCopy.desc).map (fun d => d.parameters.length) = some 2 := by decide +kernel
theorem hv_d_dayName : y_d_dayName.cls = rN1 ∧ y_d_dayName.cls ≠ "java/lang/invoke/MethodHandle" ∧ y_d_dayName.cls ≠ "java/lang/invoke/VarHandle" ∧ (parseMethodDescriptor y_d_dayName.desc).map (fun d => d.parameters.length) = some 1 := by decide +kernel
theorem hv_d_dayNumber : y_d_dayNumber.cls = rN1 ∧ y_d_dayNumber.cls ≠ "java/lang/invoke/MethodHandle" ∧ y_d_dayNumber.cls ≠ "java/lang/invoke/VarHandle" ∧ (parseMethodDescriptor y_d_dayNumber.desc).map (fun d => d.parameters.length) = some 1 := by decide +kernel
theorem hv_d_dayOn : y_d_dayOn.cls = rN1 ∧ y_d_dayOn.cls ≠ "java/lang/invoke/MethodHandle" ∧ y_d_dayOn.cls ≠ "java/lang/invoke/VarHandle" ∧ (parseMethodDescriptor y_d_dayOn.desc).map (fun d => d.parameters.length) = some 2 := by decide +kernel
theorem hv_d_dayOnFar : y_d_dayOnFar.cls = rN1 ∧ y_d_dayOnFar.cls ≠ "java/lang/invoke/MethodHandle" ∧ y_d_dayOnFar.cls ≠ "java/lang/invoke/VarHandle" ∧ (parseMethodDescriptor y_d_dayOnFar.desc).map (fun d => d.parameters.length) = some 3 := by decide +kernel
theorem hv_d_dayOrder : y_d_dayOrder.cls = rN1 ∧ y_d_dayOrder.cls ≠ "java/lang/invoke/MethodHandle" ∧ y_d_dayOrder.cls ≠ "java/lang/invoke/VarHandle" ∧ (parseMethodDescriptor y_d_dayOrder.desc).map (fun d => d.parameters.length) = some 2 := by decide +kernel
theorem hv_d_dayPlace : y_d_dayPlace.cls = rN1 ∧ y_d_dayPlace.cls ≠ "java/lang/invoke/MethodHandle" ∧ y_d_dayPlace.cls ≠ "java/lang/invoke/VarHandle" ∧ (parseMethodDescriptor y_d_dayPlace.desc).map (fun d => d.parameters.length) = some 1 := by decide +kernel
theorem hv_d_daySwap : y_d_daySwap.cls = rN1 ∧ y_d_daySwap.cls ≠ "java/lang/invoke/MethodHandle" ∧ y_d_daySwap.cls ≠ "java/lang/invoke/VarHandle" ∧ (parseMethodDescriptor y_d_daySwap.desc).map (fun d => d.parameters.length) = some 2 := by decide +kernel
theorem hv_d_dayTwice : y_d_dayTwice.cls = rN1 ∧ y_d_dayTwice.cls ≠ "java/lang/invoke/MethodHandle" ∧ y_d_dayTwice.cls ≠ "java/lang/invoke/VarHandle" ∧ (parseMethodDescriptor y_d_dayTwice.desc).map (fun d => d.parameters.length) = some 3 := by decide +kernel
theorem hv_d_first : y_d_first.cls = rN1 ∧ y_d_first.cls ≠ "java/lang/invoke/MethodHandle" ∧ y_d_first.cls ≠ "java/lang/invoke/VarHandle" ∧ (parseMethodDescriptor y_d_first.desc).map (fun d => d.parameters.length) = some 2 := by decide +kernel
theorem hy_d_firstOf : y_d_firstOf.cls ≠ "java/lang/invoke/MethodHandle" ∧ y_d_firstOf.cls ≠ "java/lang/invoke/VarHandle" ∧ (parseMethodDescriptor y_d_firstOf.desc).map (fun d => d.parameters.length) = some 2 := by decide +kernel
theorem hv_d_greatest : y_d_greatest.cls = rN1 ∧ y_d_greatest.cls ≠ "java/lang/invoke/MethodHandle" ∧ y_d_greatest.cls ≠ "java/lang/invoke/VarHandle" ∧ (parseMethodDescriptor y_d_greatest.desc).map (fun d => d.parameters.length) = some 1 := by decide +kernel
theorem hv_d_isDay : y_d_isDay.cls = rN1 ∧ y_d_isDay.cls ≠ "java/lang/invoke/MethodHandle" ∧ y_d_isDay.cls ≠ "java/lang/invoke/VarHandle" ∧ (parseMethodDescriptor y_d_isDay.desc).map (fun d => d.parameters.length) = some 2 := by decide +kernel
theorem hv_d_isKept : y_d_isKept.cls = rN1 ∧ y_d_isKept.cls ≠ "java/lang/invoke/MethodHandle" ∧ y_d_isKept.cls ≠ "java/lang/invoke/VarHandle" ∧ (parseMethodDescriptor y_d_isKept.desc).map (fun d => d.parameters.length) = some 1 := by decide +kernel
theorem hv_d_isMonth : y_d_isMonth.cls = rN1 ∧ y_d_isMonth.cls ≠ "java/lang/invoke/MethodHandle" ∧ y_d_isMonth.cls ≠ "java/lang/invoke/VarHandle" ∧ (parseMethodDescriptor y_d_isMonth.desc).map (fun d => d.parameters.length) = some 2 := by decide +kernel
theorem hy_d_isNoCell : y_d_isNoCell.cls ≠ "java/lang/invoke/MethodHandle" ∧ y_d_isNoCell.cls ≠ "java/lang/invoke/VarHandle" ∧ (parseMethodDescriptor y_d_isNoCell.desc).map (fun d => d.parameters.length) = some 1 := by decide +kernel
theorem hy_d_isNoMark : y_d_isNoMark.cls ≠ "java/lang/invoke/MethodHandle" ∧ y_d_isNoMark.cls ≠ "java/lang/invoke/VarHandle" ∧ (parseMethodDescriptor y_d_isNoMark.desc).map (fun d => d.parameters.length) = some 1 := by decide +kernel
theorem hv_d_isSameDay : y_d_isSameDay.cls = rN1 ∧ y_d_isSameDay.cls ≠ "java/lang/invoke/MethodHandle" ∧ y_d_isSameDay.cls ≠ "java/lang/invoke/VarHandle" ∧ (parseMethodDescriptor y_d_isSameDay.desc).map (fun d => d.parameters.length) = some 2 := by decide +kernel
theorem hv_d_isSameMonth : y_d_isSameMonth.cls = rN1 ∧ y_d_isSameMonth.cls ≠ "java/lang/invoke/MethodHandle" ∧ y_d_isSameMonth.cls ≠ "java/lang/invoke/VarHandle" ∧ (parseMethodDescriptor y_d_isSameMonth.desc).map (fun d => d.parameters.length) = some 2 := by decide +kernel
theorem hv_d_isSound : y_d_isSound.cls = rN1 ∧ y_d_isSound.cls ≠ "java/lang/invoke/MethodHandle" ∧ y_d_isSound.cls ≠ "java/lang/invoke/VarHandle" ∧ (parseMethodDescriptor y_d_isSound.desc).map (fun d => d.parameters.length) = some 0 := by decide +kernel
theorem hv_d_keep : y_d_keep.cls = rN1 ∧ y_d_keep.cls ≠ "java/lang/invoke/MethodHandle" ∧ y_d_keep.cls ≠ "java/lang/invoke/VarHandle" ∧ (parseMethodDescriptor y_d_keep.desc).map (fun d => d.parameters.length) = some 1 := by decide +kernel
theorem hv_d_knock : y_d_knock.cls = rN1 ∧ y_d_knock.cls ≠ "java/lang/invoke/MethodHandle" ∧ y_d_knock.cls ≠ "java/lang/invoke/VarHandle" ∧ (parseMethodDescriptor y_d_knock.desc).map (fun d => d.parameters.length) = some 0 := by decide +kernel
theorem hv_d_least : y_d_least.cls = rN1 ∧ y_d_least.cls ≠ "java/lang/invoke/MethodHandle" ∧ y_d_least.cls ≠ "java/lang/invoke/VarHandle" ∧ (parseMethodDescriptor y_d_least.desc).map (fun d => d.parameters.length) = some 1 := by decide +kernel
theorem hv_d_length : y_d_length.cls = rN1 ∧ y_d_length.cls ≠ "java/lang/invoke/MethodHandle" ∧ y_d_length.cls ≠ "java/lang/invoke/VarHandle" ∧ (parseMethodDescriptor y_d_length.desc).map (fun d => d.parameters.length) = some 2 := by decide +kernel
theorem hy_d_lengthOf : y_d_lengthOf.cls ≠ "java/lang/invoke/MethodHandle" ∧ y_d_lengthOf.cls ≠ "java/lang/invoke/VarHandle" ∧ (parseMethodDescriptor y_d_lengthOf.desc).map (fun d => d.parameters.length) = some 2 := by decide +kernel
theorem hv_d_month : y_d_month.cls = rN1 ∧ y_d_month.cls ≠ "java/lang/invoke/MethodHandle" ∧ y_d_month.cls ≠ "java/lang/invoke/VarHandle" ∧ (parseMethodDescriptor y_d_month.desc).map (fun d => d.parameters.length) = some 2 := by decide +kernel
theorem hv_d_monthAhead : y_d_monthAhead.cls = rN1 ∧ y_d_monthAhead.cls ≠ "java/lang/invoke/MethodHandle" ∧ y_d_monthAhead.cls ≠ "java/lang/invoke/VarHandle" ∧ (parseMethodDescriptor y_d_monthAhead.desc).map (fun d => d.parameters.length) = some 2 := by decide +kernel
theorem hv_d_monthAt : y_d_monthAt.cls = rN1 ∧ y_d_monthAt.cls ≠ "java/lang/invoke/MethodHandle" ∧ y_d_monthAt.cls ≠ "java/lang/invoke/VarHandle" ∧ (parseMethodDescriptor y_d_monthAt.desc).map (fun d => d.parameters.length) = some 2 := by decide +kernel
theorem hv_d_monthAtFar : y_d_monthAtFar.cls = rN1 ∧ y_d_monthAtFar.cls ≠ "java/lang/invoke/MethodHandle" ∧ y_d_monthAtFar.cls ≠ "java/lang/invoke/VarHandle" ∧ (parseMethodDescriptor y_d_monthAtFar.desc).map (fun d => d.parameters.length) = some 4 := by decide +kernel
theorem hv_d_monthBack : y_d_monthBack.cls = rN1 ∧ y_d_monthBack.cls ≠ "java/lang/invoke/MethodHandle" ∧ y_d_monthBack.cls ≠ "java/lang/invoke/VarHandle" ∧ (parseMethodDescriptor y_d_monthBack.desc).map (fun d => d.parameters.length) = some 2 := by decide +kernel
theorem hv_d_monthBackFar : y_d_monthBackFar.cls = rN1 ∧ y_d_monthBackFar.cls ≠ "java/lang/invoke/MethodHandle" ∧ y_d_monthBackFar.cls ≠ "java/lang/invoke/VarHandle" ∧ (parseMethodDescriptor y_d_monthBackFar.desc).map (fun d => d.parameters.length) = some 3 := by decide +kernel
theorem hv_d_monthBecomes : y_d_monthBecomes.cls = rN1 ∧ y_d_monthBecomes.cls ≠ "java/lang/invoke/MethodHandle" ∧ y_d_monthBecomes.cls ≠ "java/lang/invoke/VarHandle" ∧ (parseMethodDescriptor y_d_monthBecomes.desc).map (fun d => d.parameters.length) = some 2 := by decide +kernel
theorem hv_d_monthCopy : y_d_monthCopy.cls = rN1 ∧ y_d_monthCopy.cls ≠ "java/lang/invoke/MethodHandle" ∧ y_d_monthCopy.cls ≠ "java/lang/invoke/VarHandle" ∧ (parseMethodDescriptor y_d_monthCopy.desc).map (fun d => d.parameters.length) = some 2 := by decide +kernel
theorem hv_d_monthName : y_d_monthName.cls = rN1 ∧ y_d_monthName.cls ≠ "java/lang/invoke/MethodHandle" ∧ y_d_monthName.cls ≠ "java/lang/invoke/VarHandle" ∧ (parseMethodDescriptor y_d_monthName.desc).map (fun d => d.parameters.length) = some 1 := by decide +kernel
theorem hv_d_monthNumber : y_d_monthNumber.cls = rN1 ∧ y_d_monthNumber.cls ≠ "java/lang/invoke/MethodHandle" ∧ y_d_monthNumber.cls ≠ "java/lang/invoke/VarHandle" ∧ (parseMethodDescriptor y_d_monthNumber.desc).map (fun d => d.parameters.length) = some 1 := by decide +kernel
theorem hv_d_monthOn : y_d_monthOn.cls = rN1 ∧ y_d_monthOn.cls ≠ "java/lang/invoke/MethodHandle" ∧ y_d_monthOn.cls ≠ "java/lang/invoke/VarHandle" ∧ (parseMethodDescriptor y_d_monthOn.desc).map (fun d => d.parameters.length) = some 2 := by decide +kernel
theorem hv_d_monthOnFar : y_d_monthOnFar.cls = rN1 ∧ y_d_monthOnFar.cls ≠ "java/lang/invoke/MethodHandle" ∧ y_d_monthOnFar.cls ≠ "java/lang/invoke/VarHandle" ∧ (parseMethodDescriptor y_d_monthOnFar.desc).map (fun d => d.parameters.length) = some 3 := by decide +kernel
theorem hv_d_monthOrder : y_d_monthOrder.cls = rN1 ∧ y_d_monthOrder.cls ≠ "java/lang/invoke/MethodHandle" ∧ y_d_monthOrder.cls ≠ "java/lang/invoke/VarHandle" ∧ (parseMethodDescriptor y_d_monthOrder.desc).map (fun d => d.parameters.length) = some 2 := by decide +kernel
theorem hv_d_monthPlace : y_d_monthPlace.cls = rN1 ∧ y_d_monthPlace.cls ≠ "java/lang/invoke/MethodHandle" ∧ y_d_monthPlace.cls ≠ "java/lang/invoke/VarHandle" ∧ (parseMethodDescriptor y_d_monthPlace.desc).map (fun d => d.parameters.length) = some 1 := by decide +kernel
theorem hv_d_monthSwap : y_d_monthSwap.cls = rN1 ∧ y_d_monthSwap.cls ≠ "java/lang/invoke/MethodHandle" ∧ y_d_monthSwap.cls ≠ "java/lang/invoke/VarHandle" ∧ (parseMethodDescriptor y_d_monthSwap.desc).map (fun d => d.parameters.length) = some 2 := by decide +kernel
theorem hv_d_monthTwice : y_d_monthTwice.cls = rN1 ∧ y_d_monthTwice.cls ≠ "java/lang/invoke/MethodHandle" ∧ y_d_monthTwice.cls ≠ "java/lang/invoke/VarHandle" ∧ (parseMethodDescriptor y_d_monthTwice.desc).map (fun d => d.parameters.length) = some 3 := by decide +kernel
theorem hy_d_on : y_d_on.cls ≠ "java/lang/invoke/MethodHandle" ∧ y_d_on.cls ≠ "java/lang/invoke/VarHandle" ∧ (parseMethodDescriptor y_d_on.desc).map (fun d => d.parameters.length) = some 3 := by decide +kernel
theorem hy_d_order : y_d_order.cls ≠ "java/lang/invoke/MethodHandle" ∧ y_d_order.cls ≠ "java/lang/invoke/VarHandle" ∧ (parseMethodDescriptor y_d_order.desc).map (fun d => d.parameters.length) = some 2 := by decide +kernel
theorem hv_d_quarter : y_d_quarter.cls = rN1 ∧ y_d_quarter.cls ≠ "java/lang/invoke/MethodHandle" ∧ y_d_quarter.cls ≠ "java/lang/invoke/VarHandle" ∧ (parseMethodDescriptor y_d_quarter.desc).map (fun d => d.parameters.length) = some 1 := by decide +kernel
theorem hy_d_quarterOf : y_d_quarterOf.cls ≠ "java/lang/invoke/MethodHandle" ∧ y_d_quarterOf.cls ≠ "java/lang/invoke/VarHandle" ∧ (parseMethodDescriptor y_d_quarterOf.desc).map (fun d => d.parameters.length) = some 1 := by decide +kernel
theorem hv_d_refuse : y_d_refuse.cls = rN1 ∧ y_d_refuse.cls ≠ "java/lang/invoke/MethodHandle" ∧ y_d_refuse.cls ≠ "java/lang/invoke/VarHandle" ∧ (parseMethodDescriptor y_d_refuse.desc).map (fun d => d.parameters.length) = some 2 := by decide +kernel
theorem hv_d_start : y_d_start.cls = rN1 ∧ y_d_start.cls ≠ "java/lang/invoke/MethodHandle" ∧ y_d_start.cls ≠ "java/lang/invoke/VarHandle" ∧ (parseMethodDescriptor y_d_start.desc).map (fun d => d.parameters.length) = some 2 := by decide +kernel
theorem hv_d_step : y_d_step.cls = rN1 ∧ y_d_step.cls ≠ "java/lang/invoke/MethodHandle" ∧ y_d_step.cls ≠ "java/lang/invoke/VarHandle" ∧ (parseMethodDescriptor y_d_step.desc).map (fun d => d.parameters.length) = some 3 := by decide +kernel
theorem hv_d_stepBack : y_d_stepBack.cls = rN1 ∧ y_d_stepBack.cls ≠ "java/lang/invoke/MethodHandle" ∧ y_d_stepBack.cls ≠ "java/lang/invoke/VarHandle" ∧ (parseMethodDescriptor y_d_stepBack.desc).map (fun d => d.parameters.length) = some 3 := by decide +kernel
theorem hv_d_toQuarter : y_d_toQuarter.cls = rN1 ∧ y_d_toQuarter.cls ≠ "java/lang/invoke/MethodHandle" ∧ y_d_toQuarter.cls ≠ "java/lang/invoke/VarHandle" ∧ (parseMethodDescriptor y_d_toQuarter.desc).map (fun d => d.parameters.length) = some 1 := by decide +kernel
theorem hy_jm_floorMod : y_jm_floorMod.cls ≠ "java/lang/invoke/MethodHandle" ∧ y_jm_floorMod.cls ≠ "java/lang/invoke/VarHandle" ∧ (parseMethodDescriptor y_jm_floorMod.desc).map (fun d => d.parameters.length) = some 2 := by decide +kernel
theorem hy_w_areAlike : y_w_areAlike.cls ≠ "java/lang/invoke/MethodHandle" ∧ y_w_areAlike.cls ≠ "java/lang/invoke/VarHandle" ∧ (parseMethodDescriptor y_w_areAlike.desc).map (fun d => d.parameters.length) = some 5 := by decide +kernel
theorem hy_w_back : y_w_back.cls ≠ "java/lang/invoke/MethodHandle" ∧ y_w_back.cls ≠ "java/lang/invoke/VarHandle" ∧ (parseMethodDescriptor y_w_back.desc).map (fun d => d.parameters.length) = some 3 := by decide +kernel
theorem hy_w_begins : y_w_begins.cls ≠ "java/lang/invoke/MethodHandle" ∧ y_w_begins.cls ≠ "java/lang/invoke/VarHandle" ∧ (parseMethodDescriptor y_w_begins.desc).map (fun d => d.parameters.length) = some 5 := by decide +kernel
theorem hy_w_date : y_w_date.cls ≠ "java/lang/invoke/MethodHandle" ∧ y_w_date.cls ≠ "java/lang/invoke/VarHandle" ∧ (parseMethodDescriptor y_w_date.desc).map (fun d => d.parameters.length) = some 6 := by decide +kernel
theorem hy_w_day : y_w_day.cls ≠ "java/lang/invoke/MethodHandle" ∧ y_w_day.cls ≠ "java/lang/invoke/VarHandle" ∧ (parseMethodDescriptor y_w_day.desc).map (fun d => d.parameters.length) = some 4 := by decide +kernel
theorem hy_w_dayAhead : y_w_dayAhead.cls ≠ "java/lang/invoke/MethodHandle" ∧ y_w_dayAhead.cls ≠ "java/lang/invoke/VarHandle" ∧ (parseMethodDescriptor y_w_dayAhead.desc).map (fun d => d.parameters.length) = some 4 := by decide +kernel
theorem hy_w_dayAt : y_w_dayAt.cls ≠ "java/lang/invoke/MethodHandle" ∧ y_w_dayAt.cls ≠ "java/lang/invoke/VarHandle" ∧ (parseMethodDescriptor y_w_dayAt.desc).map (fun d => d.parameters.length) = some 4 := by decide +kernel
theorem hy_w_dayAtFar : y_w_dayAtFar.cls ≠ "java/lang/invoke/MethodHandle" ∧ y_w_dayAtFar.cls ≠ "java/lang/invoke/VarHandle" ∧ (parseMethodDescriptor y_w_dayAtFar.desc).map (fun d => d.parameters.length) = some 6 := by decide +kernel
theorem hy_w_dayBack : y_w_dayBack.cls ≠ "java/lang/invoke/MethodHandle" ∧ y_w_dayBack.cls ≠ "java/lang/invoke/VarHandle" ∧ (parseMethodDescriptor y_w_dayBack.desc).map (fun d => d.parameters.length) = some 4 := by decide +kernel
theorem hy_w_dayBackFar : y_w_dayBackFar.cls ≠ "java/lang/invoke/MethodHandle" ∧ y_w_dayBackFar.cls ≠ "java/lang/invoke/VarHandle" ∧ (parseMethodDescriptor y_w_dayBackFar.desc).map (fun d => d.parameters.length) = some 5 := by decide +kernel
theorem hy_w_dayCopy : y_w_dayCopy.cls ≠ "java/lang/invoke/MethodHandle" ∧ y_w_dayCopy.cls ≠ "java/lang/invoke/VarHandle" ∧ (parseMethodDescriptor y_w_dayCopy.desc).map (fun d => d.parameters.length) = some 4 := by decide +kernel
theorem hy_w_dayName : y_w_dayName.cls ≠ "java/lang/invoke/MethodHandle" ∧ y_w_dayName.cls ≠ "java/lang/invoke/VarHandle" ∧ (parseMethodDescriptor y_w_dayName.desc).map (fun d => d.parameters.length) = some 3 := by decide +kernel
theorem hy_w_dayNumber : y_w_dayNumber.cls ≠ "java/lang/invoke/MethodHandle" ∧ y_w_dayNumber.cls ≠ "java/lang/invoke/VarHandle" ∧ (parseMethodDescriptor y_w_dayNumber.desc).map (fun d => d.parameters.length) = some 3 := by decide +kernel
theorem hy_w_dayOn : y_w_dayOn.cls ≠ "java/lang/invoke/MethodHandle" ∧ y_w_dayOn.cls ≠ "java/lang/invoke/VarHandle" ∧ (parseMethodDescriptor y_w_dayOn.desc).map (fun d => d.parameters.length) = some 4 := by decide +kernel
theorem hy_w_dayOnFar : y_w_dayOnFar.cls ≠ "java/lang/invoke/MethodHandle" ∧ y_w_dayOnFar.cls ≠ "java/lang/invoke/VarHandle" ∧ (parseMethodDescriptor y_w_dayOnFar.desc).map (fun d => d.parameters.length) = some 5 := by decide +kernel
theorem hy_w_dayOrder : y_w_dayOrder.cls ≠ "java/lang/invoke/MethodHandle" ∧ y_w_dayOrder.cls ≠ "java/lang/invoke/VarHandle" ∧ (parseMethodDescriptor y_w_dayOrder.desc).map (fun d => d.parameters.length) = some 4 := by decide +kernel
theorem hy_w_dayPlace : y_w_dayPlace.cls ≠ "java/lang/invoke/MethodHandle" ∧ y_w_dayPlace.cls ≠ "java/lang/invoke/VarHandle" ∧ (parseMethodDescriptor y_w_dayPlace.desc).map (fun d => d.parameters.length) = some 3 := by decide +kernel
theorem hy_w_daySwap : y_w_daySwap.cls ≠ "java/lang/invoke/MethodHandle" ∧ y_w_daySwap.cls ≠ "java/lang/invoke/VarHandle" ∧ (parseMethodDescriptor y_w_daySwap.desc).map (fun d => d.parameters.length) = some 4 := by decide +kernel
theorem hy_w_dayTwice : y_w_dayTwice.cls ≠ "java/lang/invoke/MethodHandle" ∧ y_w_dayTwice.cls ≠ "java/lang/invoke/VarHandle" ∧ (parseMethodDescriptor y_w_dayTwice.desc).map (fun d => d.parameters.length) = some 5 := by decide +kernel
theorem hy_w_first : y_w_first.cls ≠ "java/lang/invoke/MethodHandle" ∧ y_w_first.cls ≠ "java/lang/invoke/VarHandle" ∧ (parseMethodDescriptor y_w_first.desc).map (fun d => d.parameters.length) = some 4 := by decide +kernel
theorem hy_w_greatest : y_w_greatest.cls ≠ "java/lang/invoke/MethodHandle" ∧ y_w_greatest.cls ≠ "java/lang/invoke/VarHandle" ∧ (parseMethodDescriptor y_w_greatest.desc).map (fun d => d.parameters.length) = some 3 := by decide +kernel
theorem hy_w_isDay : y_w_isDay.cls ≠ "java/lang/invoke/MethodHandle" ∧ y_w_isDay.cls ≠ "java/lang/invoke/VarHandle" ∧ (parseMethodDescriptor y_w_isDay.desc).map (fun d => d.parameters.length) = some 4 := by decide +kernel
theorem hy_w_isKept : y_w_isKept.cls ≠ "java/lang/invoke/MethodHandle" ∧ y_w_isKept.cls ≠ "java/lang/invoke/VarHandle" ∧ (parseMethodDescriptor y_w_isKept.desc).map (fun d => d.parameters.length) = some 3 := by decide +kernel
theorem hy_w_isMonth : y_w_isMonth.cls ≠ "java/lang/invoke/MethodHandle" ∧ y_w_isMonth.cls ≠ "java/lang/invoke/VarHandle" ∧ (parseMethodDescriptor y_w_isMonth.desc).map (fun d => d.parameters.length) = some 4 := by decide +kernel
theorem hy_w_isSameDay : y_w_isSameDay.cls ≠ "java/lang/invoke/MethodHandle" ∧ y_w_isSameDay.cls ≠ "java/lang/invoke/VarHandle" ∧ (parseMethodDescriptor y_w_isSameDay.desc).map (fun d => d.parameters.length) = some 4 := by decide +kernel
theorem hy_w_isSameMonth : y_w_isSameMonth.cls ≠ "java/lang/invoke/MethodHandle" ∧ y_w_isSameMonth.cls ≠ "java/lang/invoke/VarHandle" ∧ (parseMethodDescriptor y_w_isSameMonth.desc).map (fun d => d.parameters.length) = some 4 := by decide +kernel
theorem hy_w_keep : y_w_keep.cls ≠ "java/lang/invoke/MethodHandle" ∧ y_w_keep.cls ≠ "java/lang/invoke/VarHandle" ∧ (parseMethodDescriptor y_w_keep.desc).map (fun d => d.parameters.length) = some 3 := by decide +kernel
theorem hy_w_least : y_w_least.cls ≠ "java/lang/invoke/MethodHandle" ∧ y_w_least.cls ≠ "java/lang/invoke/VarHandle" ∧ (parseMethodDescriptor y_w_least.desc).map (fun d => d.parameters.length) = some 3 := by decide +kernel
theorem hy_w_length : y_w_length.cls ≠ "java/lang/invoke/MethodHandle" ∧ y_w_length.cls ≠ "java/lang/invoke/VarHandle" ∧ (parseMethodDescriptor y_w_length.desc).map (fun d => d.parameters.length) = some 4 := by decide +kernel
theorem hy_w_month : y_w_month.cls ≠ "java/lang/invoke/MethodHandle" ∧ y_w_month.cls ≠ "java/lang/invoke/VarHandle" ∧ (parseMethodDescriptor y_w_month.desc).map (fun d => d.parameters.length) = some 4 := by decide +kernel
theorem hy_w_monthAhead : y_w_monthAhead.cls ≠ "java/lang/invoke/MethodHandle" ∧ y_w_monthAhead.cls ≠ "java/lang/invoke/VarHandle" ∧ (parseMethodDescriptor y_w_monthAhead.desc).map (fun d => d.parameters.length) = some 4 := by decide +kernel
theorem hy_w_monthAt : y_w_monthAt.cls ≠ "java/lang/invoke/MethodHandle" ∧ y_w_monthAt.cls ≠ "java/lang/invoke/VarHandle" ∧ (parseMethodDescriptor y_w_monthAt.desc).map (fun d => d.parameters.length) = some 4 := by decide +kernel
theorem hy_w_monthAtFar : y_w_monthAtFar.cls ≠ "java/lang/invoke/MethodHandle" ∧ y_w_monthAtFar.cls ≠ "java/lang/invoke/VarHandle" ∧ (parseMethodDescriptor y_w_monthAtFar.desc).map (fun d => d.parameters.length) = some 6 := by decide +kernel
theorem hy_w_monthBack : y_w_monthBack.cls ≠ "java/lang/invoke/MethodHandle" ∧ y_w_monthBack.cls ≠ "java/lang/invoke/VarHandle" ∧ (parseMethodDescriptor y_w_monthBack.desc).map (fun d => d.parameters.length) = some 4 := by decide +kernel
theorem hy_w_monthBackFar : y_w_monthBackFar.cls ≠ "java/lang/invoke/MethodHandle" ∧ y_w_monthBackFar.cls ≠ "java/lang/invoke/VarHandle" ∧ (parseMethodDescriptor y_w_monthBackFar.desc).map (fun d => d.parameters.length) = some 5 := by decide +kernel
theorem hy_w_monthCopy : y_w_monthCopy.cls ≠ "java/lang/invoke/MethodHandle" ∧ y_w_monthCopy.cls ≠ "java/lang/invoke/VarHandle" ∧ (parseMethodDescriptor y_w_monthCopy.desc).map (fun d => d.parameters.length) = some 4 := by decide +kernel
theorem hy_w_monthName : y_w_monthName.cls ≠ "java/lang/invoke/MethodHandle" ∧ y_w_monthName.cls ≠ "java/lang/invoke/VarHandle" ∧ (parseMethodDescriptor y_w_monthName.desc).map (fun d => d.parameters.length) = some 3 := by decide +kernel
theorem hy_w_monthNumber : y_w_monthNumber.cls ≠ "java/lang/invoke/MethodHandle" ∧ y_w_monthNumber.cls ≠ "java/lang/invoke/VarHandle" ∧ (parseMethodDescriptor y_w_monthNumber.desc).map (fun d => d.parameters.length) = some 3 := by decide +kernel
theorem hy_w_monthOn : y_w_monthOn.cls ≠ "java/lang/invoke/MethodHandle" ∧ y_w_monthOn.cls ≠ "java/lang/invoke/VarHandle" ∧ (parseMethodDescriptor y_w_monthOn.desc).map (fun d => d.parameters.length) = some 4 := by decide +kernel
theorem hy_w_monthOnFar : y_w_monthOnFar.cls ≠ "java/lang/invoke/MethodHandle" ∧ y_w_monthOnFar.cls ≠ "java/lang/invoke/VarHandle" ∧ (parseMethodDescriptor y_w_monthOnFar.desc).map (fun d => d.parameters.length) = some 5 := by decide +kernel
theorem hy_w_monthOrder : y_w_monthOrder.cls ≠ "java/lang/invoke/MethodHandle" ∧ y_w_monthOrder.cls ≠ "java/lang/invoke/VarHandle" ∧ (parseMethodDescriptor y_w_monthOrder.desc).map (fun d => d.parameters.length) = some 4 := by decide +kernel
theorem hy_w_monthPlace : y_w_monthPlace.cls ≠ "java/lang/invoke/MethodHandle" ∧ y_w_monthPlace.cls ≠ "java/lang/invoke/VarHandle" ∧ (parseMethodDescriptor y_w_monthPlace.desc).map (fun d => d.parameters.length) = some 3 := by decide +kernel
theorem hy_w_monthSwap : y_w_monthSwap.cls ≠ "java/lang/invoke/MethodHandle" ∧ y_w_monthSwap.cls ≠ "java/lang/invoke/VarHandle" ∧ (parseMethodDescriptor y_w_monthSwap.desc).map (fun d => d.parameters.length) = some 4 := by decide +kernel
theorem hy_w_monthTwice : y_w_monthTwice.cls ≠ "java/lang/invoke/MethodHandle" ∧ y_w_monthTwice.cls ≠ "java/lang/invoke/VarHandle" ∧ (parseMethodDescriptor y_w_monthTwice.desc).map (fun d => d.parameters.length) = some 5 := by decide +kernel
theorem hy_w_quarter : y_w_quarter.cls ≠ "java/lang/invoke/MethodHandle" ∧ y_w_quarter.cls ≠ "java/lang/invoke/VarHandle" ∧ (parseMethodDescriptor y_w_quarter.desc).map (fun d => d.parameters.length) = some 3 := by decide +kernel
theorem hy_w_step : y_w_step.cls ≠ "java/lang/invoke/MethodHandle" ∧ y_w_step.cls ≠ "java/lang/invoke/VarHandle" ∧ (parseMethodDescriptor y_w_step.desc).map (fun d => d.parameters.length) = some 5 := by decide +kernel
theorem hy_w_stepBack : y_w_stepBack.cls ≠ "java/lang/invoke/MethodHandle" ∧ y_w_stepBack.cls ≠ "java/lang/invoke/VarHandle" ∧ (parseMethodDescriptor y_w_stepBack.desc).map (fun d => d.parameters.length) = some 5 := by decide +kernel
theorem hy_w_toQuarter : y_w_toQuarter.cls ≠ "java/lang/invoke/MethodHandle" ∧ y_w_toQuarter.cls ≠ "java/lang/invoke/VarHandle" ∧ (parseMethodDescriptor y_w_toQuarter.desc).map (fun d => d.parameters.length) = some 3 := by decide +kernel
end RKW
