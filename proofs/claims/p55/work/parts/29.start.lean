section RKST
/-! The law's start: what the premises give of statics and String constants, three objects, then the loop. -/
def rTr (i : Nat) : Term := .string (rStr.getD i ("", 0, "")).1 (rStr.getD i ("", 0, "")).2.1
abbrev rPrem : List Cond := flatC (Jvm.Cond.and given_1 narrow_1)
def rExp (i : Nat) : List Cond := Cond.exactly (rTr i) "java/lang/String" :: Cond.eq (.field (rTr i) "java/lang/String" "coder" "B") (.int 0) :: Cond.arrayOf (.field (rTr i) "java/lang/String" "value" "[B") .byte :: Cond.eq (.length (.field (rTr i) "java/lang/String" "value" "[B")) (.int (Int32.ofNat (rSLen.getD i 0))) :: (List.range (rSLen.getD i 0)).map (fun j => Cond.eq (.elem (.field (rTr i) "java/lang/String" "value" "[B") (.int (Int32.ofNat j))) (.int ((rSByt.getD i []).getD j 0)))
set_option maxRecDepth 100000 in
theorem pr_g0 : (rPrem.drop 278).take 96 = rExp 0 ++ (rExp 1 ++ (rExp 2 ++ (rExp 3 ++ (rExp 4 ++ (rExp 5 ++ (rExp 6 ++ (rExp 7 ++ (rExp 8)))))))) := by rfl
set_option maxRecDepth 100000 in
theorem pr_g1 : (rPrem.drop 374).take 87 = rExp 9 ++ (rExp 10 ++ (rExp 11 ++ (rExp 12 ++ (rExp 13 ++ (rExp 14 ++ (rExp 15 ++ (rExp 16 ++ (rExp 17)))))))) := by rfl
set_option maxRecDepth 100000 in
theorem pr_g2 : (rPrem.drop 461).take 118 = rExp 18 ++ (rExp 19 ++ (rExp 20 ++ (rExp 21 ++ (rExp 22 ++ (rExp 23 ++ (rExp 24 ++ (rExp 25 ++ (rExp 26)))))))) := by rfl
set_option maxRecDepth 100000 in
theorem pr_g3 : (rPrem.drop 580).take 108 = rExp 27 ++ ([Cond.eq (.string "Ringdays" 226) (.string "RingdaysModel" 135)] ++ (rExp 28 ++ ([Cond.eq (.string "Ringdays" 228) (.string "RingdaysModel" 137)] ++ (rExp 29 ++ ([Cond.eq (.string "Ringdays" 230) (.string "RingdaysModel" 139)] ++ (rExp 30 ++ ([Cond.eq (.string "Ringdays" 232) (.string "RingdaysModel" 141)] ++ (rExp 31 ++ ([Cond.eq (.string "Ringdays" 234) (.string "RingdaysModel" 143)] ++ (rExp 32 ++ ([Cond.eq (.string "Ringdays" 236) (.string "RingdaysModel" 145)] ++ (rExp 33 ++ ([Cond.eq (.string "Ringdays" 238) (.string "RingdaysModel" 147)] ++ (rExp 34 ++ ([Cond.eq (.string "Ringdays" 240) (.string "RingdaysModel" 149)] ++ (rExp 35)))))))))))))))) := by rfl
set_option maxRecDepth 100000 in
theorem pr_g4 : (rPrem.drop 689).take 98 = rExp 36 ++ ([Cond.eq (.string "Ringdays" 244) (.string "RingdaysModel" 153)] ++ (rExp 37 ++ ([Cond.eq (.string "Ringdays" 246) (.string "RingdaysModel" 155)] ++ (rExp 38 ++ ([Cond.eq (.string "Ringdays" 248) (.string "RingdaysModel" 157)] ++ (rExp 39 ++ ([Cond.eq (.string "Ringdays" 250) (.string "RingdaysModel" 159)] ++ (rExp 40 ++ ([Cond.eq (.string "Ringdays" 252) (.string "RingdaysModel" 161)] ++ (rExp 41 ++ ([Cond.eq (.string "Ringdays" 254) (.string "RingdaysModel" 163)] ++ (rExp 42 ++ ([Cond.eq (.string "Ringdays" 256) (.string "RingdaysModel" 165)] ++ (rExp 43 ++ ([Cond.eq (.string "Ringdays" 258) (.string "RingdaysModel" 167)] ++ (rExp 44)))))))))))))))) := by rfl
theorem pr_all : ∀ i : Nat, i < 45 → ∀ w ∈ rExp i, w ∈ rPrem
  | 0, _ => fun w hw => List.mem_of_mem_drop (List.mem_of_mem_take (by rw [pr_g0]; exact List.mem_append_left _ hw))
  | 1, _ => fun w hw => List.mem_of_mem_drop (List.mem_of_mem_take (by rw [pr_g0]; exact List.mem_append_right _ (List.mem_append_left _ hw)))
  | 2, _ => fun w hw => List.mem_of_mem_drop (List.mem_of_mem_take (by rw [pr_g0]; exact List.mem_append_right _ (List.mem_append_right _ (List.mem_append_left _ hw))))
  | 3, _ => fun w hw => List.mem_of_mem_drop (List.mem_of_mem_take (by rw [pr_g0]; exact List.mem_append_right _ (List.mem_append_right _ (List.mem_append_right _ (List.mem_append_left _ hw)))))
  | 4, _ => fun w hw => List.mem_of_mem_drop (List.mem_of_mem_take (by rw [pr_g0]; exact List.mem_append_right _ (List.mem_append_right _ (List.mem_append_right _ (List.mem_append_right _ (List.mem_append_left _ hw))))))
  | 5, _ => fun w hw => List.mem_of_mem_drop (List.mem_of_mem_take (by rw [pr_g0]; exact List.mem_append_right _ (List.mem_append_right _ (List.mem_append_right _ (List.mem_append_right _ (List.mem_append_right _ (List.mem_append_left _ hw)))))))
  | 6, _ => fun w hw => List.mem_of_mem_drop (List.mem_of_mem_take (by rw [pr_g0]; exact List.mem_append_right _ (List.mem_append_right _ (List.mem_append_right _ (List.mem_append_right _ (List.mem_append_right _ (List.mem_append_right _ (List.mem_append_left _ hw))))))))
  | 7, _ => fun w hw => List.mem_of_mem_drop (List.mem_of_mem_take (by rw [pr_g0]; exact List.mem_append_right _ (List.mem_append_right _ (List.mem_append_right _ (List.mem_append_right _ (List.mem_append_right _ (List.mem_append_right _ (List.mem_append_right _ (List.mem_append_left _ hw)))))))))
  | 8, _ => fun w hw => List.mem_of_mem_drop (List.mem_of_mem_take (by rw [pr_g0]; exact List.mem_append_right _ (List.mem_append_right _ (List.mem_append_right _ (List.mem_append_right _ (List.mem_append_right _ (List.mem_append_right _ (List.mem_append_right _ (List.mem_append_right _ (hw))))))))))
  | 9, _ => fun w hw => List.mem_of_mem_drop (List.mem_of_mem_take (by rw [pr_g1]; exact List.mem_append_left _ hw))
  | 10, _ => fun w hw => List.mem_of_mem_drop (List.mem_of_mem_take (by rw [pr_g1]; exact List.mem_append_right _ (List.mem_append_left _ hw)))
  | 11, _ => fun w hw => List.mem_of_mem_drop (List.mem_of_mem_take (by rw [pr_g1]; exact List.mem_append_right _ (List.mem_append_right _ (List.mem_append_left _ hw))))
  | 12, _ => fun w hw => List.mem_of_mem_drop (List.mem_of_mem_take (by rw [pr_g1]; exact List.mem_append_right _ (List.mem_append_right _ (List.mem_append_right _ (List.mem_append_left _ hw)))))
  | 13, _ => fun w hw => List.mem_of_mem_drop (List.mem_of_mem_take (by rw [pr_g1]; exact List.mem_append_right _ (List.mem_append_right _ (List.mem_append_right _ (List.mem_append_right _ (List.mem_append_left _ hw))))))
  | 14, _ => fun w hw => List.mem_of_mem_drop (List.mem_of_mem_take (by rw [pr_g1]; exact List.mem_append_right _ (List.mem_append_right _ (List.mem_append_right _ (List.mem_append_right _ (List.mem_append_right _ (List.mem_append_left _ hw)))))))
  | 15, _ => fun w hw => List.mem_of_mem_drop (List.mem_of_mem_take (by rw [pr_g1]; exact List.mem_append_right _ (List.mem_append_right _ (List.mem_append_right _ (List.mem_append_right _ (List.mem_append_right _ (List.mem_append_right _ (List.mem_append_left _ hw))))))))
  | 16, _ => fun w hw => List.mem_of_mem_drop (List.mem_of_mem_take (by rw [pr_g1]; exact List.mem_append_right _ (List.mem_append_right _ (List.mem_append_right _ (List.mem_append_right _ (List.mem_append_right _ (List.mem_append_right _ (List.mem_append_right _ (List.mem_append_left _ hw)))))))))
  | 17, _ => fun w hw => List.mem_of_mem_drop (List.mem_of_mem_take (by rw [pr_g1]; exact List.mem_append_right _ (List.mem_append_right _ (List.mem_append_right _ (List.mem_append_right _ (List.mem_append_right _ (List.mem_append_right _ (List.mem_append_right _ (List.mem_append_right _ (hw))))))))))
  | 18, _ => fun w hw => List.mem_of_mem_drop (List.mem_of_mem_take (by rw [pr_g2]; exact List.mem_append_left _ hw))
  | 19, _ => fun w hw => List.mem_of_mem_drop (List.mem_of_mem_take (by rw [pr_g2]; exact List.mem_append_right _ (List.mem_append_left _ hw)))
  | 20, _ => fun w hw => List.mem_of_mem_drop (List.mem_of_mem_take (by rw [pr_g2]; exact List.mem_append_right _ (List.mem_append_right _ (List.mem_append_left _ hw))))
  | 21, _ => fun w hw => List.mem_of_mem_drop (List.mem_of_mem_take (by rw [pr_g2]; exact List.mem_append_right _ (List.mem_append_right _ (List.mem_append_right _ (List.mem_append_left _ hw)))))
  | 22, _ => fun w hw => List.mem_of_mem_drop (List.mem_of_mem_take (by rw [pr_g2]; exact List.mem_append_right _ (List.mem_append_right _ (List.mem_append_right _ (List.mem_append_right _ (List.mem_append_left _ hw))))))
  | 23, _ => fun w hw => List.mem_of_mem_drop (List.mem_of_mem_take (by rw [pr_g2]; exact List.mem_append_right _ (List.mem_append_right _ (List.mem_append_right _ (List.mem_append_right _ (List.mem_append_right _ (List.mem_append_left _ hw)))))))
  | 24, _ => fun w hw => List.mem_of_mem_drop (List.mem_of_mem_take (by rw [pr_g2]; exact List.mem_append_right _ (List.mem_append_right _ (List.mem_append_right _ (List.mem_append_right _ (List.mem_append_right _ (List.mem_append_right _ (List.mem_append_left _ hw))))))))
  | 25, _ => fun w hw => List.mem_of_mem_drop (List.mem_of_mem_take (by rw [pr_g2]; exact List.mem_append_right _ (List.mem_append_right _ (List.mem_append_right _ (List.mem_append_right _ (List.mem_append_right _ (List.mem_append_right _ (List.mem_append_right _ (List.mem_append_left _ hw)))))))))
  | 26, _ => fun w hw => List.mem_of_mem_drop (List.mem_of_mem_take (by rw [pr_g2]; exact List.mem_append_right _ (List.mem_append_right _ (List.mem_append_right _ (List.mem_append_right _ (List.mem_append_right _ (List.mem_append_right _ (List.mem_append_right _ (List.mem_append_right _ (hw))))))))))
  | 27, _ => fun w hw => List.mem_of_mem_drop (List.mem_of_mem_take (by rw [pr_g3]; exact List.mem_append_left _ hw))
  | 28, _ => fun w hw => List.mem_of_mem_drop (List.mem_of_mem_take (by rw [pr_g3]; exact List.mem_append_right _ (List.mem_append_right _ (List.mem_append_left _ hw))))
  | 29, _ => fun w hw => List.mem_of_mem_drop (List.mem_of_mem_take (by rw [pr_g3]; exact List.mem_append_right _ (List.mem_append_right _ (List.mem_append_right _ (List.mem_append_right _ (List.mem_append_left _ hw))))))
  | 30, _ => fun w hw => List.mem_of_mem_drop (List.mem_of_mem_take (by rw [pr_g3]; exact List.mem_append_right _ (List.mem_append_right _ (List.mem_append_right _ (List.mem_append_right _ (List.mem_append_right _ (List.mem_append_right _ (List.mem_append_left _ hw))))))))
  | 31, _ => fun w hw => List.mem_of_mem_drop (List.mem_of_mem_take (by rw [pr_g3]; exact List.mem_append_right _ (List.mem_append_right _ (List.mem_append_right _ (List.mem_append_right _ (List.mem_append_right _ (List.mem_append_right _ (List.mem_append_right _ (List.mem_append_right _ (List.mem_append_left _ hw))))))))))
  | 32, _ => fun w hw => List.mem_of_mem_drop (List.mem_of_mem_take (by rw [pr_g3]; exact List.mem_append_right _ (List.mem_append_right _ (List.mem_append_right _ (List.mem_append_right _ (List.mem_append_right _ (List.mem_append_right _ (List.mem_append_right _ (List.mem_append_right _ (List.mem_append_right _ (List.mem_append_right _ (List.mem_append_left _ hw))))))))))))
  | 33, _ => fun w hw => List.mem_of_mem_drop (List.mem_of_mem_take (by rw [pr_g3]; exact List.mem_append_right _ (List.mem_append_right _ (List.mem_append_right _ (List.mem_append_right _ (List.mem_append_right _ (List.mem_append_right _ (List.mem_append_right _ (List.mem_append_right _ (List.mem_append_right _ (List.mem_append_right _ (List.mem_append_right _ (List.mem_append_right _ (List.mem_append_left _ hw))))))))))))))
  | 34, _ => fun w hw => List.mem_of_mem_drop (List.mem_of_mem_take (by rw [pr_g3]; exact List.mem_append_right _ (List.mem_append_right _ (List.mem_append_right _ (List.mem_append_right _ (List.mem_append_right _ (List.mem_append_right _ (List.mem_append_right _ (List.mem_append_right _ (List.mem_append_right _ (List.mem_append_right _ (List.mem_append_right _ (List.mem_append_right _ (List.mem_append_right _ (List.mem_append_right _ (List.mem_append_left _ hw))))))))))))))))
  | 35, _ => fun w hw => List.mem_of_mem_drop (List.mem_of_mem_take (by rw [pr_g3]; exact List.mem_append_right _ (List.mem_append_right _ (List.mem_append_right _ (List.mem_append_right _ (List.mem_append_right _ (List.mem_append_right _ (List.mem_append_right _ (List.mem_append_right _ (List.mem_append_right _ (List.mem_append_right _ (List.mem_append_right _ (List.mem_append_right _ (List.mem_append_right _ (List.mem_append_right _ (List.mem_append_right _ (List.mem_append_right _ (hw))))))))))))))))))
  | 36, _ => fun w hw => List.mem_of_mem_drop (List.mem_of_mem_take (by rw [pr_g4]; exact List.mem_append_left _ hw))
  | 37, _ => fun w hw => List.mem_of_mem_drop (List.mem_of_mem_take (by rw [pr_g4]; exact List.mem_append_right _ (List.mem_append_right _ (List.mem_append_left _ hw))))
  | 38, _ => fun w hw => List.mem_of_mem_drop (List.mem_of_mem_take (by rw [pr_g4]; exact List.mem_append_right _ (List.mem_append_right _ (List.mem_append_right _ (List.mem_append_right _ (List.mem_append_left _ hw))))))
  | 39, _ => fun w hw => List.mem_of_mem_drop (List.mem_of_mem_take (by rw [pr_g4]; exact List.mem_append_right _ (List.mem_append_right _ (List.mem_append_right _ (List.mem_append_right _ (List.mem_append_right _ (List.mem_append_right _ (List.mem_append_left _ hw))))))))
  | 40, _ => fun w hw => List.mem_of_mem_drop (List.mem_of_mem_take (by rw [pr_g4]; exact List.mem_append_right _ (List.mem_append_right _ (List.mem_append_right _ (List.mem_append_right _ (List.mem_append_right _ (List.mem_append_right _ (List.mem_append_right _ (List.mem_append_right _ (List.mem_append_left _ hw))))))))))
  | 41, _ => fun w hw => List.mem_of_mem_drop (List.mem_of_mem_take (by rw [pr_g4]; exact List.mem_append_right _ (List.mem_append_right _ (List.mem_append_right _ (List.mem_append_right _ (List.mem_append_right _ (List.mem_append_right _ (List.mem_append_right _ (List.mem_append_right _ (List.mem_append_right _ (List.mem_append_right _ (List.mem_append_left _ hw))))))))))))
  | 42, _ => fun w hw => List.mem_of_mem_drop (List.mem_of_mem_take (by rw [pr_g4]; exact List.mem_append_right _ (List.mem_append_right _ (List.mem_append_right _ (List.mem_append_right _ (List.mem_append_right _ (List.mem_append_right _ (List.mem_append_right _ (List.mem_append_right _ (List.mem_append_right _ (List.mem_append_right _ (List.mem_append_right _ (List.mem_append_right _ (List.mem_append_left _ hw))))))))))))))
  | 43, _ => fun w hw => List.mem_of_mem_drop (List.mem_of_mem_take (by rw [pr_g4]; exact List.mem_append_right _ (List.mem_append_right _ (List.mem_append_right _ (List.mem_append_right _ (List.mem_append_right _ (List.mem_append_right _ (List.mem_append_right _ (List.mem_append_right _ (List.mem_append_right _ (List.mem_append_right _ (List.mem_append_right _ (List.mem_append_right _ (List.mem_append_right _ (List.mem_append_right _ (List.mem_append_left _ hw))))))))))))))))
  | 44, _ => fun w hw => List.mem_of_mem_drop (List.mem_of_mem_take (by rw [pr_g4]; exact List.mem_append_right _ (List.mem_append_right _ (List.mem_append_right _ (List.mem_append_right _ (List.mem_append_right _ (List.mem_append_right _ (List.mem_append_right _ (List.mem_append_right _ (List.mem_append_right _ (List.mem_append_right _ (List.mem_append_right _ (List.mem_append_right _ (List.mem_append_right _ (List.mem_append_right _ (List.mem_append_right _ (List.mem_append_right _ (hw))))))))))))))))))
  | i + 45, h => absurd h (by omega)
theorem pr_ex (i : Nat) (h : i < 45) : Cond.exactly (rTr i) "java/lang/String" ∈ rPrem := pr_all i h _ List.mem_cons_self
theorem pr_co (i : Nat) (h : i < 45) : Cond.eq (.field (rTr i) "java/lang/String" "coder" "B") (.int 0) ∈ rPrem := pr_all i h _ (List.mem_cons_of_mem _ List.mem_cons_self)
theorem pr_ar (i : Nat) (h : i < 45) : Cond.arrayOf (.field (rTr i) "java/lang/String" "value" "[B") .byte ∈ rPrem := pr_all i h _ (List.mem_cons_of_mem _ (List.mem_cons_of_mem _ List.mem_cons_self))
theorem pr_le (i : Nat) (h : i < 45) : Cond.eq (.length (.field (rTr i) "java/lang/String" "value" "[B")) (.int (Int32.ofNat (rSLen.getD i 0))) ∈ rPrem := pr_all i h _ (List.mem_cons_of_mem _ (List.mem_cons_of_mem _ (List.mem_cons_of_mem _ List.mem_cons_self)))
theorem pr_el (i : Nat) (h : i < 45) (j : Nat) (hj : j < rSLen.getD i 0) : Cond.eq (.elem (.field (rTr i) "java/lang/String" "value" "[B") (.int (Int32.ofNat j))) (.int ((rSByt.getD i []).getD j 0)) ∈ rPrem := pr_all i h _ (List.mem_cons_of_mem _ (List.mem_cons_of_mem _ (List.mem_cons_of_mem _ (List.mem_cons_of_mem _ (List.mem_map.mpr ⟨j, List.mem_range.mpr hj, rfl⟩)))))
theorem pr_n : ∀ i : Nat, i < 45 → rSLen.getD i 0 < 2 ^ 31 := by decide +kernel
theorem pr_sr : ∀ i : Nat, i < 45 → Cond.stringRef (rStr.getD i ("", 0, "")).1 (rStr.getD i ("", 0, "")).2.1 (rStr.getD i ("", 0, "")).2.2 ∈ lw_tbl
  | 0, _ => rtk1 189 rfl
  | 1, _ => rtk1 190 rfl
  | 2, _ => rtk1 191 rfl
  | 3, _ => rtk1 192 rfl
  | 4, _ => rtk1 193 rfl
  | 5, _ => rtk1 194 rfl
  | 6, _ => rtk1 195 rfl
  | 7, _ => rtk2 107 rfl
  | 8, _ => rtk2 166 rfl
  | 9, _ => rtk2 167 rfl
  | 10, _ => rtk2 168 rfl
  | 11, _ => rtk2 169 rfl
  | 12, _ => rtk2 170 rfl
  | 13, _ => rtk2 171 rfl
  | 14, _ => rtk2 172 rfl
  | 15, _ => rtk2 173 rfl
  | 16, _ => rtk2 174 rfl
  | 17, _ => rtk2 175 rfl
  | 18, _ => rtk2 176 rfl
  | 19, _ => rtk2 177 rfl
  | 20, _ => rtk3 18 rfl
  | 21, _ => rtk3 76 rfl
  | 22, _ => rtk3 108 rfl
  | 23, _ => rtk4 231 rfl
  | 24, _ => rtk5 61 rfl
  | 25, _ => rtk6 47 rfl
  | 26, _ => rtk6 89 rfl
  | 27, _ => rtk6 90 rfl
  | 28, _ => rtk6 91 rfl
  | 29, _ => rtk6 92 rfl
  | 30, _ => rtk6 93 rfl
  | 31, _ => rtk6 94 rfl
  | 32, _ => rtk6 95 rfl
  | 33, _ => rtk6 97 rfl
  | 34, _ => rtk6 98 rfl
  | 35, _ => rtk6 99 rfl
  | 36, _ => rtk6 100 rfl
  | 37, _ => rtk6 101 rfl
  | 38, _ => rtk6 102 rfl
  | 39, _ => rtk6 103 rfl
  | 40, _ => rtk6 104 rfl
  | 41, _ => rtk6 105 rfl
  | 42, _ => rtk6 106 rfl
  | 43, _ => rtk6 107 rfl
  | 44, _ => rtk6 108 rfl
  | i + 45, h => absurd h (by omega)
set_option maxRecDepth 100000 in
theorem pr_D1 : Cond.arrayOf (.static "RingdaysModel" "DAYS" "[Ljava/lang/String;") (.object "java/lang/String") ∈ rPrem := List.mem_of_getElem? (i := 218) rfl
set_option maxRecDepth 100000 in
theorem pr_D2 : Cond.eq (.length (.static "RingdaysModel" "DAYS" "[Ljava/lang/String;")) (.int (Int32.ofNat 7)) ∈ rPrem := List.mem_of_getElem? (i := 219) rfl
set_option maxRecDepth 100000 in
theorem pr_D3 : ∀ j : Nat, j < 7 → Cond.eq (.elem (.static "RingdaysModel" "DAYS" "[Ljava/lang/String;") (.int (Int32.ofNat j))) (rTr (26 + j)) ∈ rPrem
  | 0, _ => List.mem_of_getElem? (i := 220) rfl
  | 1, _ => List.mem_of_getElem? (i := 221) rfl
  | 2, _ => List.mem_of_getElem? (i := 222) rfl
  | 3, _ => List.mem_of_getElem? (i := 223) rfl
  | 4, _ => List.mem_of_getElem? (i := 224) rfl
  | 5, _ => List.mem_of_getElem? (i := 225) rfl
  | 6, _ => List.mem_of_getElem? (i := 226) rfl
  | j + 7, h => absurd h (by omega)
set_option maxRecDepth 100000 in
theorem pr_M1 : Cond.arrayOf (.static "RingdaysModel" "MONTHS" "[Ljava/lang/String;") (.object "java/lang/String") ∈ rPrem := List.mem_of_getElem? (i := 228) rfl
set_option maxRecDepth 100000 in
theorem pr_M2 : Cond.eq (.length (.static "RingdaysModel" "MONTHS" "[Ljava/lang/String;")) (.int (Int32.ofNat 12)) ∈ rPrem := List.mem_of_getElem? (i := 229) rfl
set_option maxRecDepth 100000 in
theorem pr_M3 : ∀ j : Nat, j < 12 → Cond.eq (.elem (.static "RingdaysModel" "MONTHS" "[Ljava/lang/String;") (.int (Int32.ofNat j))) (rTr (33 + j)) ∈ rPrem
  | 0, _ => List.mem_of_getElem? (i := 230) rfl
  | 1, _ => List.mem_of_getElem? (i := 231) rfl
  | 2, _ => List.mem_of_getElem? (i := 232) rfl
  | 3, _ => List.mem_of_getElem? (i := 233) rfl
  | 4, _ => List.mem_of_getElem? (i := 234) rfl
  | 5, _ => List.mem_of_getElem? (i := 235) rfl
  | 6, _ => List.mem_of_getElem? (i := 236) rfl
  | 7, _ => List.mem_of_getElem? (i := 237) rfl
  | 8, _ => List.mem_of_getElem? (i := 238) rfl
  | 9, _ => List.mem_of_getElem? (i := 239) rfl
  | 10, _ => List.mem_of_getElem? (i := 240) rfl
  | 11, _ => List.mem_of_getElem? (i := 241) rfl
  | j + 12, h => absurd h (by omega)
set_option maxRecDepth 100000 in
theorem pr_L1 : Cond.arrayOf (.static "RingdaysModel" "LENGTHS" "[I") .int ∈ rPrem := List.mem_of_getElem? (i := 243) rfl
set_option maxRecDepth 100000 in
theorem pr_L2 : Cond.eq (.length (.static "RingdaysModel" "LENGTHS" "[I")) (.int (Int32.ofNat 12)) ∈ rPrem := List.mem_of_getElem? (i := 244) rfl
set_option maxRecDepth 100000 in
theorem pr_L3 : ∀ j : Nat, j < 12 → Cond.eq (.elem (.static "RingdaysModel" "LENGTHS" "[I") (.int (Int32.ofNat j))) (.int (rLen j)) ∈ rPrem
  | 0, _ => List.mem_of_getElem? (i := 245) rfl
  | 1, _ => List.mem_of_getElem? (i := 246) rfl
  | 2, _ => List.mem_of_getElem? (i := 247) rfl
  | 3, _ => List.mem_of_getElem? (i := 248) rfl
  | 4, _ => List.mem_of_getElem? (i := 249) rfl
  | 5, _ => List.mem_of_getElem? (i := 250) rfl
  | 6, _ => List.mem_of_getElem? (i := 251) rfl
  | 7, _ => List.mem_of_getElem? (i := 252) rfl
  | 8, _ => List.mem_of_getElem? (i := 253) rfl
  | 9, _ => List.mem_of_getElem? (i := 254) rfl
  | 10, _ => List.mem_of_getElem? (i := 255) rfl
  | 11, _ => List.mem_of_getElem? (i := 256) rfl
  | j + 12, h => absurd h (by omega)
set_option maxRecDepth 100000 in
theorem pr_c : Cond.eq (.static "java/lang/String" "COMPACT_STRINGS" "Z") (.int 1) ∈ rPrem := List.mem_of_getElem? (i := 4) rfl
set_option maxRecDepth 100000 in
theorem pr_s : Cond.isRef (.static "jdk/internal/util/Preconditions" "SIOOBE_FORMATTER" "Ljava/util/function/BiFunction;") ∈ rPrem := List.mem_of_getElem? (i := 5) rfl
set_option maxRecDepth 100000 in
theorem pr_u : Cond.isRef (.static Bundle.tN "UNASSIGNED_STACK" Bundle.steD) ∈ rPrem := List.mem_of_getElem? (i := 9) rfl
set_option maxRecDepth 100000 in
theorem pr_v : Cond.isRef (.static Bundle.tN "SUPPRESSED_SENTINEL" Bundle.listD) ∈ rPrem := List.mem_of_getElem? (i := 10) rfl
set_option maxRecDepth 100000 in
theorem pr_n1 : Cond.not (.castable "java/lang/IllegalArgumentException" "java/lang/IndexOutOfBoundsException") ∈ rPrem := List.mem_of_getElem? (i := 260) rfl
set_option maxRecDepth 100000 in
theorem pr_n2 : Cond.not (.castable "java/lang/IllegalStateException" "java/lang/IndexOutOfBoundsException") ∈ rPrem := List.mem_of_getElem? (i := 261) rfl
set_option maxRecDepth 100000 in
theorem tb_u : Cond.laysStatic Bundle.tN "UNASSIGNED_STACK" Bundle.steD ∈ lw_tbl ∧ Cond.laysStatic Bundle.tN "SUPPRESSED_SENTINEL" Bundle.listD ∈ lw_tbl ∧ Cond.initialized Bundle.tN ∈ lw_tbl := ⟨rtk2 66 rfl, rtk2 68 rfl, rtk1 4 rfl⟩
set_option maxRecDepth 100000 in
theorem tb_d : Cond.laysStatic "RingdaysModel" "DAYS" "[Ljava/lang/String;" ∈ lw_tbl ∧ Cond.laysStatic "RingdaysModel" "MONTHS" "[Ljava/lang/String;" ∈ lw_tbl ∧ Cond.laysStatic "RingdaysModel" "LENGTHS" "[I" ∈ lw_tbl ∧ Cond.initialized "RingdaysModel" ∈ lw_tbl := ⟨rtk5 63 rfl, rtk5 150 rfl, rtk5 215 rfl, rtk1 2 rfl⟩
set_option maxRecDepth 100000 in
theorem tb_c : Cond.laysStatic "java/lang/String" "COMPACT_STRINGS" "Z" ∈ lw_tbl ∧ Cond.initialized "java/lang/String" ∈ lw_tbl ∧ Cond.laysStatic "jdk/internal/util/Preconditions" "SIOOBE_FORMATTER" "Ljava/util/function/BiFunction;" ∈ lw_tbl ∧ Cond.initialized "jdk/internal/util/Preconditions" ∈ lw_tbl := ⟨rtk1 69 rfl, rtk1 13 rfl, rtk1 161 rfl, rtk1 19 rfl⟩
set_option maxRecDepth 100000 in
theorem tb_n : Cond.fieldLinkNest "RingdaysLaw" 13 "RingdaysLaw$Out" "n" "J" "RingdaysLaw" ∈ lw_tbl ∧ Cond.fieldLinkNest "RingdaysLaw" 34 "RingdaysLaw$Out" "s" "Ljava/lang/String;" "RingdaysLaw" ∈ lw_tbl := ⟨rtk3 84 rfl, rtk3 85 rfl⟩
set_option maxRecDepth 100000 in
theorem tb_i : Cond.instantiable "Ringdays" 7 ∈ lw_tbl ∧ Cond.instantiable "RingdaysModel" 7 ∈ lw_tbl ∧ Cond.instantiable "RingdaysLaw$Out" 2 ∈ lw_tbl ∧ Cond.instantiable "java/lang/StringBuilder" 4 ∈ lw_tbl ∧ Cond.instantiable "java/lang/String" 4 ∈ lw_tbl := ⟨rtk1 22 rfl, rtk5 6 rfl, rtk3 79 rfl, rtk1 60 rfl, rtk2 8 rfl⟩
set_option maxRecDepth 100000 in
theorem tb_a : Cond.arrayClass .int ∈ lw_tbl ∧ Cond.arrayClass .boolean ∈ lw_tbl ∧ Cond.arrayClass .byte ∈ lw_tbl ∧ Cond.arrayOver (.array .int) ∈ lw_tbl ∧ Cond.initialized "RingdaysLaw" ∈ lw_tbl := ⟨rtk1 53 rfl, rtk1 54 rfl, rtk1 90 rfl, rtk1 30 rfl, rtk1 0 rfl⟩
theorem start_str {args : Array Value} {s : State} {A : Nat → Prop} (hp : ∀ w ∈ rPrem, w.before args s = true) (hA : ∀ a : Nat, a < s.heap.size → ¬ A a) : ∃ ad : Nat → Nat × Nat, ∀ i : Nat, i < 45 → (rTr i).eval args s none [] s = some (.ref (ad i).1) ∧ va_O "java/lang/String" (ad i).1 A s s.heap ∧ va_OF "java/lang/String" "coder" "B" (.int 0) (ad i).1 A s s.heap ∧ va_OF "java/lang/String" "value" "[B" (.ref (ad i).2) (ad i).1 A s s.heap ∧ va_T .byte (ad i).2 (rSLen.getD i 0) (fun j => .int ((rSByt.getD i []).getD j 0)) A s s.heap := by
  have h0 : ∀ i : Nat, ∃ q : Nat × Nat, i < 45 → (rTr i).eval args s none [] s = some (.ref q.1) ∧ va_O "java/lang/String" q.1 A s s.heap ∧ va_OF "java/lang/String" "coder" "B" (.int 0) q.1 A s s.heap ∧ va_OF "java/lang/String" "value" "[B" (.ref q.2) q.1 A s s.heap ∧ va_T .byte q.2 (rSLen.getD i 0) (fun j => .int ((rSByt.getD i []).getD j 0)) A s s.heap := by
    intro i
    by_cases hi : i < 45
    · obtain ⟨a, c, cA, kA, q1, q2, q3, q4, q5, q6, -⟩ := Cond.exactly_spec (args := args) (first := s) (o := none) (s := s) (idx := []) (t := rTr i) (cls := "java/lang/String") (hp _ (pr_ex i hi))
      obtain ⟨t, ht, hT⟩ := va_Tof (f := fun j => .int ((rSByt.getD i []).getD j 0)) (A := A) (pr_n i hi) (hp _ (pr_ar i hi)) (va_eqt (hp _ (pr_le i hi))) (fun j hj => va_eqt (hp _ (pr_el i hi j hj))) hA
      exact ⟨(a, t), fun _ => ⟨q1, ⟨cA, q3, q5, by rw [q6]; exact q2, hA a (Array.getElem?_eq_some_iff.mp q3).1⟩, vk_OFof q1 (va_eqt (hp _ (pr_co i hi))) hA, vk_OFof q1 ht hA, hT⟩⟩
    · exact ⟨(0, 0), fun h => absurd h hi⟩
  exact ⟨fun i => (h0 i).choose, fun i hi => (h0 i).choose_spec hi⟩
def adG (ad : Nat → Nat × Nat) (aD aM aL b : Nat) : Nat → Nat := fun k => if k = 50 then aD else if k = 51 then aM else if k = 52 then aL else if k = 60 then b else if k < 145 then (ad (k - 100)).1 else (ad (k - 200)).2
theorem adG_s {ad : Nat → Nat × Nat} {aD aM aL b i : Nat} (hi : i < 45) : adG ad aD aM aL b (100 + i) = (ad i).1 := by
  unfold adG
  rw [if_neg (by omega), if_neg (by omega), if_neg (by omega), if_neg (by omega), if_pos (by omega), show 100 + i - 100 = i by omega]
theorem adG_v {ad : Nat → Nat × Nat} {aD aM aL b i : Nat} : adG ad aD aM aL b (200 + i) = (ad i).2 := by
  unfold adG
  rw [if_neg (by omega), if_neg (by omega), if_neg (by omega), if_neg (by omega), if_neg (by omega), show 200 + i - 200 = i by omega]
theorem start_im {s : State} {b L : Nat} {xs : Nat → Int32} {D : va_G} {ty : Nat → ClassId} (hts : ∀ w ∈ lw_tbl, w.before #[Value.ref b] s = true) (hX : va_X b L xs s s.heap) (hbl : b < s.heap.size) (hgv : (Jvm.Cond.and given_1 narrow_1).before #[Value.ref b] s = true) : ∃ ad : Nat → Nat, ad 60 = b ∧ rIm (D, ty, ad, s.heap.size, L, xs) s s.heap := by
  have hp : ∀ w ∈ rPrem, w.before #[Value.ref b] s = true := flat_of_before _ hgv
  have hA : ∀ a : Nat, a < s.heap.size → ¬ (fun q : Nat => s.heap.size ≤ q) a := fun a h => Nat.not_le.mpr h
  obtain ⟨ad, hS⟩ := start_str (A := fun q : Nat => s.heap.size ≤ q) hp hA
  obtain ⟨aD, hDe, hDT⟩ := va_Tof (tm := .static "RingdaysModel" "DAYS" "[Ljava/lang/String;") (ty := .object "java/lang/String") (N := 7) (f := fun j => .ref (ad (26 + j)).1) (A := fun q : Nat => s.heap.size ≤ q) (by decide) (hp _ pr_D1) (va_eqt (hp _ pr_D2)) (fun j hj => va_eqv (hp _ (pr_D3 j hj)) (hS (26 + j) (by omega)).1) hA
  obtain ⟨aM, hMe, hMT⟩ := va_Tof (tm := .static "RingdaysModel" "MONTHS" "[Ljava/lang/String;") (ty := .object "java/lang/String") (N := 12) (f := fun j => .ref (ad (33 + j)).1) (A := fun q : Nat => s.heap.size ≤ q) (by decide) (hp _ pr_M1) (va_eqt (hp _ pr_M2)) (fun j hj => va_eqv (hp _ (pr_M3 j hj)) (hS (33 + j) (by omega)).1) hA
  obtain ⟨aL, hLe, hLT⟩ := va_Tof (tm := .static "RingdaysModel" "LENGTHS" "[I") (ty := .int) (N := 12) (f := fun j => .int (rLen j)) (A := fun q : Nat => s.heap.size ≤ q) (by decide) (hp _ pr_L1) (va_eqt (hp _ pr_L2)) (fun j hj => va_eqt (hp _ (pr_L3 j hj))) hA
  refine ⟨adG ad aD aM aL b, rfl, vx_Zqof (hts _ tb_u.1) (hts _ tb_u.2.2) (hp _ pr_u) hA, vx_Zqof (hts _ tb_u.2.1) (hts _ tb_u.2.2) (hp _ pr_v) hA, va_Zref (hts _ tb_d.1) (hts _ tb_d.2.2.2) hDe hA, ?_, va_Zref (hts _ tb_d.2.1) (hts _ tb_d.2.2.2) hMe hA, ?_, va_Zref (hts _ tb_d.2.2.1) (hts _ tb_d.2.2.2) hLe hA, hLT, ?_, ?_,
    va_Zof (hts _ tb_c.1) (hts _ tb_c.2.1) (va_eqi (hp _ pr_c)) hA, va_Zqof (hts _ tb_c.2.2.1) (hts _ tb_c.2.2.2) (hp _ pr_s) hA, va_Nc.of (hp _ pr_n1), va_Nc.of (hp _ pr_n2), va_Nw.of rfl (hts _ tb_n.1), va_Nw.of rfl (hts _ tb_n.2), ?_, ?_⟩
  · show va_T (.object "java/lang/String") aD 7 (fun j => .ref (adG ad aD aM aL b (126 + j))) (fun q : Nat => s.heap.size ≤ q) s s.heap
    obtain ⟨cell, h1, h2, h3, h4, h5, h6, h7⟩ := hDT
    exact ⟨cell, h1, h2, h3, h4, h5, fun j hj => by
      rw [h6 j hj]
      show some (Value.ref (ad (26 + j)).1) = some (Value.ref (adG ad aD aM aL b (126 + j)))
      rw [show 126 + j = 100 + (26 + j) by omega, adG_s (by omega)], h7⟩
  · show va_T (.object "java/lang/String") aM 12 (fun j => .ref (adG ad aD aM aL b (133 + j))) (fun q : Nat => s.heap.size ≤ q) s s.heap
    obtain ⟨cell, h1, h2, h3, h4, h5, h6, h7⟩ := hMT
    exact ⟨cell, h1, h2, h3, h4, h5, fun j hj => by
      rw [h6 j hj]
      show some (Value.ref (ad (33 + j)).1) = some (Value.ref (adG ad aD aM aL b (133 + j)))
      rw [show 133 + j = 100 + (33 + j) by omega, adG_s (by omega)], h7⟩
  · intro i hi
    show vk_R _ _ _ (adG ad aD aM aL b (100 + i)) s
    rw [adG_s hi]
    exact vk_R.of (A := #[Value.ref b]) (hts _ (pr_sr i hi)) (hS i hi).1
  · intro i hi
    show va_O "java/lang/String" (adG ad aD aM aL b (100 + i)) _ s s.heap ∧ va_OF "java/lang/String" "coder" "B" (.int 0) (adG ad aD aM aL b (100 + i)) _ s s.heap ∧ va_OF "java/lang/String" "value" "[B" (.ref (adG ad aD aM aL b (200 + i))) (adG ad aD aM aL b (100 + i)) _ s s.heap ∧ va_T .byte (adG ad aD aM aL b (200 + i)) (rSLen.getD i 0) (fun j => .int ((rSByt.getD i []).getD j 0)) _ s s.heap
    rw [adG_s hi, adG_v]
    exact (hS i hi).2
  · intro w hw
    have h1 := List.mem_filter.mp hw
    have h2 := h1.2
    rw [Bool.and_eq_true] at h2
    exact va_tabs h2.2 rfl (hts _ h1.1)
  · obtain ⟨scr, h1, h2, h3, h4, h5⟩ := hX
    exact ⟨scr, h1, h2, h3, by show L ≤ _; omega, by rw [h4], h5, hA b hbl⟩
theorem arr_of {s : State} {args : Array Value} {ty : FieldType} (h : (Cond.arrayClass ty).before args s = true) : ∃ c : ClassId, ArrOfT s c ty ∧ s.vm.findClass ("[" ++ ty.toString) = some c := by
  obtain ⟨c, k, comp, h1, h2, h3⟩ := Cond.arrayClass_spec h
  exact ⟨c, fun n z => ⟨fun q hq => (by cases hq), k, h2, comp, h3⟩, h1⟩
theorem arr_over {s : State} {args : Array Value} (h : (Cond.arrayOver (.array .int)).before args s = true) : ∃ c : ClassId, ArrOfT s c (.array .int) ∧ s.vm.findClass ("[" ++ (FieldType.array .int).toString) = some c := by
  obtain ⟨comp, c, k, -, -, h3, h4, h5⟩ := (show rAO s from h).spec
  exact ⟨c, fun n z => ⟨fun q hq => (by cases hq), k, h3, comp, h4⟩, h5⟩
theorem start_K {s : State} {b : Nat} (hts : ∀ w ∈ lw_tbl, w.before #[Value.ref b] s = true) : ∃ (D : va_G) (ty : Nat → ClassId), va_K D rCl [(ty 0, .int), (ty 1, .boolean), (ty 2, .array .int), (ty 3, .byte)] s := by
  obtain ⟨c0, i0, k0⟩ := u_known (C := rN0) (T := rF0) (N := 7) (n := 7) hts (fun w h => rTm (rU0 w h)) (hts _ tb_i.1)
  obtain ⟨c1, i1, k1⟩ := u_known (C := rN1) (T := rF1) (N := 7) (n := 7) hts (fun w h => rTm (rU1 w h)) (hts _ tb_i.2.1)
  obtain ⟨c2, i2, k2⟩ := u_known (C := rN2) (T := rF2) (N := 2) (n := 2) hts (fun w h => rTm (rU2 w h)) (hts _ tb_i.2.2.1)
  obtain ⟨c3, i3, k3⟩ := u_known (C := rN3) (T := rF3) (N := 4) (n := 4) hts (fun w h => rTm (rU3 w h)) (hts _ tb_i.2.2.2.1)
  obtain ⟨c4, i4, k4⟩ := u_known (C := rN4) (T := rF4) (N := 4) (n := 4) hts (fun w h => rTm (rU4 w h)) (hts _ tb_i.2.2.2.2)
  obtain ⟨t0, a0, n0⟩ := arr_of (hts _ tb_a.1)
  obtain ⟨t1, a1, n1⟩ := arr_of (hts _ tb_a.2.1)
  obtain ⟨t2, a2, n2⟩ := arr_over (hts _ tb_a.2.2.2.1)
  obtain ⟨t3, a3, n3⟩ := arr_of (hts _ tb_a.2.2.1)
  refine ⟨(fun k => match k with | 0 => c0 | 1 => c1 | 2 => c2 | 3 => c3 | _ => c4, fun k => match k with | 0 => i0 | 1 => i1 | 2 => i2 | 3 => i3 | _ => i4), fun k => match k with | 0 => t0 | 1 => t1 | 2 => t2 | _ => t3, fun k q hq => ?_, fun k q hq => ?_⟩
  · match k, hq with
    | 0, hq => cases hq; exact k0
    | 1, hq => cases hq; exact k1
    | 2, hq => cases hq; exact k2
    | 3, hq => cases hq; exact k3
    | 4, hq => cases hq; exact k4
    | k + 5, hq => cases hq
  · match k, hq with
    | 0, hq => cases hq; exact ⟨a0, n0⟩
    | 1, hq => cases hq; exact ⟨a1, n1⟩
    | 2, hq => cases hq; exact ⟨a2, n2⟩
    | 3, hq => cases hq; exact ⟨a3, n3⟩
    | k + 4, hq => cases hq
def fD : CF := upd (upd (upd (upd (fun _ => 0) 0 1) 1 1) 2 1) 3 1
def SSt : List RC :=
  [.inl (0, [rR 1, rR 2, rR 3, rR 6, rR 9, rI false 0, rI false 0]), .inr (0, 4, .inl fD), .inr (0, 4, .inl fD), .inr (2, 2, .inr (fun j => 3 + 1 + j)), .inr (0, 4, .inl (fun _ => 0)), .inr (0, 4, .inl (fun _ => 0)), .inr (2, 2, .inr (fun j => 6 + 1 + j)), .inr (0, 4, .inl (fun _ => 0)), .inr (0, 4, .inl (fun _ => 0)), .inr (1, 2, .inl (fun _ => 0)),
   .inl (1, [rI false 0, rR 11, rR 12, rR 13, rR 16, rI false 0, rI false 0]), .inr (0, 4, .inl fD), .inr (0, 4, .inl fD), .inr (2, 2, .inr (fun j => 13 + 1 + j)), .inr (0, 8, .inl (fun _ => 0)), .inr (0, 8, .inl (fun _ => 0)), .inr (1, 2, .inl (fun _ => 0)), .inl (2, [rL false 0, rO none])]
def QSt : RQ := fun z σ => ∃ b : Nat, z = .inr b ∧ Nat.ble b 200 = true ∧ σ = SSt
set_option maxHeartbeats 4000000 in
set_option maxRecDepth 20000 in
theorem start_run : rEv tb_start QSt 60 tb_start [(0, rR 60)] [] [] 0 := by
  repeat' (first | refine And.intro ?_ ?_ | rfl | exact ⟨_, rfl, rfl, rfl⟩ | exact Nat.le_of_ble_eq_true rfl | decide)
/-- the rows' places as the loop has them -/
def rPi (k : Nat) : Nat := match k with
  | 4 => 6
  | 5 => 4
  | 6 => 5
  | k => k
def rGp (G : RG) : RG := (G.1, G.2.1, fun k => rAd G (rPi k), G.2.2.2)
theorem rGp_ext {G : RG} : rExt 4 G (rGp G) := by
  refine ⟨rfl, rfl, rfl, fun k hk => ?_⟩
  show rAd G (rPi k) = rAd G k
  unfold rPi
  split
  · omega
  · omega
  · omega
  · rfl
theorem rcond (f : Nat → Nat) (c : Bool) (a b : Nat) : f (bif c then a else b) = bif c then f a else f b := by cases c <;> rfl
theorem start_perm {G : RG} : [0, 1, 2, 3, 6, 4, 5, 7, 8, 9, 10, 11, 12, 13, 14, 15, 16, 17].map (fun i => (rW (rAd G) (rTy G) 0 SSt)[i]?) = (rW (rAd (rGp G)) (rTy (rGp G)) 0 (CW fD fD (fun _ => 0) (fun _ => 0) (fun _ => 0) (fun _ => 0) (fun _ => 0) (fun _ => 0) (fun _ => 0) 0 0 0 0 none)).map some := by
  have e1 : ∀ (c : Bool) (a b : Nat), rAd G (bif c then a else b) = bif c then rAd G a else rAd G b := rcond _
  have e2 : ∀ (c : Bool) (a b : Nat), rAd (rGp G) (bif c then a else b) = bif c then rAd (rGp G) a else rAd (rGp G) b := rcond _
  simp only [SSt, CW, WW, rW, rE, e1, e2]
  rfl
end RKST
section RKWH
set_option maxHeartbeats 4000000 in
set_option maxRecDepth 20000 in
/-- from the entry, for every script of at most 2560 ints, the law comes to its end with true -/
theorem whole_start {p : Program} {e : Env} {s : State} {m : MethodId} {below : List Frame} {meth : Method} {c : Code} (l : Launch) (hflags : l.flags = flags0) {b L : Nat} {xs : Nat → Int32} (hL : L ≤ 2560) (C0 : lw_At p s m meth c b L xs) (hnm : meth.name = "law") (hxt : c.exceptionTable.toList = []) :
    W p l e room_1 s m #[Value.ref b] below meth c s.heap [] 0 0 (lw_Z below #[Value.ref b] s) (entryFrame m ([Value.ref b] : List Value).toArray 7) := by
  obtain ⟨c1, c2, c3, c4, c5, c6, c7, c8, c9, c10⟩ := C0
  obtain ⟨D, ty, hK⟩ := start_K c6
  obtain ⟨ad, had, hI⟩ := start_im (D := D) (ty := ty) c6 c7 c8 c10
  have hst : l.stackTraces = false := by
    unfold Launch.stackTraces
    rw [hflags]
    decide +kernel
  obtain ⟨G0, eG⟩ : ∃ G0 : RG, G0 = (D, ty, ad, s.heap.size, L, xs) := ⟨_, rfl⟩
  have g1 : rSc G0 = (L, xs) := by rw [eG]
  have g2 : rLo G0 = s.heap.size := by rw [eG]
  have g3 : rAd G0 60 = b := by rw [eG]; exact had
  have hK0 : va_K (rDD G0) rCl (rTys G0) s := by rw [eG]; exact hK
  have hI0 : rIm G0 s s.heap := by rw [eG]; exact hI
  have hlo : ∀ q : Nat, s.heap.size ≤ q → rA G0 q := fun q hq => by
    show rLo G0 ≤ q
    rw [g2]
    exact hq
  have F0' : rFr G0 p l room_1 s m #[Value.ref b] meth c code "RingdaysLaw" 7 lw_tbl [] 0 200 := ⟨c1, c2, c4, c5, c6, hK0, hI0, hlo, c9, hst, by decide +kernel, by decide +kernel, by rw [hxt]; rfl⟩
  have hTL : ∀ w ∈ rTL, w.before #[Value.ref b] s = true := fun w hw => by
    rcases List.mem_cons.mp hw with rfl | hw
    · exact c6 _ tb_a.2.2.2.2
    · exact c6 _ (rTm hw)
  have hrc : room_1.cells = 601024 := by decide +kernel
  have hrs : room_1.slots = 7293034 := by decide +kernel
  have Fl : ∀ b0 : Nat, b0 ≤ 512200 → rFr G0 p l room_1 s m #[Value.ref b] meth c code "RingdaysLaw" 7 rTL [] b0 1000 := fun b0 hb => ⟨c1, c2, c4, c5, hTL, hK0, hI0, hlo, c9, hst, by rw [hrc]; omega, by rw [hrs]; omega, by rw [hxt]; rfl⟩
  have hZ : rZX 0 G0 QSt 200 (.inr 27) p l e room_1 s m #[Value.ref b] below meth c 7 (lw_Z below #[Value.ref b] s) := by
    intro G hx lv σ b1 hlw hq
    obtain ⟨b2, hb, hle, rfl⟩ := hq
    cases hb
    intro H locs ls hP hD hS hl
    have hx2 : rExt 0 G0 (rGp G) := hx.tr (rExt.le (by decide) rGp_ext)
    have hloop := law_loop (p := p) (l := l) (e := e) (s := s) (m := m) (args := #[Value.ref b]) (below := below) (meth := meth) (c := c) (Z := lw_Z below #[Value.ref b] s) (G := rGp G) (L := L) (xs := xs) hL (by show (rGp G).2.2.2.2 = (L, xs); rw [hx2.2.2.1]; exact g1) (by show (rGp G).2.2.2.1 = _; rw [hx2.2.2.1]; exact g2) (b := b) rfl c3 (fun b0 hb0 => rFr_ext hx2 (Fl b0 hb0)) rfl 513 0 b1 (by omega) (by omega) (by have := Nat.le_of_ble_eq_true hle; omega)
    have hl0 := lw_narrow hl hlw
    have hi : IV fD fD (fun _ => 0) (fun _ => 0) (fun _ => 0) (fun _ => 0) (fun _ => 0) (fun _ => 0) (fun _ => 0) := ⟨⟨⟨rfl, rfl⟩, rfl, rfl⟩, ⟨⟨rfl, rfl⟩, rfl, rfl⟩, ⟨⟨⟨rfl, rfl⟩, rfl, rfl⟩, ⟨⟨rfl, rfl⟩, rfl, rfl⟩, Or.inl rfl⟩, ⟨⟨⟨rfl, rfl⟩, rfl, rfl⟩, ⟨⟨rfl, rfl⟩, rfl, rfl⟩, Or.inl rfl⟩⟩
    rw [show 0 + b1 = b1 by omega]
    refine hloop fD fD (fun _ => 0) (fun _ => 0) (fun _ => 0) (fun _ => 0) (fun _ => 0) (fun _ => 0) (fun _ => 0) 0 0 0 0 none hi H locs ls ?_ ?_ ?_ hl0
    · show va_P (rDD G) rCl _ H
      refine hP.sub [0, 1, 2, 3, 6, 4, 5, 7, 8, 9, 10, 11, 12, 13, 14, 15, 16, 17] ?_
      have : [0, 1, 2, 3, 6, 4, 5, 7, 8, 9, 10, 11, 12, 13, 14, 15, 16, 17].filterMap (fun i => (rW (rAd G) (rTy G) 0 SSt)[i]?) = ([0, 1, 2, 3, 6, 4, 5, 7, 8, 9, 10, 11, 12, 13, 14, 15, 16, 17].map (fun i => (rW (rAd G) (rTy G) 0 SSt)[i]?)).filterMap id := by rw [List.filterMap_map]; rfl
      rw [this, start_perm, List.filterMap_map]
      simp
    · show va_D (rA G) _
      exact hD.sub [0, 1, 2, 3, 6, 4, 5, 7, 8, 9, 10, 11, 12, 13, 14, 15, 16, 17] (by decide) start_perm
    · exact hS
  have hle := lv_entry (([rR 60] : List AV).map (rv (rAd G0))) (n := 7) (by rw [rsl_len]; decide)
  have h2 := rEv_okX ok_start F0' hZ hnm 60 0 G0 rExt.rf [(0, rR 60)] [] [] 0 (e := e) start_run s.heap [] _ (fun k q hk => by cases k <;> cases hk) ⟨fun i j q1 q2 hk => (by cases i <;> cases hk), fun k q hk => (by cases k <;> cases hk)⟩ va_S.rf hle
  subst g3
  rw [lg_entry_eq]
  exact h2
end RKWH
