section RKW3
abbrev y_c_digest : MethodName := ⟨"Ringdays", "digest", "()J"⟩
abbrev y_c_mixedCell : MethodName := ⟨"Ringdays", "mixedCell", "(JII)J"⟩
abbrev y_c_mixedName : MethodName := ⟨"Ringdays", "mixedName", "(JLjava/lang/String;)J"⟩
abbrev y_d_add__JString__J : MethodName := ⟨"RingdaysModel", "add", "(JLjava/lang/String;)J"⟩
abbrev y_d_digest : MethodName := ⟨"RingdaysModel", "digest", "()J"⟩
theorem hv_c_days : y_c_days.cls = rN0 ∧ y_c_days.cls ≠ "java/lang/invoke/MethodHandle" ∧ y_c_days.cls ≠ "java/lang/invoke/VarHandle" ∧ (parseMethodDescriptor y_c_days.desc).map (fun d => d.parameters.length) = some 0 := by decide +kernel
theorem hv_c_digest : y_c_digest.cls = rN0 ∧ y_c_digest.cls ≠ "java/lang/invoke/MethodHandle" ∧ y_c_digest.cls ≠ "java/lang/invoke/VarHandle" ∧ (parseMethodDescriptor y_c_digest.desc).map (fun d => d.parameters.length) = some 0 := by decide +kernel
theorem hy_c_mixed : y_c_mixed.cls ≠ "java/lang/invoke/MethodHandle" ∧ y_c_mixed.cls ≠ "java/lang/invoke/VarHandle" ∧ (parseMethodDescriptor y_c_mixed.desc).map (fun d => d.parameters.length) = some 2 := by decide +kernel
theorem hy_c_mixedCell : y_c_mixedCell.cls ≠ "java/lang/invoke/MethodHandle" ∧ y_c_mixedCell.cls ≠ "java/lang/invoke/VarHandle" ∧ (parseMethodDescriptor y_c_mixedCell.desc).map (fun d => d.parameters.length) = some 3 := by decide +kernel
theorem hy_c_mixedName : y_c_mixedName.cls ≠ "java/lang/invoke/MethodHandle" ∧ y_c_mixedName.cls ≠ "java/lang/invoke/VarHandle" ∧ (parseMethodDescriptor y_c_mixedName.desc).map (fun d => d.parameters.length) = some 2 := by decide +kernel
theorem hv_c_months : y_c_months.cls = rN0 ∧ y_c_months.cls ≠ "java/lang/invoke/MethodHandle" ∧ y_c_months.cls ≠ "java/lang/invoke/VarHandle" ∧ (parseMethodDescriptor y_c_months.desc).map (fun d => d.parameters.length) = some 0 := by decide +kernel
theorem hy_d_add__JJ_J : y_d_add__JJ_J.cls ≠ "java/lang/invoke/MethodHandle" ∧ y_d_add__JJ_J.cls ≠ "java/lang/invoke/VarHandle" ∧ (parseMethodDescriptor y_d_add__JJ_J.desc).map (fun d => d.parameters.length) = some 2 := by decide +kernel
theorem hy_d_add__JString__J : y_d_add__JString__J.cls ≠ "java/lang/invoke/MethodHandle" ∧ y_d_add__JString__J.cls ≠ "java/lang/invoke/VarHandle" ∧ (parseMethodDescriptor y_d_add__JString__J.desc).map (fun d => d.parameters.length) = some 2 := by decide +kernel
theorem hv_d_days : y_d_days.cls = rN1 ∧ y_d_days.cls ≠ "java/lang/invoke/MethodHandle" ∧ y_d_days.cls ≠ "java/lang/invoke/VarHandle" ∧ (parseMethodDescriptor y_d_days.desc).map (fun d => d.parameters.length) = some 0 := by decide +kernel
theorem hv_d_digest : y_d_digest.cls = rN1 ∧ y_d_digest.cls ≠ "java/lang/invoke/MethodHandle" ∧ y_d_digest.cls ≠ "java/lang/invoke/VarHandle" ∧ (parseMethodDescriptor y_d_digest.desc).map (fun d => d.parameters.length) = some 0 := by decide +kernel
theorem hv_d_months : y_d_months.cls = rN1 ∧ y_d_months.cls ≠ "java/lang/invoke/MethodHandle" ∧ y_d_months.cls ≠ "java/lang/invoke/VarHandle" ∧ (parseMethodDescriptor y_d_months.desc).map (fun d => d.parameters.length) = some 0 := by decide +kernel
theorem hy_js_charAt : y_js_charAt.cls ≠ "java/lang/invoke/MethodHandle" ∧ y_js_charAt.cls ≠ "java/lang/invoke/VarHandle" ∧ (parseMethodDescriptor y_js_charAt.desc).map (fun d => d.parameters.length) = some 1 := by decide +kernel
theorem hv_js_charAt : y_js_charAt.cls = rN4 ∧ y_js_charAt.cls ≠ "java/lang/invoke/MethodHandle" ∧ y_js_charAt.cls ≠ "java/lang/invoke/VarHandle" ∧ (parseMethodDescriptor y_js_charAt.desc).map (fun d => d.parameters.length) = some 1 := by decide +kernel
theorem q_67 : Cond.methodLink "RingdaysLaw" 338 y_c_days ∈ rT := rmk1 55 rfl rfl
theorem q_68 : Cond.instanceMethod y_c_days ∈ rT := rmk1 56 rfl rfl
theorem q_69 : Cond.selects "Ringdays" y_c_days y_c_days ∈ rT := rmk1 57 rfl rfl
theorem q_70 : Cond.code y_c_days prog_1_method_50_code 3 (some (.object "java/lang/String")) ∈ rT := rmk1 58 rfl rfl
theorem q_411 : Cond.methodLink "RingdaysLaw" 343 y_c_months ∈ rT := rmk2 159 rfl rfl
theorem q_412 : Cond.instanceMethod y_c_months ∈ rT := rmk2 160 rfl rfl
theorem q_413 : Cond.selects "Ringdays" y_c_months y_c_months ∈ rT := rmk2 161 rfl rfl
theorem q_414 : Cond.code y_c_months prog_1_method_51_code 3 (some (.object "java/lang/String")) ∈ rT := rmk2 162 rfl rfl
theorem q_518 : Cond.methodLink "RingdaysLaw" 361 y_c_digest ∈ rT := rmk3 26 rfl rfl
theorem q_519 : Cond.instanceMethod y_c_digest ∈ rT := rmk3 27 rfl rfl
theorem q_520 : Cond.selects "Ringdays" y_c_digest y_c_digest ∈ rT := rmk3 28 rfl rfl
theorem q_521 : Cond.code y_c_digest prog_1_method_55_code 5 (some .long) ∈ rT := rmk3 29 rfl rfl
theorem q_522 : Cond.constantLong "Ringdays" 182 7793 ∈ rT := rmk3 30 rfl rfl
theorem q_523 : Cond.methodLink "Ringdays" 184 y_c_mixed ∈ rT := rmk3 31 rfl rfl
theorem q_524 : Cond.static y_c_mixed ∈ rT := rmk3 32 rfl rfl
theorem q_525 : Cond.code y_c_mixed prog_1_method_88_code 3 (some .long) ∈ rT := rmk3 33 rfl rfl
theorem q_527 : Cond.methodLink "Ringdays" 188 y_c_mixedCell ∈ rT := rmk3 35 rfl rfl
theorem q_528 : Cond.static y_c_mixedCell ∈ rT := rmk3 36 rfl rfl
theorem q_529 : Cond.code y_c_mixedCell prog_1_method_90_code 6 (some .long) ∈ rT := rmk3 37 rfl rfl
theorem q_530 : Cond.methodLink "Ringdays" 298 y_c_mixedName ∈ rT := rmk3 38 rfl rfl
theorem q_531 : Cond.static y_c_mixedName ∈ rT := rmk3 39 rfl rfl
theorem q_532 : Cond.code y_c_mixedName prog_1_method_89_code 6 (some .long) ∈ rT := rmk3 40 rfl rfl
theorem q_533 : Cond.methodLink "Ringdays" 288 y_js_length ∈ rT := rmk3 41 rfl rfl
theorem q_534 : Cond.methodLink "Ringdays" 294 y_js_charAt ∈ rT := rmk3 42 rfl rfl
theorem q_535 : Cond.instanceMethod y_js_charAt ∈ rT := rmk3 43 rfl rfl
theorem q_536 : Cond.selects "java/lang/String" y_js_charAt y_js_charAt ∈ rT := rmk3 44 rfl rfl
theorem q_537 : Cond.code y_js_charAt prog_14_method_56_code 2 (some .char) ∈ rT := rmk3 45 rfl rfl
theorem q_549 : Cond.methodLink "Ringdays" 192 y_c_dayOrder ∈ rT := rmk3 57 rfl rfl
theorem q_556 : Cond.methodLink "Ringdays" 195 y_c_monthOrder ∈ rT := rmk3 64 rfl rfl
theorem q_560 : Cond.methodLink "Ringdays" 198 y_c_areAlike ∈ rT := rmk3 68 rfl rfl
theorem q_569 : Cond.methodLink "Ringdays" 202 y_c_isSound ∈ rT := rmk3 77 rfl rfl
theorem q_1252 : Cond.methodLink "RingdaysLaw" 342 y_d_days ∈ rT := rmk6 40 rfl rfl
theorem q_1253 : Cond.instanceMethod y_d_days ∈ rT := rmk6 41 rfl rfl
theorem q_1254 : Cond.selects "RingdaysModel" y_d_days y_d_days ∈ rT := rmk6 42 rfl rfl
theorem q_1255 : Cond.code y_d_days prog_4_method_65_code 1 (some (.object "java/lang/String")) ∈ rT := rmk6 43 rfl rfl
theorem q_1261 : Cond.methodLink "RingdaysLaw" 346 y_d_months ∈ rT := rmk6 49 rfl rfl
theorem q_1262 : Cond.instanceMethod y_d_months ∈ rT := rmk6 50 rfl rfl
theorem q_1263 : Cond.selects "RingdaysModel" y_d_months y_d_months ∈ rT := rmk6 51 rfl rfl
theorem q_1264 : Cond.code y_d_months prog_4_method_66_code 1 (some (.object "java/lang/String")) ∈ rT := rmk6 52 rfl rfl
theorem q_1277 : Cond.methodLink "RingdaysLaw" 365 y_d_digest ∈ rT := rmk6 65 rfl rfl
theorem q_1278 : Cond.instanceMethod y_d_digest ∈ rT := rmk6 66 rfl rfl
theorem q_1279 : Cond.selects "RingdaysModel" y_d_digest y_d_digest ∈ rT := rmk6 67 rfl rfl
theorem q_1280 : Cond.code y_d_digest prog_4_method_72_code 5 (some .long) ∈ rT := rmk6 68 rfl rfl
theorem q_1281 : Cond.constantLong "RingdaysModel" 128 7793 ∈ rT := rmk6 69 rfl rfl
theorem q_1282 : Cond.methodLink "RingdaysModel" 124 y_d_add__JJ_J ∈ rT := rmk6 70 rfl rfl
theorem q_1283 : Cond.static y_d_add__JJ_J ∈ rT := rmk6 71 rfl rfl
theorem q_1284 : Cond.code y_d_add__JJ_J prog_4_method_70_code 4 (some .long) ∈ rT := rmk6 72 rfl rfl
theorem q_1286 : Cond.methodLink "RingdaysModel" 130 y_d_add__JString__J ∈ rT := rmk6 74 rfl rfl
theorem q_1287 : Cond.static y_d_add__JString__J ∈ rT := rmk6 75 rfl rfl
theorem q_1288 : Cond.code y_d_add__JString__J prog_4_method_71_code 6 (some .long) ∈ rT := rmk6 76 rfl rfl
theorem q_1289 : Cond.methodLink "RingdaysModel" 114 y_js_length ∈ rT := rmk6 77 rfl rfl
theorem q_1290 : Cond.methodLink "RingdaysModel" 120 y_js_charAt ∈ rT := rmk6 78 rfl rfl
end RKW3
