section RKW3
abbrev y_c_digest : MethodName := ⟨"Ringdays", "digest", "()J"⟩
abbrev y_c_mixedCell : MethodName := ⟨"Ringdays", "mixedCell", "(JII)J"⟩
abbrev y_c_mixedName : MethodName := ⟨"Ringdays", "mixedName", "(JLjava/lang/String;)J"⟩
abbrev y_d_add__JString__J : MethodName := ⟨"RingdaysModel", "add", "(JLjava/lang/String;)J"⟩
abbrev y_d_digest : MethodName := ⟨"RingdaysModel", "digest", "()J"⟩
theorem hv_c_days : y_c_days.cls = rN0 ∧ y_c_days.cls ≠ "java/lang/invoke/MethodHandle" ∧ y_c_days.cls ≠ "java/lang/invoke/VarHandle" ∧ (parseMethodDescriptor y_c_days.desc).map (fun d => d.parameters.length) = some 0 := by decide +kernel
theorem hv_c_digest : y_c_digest.cls = rN0 ∧ y_c_digest.cls ≠ "java/lang/invoke/MethodHandle" ∧ y_c_digest.cls ≠ "java/lang/invoke/VarHandle" ∧ (parseMethodDescriptor y_c_digest.desc).map (fun d => d.parameters.length) = some 0 := by decide +kernel
theorem hy_c_mixed : y_c_mixed.cls ≠ "java/lang/invoke/MethodHandle" ∧ y_c_mixed.cls ≠ "java/lang/invoke/VarHandle" ∧ (parseMethodDescriptor y_c_mixed.desc).map (fun d => d.parameters.length) = some 2 := by decide +kernel
theorem hy_c_mixedCell : y_c_mixedCell.cls ≠ "java/lang/invoke/MethodHandle" ∧ y_c_mixedCell.cls ≠ "java/lang/invoke/VarHandle" ∧ (parseMethodDescriptor y_c_mixedCell.desc).map (fun d => d.parameters.length) = some 3 := by decide +kernel
theorem hy_c_mixedName : y_c_mixedName.cls ≠ "java/lang/invoke/MethodHandle" ∧ y_c_mixedName.cls ≠ "java/lang/invoke/VarHandle" ∧ (parseMethodDescriptor y_c_mixedName.desc).map (fun d => d.parameters.length) = some 2 := by decide +kernel
theorem hv_c_months : y_c_months.cls = rN0 ∧ y_c_months.cls ≠ "java/lang/invoke/MethodHandle" ∧ y_c_months.cls ≠ "java/lang/invoke/VarHandle" ∧ (parseMethodDescriptor y_c_months.desc).map (fun d => d.parameters.length) = some 0 := by decide +kernel
theorem hy_d_add__JJ_J : y_d_add__JJ_J.cls ≠ "java/lang/invoke/MethodHandle" ∧ y_d_add__JJ_J.cls ≠ "java/lang/invoke/VarHandle" ∧ (parseMethodDescriptor y_d_add__JJ_J.desc).map (fun d => d.parameters.length) = some 2 := by decide +kernel
theorem hy_d_add__JString__J : y_d_add__JString__J.cls ≠ "java/lang/invoke/MethodHandle" ∧ y_d_add__JString__J.cls ≠ "java/lang/invoke/VarHandle" ∧ (parseMethodDescriptor y_d_add__JString__J.desc).map (fun d => d.parameters.length) = some 2 := by decide +kernel
theorem hv_d_days : y_d_days.cls = rN1 ∧ y_d_days.cls ≠ "java/lang/invoke/MethodHandle" ∧ y_d_days.cls ≠ "java/lang/invoke/VarHandle" ∧ (parseMethodDescriptor y_d_days.desc).map (fun d => d.parameters.length) = some 0 := by decide +kernel
theorem hv_d_digest : y_d_digest.cls = rN1 ∧ y_d_digest.cls ≠ "java/lang/invoke/MethodHandle" ∧ y_d_digest.cls ≠ "java/lang/invoke/VarHandle" ∧ (parseMethodDescriptor y_d_digest.desc).map (fun d => d.parameters.length) = some 0 := by decide +kernel
theorem hv_d_months : y_d_months.cls = rN1 ∧ y_d_months.cls ≠ "java/lang/invoke/MethodHandle" ∧ y_d_months.cls ≠ "java/lang/invoke/VarHandle" ∧ (parseMethodDescriptor y_d_months.desc).map (fun d => d.parameters.length) = some 0 := by decide +kernel
theorem hy_js_charAt : y_js_charAt.cls ≠ "java/lang/invoke/MethodHandle" ∧ y_js_charAt.cls ≠ "java/lang/invoke/VarHandle" ∧ (parseMethodDescriptor y_js_charAt.desc).map (fun d => d.parameters.length) = some 1 := by decide +kernel
theorem hv_js_charAt : y_js_charAt.cls = rN4 ∧ y_js_charAt.cls ≠ "java/lang/invoke/MethodHandle" ∧ y_js_charAt.cls ≠ "java/lang/invoke/VarHandle" ∧ (parseMethodDescriptor y_js_charAt.desc).map (fun d => d.parameters.length) = some 1 := by decide +kernel
theorem q_67 : Cond.methodLink "RingdaysLaw" 342 y_c_days ∈ rT := rmem 67 (by decide +kernel) (by decide +kernel)
theorem q_68 : Cond.instanceMethod y_c_days ∈ rT := rmem 68 (by decide +kernel) (by decide +kernel)
theorem q_69 : Cond.selects "Ringdays" y_c_days y_c_days ∈ rT := rmem 69 (by decide +kernel) (by decide +kernel)
theorem q_70 : Cond.code y_c_days prog_1_method_50_code 3 (some (.object "java/lang/String")) ∈ rT := rmem 70 (by decide +kernel) (by decide +kernel)
theorem q_411 : Cond.methodLink "RingdaysLaw" 347 y_c_months ∈ rT := rmem 411 (by decide +kernel) (by decide +kernel)
theorem q_412 : Cond.instanceMethod y_c_months ∈ rT := rmem 412 (by decide +kernel) (by decide +kernel)
theorem q_413 : Cond.selects "Ringdays" y_c_months y_c_months ∈ rT := rmem 413 (by decide +kernel) (by decide +kernel)
theorem q_414 : Cond.code y_c_months prog_1_method_51_code 3 (some (.object "java/lang/String")) ∈ rT := rmem 414 (by decide +kernel) (by decide +kernel)
theorem q_518 : Cond.methodLink "RingdaysLaw" 364 y_c_digest ∈ rT := rmem 518 (by decide +kernel) (by decide +kernel)
theorem q_519 : Cond.instanceMethod y_c_digest ∈ rT := rmem 519 (by decide +kernel) (by decide +kernel)
theorem q_520 : Cond.selects "Ringdays" y_c_digest y_c_digest ∈ rT := rmem 520 (by decide +kernel) (by decide +kernel)
theorem q_521 : Cond.code y_c_digest prog_1_method_55_code 5 (some .long) ∈ rT := rmem 521 (by decide +kernel) (by decide +kernel)
theorem q_522 : Cond.constantLong "Ringdays" 182 7793 ∈ rT := rmem 522 (by decide +kernel) (by decide +kernel)
theorem q_523 : Cond.methodLink "Ringdays" 184 y_c_mixed ∈ rT := rmem 523 (by decide +kernel) (by decide +kernel)
theorem q_524 : Cond.static y_c_mixed ∈ rT := rmem 524 (by decide +kernel) (by decide +kernel)
theorem q_525 : Cond.code y_c_mixed prog_1_method_88_code 3 (some .long) ∈ rT := rmem 525 (by decide +kernel) (by decide +kernel)
theorem q_527 : Cond.methodLink "Ringdays" 188 y_c_mixedCell ∈ rT := rmem 527 (by decide +kernel) (by decide +kernel)
theorem q_528 : Cond.static y_c_mixedCell ∈ rT := rmem 528 (by decide +kernel) (by decide +kernel)
theorem q_529 : Cond.code y_c_mixedCell prog_1_method_90_code 6 (some .long) ∈ rT := rmem 529 (by decide +kernel) (by decide +kernel)
theorem q_530 : Cond.methodLink "Ringdays" 298 y_c_mixedName ∈ rT := rmem 530 (by decide +kernel) (by decide +kernel)
theorem q_531 : Cond.static y_c_mixedName ∈ rT := rmem 531 (by decide +kernel) (by decide +kernel)
theorem q_532 : Cond.code y_c_mixedName prog_1_method_89_code 6 (some .long) ∈ rT := rmem 532 (by decide +kernel) (by decide +kernel)
theorem q_533 : Cond.methodLink "Ringdays" 288 y_js_length ∈ rT := rmem 533 (by decide +kernel) (by decide +kernel)
theorem q_534 : Cond.methodLink "Ringdays" 294 y_js_charAt ∈ rT := rmem 534 (by decide +kernel) (by decide +kernel)
theorem q_535 : Cond.instanceMethod y_js_charAt ∈ rT := rmem 535 (by decide +kernel) (by decide +kernel)
theorem q_536 : Cond.selects "java/lang/String" y_js_charAt y_js_charAt ∈ rT := rmem 536 (by decide +kernel) (by decide +kernel)
theorem q_537 : Cond.code y_js_charAt prog_14_method_56_code 2 (some .char) ∈ rT := rmem 537 (by decide +kernel) (by decide +kernel)
theorem q_549 : Cond.methodLink "Ringdays" 192 y_c_dayOrder ∈ rT := rmem 549 (by decide +kernel) (by decide +kernel)
theorem q_556 : Cond.methodLink "Ringdays" 195 y_c_monthOrder ∈ rT := rmem 556 (by decide +kernel) (by decide +kernel)
theorem q_560 : Cond.methodLink "Ringdays" 198 y_c_areAlike ∈ rT := rmem 560 (by decide +kernel) (by decide +kernel)
theorem q_569 : Cond.methodLink "Ringdays" 202 y_c_isSound ∈ rT := rmem 569 (by decide +kernel) (by decide +kernel)
theorem q_1256 : Cond.methodLink "RingdaysLaw" 346 y_d_days ∈ rT := rmem 1256 (by decide +kernel) (by decide +kernel)
theorem q_1257 : Cond.instanceMethod y_d_days ∈ rT := rmem 1257 (by decide +kernel) (by decide +kernel)
theorem q_1258 : Cond.selects "RingdaysModel" y_d_days y_d_days ∈ rT := rmem 1258 (by decide +kernel) (by decide +kernel)
theorem q_1259 : Cond.code y_d_days prog_4_method_65_code 1 (some (.object "java/lang/String")) ∈ rT := rmem 1259 (by decide +kernel) (by decide +kernel)
theorem q_1265 : Cond.methodLink "RingdaysLaw" 350 y_d_months ∈ rT := rmem 1265 (by decide +kernel) (by decide +kernel)
theorem q_1266 : Cond.instanceMethod y_d_months ∈ rT := rmem 1266 (by decide +kernel) (by decide +kernel)
theorem q_1267 : Cond.selects "RingdaysModel" y_d_months y_d_months ∈ rT := rmem 1267 (by decide +kernel) (by decide +kernel)
theorem q_1268 : Cond.code y_d_months prog_4_method_66_code 1 (some (.object "java/lang/String")) ∈ rT := rmem 1268 (by decide +kernel) (by decide +kernel)
theorem q_1281 : Cond.methodLink "RingdaysLaw" 368 y_d_digest ∈ rT := rmem 1281 (by decide +kernel) (by decide +kernel)
theorem q_1282 : Cond.instanceMethod y_d_digest ∈ rT := rmem 1282 (by decide +kernel) (by decide +kernel)
theorem q_1283 : Cond.selects "RingdaysModel" y_d_digest y_d_digest ∈ rT := rmem 1283 (by decide +kernel) (by decide +kernel)
theorem q_1284 : Cond.code y_d_digest prog_4_method_72_code 5 (some .long) ∈ rT := rmem 1284 (by decide +kernel) (by decide +kernel)
theorem q_1285 : Cond.constantLong "RingdaysModel" 128 7793 ∈ rT := rmem 1285 (by decide +kernel) (by decide +kernel)
theorem q_1286 : Cond.methodLink "RingdaysModel" 124 y_d_add__JJ_J ∈ rT := rmem 1286 (by decide +kernel) (by decide +kernel)
theorem q_1287 : Cond.static y_d_add__JJ_J ∈ rT := rmem 1287 (by decide +kernel) (by decide +kernel)
theorem q_1288 : Cond.code y_d_add__JJ_J prog_4_method_70_code 4 (some .long) ∈ rT := rmem 1288 (by decide +kernel) (by decide +kernel)
theorem q_1290 : Cond.methodLink "RingdaysModel" 130 y_d_add__JString__J ∈ rT := rmem 1290 (by decide +kernel) (by decide +kernel)
theorem q_1291 : Cond.static y_d_add__JString__J ∈ rT := rmem 1291 (by decide +kernel) (by decide +kernel)
theorem q_1292 : Cond.code y_d_add__JString__J prog_4_method_71_code 6 (some .long) ∈ rT := rmem 1292 (by decide +kernel) (by decide +kernel)
theorem q_1293 : Cond.methodLink "RingdaysModel" 114 y_js_length ∈ rT := rmem 1293 (by decide +kernel) (by decide +kernel)
theorem q_1294 : Cond.methodLink "RingdaysModel" 120 y_js_charAt ∈ rT := rmem 1294 (by decide +kernel) (by decide +kernel)
end RKW3
