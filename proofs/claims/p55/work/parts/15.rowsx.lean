section RKW2
abbrev y_c_init : MethodName := ⟨"Ringdays", "<init>", "()V"⟩
abbrev y_d_init : MethodName := ⟨"RingdaysModel", "<init>", "()V"⟩
abbrev y_ja_append__C_AbstractStringBuilder_ : MethodName := ⟨"java/lang/AbstractStringBuilder", "append", "(C)Ljava/lang/AbstractStringBuilder;"⟩
abbrev y_ja_append__String__AbstractStringBuilder_ : MethodName := ⟨"java/lang/AbstractStringBuilder", "append", "(Ljava/lang/String;)Ljava/lang/AbstractStringBuilder;"⟩
abbrev y_ja_ensureCapacityInternal : MethodName := ⟨"java/lang/AbstractStringBuilder", "ensureCapacityInternal", "(I)V"⟩
abbrev y_ja_getValue : MethodName := ⟨"java/lang/AbstractStringBuilder", "getValue", "()[B"⟩
abbrev y_ja_inflateIfNeededFor : MethodName := ⟨"java/lang/AbstractStringBuilder", "inflateIfNeededFor", "(Ljava/lang/String;)V"⟩
abbrev y_ja_init : MethodName := ⟨"java/lang/AbstractStringBuilder", "<init>", "(I)V"⟩
abbrev y_ja_isLatin1 : MethodName := ⟨"java/lang/AbstractStringBuilder", "isLatin1", "()Z"⟩
abbrev y_ja_length : MethodName := ⟨"java/lang/AbstractStringBuilder", "length", "()I"⟩
abbrev y_ja_newCapacity : MethodName := ⟨"java/lang/AbstractStringBuilder", "newCapacity", "(I)I"⟩
abbrev y_ja_putStringAt : MethodName := ⟨"java/lang/AbstractStringBuilder", "putStringAt", "(ILjava/lang/String;)V"⟩
abbrev y_jb_append__C_StringBuilder_ : MethodName := ⟨"java/lang/StringBuilder", "append", "(C)Ljava/lang/StringBuilder;"⟩
abbrev y_jb_append__String__StringBuilder_ : MethodName := ⟨"java/lang/StringBuilder", "append", "(Ljava/lang/String;)Ljava/lang/StringBuilder;"⟩
abbrev y_jb_init : MethodName := ⟨"java/lang/StringBuilder", "<init>", "()V"⟩
abbrev y_jb_length : MethodName := ⟨"java/lang/StringBuilder", "length", "()I"⟩
abbrev y_jb_toString : MethodName := ⟨"java/lang/StringBuilder", "toString", "()Ljava/lang/String;"⟩
abbrev y_jl_canEncode : MethodName := ⟨"java/lang/StringLatin1", "canEncode", "(C)Z"⟩
abbrev y_jl_charAt : MethodName := ⟨"java/lang/StringLatin1", "charAt", "([BI)C"⟩
abbrev y_jp_checkIndex : MethodName := ⟨"jdk/internal/util/Preconditions", "checkIndex", "(IILjava/util/function/BiFunction;)I"⟩
abbrev y_jr_checkLength : MethodName := ⟨"java/util/Arrays", "checkLength", "(II)V"⟩
abbrev y_jr_copyOf : MethodName := ⟨"java/util/Arrays", "copyOf", "([BI)[B"⟩
abbrev y_jr_copyOfRange : MethodName := ⟨"java/util/Arrays", "copyOfRange", "([BII)[B"⟩
abbrev y_jr_copyOfRangeByte : MethodName := ⟨"java/util/Arrays", "copyOfRangeByte", "([BII)[B"⟩
abbrev y_js_checkIndex : MethodName := ⟨"java/lang/String", "checkIndex", "(II)V"⟩
abbrev y_js_coder : MethodName := ⟨"java/lang/String", "coder", "()B"⟩
abbrev y_js_getBytes : MethodName := ⟨"java/lang/String", "getBytes", "([BIB)V"⟩
abbrev y_js_init__AbstractStringBuilder_Void__V : MethodName := ⟨"java/lang/String", "<init>", "(Ljava/lang/AbstractStringBuilder;Ljava/lang/Void;)V"⟩
abbrev y_js_init__StringBuilder__V : MethodName := ⟨"java/lang/String", "<init>", "(Ljava/lang/StringBuilder;)V"⟩
abbrev y_js_isLatin1 : MethodName := ⟨"java/lang/String", "isLatin1", "()Z"⟩
abbrev y_js_length : MethodName := ⟨"java/lang/String", "length", "()I"⟩
abbrev y_jz_newLength : MethodName := ⟨"jdk/internal/util/ArraysSupport", "newLength", "(III)I"⟩
abbrev y_o_init : MethodName := ⟨"RingdaysLaw$Out", "<init>", "()V"⟩
abbrev y_js_charAt : MethodName := ⟨"java/lang/String", "charAt", "(I)C"⟩
abbrev y_c_days : MethodName := ⟨"Ringdays", "days", "()Ljava/lang/String;"⟩
abbrev y_c_months : MethodName := ⟨"Ringdays", "months", "()Ljava/lang/String;"⟩
abbrev y_d_days : MethodName := ⟨"RingdaysModel", "days", "()Ljava/lang/String;"⟩
abbrev y_d_months : MethodName := ⟨"RingdaysModel", "months", "()Ljava/lang/String;"⟩
theorem hy_c_init : y_c_init.cls ≠ "java/lang/invoke/MethodHandle" ∧ y_c_init.cls ≠ "java/lang/invoke/VarHandle" ∧ (parseMethodDescriptor y_c_init.desc).map (fun d => d.parameters.length) = some 0 := by decide +kernel
theorem hy_d_init : y_d_init.cls ≠ "java/lang/invoke/MethodHandle" ∧ y_d_init.cls ≠ "java/lang/invoke/VarHandle" ∧ (parseMethodDescriptor y_d_init.desc).map (fun d => d.parameters.length) = some 0 := by decide +kernel
theorem hy_ja_append__C_AbstractStringBuilder_ : y_ja_append__C_AbstractStringBuilder_.cls ≠ "java/lang/invoke/MethodHandle" ∧ y_ja_append__C_AbstractStringBuilder_.cls ≠ "java/lang/invoke/VarHandle" ∧ (parseMethodDescriptor y_ja_append__C_AbstractStringBuilder_.desc).map (fun d => d.parameters.length) = some 1 := by decide +kernel
theorem hy_ja_append__String__AbstractStringBuilder_ : y_ja_append__String__AbstractStringBuilder_.cls ≠ "java/lang/invoke/MethodHandle" ∧ y_ja_append__String__AbstractStringBuilder_.cls ≠ "java/lang/invoke/VarHandle" ∧ (parseMethodDescriptor y_ja_append__String__AbstractStringBuilder_.desc).map (fun d => d.parameters.length) = some 1 := by decide +kernel
theorem hy_ja_ensureCapacityInternal : y_ja_ensureCapacityInternal.cls ≠ "java/lang/invoke/MethodHandle" ∧ y_ja_ensureCapacityInternal.cls ≠ "java/lang/invoke/VarHandle" ∧ (parseMethodDescriptor y_ja_ensureCapacityInternal.desc).map (fun d => d.parameters.length) = some 1 := by decide +kernel
theorem hy_ja_getValue : y_ja_getValue.cls ≠ "java/lang/invoke/MethodHandle" ∧ y_ja_getValue.cls ≠ "java/lang/invoke/VarHandle" ∧ (parseMethodDescriptor y_ja_getValue.desc).map (fun d => d.parameters.length) = some 0 := by decide +kernel
theorem hy_ja_inflateIfNeededFor : y_ja_inflateIfNeededFor.cls ≠ "java/lang/invoke/MethodHandle" ∧ y_ja_inflateIfNeededFor.cls ≠ "java/lang/invoke/VarHandle" ∧ (parseMethodDescriptor y_ja_inflateIfNeededFor.desc).map (fun d => d.parameters.length) = some 1 := by decide +kernel
theorem hy_ja_init : y_ja_init.cls ≠ "java/lang/invoke/MethodHandle" ∧ y_ja_init.cls ≠ "java/lang/invoke/VarHandle" ∧ (parseMethodDescriptor y_ja_init.desc).map (fun d => d.parameters.length) = some 1 := by decide +kernel
theorem hy_ja_isLatin1 : y_ja_isLatin1.cls ≠ "java/lang/invoke/MethodHandle" ∧ y_ja_isLatin1.cls ≠ "java/lang/invoke/VarHandle" ∧ (parseMethodDescriptor y_ja_isLatin1.desc).map (fun d => d.parameters.length) = some 0 := by decide +kernel
theorem hy_ja_length : y_ja_length.cls ≠ "java/lang/invoke/MethodHandle" ∧ y_ja_length.cls ≠ "java/lang/invoke/VarHandle" ∧ (parseMethodDescriptor y_ja_length.desc).map (fun d => d.parameters.length) = some 0 := by decide +kernel
theorem hy_ja_newCapacity : y_ja_newCapacity.cls ≠ "java/lang/invoke/MethodHandle" ∧ y_ja_newCapacity.cls ≠ "java/lang/invoke/VarHandle" ∧ (parseMethodDescriptor y_ja_newCapacity.desc).map (fun d => d.parameters.length) = some 1 := by decide +kernel
theorem hy_ja_putStringAt : y_ja_putStringAt.cls ≠ "java/lang/invoke/MethodHandle" ∧ y_ja_putStringAt.cls ≠ "java/lang/invoke/VarHandle" ∧ (parseMethodDescriptor y_ja_putStringAt.desc).map (fun d => d.parameters.length) = some 2 := by decide +kernel
theorem hy_jb_append__C_StringBuilder_ : y_jb_append__C_StringBuilder_.cls ≠ "java/lang/invoke/MethodHandle" ∧ y_jb_append__C_StringBuilder_.cls ≠ "java/lang/invoke/VarHandle" ∧ (parseMethodDescriptor y_jb_append__C_StringBuilder_.desc).map (fun d => d.parameters.length) = some 1 := by decide +kernel
theorem hv_jb_append__C_StringBuilder_ : y_jb_append__C_StringBuilder_.cls = rN3 ∧ y_jb_append__C_StringBuilder_.cls ≠ "java/lang/invoke/MethodHandle" ∧ y_jb_append__C_StringBuilder_.cls ≠ "java/lang/invoke/VarHandle" ∧ (parseMethodDescriptor y_jb_append__C_StringBuilder_.desc).map (fun d => d.parameters.length) = some 1 := by decide +kernel
theorem hy_jb_append__String__StringBuilder_ : y_jb_append__String__StringBuilder_.cls ≠ "java/lang/invoke/MethodHandle" ∧ y_jb_append__String__StringBuilder_.cls ≠ "java/lang/invoke/VarHandle" ∧ (parseMethodDescriptor y_jb_append__String__StringBuilder_.desc).map (fun d => d.parameters.length) = some 1 := by decide +kernel
theorem hv_jb_append__String__StringBuilder_ : y_jb_append__String__StringBuilder_.cls = rN3 ∧ y_jb_append__String__StringBuilder_.cls ≠ "java/lang/invoke/MethodHandle" ∧ y_jb_append__String__StringBuilder_.cls ≠ "java/lang/invoke/VarHandle" ∧ (parseMethodDescriptor y_jb_append__String__StringBuilder_.desc).map (fun d => d.parameters.length) = some 1 := by decide +kernel
theorem hy_jb_init : y_jb_init.cls ≠ "java/lang/invoke/MethodHandle" ∧ y_jb_init.cls ≠ "java/lang/invoke/VarHandle" ∧ (parseMethodDescriptor y_jb_init.desc).map (fun d => d.parameters.length) = some 0 := by decide +kernel
theorem hy_jb_length : y_jb_length.cls ≠ "java/lang/invoke/MethodHandle" ∧ y_jb_length.cls ≠ "java/lang/invoke/VarHandle" ∧ (parseMethodDescriptor y_jb_length.desc).map (fun d => d.parameters.length) = some 0 := by decide +kernel
theorem hy_jb_toString : y_jb_toString.cls ≠ "java/lang/invoke/MethodHandle" ∧ y_jb_toString.cls ≠ "java/lang/invoke/VarHandle" ∧ (parseMethodDescriptor y_jb_toString.desc).map (fun d => d.parameters.length) = some 0 := by decide +kernel
theorem hv_jb_toString : y_jb_toString.cls = rN3 ∧ y_jb_toString.cls ≠ "java/lang/invoke/MethodHandle" ∧ y_jb_toString.cls ≠ "java/lang/invoke/VarHandle" ∧ (parseMethodDescriptor y_jb_toString.desc).map (fun d => d.parameters.length) = some 0 := by decide +kernel
theorem hy_jl_canEncode : y_jl_canEncode.cls ≠ "java/lang/invoke/MethodHandle" ∧ y_jl_canEncode.cls ≠ "java/lang/invoke/VarHandle" ∧ (parseMethodDescriptor y_jl_canEncode.desc).map (fun d => d.parameters.length) = some 1 := by decide +kernel
theorem hy_jl_charAt : y_jl_charAt.cls ≠ "java/lang/invoke/MethodHandle" ∧ y_jl_charAt.cls ≠ "java/lang/invoke/VarHandle" ∧ (parseMethodDescriptor y_jl_charAt.desc).map (fun d => d.parameters.length) = some 2 := by decide +kernel
theorem hy_jp_checkIndex : y_jp_checkIndex.cls ≠ "java/lang/invoke/MethodHandle" ∧ y_jp_checkIndex.cls ≠ "java/lang/invoke/VarHandle" ∧ (parseMethodDescriptor y_jp_checkIndex.desc).map (fun d => d.parameters.length) = some 3 := by decide +kernel
theorem hy_jr_checkLength : y_jr_checkLength.cls ≠ "java/lang/invoke/MethodHandle" ∧ y_jr_checkLength.cls ≠ "java/lang/invoke/VarHandle" ∧ (parseMethodDescriptor y_jr_checkLength.desc).map (fun d => d.parameters.length) = some 2 := by decide +kernel
theorem hy_jr_copyOf : y_jr_copyOf.cls ≠ "java/lang/invoke/MethodHandle" ∧ y_jr_copyOf.cls ≠ "java/lang/invoke/VarHandle" ∧ (parseMethodDescriptor y_jr_copyOf.desc).map (fun d => d.parameters.length) = some 2 := by decide +kernel
theorem hy_jr_copyOfRange : y_jr_copyOfRange.cls ≠ "java/lang/invoke/MethodHandle" ∧ y_jr_copyOfRange.cls ≠ "java/lang/invoke/VarHandle" ∧ (parseMethodDescriptor y_jr_copyOfRange.desc).map (fun d => d.parameters.length) = some 3 := by decide +kernel
theorem hy_jr_copyOfRangeByte : y_jr_copyOfRangeByte.cls ≠ "java/lang/invoke/MethodHandle" ∧ y_jr_copyOfRangeByte.cls ≠ "java/lang/invoke/VarHandle" ∧ (parseMethodDescriptor y_jr_copyOfRangeByte.desc).map (fun d => d.parameters.length) = some 3 := by decide +kernel
theorem hy_js_checkIndex : y_js_checkIndex.cls ≠ "java/lang/invoke/MethodHandle" ∧ y_js_checkIndex.cls ≠ "java/lang/invoke/VarHandle" ∧ (parseMethodDescriptor y_js_checkIndex.desc).map (fun d => d.parameters.length) = some 2 := by decide +kernel
theorem hy_js_coder : y_js_coder.cls ≠ "java/lang/invoke/MethodHandle" ∧ y_js_coder.cls ≠ "java/lang/invoke/VarHandle" ∧ (parseMethodDescriptor y_js_coder.desc).map (fun d => d.parameters.length) = some 0 := by decide +kernel
theorem hv_js_coder : y_js_coder.cls = rN4 ∧ y_js_coder.cls ≠ "java/lang/invoke/MethodHandle" ∧ y_js_coder.cls ≠ "java/lang/invoke/VarHandle" ∧ (parseMethodDescriptor y_js_coder.desc).map (fun d => d.parameters.length) = some 0 := by decide +kernel
theorem hy_js_getBytes : y_js_getBytes.cls ≠ "java/lang/invoke/MethodHandle" ∧ y_js_getBytes.cls ≠ "java/lang/invoke/VarHandle" ∧ (parseMethodDescriptor y_js_getBytes.desc).map (fun d => d.parameters.length) = some 3 := by decide +kernel
theorem hv_js_getBytes : y_js_getBytes.cls = rN4 ∧ y_js_getBytes.cls ≠ "java/lang/invoke/MethodHandle" ∧ y_js_getBytes.cls ≠ "java/lang/invoke/VarHandle" ∧ (parseMethodDescriptor y_js_getBytes.desc).map (fun d => d.parameters.length) = some 3 := by decide +kernel
theorem hy_js_init__AbstractStringBuilder_Void__V : y_js_init__AbstractStringBuilder_Void__V.cls ≠ "java/lang/invoke/MethodHandle" ∧ y_js_init__AbstractStringBuilder_Void__V.cls ≠ "java/lang/invoke/VarHandle" ∧ (parseMethodDescriptor y_js_init__AbstractStringBuilder_Void__V.desc).map (fun d => d.parameters.length) = some 2 := by decide +kernel
theorem hy_js_init__StringBuilder__V : y_js_init__StringBuilder__V.cls ≠ "java/lang/invoke/MethodHandle" ∧ y_js_init__StringBuilder__V.cls ≠ "java/lang/invoke/VarHandle" ∧ (parseMethodDescriptor y_js_init__StringBuilder__V.desc).map (fun d => d.parameters.length) = some 1 := by decide +kernel
theorem hy_js_isLatin1 : y_js_isLatin1.cls ≠ "java/lang/invoke/MethodHandle" ∧ y_js_isLatin1.cls ≠ "java/lang/invoke/VarHandle" ∧ (parseMethodDescriptor y_js_isLatin1.desc).map (fun d => d.parameters.length) = some 0 := by decide +kernel
theorem hv_js_isLatin1 : y_js_isLatin1.cls = rN4 ∧ y_js_isLatin1.cls ≠ "java/lang/invoke/MethodHandle" ∧ y_js_isLatin1.cls ≠ "java/lang/invoke/VarHandle" ∧ (parseMethodDescriptor y_js_isLatin1.desc).map (fun d => d.parameters.length) = some 0 := by decide +kernel
theorem hy_js_length : y_js_length.cls ≠ "java/lang/invoke/MethodHandle" ∧ y_js_length.cls ≠ "java/lang/invoke/VarHandle" ∧ (parseMethodDescriptor y_js_length.desc).map (fun d => d.parameters.length) = some 0 := by decide +kernel
theorem hv_js_length : y_js_length.cls = rN4 ∧ y_js_length.cls ≠ "java/lang/invoke/MethodHandle" ∧ y_js_length.cls ≠ "java/lang/invoke/VarHandle" ∧ (parseMethodDescriptor y_js_length.desc).map (fun d => d.parameters.length) = some 0 := by decide +kernel
theorem hy_jz_newLength : y_jz_newLength.cls ≠ "java/lang/invoke/MethodHandle" ∧ y_jz_newLength.cls ≠ "java/lang/invoke/VarHandle" ∧ (parseMethodDescriptor y_jz_newLength.desc).map (fun d => d.parameters.length) = some 3 := by decide +kernel
theorem hy_o_init : y_o_init.cls ≠ "java/lang/invoke/MethodHandle" ∧ y_o_init.cls ≠ "java/lang/invoke/VarHandle" ∧ (parseMethodDescriptor y_o_init.desc).map (fun d => d.parameters.length) = some 0 := by decide +kernel
theorem q_15 : Cond.initialized "RingdaysLaw$Out" ∈ rT := rmk1 3 rfl rfl
theorem q_23 : Cond.initialized "java/lang/AbstractStringBuilder" ∈ rT := rmk1 11 rfl rfl
theorem q_24 : Cond.initialized "java/lang/StringBuilder" ∈ rT := rmk1 12 rfl rfl
theorem q_25 : Cond.initialized "java/lang/String" ∈ rT := rmk1 13 rfl rfl
theorem q_27 : Cond.initialized "jdk/internal/util/ArraysSupport" ∈ rT := rmk1 15 rfl rfl
theorem q_28 : Cond.initialized "java/util/Arrays" ∈ rT := rmk1 16 rfl rfl
theorem q_29 : Cond.initialized "java/lang/System" ∈ rT := rmk1 17 rfl rfl
theorem q_30 : Cond.initialized "java/lang/StringLatin1" ∈ rT := rmk1 18 rfl rfl
theorem q_31 : Cond.initialized "jdk/internal/util/Preconditions" ∈ rT := rmk1 19 rfl rfl
theorem q_33 : Cond.classLink "RingdaysLaw" 8 "Ringdays" ∈ rT := rmk1 21 rfl rfl
theorem q_34 : Cond.instantiable "Ringdays" 7 ∈ rT := rmk1 22 rfl rfl
theorem q_35 : Cond.methodLink "RingdaysLaw" 180 y_c_init ∈ rT := rmk1 23 rfl rfl
theorem q_36 : Cond.instanceMethod y_c_init ∈ rT := rmk1 24 rfl rfl
theorem q_37 : Cond.code y_c_init prog_1_method_1_code 2 none ∈ rT := rmk1 25 rfl rfl
theorem q_38 : Cond.methodLink "Ringdays" 1 Lib.objectInit ∈ rT := rmk1 26 rfl rfl
theorem q_39 : Cond.instanceMethod Lib.objectInit ∈ rT := rmk1 27 rfl rfl
theorem q_40 : Cond.code Lib.objectInit ⟨#[0xb1]⟩ 1 none ∈ rT := rmk1 28 rfl rfl
theorem q_41 : Cond.classLink "Ringdays" 16 "[[I" ∈ rT := rmk1 29 rfl rfl
theorem q_65 : Cond.arrayClass .int ∈ rT := rmk1 53 rfl rfl
theorem q_66 : Cond.arrayClass .boolean ∈ rT := rmk1 54 rfl rfl
theorem q_71 : Cond.classLink "Ringdays" 155 "java/lang/StringBuilder" ∈ rT := rmk1 59 rfl rfl
theorem q_72 : Cond.instantiable "java/lang/StringBuilder" 4 ∈ rT := rmk1 60 rfl rfl
theorem q_73 : Cond.methodLink "Ringdays" 157 y_jb_init ∈ rT := rmk1 61 rfl rfl
theorem q_74 : Cond.instanceMethod y_jb_init ∈ rT := rmk1 62 rfl rfl
theorem q_75 : Cond.code y_jb_init prog_15_method_1_code 1 none ∈ rT := rmk1 63 rfl rfl
theorem q_76 : Cond.methodLink "java/lang/StringBuilder" 1 y_ja_init ∈ rT := rmk1 64 rfl rfl
theorem q_77 : Cond.instanceMethod y_ja_init ∈ rT := rmk1 65 rfl rfl
theorem q_78 : Cond.code y_ja_init prog_5_method_2_code 2 none ∈ rT := rmk1 66 rfl rfl
theorem q_79 : Cond.methodLink "java/lang/AbstractStringBuilder" 3 Lib.objectInit ∈ rT := rmk1 67 rfl rfl
theorem q_80 : Cond.fieldLink "java/lang/AbstractStringBuilder" 18 "java/lang/String" "COMPACT_STRINGS" "Z" ∈ rT := rmk1 68 rfl rfl
theorem q_89 : Cond.fieldLink "java/lang/AbstractStringBuilder" 15 "java/lang/AbstractStringBuilder" "value" "[B" ∈ rT := rmk1 77 rfl rfl
theorem q_90 : Cond.fieldLink "java/lang/AbstractStringBuilder" 22 "java/lang/AbstractStringBuilder" "coder" "B" ∈ rT := rmk1 78 rfl rfl
theorem q_92 : Cond.fieldLink "java/lang/AbstractStringBuilder" 79 "java/lang/AbstractStringBuilder" "count" "I" ∈ rT := rmk1 80 rfl rfl
theorem q_101 : Cond.superclass "java/lang/StringBuilder" "java/lang/AbstractStringBuilder" ∈ rT := rmk1 89 rfl rfl
theorem q_102 : Cond.arrayClass .byte ∈ rT := rmk1 90 rfl rfl
theorem q_103 : Cond.methodLink "Ringdays" 158 y_jb_append__C_StringBuilder_ ∈ rT := rmk1 91 rfl rfl
theorem q_104 : Cond.instanceMethod y_jb_append__C_StringBuilder_ ∈ rT := rmk1 92 rfl rfl
theorem q_105 : Cond.selects "java/lang/StringBuilder" y_jb_append__C_StringBuilder_ y_jb_append__C_StringBuilder_ ∈ rT := rmk1 93 rfl rfl
theorem q_106 : Cond.code y_jb_append__C_StringBuilder_ prog_15_method_14_code 2 (some (.object "java/lang/StringBuilder")) ∈ rT := rmk1 94 rfl rfl
theorem q_107 : Cond.methodLink "java/lang/StringBuilder" 50 y_ja_append__C_AbstractStringBuilder_ ∈ rT := rmk1 95 rfl rfl
theorem q_108 : Cond.instanceMethod y_ja_append__C_AbstractStringBuilder_ ∈ rT := rmk1 96 rfl rfl
theorem q_109 : Cond.code y_ja_append__C_AbstractStringBuilder_ prog_5_method_31_code 2 (some (.object "java/lang/AbstractStringBuilder")) ∈ rT := rmk1 97 rfl rfl
theorem q_110 : Cond.methodLink "java/lang/AbstractStringBuilder" 100 y_ja_ensureCapacityInternal ∈ rT := rmk1 98 rfl rfl
theorem q_112 : Cond.instanceMethod y_ja_ensureCapacityInternal ∈ rT := rmk1 100 rfl rfl
theorem q_113 : Cond.code y_ja_ensureCapacityInternal prog_5_method_9_code 3 none ∈ rT := rmk1 101 rfl rfl
theorem q_114 : Cond.methodLink "java/lang/AbstractStringBuilder" 104 y_ja_newCapacity ∈ rT := rmk1 102 rfl rfl
theorem q_116 : Cond.instanceMethod y_ja_newCapacity ∈ rT := rmk1 104 rfl rfl
theorem q_117 : Cond.code y_ja_newCapacity prog_5_method_10_code 6 (some .int) ∈ rT := rmk1 105 rfl rfl
theorem q_118 : Cond.methodLink "java/lang/AbstractStringBuilder" 114 y_jz_newLength ∈ rT := rmk1 106 rfl rfl
theorem q_119 : Cond.static y_jz_newLength ∈ rT := rmk1 107 rfl rfl
theorem q_120 : Cond.code y_jz_newLength prog_21_method_27_code 4 (some .int) ∈ rT := rmk1 108 rfl rfl
theorem q_121 : Cond.methodLink "jdk/internal/util/ArraysSupport" 194 Lib.Math.max.name ∈ rT := rmk1 109 rfl rfl
theorem q_124 : Cond.constant "jdk/internal/util/ArraysSupport" 200 2147483639 ∈ rT := rmk1 112 rfl rfl
theorem q_128 : Cond.constant "java/lang/AbstractStringBuilder" 39 2147483647 ∈ rT := rmk1 116 rfl rfl
theorem q_129 : Cond.methodLink "java/lang/AbstractStringBuilder" 108 y_jr_copyOf ∈ rT := rmk1 117 rfl rfl
theorem q_130 : Cond.static y_jr_copyOf ∈ rT := rmk1 118 rfl rfl
theorem q_131 : Cond.code y_jr_copyOf prog_20_method_121_code 3 (some (.array .byte)) ∈ rT := rmk1 119 rfl rfl
theorem q_132 : Cond.methodLink "java/util/Arrays" 310 ⟨"[B", "clone", "()Ljava/lang/Object;"⟩ ∈ rT := rmk1 120 rfl rfl
theorem q_133 : Cond.sameMethod "[B" "java/lang/Object" "clone" "()Ljava/lang/Object;" ∈ rT := rmk1 121 rfl rfl
theorem q_134 : Cond.native ⟨"java/lang/Object", "clone", "()Ljava/lang/Object;"⟩ ∈ rT := rmk1 122 rfl rfl
theorem q_135 : Cond.instanceMethod ⟨"java/lang/Object", "clone", "()Ljava/lang/Object;"⟩ ∈ rT := rmk1 123 rfl rfl
theorem q_136 : Cond.selects "[B" ⟨"[B", "clone", "()Ljava/lang/Object;"⟩ ⟨"java/lang/Object", "clone", "()Ljava/lang/Object;"⟩ ∈ rT := rmk1 124 rfl rfl
theorem q_138 : Cond.classLink "java/util/Arrays" 311 "[B" ∈ rT := rmk1 126 rfl rfl
theorem q_139 : Cond.methodLink "java/util/Arrays" 304 Lib.Math.min.name ∈ rT := rmk1 127 rfl rfl
theorem q_142 : Cond.methodLink "java/util/Arrays" 150 arraycopyName ∈ rT := rmk1 130 rfl rfl
theorem q_143 : Cond.static arraycopyName ∈ rT := rmk1 131 rfl rfl
theorem q_144 : Cond.native arraycopyName ∈ rT := rmk1 132 rfl rfl
theorem q_145 : Cond.methodLink "java/lang/AbstractStringBuilder" 83 y_ja_isLatin1 ∈ rT := rmk1 133 rfl rfl
theorem q_146 : Cond.instanceMethod y_ja_isLatin1 ∈ rT := rmk1 134 rfl rfl
theorem q_147 : Cond.sameMethod "java/lang/AbstractStringBuilder" "java/lang/AbstractStringBuilder" "isLatin1" "()Z" ∈ rT := rmk1 135 rfl rfl
theorem q_148 : Cond.selects "java/lang/StringBuilder" y_ja_isLatin1 y_ja_isLatin1 ∈ rT := rmk1 136 rfl rfl
theorem q_149 : Cond.code y_ja_isLatin1 prog_5_method_68_code 1 (some .boolean) ∈ rT := rmk1 137 rfl rfl
theorem q_150 : Cond.methodLink "java/lang/AbstractStringBuilder" 191 y_jl_canEncode ∈ rT := rmk1 138 rfl rfl
theorem q_151 : Cond.static y_jl_canEncode ∈ rT := rmk1 139 rfl rfl
theorem q_152 : Cond.code y_jl_canEncode prog_16_method_3_code 1 (some .boolean) ∈ rT := rmk1 140 rfl rfl
theorem q_172 : Cond.fieldLink "java/lang/String" 1053 "jdk/internal/util/Preconditions" "SIOOBE_FORMATTER" "Ljava/util/function/BiFunction;" ∈ rT := rmk1 160 rfl rfl
theorem q_193 : Cond.static y_js_checkIndex ∈ rT := rmk1 181 rfl rfl
theorem q_194 : Cond.code y_js_checkIndex prog_14_method_155_code 2 none ∈ rT := rmk1 182 rfl rfl
theorem q_195 : Cond.methodLink "java/lang/String" 1059 y_jp_checkIndex ∈ rT := rmk1 183 rfl rfl
theorem q_196 : Cond.static y_jp_checkIndex ∈ rT := rmk1 184 rfl rfl
theorem q_197 : Cond.code y_jp_checkIndex prog_22_method_11_code 3 (some .int) ∈ rT := rmk1 185 rfl rfl
theorem q_208 : Cond.methodLink "Ringdays" 162 y_jb_append__String__StringBuilder_ ∈ rT := rmk1 196 rfl rfl
theorem q_209 : Cond.instanceMethod y_jb_append__String__StringBuilder_ ∈ rT := rmk1 197 rfl rfl
theorem q_210 : Cond.selects "java/lang/StringBuilder" y_jb_append__String__StringBuilder_ y_jb_append__String__StringBuilder_ ∈ rT := rmk1 198 rfl rfl
theorem q_211 : Cond.code y_jb_append__String__StringBuilder_ prog_15_method_7_code 2 (some (.object "java/lang/StringBuilder")) ∈ rT := rmk1 199 rfl rfl
theorem q_212 : Cond.methodLink "java/lang/StringBuilder" 29 y_ja_append__String__AbstractStringBuilder_ ∈ rT := rmk1 200 rfl rfl
theorem q_213 : Cond.instanceMethod y_ja_append__String__AbstractStringBuilder_ ∈ rT := rmk1 201 rfl rfl
theorem q_214 : Cond.code y_ja_append__String__AbstractStringBuilder_ prog_5_method_22_code 3 (some (.object "java/lang/AbstractStringBuilder")) ∈ rT := rmk1 202 rfl rfl
theorem q_231 : Cond.methodLink "java/lang/AbstractStringBuilder" 32 y_js_length ∈ rT := rmk1 219 rfl rfl
theorem q_232 : Cond.instanceMethod y_js_length ∈ rT := rmk1 220 rfl rfl
theorem q_233 : Cond.selects "java/lang/String" y_js_length y_js_length ∈ rT := rmk1 221 rfl rfl
theorem q_234 : Cond.code y_js_length prog_14_method_54_code 1 (some .int) ∈ rT := rmk1 222 rfl rfl
theorem q_235 : Cond.methodLink "java/lang/String" 335 y_js_coder ∈ rT := rmk1 223 rfl rfl
theorem q_236 : Cond.instanceMethod y_js_coder ∈ rT := rmk1 224 rfl rfl
theorem q_237 : Cond.selects "java/lang/String" y_js_coder y_js_coder ∈ rT := rmk1 225 rfl rfl
theorem q_238 : Cond.code y_js_coder prog_14_method_152_code 1 (some .byte) ∈ rT := rmk1 226 rfl rfl
theorem q_239 : Cond.fieldLink "java/lang/String" 38 "java/lang/String" "COMPACT_STRINGS" "Z" ∈ rT := rmk1 227 rfl rfl
theorem q_240 : Cond.methodLink "java/lang/AbstractStringBuilder" 208 y_ja_putStringAt ∈ rT := rmk1 228 rfl rfl
theorem q_242 : Cond.instanceMethod y_ja_putStringAt ∈ rT := rmk1 230 rfl rfl
theorem q_243 : Cond.code y_ja_putStringAt prog_5_method_73_code 3 none ∈ rT := rmk1 231 rfl rfl
theorem q_244 : Cond.methodLink "java/lang/AbstractStringBuilder" 397 y_ja_inflateIfNeededFor ∈ rT := rmk1 232 rfl rfl
theorem q_246 : Cond.instanceMethod y_ja_inflateIfNeededFor ∈ rT := rmk1 234 rfl rfl
theorem q_247 : Cond.code y_ja_inflateIfNeededFor prog_5_method_71_code 2 none ∈ rT := rmk1 235 rfl rfl
theorem q_248 : Cond.methodLink "java/lang/AbstractStringBuilder" 40 y_js_coder ∈ rT := rmk1 236 rfl rfl
theorem q_249 : Cond.methodLink "java/lang/AbstractStringBuilder" 399 y_js_getBytes ∈ rT := rmk1 237 rfl rfl
theorem q_250 : Cond.instanceMethod y_js_getBytes ∈ rT := rmk1 238 rfl rfl
theorem q_251 : Cond.selects "java/lang/String" y_js_getBytes y_js_getBytes ∈ rT := rmk1 239 rfl rfl
theorem q_252 : Cond.code y_js_getBytes prog_14_method_147_code 4 none ∈ rT := rmk2 0 rfl rfl
theorem q_253 : Cond.methodLink "java/lang/String" 212 arraycopyName ∈ rT := rmk2 1 rfl rfl
theorem q_255 : Cond.methodLink "Ringdays" 165 y_jb_toString ∈ rT := rmk2 3 rfl rfl
theorem q_256 : Cond.instanceMethod y_jb_toString ∈ rT := rmk2 4 rfl rfl
theorem q_257 : Cond.selects "java/lang/StringBuilder" y_jb_toString y_jb_toString ∈ rT := rmk2 5 rfl rfl
theorem q_258 : Cond.code y_jb_toString prog_15_method_42_code 1 (some (.object "java/lang/String")) ∈ rT := rmk2 6 rfl rfl
theorem q_259 : Cond.classLink "java/lang/StringBuilder" 18 "java/lang/String" ∈ rT := rmk2 7 rfl rfl
theorem q_260 : Cond.instantiable "java/lang/String" 4 ∈ rT := rmk2 8 rfl rfl
theorem q_261 : Cond.methodLink "java/lang/StringBuilder" 137 y_js_init__StringBuilder__V ∈ rT := rmk2 9 rfl rfl
theorem q_262 : Cond.instanceMethod y_js_init__StringBuilder__V ∈ rT := rmk2 10 rfl rfl
theorem q_263 : Cond.code y_js_init__StringBuilder__V prog_14_method_53_code 2 none ∈ rT := rmk2 11 rfl rfl
theorem q_264 : Cond.methodLink "java/lang/String" 489 y_js_init__AbstractStringBuilder_Void__V ∈ rT := rmk2 12 rfl rfl
theorem q_265 : Cond.instanceMethod y_js_init__AbstractStringBuilder_Void__V ∈ rT := rmk2 13 rfl rfl
theorem q_266 : Cond.code y_js_init__AbstractStringBuilder_Void__V prog_14_method_150_code 5 none ∈ rT := rmk2 14 rfl rfl
theorem q_267 : Cond.methodLink "java/lang/String" 1 Lib.objectInit ∈ rT := rmk2 15 rfl rfl
theorem q_268 : Cond.methodLink "java/lang/String" 552 y_ja_getValue ∈ rT := rmk2 16 rfl rfl
theorem q_269 : Cond.instanceMethod y_ja_getValue ∈ rT := rmk2 17 rfl rfl
theorem q_270 : Cond.sameMethod "java/lang/AbstractStringBuilder" "java/lang/AbstractStringBuilder" "getValue" "()[B" ∈ rT := rmk2 18 rfl rfl
theorem q_271 : Cond.selects "java/lang/StringBuilder" y_ja_getValue y_ja_getValue ∈ rT := rmk2 19 rfl rfl
theorem q_272 : Cond.code y_ja_getValue prog_5_method_64_code 1 (some (.array .byte)) ∈ rT := rmk2 20 rfl rfl
theorem q_273 : Cond.methodLink "java/lang/String" 549 y_ja_length ∈ rT := rmk2 21 rfl rfl
theorem q_274 : Cond.instanceMethod y_ja_length ∈ rT := rmk2 22 rfl rfl
theorem q_275 : Cond.sameMethod "java/lang/AbstractStringBuilder" "java/lang/AbstractStringBuilder" "length" "()I" ∈ rT := rmk2 23 rfl rfl
theorem q_276 : Cond.selects "java/lang/StringBuilder" y_ja_length y_jb_length ∈ rT := rmk2 24 rfl rfl
theorem q_277 : Cond.instanceMethod y_jb_length ∈ rT := rmk2 25 rfl rfl
theorem q_278 : Cond.code y_jb_length prog_15_method_93_code 1 (some .int) ∈ rT := rmk2 26 rfl rfl
theorem q_279 : Cond.methodLink "java/lang/StringBuilder" 343 y_ja_length ∈ rT := rmk2 27 rfl rfl
theorem q_280 : Cond.code y_ja_length prog_5_method_6_code 1 (some .int) ∈ rT := rmk2 28 rfl rfl
theorem q_281 : Cond.methodLink "java/lang/String" 1047 y_ja_isLatin1 ∈ rT := rmk2 29 rfl rfl
theorem q_282 : Cond.methodLink "java/lang/String" 54 y_jr_copyOfRange ∈ rT := rmk2 30 rfl rfl
theorem q_283 : Cond.static y_jr_copyOfRange ∈ rT := rmk2 31 rfl rfl
theorem q_284 : Cond.code y_jr_copyOfRange prog_20_method_132_code 3 (some (.array .byte)) ∈ rT := rmk2 32 rfl rfl
theorem q_285 : Cond.methodLink "java/util/Arrays" 339 y_jr_copyOfRangeByte ∈ rT := rmk2 33 rfl rfl
theorem q_286 : Cond.static y_jr_copyOfRangeByte ∈ rT := rmk2 34 rfl rfl
theorem q_287 : Cond.code y_jr_copyOfRangeByte prog_20_method_133_code 5 (some (.array .byte)) ∈ rT := rmk2 35 rfl rfl
theorem q_288 : Cond.methodLink "java/util/Arrays" 343 y_jr_checkLength ∈ rT := rmk2 36 rfl rfl
theorem q_289 : Cond.static y_jr_checkLength ∈ rT := rmk2 37 rfl rfl
theorem q_290 : Cond.code y_jr_checkLength prog_20_method_131_code 2 none ∈ rT := rmk2 38 rfl rfl
theorem q_400 : Cond.fieldLink "java/lang/String" 9 "java/lang/String" "value" "[B" ∈ rT := rmk2 148 rfl rfl
theorem q_401 : Cond.fieldLink "java/lang/String" 15 "java/lang/String" "coder" "B" ∈ rT := rmk2 149 rfl rfl
theorem q_538 : Cond.methodLink "java/lang/String" 492 y_js_isLatin1 ∈ rT := rmk3 46 rfl rfl
theorem q_539 : Cond.instanceMethod y_js_isLatin1 ∈ rT := rmk3 47 rfl rfl
theorem q_540 : Cond.selects "java/lang/String" y_js_isLatin1 y_js_isLatin1 ∈ rT := rmk3 48 rfl rfl
theorem q_541 : Cond.code y_js_isLatin1 prog_14_method_154_code 1 (some .boolean) ∈ rT := rmk3 49 rfl rfl
theorem q_542 : Cond.methodLink "java/lang/String" 495 y_jl_charAt ∈ rT := rmk3 50 rfl rfl
theorem q_543 : Cond.static y_jl_charAt ∈ rT := rmk3 51 rfl rfl
theorem q_544 : Cond.code y_jl_charAt prog_16_method_2_code 2 (some .char) ∈ rT := rmk3 52 rfl rfl
theorem q_545 : Cond.methodLink "java/lang/StringLatin1" 9 y_js_checkIndex ∈ rT := rmk3 53 rfl rfl
theorem q_570 : Cond.classLink "RingdaysLaw" 14 "RingdaysLaw$Out" ∈ rT := rmk3 78 rfl rfl
theorem q_571 : Cond.instantiable "RingdaysLaw$Out" 2 ∈ rT := rmk3 79 rfl rfl
theorem q_573 : Cond.instanceMethod y_o_init ∈ rT := rmk3 81 rfl rfl
theorem q_574 : Cond.code y_o_init prog_3_method_1_code 1 none ∈ rT := rmk3 82 rfl rfl
theorem q_575 : Cond.methodLink "RingdaysLaw$Out" 1 Lib.objectInit ∈ rT := rmk3 83 rfl rfl
theorem q_977 : Cond.classLink "RingdaysLaw" 181 "RingdaysModel" ∈ rT := rmk5 5 rfl rfl
theorem q_978 : Cond.instantiable "RingdaysModel" 7 ∈ rT := rmk5 6 rfl rfl
theorem q_979 : Cond.methodLink "RingdaysLaw" 183 y_d_init ∈ rT := rmk5 7 rfl rfl
theorem q_980 : Cond.instanceMethod y_d_init ∈ rT := rmk5 8 rfl rfl
theorem q_981 : Cond.code y_d_init prog_4_method_1_code 1 none ∈ rT := rmk5 9 rfl rfl
theorem q_982 : Cond.methodLink "RingdaysModel" 1 Lib.objectInit ∈ rT := rmk5 10 rfl rfl
theorem q_983 : Cond.classLink "RingdaysModel" 16 "[[I" ∈ rT := rmk5 11 rfl rfl
theorem q_1256 : Cond.classLink "RingdaysModel" 96 "java/lang/StringBuilder" ∈ rT := rmk6 44 rfl rfl
theorem q_1257 : Cond.methodLink "RingdaysModel" 98 y_jb_init ∈ rT := rmk6 45 rfl rfl
theorem q_1258 : Cond.methodLink "RingdaysModel" 99 y_jb_append__String__StringBuilder_ ∈ rT := rmk6 46 rfl rfl
theorem q_1260 : Cond.methodLink "RingdaysModel" 105 y_jb_toString ∈ rT := rmk6 48 rfl rfl
theorem q_1291 : Cond.sameMethod "java/lang/AbstractStringBuilder" "java/lang/AbstractStringBuilder" "append" "(C)Ljava/lang/AbstractStringBuilder;" ∈ rT := rmk6 79 rfl rfl
theorem q_1292 : Cond.sameMethod "java/lang/AbstractStringBuilder" "java/lang/AbstractStringBuilder" "ensureCapacityInternal" "(I)V" ∈ rT := rmk6 80 rfl rfl
theorem q_1293 : Cond.sameMethod "java/lang/AbstractStringBuilder" "java/lang/AbstractStringBuilder" "newCapacity" "(I)I" ∈ rT := rmk6 81 rfl rfl
theorem q_1295 : Cond.sameMethod "java/lang/AbstractStringBuilder" "java/lang/AbstractStringBuilder" "append" "(Ljava/lang/String;)Ljava/lang/AbstractStringBuilder;" ∈ rT := rmk6 83 rfl rfl
theorem q_1297 : Cond.sameMethod "java/lang/AbstractStringBuilder" "java/lang/AbstractStringBuilder" "putStringAt" "(ILjava/lang/String;)V" ∈ rT := rmk6 85 rfl rfl
theorem q_1298 : Cond.sameMethod "java/lang/AbstractStringBuilder" "java/lang/AbstractStringBuilder" "inflateIfNeededFor" "(Ljava/lang/String;)V" ∈ rT := rmk6 86 rfl rfl
theorem f_111 : Cond.privateMethod y_ja_ensureCapacityInternal ∈ rFc := List.mem_filter.mpr ⟨List.mem_of_getElem? (i := 111) (by decide +kernel), by decide +kernel⟩
theorem f_115 : Cond.privateMethod y_ja_newCapacity ∈ rFc := List.mem_filter.mpr ⟨List.mem_of_getElem? (i := 115) (by decide +kernel), by decide +kernel⟩
theorem f_137 : Cond.castable "[B" "java/lang/Cloneable" ∈ rFc := List.mem_filter.mpr ⟨List.mem_of_getElem? (i := 137) (by decide +kernel), by decide +kernel⟩
theorem f_241 : Cond.privateMethod y_ja_putStringAt ∈ rFc := List.mem_filter.mpr ⟨List.mem_of_getElem? (i := 241) (by decide +kernel), by decide +kernel⟩
theorem f_245 : Cond.privateMethod y_ja_inflateIfNeededFor ∈ rFc := List.mem_filter.mpr ⟨List.mem_of_getElem? (i := 245) (by decide +kernel), by decide +kernel⟩
end RKW2
