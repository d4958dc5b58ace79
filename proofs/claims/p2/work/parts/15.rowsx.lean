section RKW2
abbrev y_c_init : MethodName := ⟨"Ringdays", "<init>", "()V"⟩
abbrev y_d_init : MethodName := ⟨"RingdaysModel", "<init>", "()V"⟩
abbrev y_ja_append__C_AbstractStringBuilder_ : MethodName := ⟨"java/lang/AbstractStringBuilder", "append", "(C)Ljava/lang/AbstractStringBuilder;"⟩
abbrev y_ja_append__String__AbstractStringBuilder_ : MethodName := ⟨"java/lang/AbstractStringBuilder", "append", "(Ljava/lang/String;)Ljava/lang/AbstractStringBuilder;"⟩
abbrev y_ja_ensureCapacityInternal : MethodName := ⟨"java/lang/AbstractStringBuilder", "ensureCapacityInternal", "(I)V"⟩
abbrev y_ja_getValue : MethodName := ⟨"java/lang/AbstractStringBuilder", "getValue", "()[B"⟩
abbrev y_ja_inflateIfNeededFor : MethodName := ⟨"java/lang/AbstractStringBuilder", "inflateIfNeededFor", "(Ljava/lang/String;)V"⟩
abbrev y_ja_init : MethodName := ⟨"java/lang/AbstractStringBuilder", "<init>", "(I)V"⟩
abbrev y_ja_isLatin1 : MethodName := ⟨"java/lang/AbstractStringBuilder", "isLatin1", "()Z"⟩
abbrev y_ja_length : MethodName := ⟨"java/lang/AbstractStringBuilder", "length", "()I"⟩
abbrev y_ja_newCapacity : MethodName := ⟨"java/lang/AbstractStringBuilder", "newCapacity", "(I)I"⟩
abbrev y_ja_putStringAt : MethodName := ⟨"java/lang/AbstractStringBuilder", "putStringAt", "(ILjava/lang/String;)V"⟩
abbrev y_jb_append__C_StringBuilder_ : MethodName := ⟨"java/lang/StringBuilder", "append", "(C)Ljava/lang/StringBuilder;"⟩
abbrev y_jb_append__String__StringBuilder_ : MethodName := ⟨"java/lang/StringBuilder", "append", "(Ljava/lang/String;)Ljava/lang/StringBuilder;"⟩
abbrev y_jb_init : MethodName := ⟨"java/lang/StringBuilder", "<init>", "()V"⟩
abbrev y_jb_length : MethodName := ⟨"java/lang/StringBuilder", "length", "()I"⟩
abbrev y_jb_toString : MethodName := ⟨"java/lang/StringBuilder", "toString", "()Ljava/lang/String;"⟩
abbrev y_jl_canEncode : MethodName := ⟨"java/lang/StringLatin1", "canEncode", "(C)Z"⟩
abbrev y_jl_charAt : MethodName := ⟨"java/lang/StringLatin1", "charAt", "([BI)C"⟩
abbrev y_jp_checkIndex : MethodName := ⟨"jdk/internal/util/Preconditions", "checkIndex", "(IILjava/util/function/BiFunction;)I"⟩
abbrev y_jr_checkLength : MethodName := ⟨"java/util/Arrays", "checkLength", "(II)V"⟩
abbrev y_jr_copyOf : MethodName := ⟨"java/util/Arrays", "copyOf", "([BI)[B"⟩
abbrev y_jr_copyOfRange : MethodName := ⟨"java/util/Arrays", "copyOfRange", "([BII)[B"⟩
abbrev y_jr_copyOfRangeByte : MethodName := ⟨"java/util/Arrays", "copyOfRangeByte", "([BII)[B"⟩
abbrev y_js_checkIndex : MethodName := ⟨"java/lang/String", "checkIndex", "(II)V"⟩
abbrev y_js_coder : MethodName := ⟨"java/lang/String", "coder", "()B"⟩
abbrev y_js_getBytes : MethodName := ⟨"java/lang/String", "getBytes", "([BIB)V"⟩
abbrev y_js_init__AbstractStringBuilder_Void__V : MethodName := ⟨"java/lang/String", "<init>", "(Ljava/lang/AbstractStringBuilder;Ljava/lang/Void;)V"⟩
abbrev y_js_init__StringBuilder__V : MethodName := ⟨"java/lang/String", "<init>", "(Ljava/lang/StringBuilder;)V"⟩
abbrev y_js_isLatin1 : MethodName := ⟨"java/lang/String", "isLatin1", "()Z"⟩
abbrev y_js_length : MethodName := ⟨"java/lang/String", "length", "()I"⟩
abbrev y_jz_newLength : MethodName := ⟨"jdk/internal/util/ArraysSupport", "newLength", "(III)I"⟩
abbrev y_o_init : MethodName := ⟨"RingdaysLaw$Out", "<init>", "()V"⟩
abbrev y_js_charAt : MethodName := ⟨"java/lang/String", "charAt", "(I)C"⟩
abbrev y_c_days : MethodName := ⟨"Ringdays", "days", "()Ljava/lang/String;"⟩
abbrev y_c_months : MethodName := ⟨"Ringdays", "months", "()Ljava/lang/String;"⟩
abbrev y_d_days : MethodName := ⟨"RingdaysModel", "days", "()Ljava/lang/String;"⟩
abbrev y_d_months : MethodName := ⟨"RingdaysModel", "months", "()Ljava/lang/String;"⟩
theorem hy_c_init : y_c_init.cls ≠ "java/lang/invoke/MethodHandle" ∧ y_c_init.cls ≠ "java/lang/invoke/VarHandle" ∧ (parseMethodDescriptor y_c_init.desc).map (fun d => d.parameters.length) = some 0 := by decide +kernel
theorem hy_d_init : y_d_init.cls ≠ "java/lang/invoke/MethodHandle" ∧ y_d_init.cls ≠ "java/lang/invoke/VarHandle" ∧ (parseMethodDescriptor y_d_init.desc).map (fun d => d.parameters.length) = some 0 := by decide +kernel
theorem hy_ja_append__C_AbstractStringBuilder_ : y_ja_append__C_AbstractStringBuilder_.cls ≠ "java/lang/invoke/MethodHandle" ∧ y_ja_append__C_AbstractStringBuilder_.cls ≠ "java/lang/invoke/VarHandle" ∧ (parseMethodDescriptor y_ja_append__C_AbstractStringBuilder_.desc).map (fun d => d.parameters.length) = some 1 := by decide +kernel
theorem hy_ja_append__String__AbstractStringBuilder_ : y_ja_append__String__AbstractStringBuilder_.cls ≠ "java/lang/invoke/MethodHandle" ∧ y_ja_append__String__AbstractStringBuilder_.cls ≠ "java/lang/invoke/VarHandle" ∧ (parseMethodDescriptor y_ja_append__String__AbstractStringBuilder_.desc).map (fun d => d.parameters.length) = some 1 := by decide +kernel
theorem hy_ja_ensureCapacityInternal : y_ja_ensureCapacityInternal.cls ≠ "java/lang/invoke/MethodHandle" ∧ y_ja_ensureCapacityInternal.cls ≠ "java/lang/invoke/VarHandle" ∧ (parseMethodDescriptor y_ja_ensureCapacityInternal.desc).map (fun d => d.parameters.length) = some 1 := by decide +kernel
theorem hy_ja_getValue : y_ja_getValue.cls ≠ "java/lang/invoke/MethodHandle" ∧ y_ja_getValue.cls ≠ "java/lang/invoke/VarHandle" ∧ (parseMethodDescriptor y_ja_getValue.desc).map (fun d => d.parameters.length) = some 0 := by decide +kernel
theorem hy_ja_inflateIfNeededFor : y_ja_inflateIfNeededFor.cls ≠ "java/lang/invoke/MethodHandle" ∧ y_ja_inflateIfNeededFor.cls ≠ "java/lang/invoke/VarHandle" ∧ (parseMethodDescriptor y_ja_inflateIfNeededFor.desc).map (fun d => d.parameters.length) = some 1 := by decide +kernel
theorem hy_ja_init : y_ja_init.cls ≠ "java/lang/invoke/MethodHandle" ∧ y_ja_init.cls ≠ "java/lang/invoke/VarHandle" ∧ (parseMethodDescriptor y_ja_init.desc).map (fun d => d.parameters.length) = some 1 := by decide +kernel
theorem hy_ja_isLatin1 : y_ja_isLatin1.cls ≠ "java/lang/invoke/MethodHandle" ∧ y_ja_isLatin1.cls ≠ "java/lang/invoke/VarHandle" ∧ (parseMethodDescriptor y_ja_isLatin1.desc).map (fun d => d.parameters.length) = some 0 := by decide +kernel
theorem hy_ja_length : y_ja_length.cls ≠ "java/lang/invoke/MethodHandle" ∧ y_ja_length.cls ≠ "java/lang/invoke/VarHandle" ∧ (parseMethodDescriptor y_ja_length.desc).map (fun d => d.parameters.length) = some 0 := by decide +kernel
theorem hy_ja_newCapacity : y_ja_newCapacity.cls ≠ "java/lang/invoke/MethodHandle" ∧ y_ja_newCapacity.cls ≠ "java/lang/invoke/VarHandle" ∧ (parseMethodDescriptor y_ja_newCapacity.desc).map (fun d => d.parameters.length) = some 1 := by decide +kernel
theorem hy_ja_putStringAt : y_ja_putStringAt.cls ≠ "java/lang/invoke/MethodHandle" ∧ y_ja_putStringAt.cls ≠ "java/lang/invoke/VarHandle" ∧ (parseMethodDescriptor y_ja_putStringAt.desc).map (fun d => d.parameters.length) = some 2 := by decide +kernel
theorem hy_jb_append__C_StringBuilder_ : y_jb_append__C_StringBuilder_.cls ≠ "java/lang/invoke/MethodHandle" ∧ y_jb_append__C_StringBuilder_.cls ≠ "java/lang/invoke/VarHandle" ∧ (parseMethodDescriptor y_jb_append__C_StringBuilder_.desc).map (fun d => d.parameters.length) = some 1 := by decide +kernel
theorem hv_jb_append__C_StringBuilder_ : y_jb_append__C_StringBuilder_.cls = rN3 ∧ y_jb_append__C_StringBuilder_.cls ≠ "java/lang/invoke/MethodHandle" ∧ y_jb_append__C_StringBuilder_.cls ≠ "java/lang/invoke/VarHandle" ∧ (parseMethodDescriptor y_jb_append__C_StringBuilder_.desc).map (fun d => d.parameters.length) = some 1 := by decide +kernel
theorem hy_jb_append__String__StringBuilder_ : y_jb_append__String__StringBuilder_.cls ≠ "java/lang/invoke/MethodHandle" ∧ y_jb_append__String__StringBuilder_.cls ≠ "java/lang/invoke/VarHandle" ∧ (parseMethodDescriptor y_jb_append__String__StringBuilder_.desc).map (fun d => d.parameters.length) = some 1 := by decide +kernel
theorem hv_jb_append__String__StringBuilder_ : y_jb_append__String__StringBuilder_.cls = rN3 ∧ y_jb_append__String__StringBuilder_.cls ≠ "java/lang/invoke/MethodHandle" ∧ y_jb_append__String__StringBuilder_.cls ≠ "java/lang/invoke/VarHandle" ∧ (parseMethodDescriptor y_jb_append__String__StringBuilder_.desc).map (fun d => d.parameters.length) = some 1 := by decide +kernel
theorem hy_jb_init : y_jb_init.cls ≠ "java/lang/invoke/MethodHandle" ∧ y_jb_init.cls ≠ "java/lang/invoke/VarHandle" ∧ (parseMethodDescriptor y_jb_init.desc).map (fun d => d.parameters.length) = some 0 := by decide +kernel
theorem hy_jb_length : y_jb_length.cls ≠ "java/lang/invoke/MethodHandle" ∧ y_jb_length.cls ≠ "java/lang/invoke/VarHandle" ∧ (parseMethodDescriptor y_jb_length.desc).map (fun d => d.parameters.length) = some 0 := by decide +kernel
theorem hy_jb_toString : y_jb_toString.cls ≠ "java/lang/invoke/MethodHandle" ∧ y_jb_toString.cls ≠ "java/lang/invoke/VarHandle" ∧ (parseMethodDescriptor y_jb_toString.desc).map (fun d => d.parameters.length) = some 0 := by decide +kernel
theorem hv_jb_toString : y_jb_toString.cls = rN3 ∧ y_jb_toString.cls ≠ "java/lang/invoke/MethodHandle" ∧ y_jb_toString.cls ≠ "java/lang/invoke/VarHandle" ∧ (parseMethodDescriptor y_jb_toString.desc).map (fun d => d.parameters.length) = some 0 := by decide +kernel
theorem hy_jl_canEncode : y_jl_canEncode.cls ≠ "java/lang/invoke/MethodHandle" ∧ y_jl_canEncode.cls ≠ "java/lang/invoke/VarHandle" ∧ (parseMethodDescriptor y_jl_canEncode.desc).map (fun d => d.parameters.length) = some 1 := by decide +kernel
theorem hy_jl_charAt : y_jl_charAt.cls ≠ "java/lang/invoke/MethodHandle" ∧ y_jl_charAt.cls ≠ "java/lang/invoke/VarHandle" ∧ (parseMethodDescriptor y_jl_charAt.desc).map (fun d => d.parameters.length) = some 2 := by decide +kernel
theorem hy_jp_checkIndex : y_jp_checkIndex.cls ≠ "java/lang/invoke/MethodHandle" ∧ y_jp_checkIndex.cls ≠ "java/lang/invoke/VarHandle" ∧ (parseMethodDescriptor y_jp_checkIndex.desc).map (fun d => d.parameters.length) = some 3 := by decide +kernel
theorem hy_jr_checkLength : y_jr_checkLength.cls ≠ "java/lang/invoke/MethodHandle" ∧ y_jr_checkLength.cls ≠ "java/lang/invoke/VarHandle" ∧ (parseMethodDescriptor y_jr_checkLength.desc).map (fun d => d.parameters.length) = some 2 := by decide +kernel
theorem hy_jr_copyOf : y_jr_copyOf.cls ≠ "java/lang/invoke/MethodHandle" ∧ y_jr_copyOf.cls ≠ "java/lang/invoke/VarHandle" ∧ (parseMethodDescriptor y_jr_copyOf.desc).map (fun d => d.parameters.length) = some 2 := by decide +kernel
theorem hy_jr_copyOfRange : y_jr_copyOfRange.cls ≠ "java/lang/invoke/MethodHandle" ∧ y_jr_copyOfRange.cls ≠ "java/lang/invoke/VarHandle" ∧ (parseMethodDescriptor y_jr_copyOfRange.desc).map (fun d => d.parameters.length) = some 3 := by decide +kernel
theorem hy_jr_copyOfRangeByte : y_jr_copyOfRangeByte.cls ≠ "java/lang/invoke/MethodHandle" ∧ y_jr_copyOfRangeByte.cls ≠ "java/lang/invoke/VarHandle" ∧ (parseMethodDescriptor y_jr_copyOfRangeByte.desc).map (fun d => d.parameters.length) = some 3 := by decide +kernel
theorem hy_js_checkIndex : y_js_checkIndex.cls ≠ "java/lang/invoke/MethodHandle" ∧ y_js_checkIndex.cls ≠ "java/lang/invoke/VarHandle" ∧ (parseMethodDescriptor y_js_checkIndex.desc).map (fun d => d.parameters.length) = some 2 := by decide +kernel
theorem hy_js_coder : y_js_coder.cls ≠ "java/lang/invoke/MethodHandle" ∧ y_js_coder.cls ≠ "java/lang/invoke/VarHandle" ∧ (parseMethodDescriptor y_js_coder.desc).map (fun d => d.parameters.length) = some 0 := by decide +kernel
theorem hv_js_coder : y_js_coder.cls = rN4 ∧ y_js_coder.cls ≠ "java/lang/invoke/MethodHandle" ∧ y_js_coder.cls ≠ "java/lang/invoke/VarHandle" ∧ (parseMethodDescriptor y_js_coder.desc).map (fun d => d.parameters.length) = some 0 := by decide +kernel
theorem hy_js_getBytes : y_js_getBytes.cls ≠ "java/lang/invoke/MethodHandle" ∧ y_js_getBytes.cls ≠ "java/lang/invoke/VarHandle" ∧ (parseMethodDescriptor y_js_getBytes.desc).map (fun d => d.parameters.length) = some 3 := by decide +kernel
theorem hv_js_getBytes : y_js_getBytes.cls = rN4 ∧ y_js_getBytes.cls ≠ "java/lang/invoke/MethodHandle" ∧ y_js_getBytes.cls ≠ "java/lang/invoke/VarHandle" ∧ (parseMethodDescriptor y_js_getBytes.desc).map (fun d => d.parameters.length) = some 3 := by decide +kernel
theorem hy_js_init__AbstractStringBuilder_Void__V : y_js_init__AbstractStringBuilder_Void__V.cls ≠ "java/lang/invoke/MethodHandle" ∧ y_js_init__AbstractStringBuilder_Void__V.cls ≠ "java/lang/invoke/VarHandle" ∧ (parseMethodDescriptor y_js_init__AbstractStringBuilder_Void__V.desc).map (fun d => d.parameters.length) = some 2 := by decide +kernel
theorem hy_js_init__StringBuilder__V : y_js_init__StringBuilder__V.cls ≠ "java/lang/invoke/MethodHandle" ∧ y_js_init__StringBuilder__V.cls ≠ "java/lang/invoke/VarHandle" ∧ (parseMethodDescriptor y_js_init__StringBuilder__V.desc).map (fun d => d.parameters.length) = some 1 := by decide +kernel
theorem hy_js_isLatin1 : y_js_isLatin1.cls ≠ "java/lang/invoke/MethodHandle" ∧ y_js_isLatin1.cls ≠ "java/lang/invoke/VarHandle" ∧ (parseMethodDescriptor y_js_isLatin1.desc).map (fun d => d.parameters.length) = some 0 := by decide +kernel
theorem hv_js_isLatin1 : y_js_isLatin1.cls = rN4 ∧ y_js_isLatin1.cls ≠ "java/lang/invoke/MethodHandle" ∧ y_js_isLatin1.cls ≠ "java/lang/invoke/VarHandle" ∧ (parseMethodDescriptor y_js_isLatin1.desc).map (fun d => d.parameters.length) = some 0 := by decide +kernel
theorem hy_js_length : y_js_length.cls ≠ "java/lang/invoke/MethodHandle" ∧ y_js_length.cls ≠ "java/lang/invoke/VarHandle" ∧ (parseMethodDescriptor y_js_length.desc).map (fun d => d.parameters.length) = some 0 := by decide +kernel
theorem hv_js_length : y_js_length.cls = rN4 ∧ y_js_length.cls ≠ "java/lang/invoke/MethodHandle" ∧ y_js_length.cls ≠ "java/lang/invoke/VarHandle" ∧ (parseMethodDescriptor y_js_length.desc).map (fun d => d.parameters.length) = some 0 := by decide +kernel
theorem hy_jz_newLength : y_jz_newLength.cls ≠ "java/lang/invoke/MethodHandle" ∧ y_jz_newLength.cls ≠ "java/lang/invoke/VarHandle" ∧ (parseMethodDescriptor y_jz_newLength.desc).map (fun d => d.parameters.length) = some 3 := by decide +kernel
theorem hy_o_init : y_o_init.cls ≠ "java/lang/invoke/MethodHandle" ∧ y_o_init.cls ≠ "java/lang/invoke/VarHandle" ∧ (parseMethodDescriptor y_o_init.desc).map (fun d => d.parameters.length) = some 0 := by decide +kernel
theorem q_15 : Cond.initialized "RingdaysLaw$Out" ∈ rT := rmem 15 (by decide +kernel) (by decide +kernel)
theorem q_23 : Cond.initialized "java/lang/AbstractStringBuilder" ∈ rT := rmem 23 (by decide +kernel) (by decide +kernel)
theorem q_24 : Cond.initialized "java/lang/StringBuilder" ∈ rT := rmem 24 (by decide +kernel) (by decide +kernel)
theorem q_25 : Cond.initialized "java/lang/String" ∈ rT := rmem 25 (by decide +kernel) (by decide +kernel)
theorem q_27 : Cond.initialized "jdk/internal/util/ArraysSupport" ∈ rT := rmem 27 (by decide +kernel) (by decide +kernel)
theorem q_28 : Cond.initialized "java/util/Arrays" ∈ rT := rmem 28 (by decide +kernel) (by decide +kernel)
theorem q_29 : Cond.initialized "java/lang/System" ∈ rT := rmem 29 (by decide +kernel) (by decide +kernel)
theorem q_30 : Cond.initialized "java/lang/StringLatin1" ∈ rT := rmem 30 (by decide +kernel) (by decide +kernel)
theorem q_31 : Cond.initialized "jdk/internal/util/Preconditions" ∈ rT := rmem 31 (by decide +kernel) (by decide +kernel)
theorem q_33 : Cond.classLink "RingdaysLaw" 8 "Ringdays" ∈ rT := rmem 33 (by decide +kernel) (by decide +kernel)
theorem q_34 : Cond.instantiable "Ringdays" 7 ∈ rT := rmem 34 (by decide +kernel) (by decide +kernel)
theorem q_35 : Cond.methodLink "RingdaysLaw" 180 y_c_init ∈ rT := rmem 35 (by decide +kernel) (by decide +kernel)
theorem q_36 : Cond.instanceMethod y_c_init ∈ rT := rmem 36 (by decide +kernel) (by decide +kernel)
theorem q_37 : Cond.code y_c_init prog_1_method_1_code 2 none ∈ rT := rmem 37 (by decide +kernel) (by decide +kernel)
theorem q_38 : Cond.methodLink "Ringdays" 1 Lib.objectInit ∈ rT := rmem 38 (by decide +kernel) (by decide +kernel)
theorem q_39 : Cond.instanceMethod Lib.objectInit ∈ rT := rmem 39 (by decide +kernel) (by decide +kernel)
theorem q_40 : Cond.code Lib.objectInit ⟨#[0xb1]⟩ 1 none ∈ rT := rmem 40 (by decide +kernel) (by decide +kernel)
theorem q_41 : Cond.classLink "Ringdays" 16 "[[I" ∈ rT := rmem 41 (by decide +kernel) (by decide +kernel)
theorem q_65 : Cond.arrayClass .int ∈ rT := rmem 65 (by decide +kernel) (by decide +kernel)
theorem q_66 : Cond.arrayClass .boolean ∈ rT := rmem 66 (by decide +kernel) (by decide +kernel)
theorem q_71 : Cond.classLink "Ringdays" 155 "java/lang/StringBuilder" ∈ rT := rmem 71 (by decide +kernel) (by decide +kernel)
theorem q_72 : Cond.instantiable "java/lang/StringBuilder" 4 ∈ rT := rmem 72 (by decide +kernel) (by decide +kernel)
theorem q_73 : Cond.methodLink "Ringdays" 157 y_jb_init ∈ rT := rmem 73 (by decide +kernel) (by decide +kernel)
theorem q_74 : Cond.instanceMethod y_jb_init ∈ rT := rmem 74 (by decide +kernel) (by decide +kernel)
theorem q_75 : Cond.code y_jb_init prog_15_method_1_code 1 none ∈ rT := rmem 75 (by decide +kernel) (by decide +kernel)
theorem q_76 : Cond.methodLink "java/lang/StringBuilder" 1 y_ja_init ∈ rT := rmem 76 (by decide +kernel) (by decide +kernel)
theorem q_77 : Cond.instanceMethod y_ja_init ∈ rT := rmem 77 (by decide +kernel) (by decide +kernel)
theorem q_78 : Cond.code y_ja_init prog_5_method_2_code 2 none ∈ rT := rmem 78 (by decide +kernel) (by decide +kernel)
theorem q_79 : Cond.methodLink "java/lang/AbstractStringBuilder" 3 Lib.objectInit ∈ rT := rmem 79 (by decide +kernel) (by decide +kernel)
theorem q_80 : Cond.fieldLink "java/lang/AbstractStringBuilder" 18 "java/lang/String" "COMPACT_STRINGS" "Z" ∈ rT := rmem 80 (by decide +kernel) (by decide +kernel)
theorem q_89 : Cond.fieldLink "java/lang/AbstractStringBuilder" 15 "java/lang/AbstractStringBuilder" "value" "[B" ∈ rT := rmem 89 (by decide +kernel) (by decide +kernel)
theorem q_90 : Cond.fieldLink "java/lang/AbstractStringBuilder" 22 "java/lang/AbstractStringBuilder" "coder" "B" ∈ rT := rmem 90 (by decide +kernel) (by decide +kernel)
theorem q_92 : Cond.fieldLink "java/lang/AbstractStringBuilder" 79 "java/lang/AbstractStringBuilder" "count" "I" ∈ rT := rmem 92 (by decide +kernel) (by decide +kernel)
theorem q_101 : Cond.superclass "java/lang/StringBuilder" "java/lang/AbstractStringBuilder" ∈ rT := rmem 101 (by decide +kernel) (by decide +kernel)
theorem q_102 : Cond.arrayClass .byte ∈ rT := rmem 102 (by decide +kernel) (by decide +kernel)
theorem q_103 : Cond.methodLink "Ringdays" 158 y_jb_append__C_StringBuilder_ ∈ rT := rmem 103 (by decide +kernel) (by decide +kernel)
theorem q_104 : Cond.instanceMethod y_jb_append__C_StringBuilder_ ∈ rT := rmem 104 (by decide +kernel) (by decide +kernel)
theorem q_105 : Cond.selects "java/lang/StringBuilder" y_jb_append__C_StringBuilder_ y_jb_append__C_StringBuilder_ ∈ rT := rmem 105 (by decide +kernel) (by decide +kernel)
theorem q_106 : Cond.code y_jb_append__C_StringBuilder_ prog_15_method_14_code 2 (some (.object "java/lang/StringBuilder")) ∈ rT := rmem 106 (by decide +kernel) (by decide +kernel)
theorem q_107 : Cond.methodLink "java/lang/StringBuilder" 50 y_ja_append__C_AbstractStringBuilder_ ∈ rT := rmem 107 (by decide +kernel) (by decide +kernel)
theorem q_108 : Cond.instanceMethod y_ja_append__C_AbstractStringBuilder_ ∈ rT := rmem 108 (by decide +kernel) (by decide +kernel)
theorem q_109 : Cond.code y_ja_append__C_AbstractStringBuilder_ prog_5_method_31_code 2 (some (.object "java/lang/AbstractStringBuilder")) ∈ rT := rmem 109 (by decide +kernel) (by decide +kernel)
theorem q_110 : Cond.methodLink "java/lang/AbstractStringBuilder" 100 y_ja_ensureCapacityInternal ∈ rT := rmem 110 (by decide +kernel) (by decide +kernel)
theorem q_112 : Cond.instanceMethod y_ja_ensureCapacityInternal ∈ rT := rmem 112 (by decide +kernel) (by decide +kernel)
theorem q_113 : Cond.code y_ja_ensureCapacityInternal prog_5_method_9_code 3 none ∈ rT := rmem 113 (by decide +kernel) (by decide +kernel)
theorem q_114 : Cond.methodLink "java/lang/AbstractStringBuilder" 104 y_ja_newCapacity ∈ rT := rmem 114 (by decide +kernel) (by decide +kernel)
theorem q_116 : Cond.instanceMethod y_ja_newCapacity ∈ rT := rmem 116 (by decide +kernel) (by decide +kernel)
theorem q_117 : Cond.code y_ja_newCapacity prog_5_method_10_code 6 (some .int) ∈ rT := rmem 117 (by decide +kernel) (by decide +kernel)
theorem q_118 : Cond.methodLink "java/lang/AbstractStringBuilder" 114 y_jz_newLength ∈ rT := rmem 118 (by decide +kernel) (by decide +kernel)
theorem q_119 : Cond.static y_jz_newLength ∈ rT := rmem 119 (by decide +kernel) (by decide +kernel)
theorem q_120 : Cond.code y_jz_newLength prog_21_method_27_code 4 (some .int) ∈ rT := rmem 120 (by decide +kernel) (by decide +kernel)
theorem q_121 : Cond.methodLink "jdk/internal/util/ArraysSupport" 194 Lib.Math.max.name ∈ rT := rmem 121 (by decide +kernel) (by decide +kernel)
theorem q_124 : Cond.constant "jdk/internal/util/ArraysSupport" 200 2147483639 ∈ rT := rmem 124 (by decide +kernel) (by decide +kernel)
theorem q_128 : Cond.constant "java/lang/AbstractStringBuilder" 39 2147483647 ∈ rT := rmem 128 (by decide +kernel) (by decide +kernel)
theorem q_129 : Cond.methodLink "java/lang/AbstractStringBuilder" 108 y_jr_copyOf ∈ rT := rmem 129 (by decide +kernel) (by decide +kernel)
theorem q_130 : Cond.static y_jr_copyOf ∈ rT := rmem 130 (by decide +kernel) (by decide +kernel)
theorem q_131 : Cond.code y_jr_copyOf prog_20_method_121_code 3 (some (.array .byte)) ∈ rT := rmem 131 (by decide +kernel) (by decide +kernel)
theorem q_132 : Cond.methodLink "java/util/Arrays" 310 ⟨"[B", "clone", "()Ljava/lang/Object;"⟩ ∈ rT := rmem 132 (by decide +kernel) (by decide +kernel)
theorem q_133 : Cond.sameMethod "[B" "java/lang/Object" "clone" "()Ljava/lang/Object;" ∈ rT := rmem 133 (by decide +kernel) (by decide +kernel)
theorem q_134 : Cond.native ⟨"java/lang/Object", "clone", "()Ljava/lang/Object;"⟩ ∈ rT := rmem 134 (by decide +kernel) (by decide +kernel)
theorem q_135 : Cond.instanceMethod ⟨"java/lang/Object", "clone", "()Ljava/lang/Object;"⟩ ∈ rT := rmem 135 (by decide +kernel) (by decide +kernel)
theorem q_136 : Cond.selects "[B" ⟨"[B", "clone", "()Ljava/lang/Object;"⟩ ⟨"java/lang/Object", "clone", "()Ljava/lang/Object;"⟩ ∈ rT := rmem 136 (by decide +kernel) (by decide +kernel)
theorem q_138 : Cond.classLink "java/util/Arrays" 311 "[B" ∈ rT := rmem 138 (by decide +kernel) (by decide +kernel)
theorem q_139 : Cond.methodLink "java/util/Arrays" 304 Lib.Math.min.name ∈ rT := rmem 139 (by decide +kernel) (by decide +kernel)
theorem q_142 : Cond.methodLink "java/util/Arrays" 150 arraycopyName ∈ rT := rmem 142 (by decide +kernel) (by decide +kernel)
theorem q_143 : Cond.static arraycopyName ∈ rT := rmem 143 (by decide +kernel) (by decide +kernel)
theorem q_144 : Cond.native arraycopyName ∈ rT := rmem 144 (by decide +kernel) (by decide +kernel)
theorem q_145 : Cond.methodLink "java/lang/AbstractStringBuilder" 83 y_ja_isLatin1 ∈ rT := rmem 145 (by decide +kernel) (by decide +kernel)
theorem q_146 : Cond.instanceMethod y_ja_isLatin1 ∈ rT := rmem 146 (by decide +kernel) (by decide +kernel)
theorem q_147 : Cond.sameMethod "java/lang/AbstractStringBuilder" "java/lang/AbstractStringBuilder" "isLatin1" "()Z" ∈ rT := rmem 147 (by decide +kernel) (by decide +kernel)
theorem q_148 : Cond.selects "java/lang/StringBuilder" y_ja_isLatin1 y_ja_isLatin1 ∈ rT := rmem 148 (by decide +kernel) (by decide +kernel)
theorem q_149 : Cond.code y_ja_isLatin1 prog_5_method_68_code 1 (some .boolean) ∈ rT := rmem 149 (by decide +kernel) (by decide +kernel)
theorem q_150 : Cond.methodLink "java/lang/AbstractStringBuilder" 191 y_jl_canEncode ∈ rT := rmem 150 (by decide +kernel) (by decide +kernel)
theorem q_151 : Cond.static y_jl_canEncode ∈ rT := rmem 151 (by decide +kernel) (by decide +kernel)
theorem q_152 : Cond.code y_jl_canEncode prog_16_method_3_code 1 (some .boolean) ∈ rT := rmem 152 (by decide +kernel) (by decide +kernel)
theorem q_172 : Cond.fieldLink "java/lang/String" 1053 "jdk/internal/util/Preconditions" "SIOOBE_FORMATTER" "Ljava/util/function/BiFunction;" ∈ rT := rmem 172 (by decide +kernel) (by decide +kernel)
theorem q_193 : Cond.static y_js_checkIndex ∈ rT := rmem 193 (by decide +kernel) (by decide +kernel)
theorem q_194 : Cond.code y_js_checkIndex prog_14_method_155_code 2 none ∈ rT := rmem 194 (by decide +kernel) (by decide +kernel)
theorem q_195 : Cond.methodLink "java/lang/String" 1059 y_jp_checkIndex ∈ rT := rmem 195 (by decide +kernel) (by decide +kernel)
theorem q_196 : Cond.static y_jp_checkIndex ∈ rT := rmem 196 (by decide +kernel) (by decide +kernel)
theorem q_197 : Cond.code y_jp_checkIndex prog_22_method_11_code 3 (some .int) ∈ rT := rmem 197 (by decide +kernel) (by decide +kernel)
theorem q_208 : Cond.methodLink "Ringdays" 162 y_jb_append__String__StringBuilder_ ∈ rT := rmem 208 (by decide +kernel) (by decide +kernel)
theorem q_209 : Cond.instanceMethod y_jb_append__String__StringBuilder_ ∈ rT := rmem 209 (by decide +kernel) (by decide +kernel)
theorem q_210 : Cond.selects "java/lang/StringBuilder" y_jb_append__String__StringBuilder_ y_jb_append__String__StringBuilder_ ∈ rT := rmem 210 (by decide +kernel) (by decide +kernel)
theorem q_211 : Cond.code y_jb_append__String__StringBuilder_ prog_15_method_7_code 2 (some (.object "java/lang/StringBuilder")) ∈ rT := rmem 211 (by decide +kernel) (by decide +kernel)
theorem q_212 : Cond.methodLink "java/lang/StringBuilder" 29 y_ja_append__String__AbstractStringBuilder_ ∈ rT := rmem 212 (by decide +kernel) (by decide +kernel)
theorem q_213 : Cond.instanceMethod y_ja_append__String__AbstractStringBuilder_ ∈ rT := rmem 213 (by decide +kernel) (by decide +kernel)
theorem q_214 : Cond.code y_ja_append__String__AbstractStringBuilder_ prog_5_method_22_code 3 (some (.object "java/lang/AbstractStringBuilder")) ∈ rT := rmem 214 (by decide +kernel) (by decide +kernel)
theorem q_231 : Cond.methodLink "java/lang/AbstractStringBuilder" 32 y_js_length ∈ rT := rmem 231 (by decide +kernel) (by decide +kernel)
theorem q_232 : Cond.instanceMethod y_js_length ∈ rT := rmem 232 (by decide +kernel) (by decide +kernel)
theorem q_233 : Cond.selects "java/lang/String" y_js_length y_js_length ∈ rT := rmem 233 (by decide +kernel) (by decide +kernel)
theorem q_234 : Cond.code y_js_length prog_14_method_54_code 1 (some .int) ∈ rT := rmem 234 (by decide +kernel) (by decide +kernel)
theorem q_235 : Cond.methodLink "java/lang/String" 335 y_js_coder ∈ rT := rmem 235 (by decide +kernel) (by decide +kernel)
theorem q_236 : Cond.instanceMethod y_js_coder ∈ rT := rmem 236 (by decide +kernel) (by decide +kernel)
theorem q_237 : Cond.selects "java/lang/String" y_js_coder y_js_coder ∈ rT := rmem 237 (by decide +kernel) (by decide +kernel)
theorem q_238 : Cond.code y_js_coder prog_14_method_152_code 1 (some .byte) ∈ rT := rmem 238 (by decide +kernel) (by decide +kernel)
theorem q_239 : Cond.fieldLink "java/lang/String" 38 "java/lang/String" "COMPACT_STRINGS" "Z" ∈ rT := rmem 239 (by decide +kernel) (by decide +kernel)
theorem q_240 : Cond.methodLink "java/lang/AbstractStringBuilder" 208 y_ja_putStringAt ∈ rT := rmem 240 (by decide +kernel) (by decide +kernel)
theorem q_242 : Cond.instanceMethod y_ja_putStringAt ∈ rT := rmem 242 (by decide +kernel) (by decide +kernel)
theorem q_243 : Cond.code y_ja_putStringAt prog_5_method_73_code 3 none ∈ rT := rmem 243 (by decide +kernel) (by decide +kernel)
theorem q_244 : Cond.methodLink "java/lang/AbstractStringBuilder" 397 y_ja_inflateIfNeededFor ∈ rT := rmem 244 (by decide +kernel) (by decide +kernel)
theorem q_246 : Cond.instanceMethod y_ja_inflateIfNeededFor ∈ rT := rmem 246 (by decide +kernel) (by decide +kernel)
theorem q_247 : Cond.code y_ja_inflateIfNeededFor prog_5_method_71_code 2 none ∈ rT := rmem 247 (by decide +kernel) (by decide +kernel)
theorem q_248 : Cond.methodLink "java/lang/AbstractStringBuilder" 40 y_js_coder ∈ rT := rmem 248 (by decide +kernel) (by decide +kernel)
theorem q_249 : Cond.methodLink "java/lang/AbstractStringBuilder" 399 y_js_getBytes ∈ rT := rmem 249 (by decide +kernel) (by decide +kernel)
theorem q_250 : Cond.instanceMethod y_js_getBytes ∈ rT := rmem 250 (by decide +kernel) (by decide +kernel)
theorem q_251 : Cond.selects "java/lang/String" y_js_getBytes y_js_getBytes ∈ rT := rmem 251 (by decide +kernel) (by decide +kernel)
theorem q_252 : Cond.code y_js_getBytes prog_14_method_147_code 4 none ∈ rT := rmem 252 (by decide +kernel) (by decide +kernel)
theorem q_253 : Cond.methodLink "java/lang/String" 212 arraycopyName ∈ rT := rmem 253 (by decide +kernel) (by decide +kernel)
theorem q_255 : Cond.methodLink "Ringdays" 165 y_jb_toString ∈ rT := rmem 255 (by decide +kernel) (by decide +kernel)
theorem q_256 : Cond.instanceMethod y_jb_toString ∈ rT := rmem 256 (by decide +kernel) (by decide +kernel)
theorem q_257 : Cond.selects "java/lang/StringBuilder" y_jb_toString y_jb_toString ∈ rT := rmem 257 (by decide +kernel) (by decide +kernel)
theorem q_258 : Cond.code y_jb_toString prog_15_method_42_code 1 (some (.object "java/lang/String")) ∈ rT := rmem 258 (by decide +kernel) (by decide +kernel)
theorem q_259 : Cond.classLink "java/lang/StringBuilder" 18 "java/lang/String" ∈ rT := rmem 259 (by decide +kernel) (by decide +kernel)
theorem q_260 : Cond.instantiable "java/lang/String" 4 ∈ rT := rmem 260 (by decide +kernel) (by decide +kernel)
theorem q_261 : Cond.methodLink "java/lang/StringBuilder" 137 y_js_init__StringBuilder__V ∈ rT := rmem 261 (by decide +kernel) (by decide +kernel)
theorem q_262 : Cond.instanceMethod y_js_init__StringBuilder__V ∈ rT := rmem 262 (by decide +kernel) (by decide +kernel)
theorem q_263 : Cond.code y_js_init__StringBuilder__V prog_14_method_53_code 2 none ∈ rT := rmem 263 (by decide +kernel) (by decide +kernel)
theorem q_264 : Cond.methodLink "java/lang/String" 489 y_js_init__AbstractStringBuilder_Void__V ∈ rT := rmem 264 (by decide +kernel) (by decide +kernel)
theorem q_265 : Cond.instanceMethod y_js_init__AbstractStringBuilder_Void__V ∈ rT := rmem 265 (by decide +kernel) (by decide +kernel)
theorem q_266 : Cond.code y_js_init__AbstractStringBuilder_Void__V prog_14_method_150_code 5 none ∈ rT := rmem 266 (by decide +kernel) (by decide +kernel)
theorem q_267 : Cond.methodLink "java/lang/String" 1 Lib.objectInit ∈ rT := rmem 267 (by decide +kernel) (by decide +kernel)
theorem q_268 : Cond.methodLink "java/lang/String" 552 y_ja_getValue ∈ rT := rmem 268 (by decide +kernel) (by decide +kernel)
theorem q_269 : Cond.instanceMethod y_ja_getValue ∈ rT := rmem 269 (by decide +kernel) (by decide +kernel)
theorem q_270 : Cond.sameMethod "java/lang/AbstractStringBuilder" "java/lang/AbstractStringBuilder" "getValue" "()[B" ∈ rT := rmem 270 (by decide +kernel) (by decide +kernel)
theorem q_271 : Cond.selects "java/lang/StringBuilder" y_ja_getValue y_ja_getValue ∈ rT := rmem 271 (by decide +kernel) (by decide +kernel)
theorem q_272 : Cond.code y_ja_getValue prog_5_method_64_code 1 (some (.array .byte)) ∈ rT := rmem 272 (by decide +kernel) (by decide +kernel)
theorem q_273 : Cond.methodLink "java/lang/String" 549 y_ja_length ∈ rT := rmem 273 (by decide +kernel) (by decide +kernel)
theorem q_274 : Cond.instanceMethod y_ja_length ∈ rT := rmem 274 (by decide +kernel) (by decide +kernel)
theorem q_275 : Cond.sameMethod "java/lang/AbstractStringBuilder" "java/lang/AbstractStringBuilder" "length" "()I" ∈ rT := rmem 275 (by decide +kernel) (by decide +kernel)
theorem q_276 : Cond.selects "java/lang/StringBuilder" y_ja_length y_jb_length ∈ rT := rmem 276 (by decide +kernel) (by decide +kernel)
theorem q_277 : Cond.instanceMethod y_jb_length ∈ rT := rmem 277 (by decide +kernel) (by decide +kernel)
theorem q_278 : Cond.code y_jb_length prog_15_method_93_code 1 (some .int) ∈ rT := rmem 278 (by decide +kernel) (by decide +kernel)
theorem q_279 : Cond.methodLink "java/lang/StringBuilder" 343 y_ja_length ∈ rT := rmem 279 (by decide +kernel) (by decide +kernel)
theorem q_280 : Cond.code y_ja_length prog_5_method_6_code 1 (some .int) ∈ rT := rmem 280 (by decide +kernel) (by decide +kernel)
theorem q_281 : Cond.methodLink "java/lang/String" 1047 y_ja_isLatin1 ∈ rT := rmem 281 (by decide +kernel) (by decide +kernel)
theorem q_282 : Cond.methodLink "java/lang/String" 54 y_jr_copyOfRange ∈ rT := rmem 282 (by decide +kernel) (by decide +kernel)
theorem q_283 : Cond.static y_jr_copyOfRange ∈ rT := rmem 283 (by decide +kernel) (by decide +kernel)
theorem q_284 : Cond.code y_jr_copyOfRange prog_20_method_132_code 3 (some (.array .byte)) ∈ rT := rmem 284 (by decide +kernel) (by decide +kernel)
theorem q_285 : Cond.methodLink "java/util/Arrays" 339 y_jr_copyOfRangeByte ∈ rT := rmem 285 (by decide +kernel) (by decide +kernel)
theorem q_286 : Cond.static y_jr_copyOfRangeByte ∈ rT := rmem 286 (by decide +kernel) (by decide +kernel)
theorem q_287 : Cond.code y_jr_copyOfRangeByte prog_20_method_133_code 5 (some (.array .byte)) ∈ rT := rmem 287 (by decide +kernel) (by decide +kernel)
theorem q_288 : Cond.methodLink "java/util/Arrays" 343 y_jr_checkLength ∈ rT := rmem 288 (by decide +kernel) (by decide +kernel)
theorem q_289 : Cond.static y_jr_checkLength ∈ rT := rmem 289 (by decide +kernel) (by decide +kernel)
theorem q_290 : Cond.code y_jr_checkLength prog_20_method_131_code 2 none ∈ rT := rmem 290 (by decide +kernel) (by decide +kernel)
theorem q_400 : Cond.fieldLink "java/lang/String" 9 "java/lang/String" "value" "[B" ∈ rT := rmem 400 (by decide +kernel) (by decide +kernel)
theorem q_401 : Cond.fieldLink "java/lang/String" 15 "java/lang/String" "coder" "B" ∈ rT := rmem 401 (by decide +kernel) (by decide +kernel)
theorem q_538 : Cond.methodLink "java/lang/String" 492 y_js_isLatin1 ∈ rT := rmem 538 (by decide +kernel) (by decide +kernel)
theorem q_539 : Cond.instanceMethod y_js_isLatin1 ∈ rT := rmem 539 (by decide +kernel) (by decide +kernel)
theorem q_540 : Cond.selects "java/lang/String" y_js_isLatin1 y_js_isLatin1 ∈ rT := rmem 540 (by decide +kernel) (by decide +kernel)
theorem q_541 : Cond.code y_js_isLatin1 prog_14_method_154_code 1 (some .boolean) ∈ rT := rmem 541 (by decide +kernel) (by decide +kernel)
theorem q_542 : Cond.methodLink "java/lang/String" 495 y_jl_charAt ∈ rT := rmem 542 (by decide +kernel) (by decide +kernel)
theorem q_543 : Cond.static y_jl_charAt ∈ rT := rmem 543 (by decide +kernel) (by decide +kernel)
theorem q_544 : Cond.code y_jl_charAt prog_16_method_2_code 2 (some .char) ∈ rT := rmem 544 (by decide +kernel) (by decide +kernel)
theorem q_545 : Cond.methodLink "java/lang/StringLatin1" 9 y_js_checkIndex ∈ rT := rmem 545 (by decide +kernel) (by decide +kernel)
theorem q_570 : Cond.classLink "RingdaysLaw" 14 "RingdaysLaw$Out" ∈ rT := rmem 570 (by decide +kernel) (by decide +kernel)
theorem q_571 : Cond.instantiable "RingdaysLaw$Out" 2 ∈ rT := rmem 571 (by decide +kernel) (by decide +kernel)
theorem q_573 : Cond.instanceMethod y_o_init ∈ rT := rmem 573 (by decide +kernel) (by decide +kernel)
theorem q_574 : Cond.code y_o_init prog_3_method_1_code 1 none ∈ rT := rmem 574 (by decide +kernel) (by decide +kernel)
theorem q_575 : Cond.methodLink "RingdaysLaw$Out" 1 Lib.objectInit ∈ rT := rmem 575 (by decide +kernel) (by decide +kernel)
theorem q_977 : Cond.classLink "RingdaysLaw" 181 "RingdaysModel" ∈ rT := rmem 977 (by decide +kernel) (by decide +kernel)
theorem q_978 : Cond.instantiable "RingdaysModel" 7 ∈ rT := rmem 978 (by decide +kernel) (by decide +kernel)
theorem q_979 : Cond.methodLink "RingdaysLaw" 183 y_d_init ∈ rT := rmem 979 (by decide +kernel) (by decide +kernel)
theorem q_980 : Cond.instanceMethod y_d_init ∈ rT := rmem 980 (by decide +kernel) (by decide +kernel)
theorem q_981 : Cond.code y_d_init prog_4_method_1_code 1 none ∈ rT := rmem 981 (by decide +kernel) (by decide +kernel)
theorem q_982 : Cond.methodLink "RingdaysModel" 1 Lib.objectInit ∈ rT := rmem 982 (by decide +kernel) (by decide +kernel)
theorem q_983 : Cond.classLink "RingdaysModel" 16 "[[I" ∈ rT := rmem 983 (by decide +kernel) (by decide +kernel)
theorem q_1260 : Cond.classLink "RingdaysModel" 96 "java/lang/StringBuilder" ∈ rT := rmem 1260 (by decide +kernel) (by decide +kernel)
theorem q_1261 : Cond.methodLink "RingdaysModel" 98 y_jb_init ∈ rT := rmem 1261 (by decide +kernel) (by decide +kernel)
theorem q_1262 : Cond.methodLink "RingdaysModel" 99 y_jb_append__String__StringBuilder_ ∈ rT := rmem 1262 (by decide +kernel) (by decide +kernel)
theorem q_1264 : Cond.methodLink "RingdaysModel" 105 y_jb_toString ∈ rT := rmem 1264 (by decide +kernel) (by decide +kernel)
theorem q_1295 : Cond.sameMethod "java/lang/AbstractStringBuilder" "java/lang/AbstractStringBuilder" "append" "(C)Ljava/lang/AbstractStringBuilder;" ∈ rT := rmem 1295 (by decide +kernel) (by decide +kernel)
theorem q_1296 : Cond.sameMethod "java/lang/AbstractStringBuilder" "java/lang/AbstractStringBuilder" "ensureCapacityInternal" "(I)V" ∈ rT := rmem 1296 (by decide +kernel) (by decide +kernel)
theorem q_1297 : Cond.sameMethod "java/lang/AbstractStringBuilder" "java/lang/AbstractStringBuilder" "newCapacity" "(I)I" ∈ rT := rmem 1297 (by decide +kernel) (by decide +kernel)
theorem q_1299 : Cond.sameMethod "java/lang/AbstractStringBuilder" "java/lang/AbstractStringBuilder" "append" "(Ljava/lang/String;)Ljava/lang/AbstractStringBuilder;" ∈ rT := rmem 1299 (by decide +kernel) (by decide +kernel)
theorem q_1301 : Cond.sameMethod "java/lang/AbstractStringBuilder" "java/lang/AbstractStringBuilder" "putStringAt" "(ILjava/lang/String;)V" ∈ rT := rmem 1301 (by decide +kernel) (by decide +kernel)
theorem q_1302 : Cond.sameMethod "java/lang/AbstractStringBuilder" "java/lang/AbstractStringBuilder" "inflateIfNeededFor" "(Ljava/lang/String;)V" ∈ rT := rmem 1302 (by decide +kernel) (by decide +kernel)
theorem f_111 : Cond.privateMethod y_ja_ensureCapacityInternal ∈ rFc := List.mem_filter.mpr ⟨List.mem_of_getElem? (i := 111) (by decide +kernel), by decide +kernel⟩
theorem f_115 : Cond.privateMethod y_ja_newCapacity ∈ rFc := List.mem_filter.mpr ⟨List.mem_of_getElem? (i := 115) (by decide +kernel), by decide +kernel⟩
theorem f_137 : Cond.castable "[B" "java/lang/Cloneable" ∈ rFc := List.mem_filter.mpr ⟨List.mem_of_getElem? (i := 137) (by decide +kernel), by decide +kernel⟩
theorem f_241 : Cond.privateMethod y_ja_putStringAt ∈ rFc := List.mem_filter.mpr ⟨List.mem_of_getElem? (i := 241) (by decide +kernel), by decide +kernel⟩
theorem f_245 : Cond.privateMethod y_ja_inflateIfNeededFor ∈ rFc := List.mem_filter.mpr ⟨List.mem_of_getElem? (i := 245) (by decide +kernel), by decide +kernel⟩
end RKW2
