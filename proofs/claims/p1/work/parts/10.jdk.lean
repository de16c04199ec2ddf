def R_AA : String := "java/util/AbstractList"
def R_AC : String := "java/util/AbstractCollection"
abbrev cIn_compare : ByteArray := prog_19_method_40_code
def yIn_compare : MethodName := ⟨R_In, "compare", "(II)I"⟩
abbrev WIn_compare : List Cond := Cond.code yIn_compare cIn_compare 2 (some .int) :: TB
theorem hIn_compare : yIn_compare.cls ≠ "java/lang/invoke/MethodHandle" ∧ yIn_compare.cls ≠ "java/lang/invoke/VarHandle" ∧ (parseMethodDescriptor yIn_compare.desc).map (fun d => d.parameters.length) = some 2 := by decide +kernel
abbrev cLg_bitCount : ByteArray := prog_21_method_50_code
def yLg_bitCount : MethodName := ⟨R_Lg, "bitCount", "(J)I"⟩
abbrev WLg_bitCount : List Cond := Cond.code yLg_bitCount cLg_bitCount 2 (some .int) :: TB
theorem hLg_bitCount : yLg_bitCount.cls ≠ "java/lang/invoke/MethodHandle" ∧ yLg_bitCount.cls ≠ "java/lang/invoke/VarHandle" ∧ (parseMethodDescriptor yLg_bitCount.desc).map (fun d => d.parameters.length) = some 1 := by decide +kernel
abbrev cAC_init : ByteArray := prog_26_method_1_code
def yAC_init : MethodName := ⟨R_AC, "<init>", "()V"⟩
abbrev WAC_init : List Cond := Cond.code yAC_init cAC_init 1 none :: TB
theorem hAC_init : yAC_init.cls ≠ "java/lang/invoke/MethodHandle" ∧ yAC_init.cls ≠ "java/lang/invoke/VarHandle" ∧ (parseMethodDescriptor yAC_init.desc).map (fun d => d.parameters.length) = some 0 := by decide +kernel
abbrev cAA_init : ByteArray := prog_27_method_1_code
def yAA_init : MethodName := ⟨R_AA, "<init>", "()V"⟩
abbrev WAA_init : List Cond := Cond.code yAA_init cAA_init 1 none :: TB
theorem hAA_init : yAA_init.cls ≠ "java/lang/invoke/MethodHandle" ∧ yAA_init.cls ≠ "java/lang/invoke/VarHandle" ∧ (parseMethodDescriptor yAA_init.desc).map (fun d => d.parameters.length) = some 0 := by decide +kernel
abbrev cAL_init : ByteArray := prog_28_method_2_code
def yAL_init : MethodName := ⟨R_AL, "<init>", "()V"⟩
abbrev WAL_init : List Cond := Cond.code yAL_init cAL_init 1 none :: TB
theorem hAL_init : yAL_init.cls ≠ "java/lang/invoke/MethodHandle" ∧ yAL_init.cls ≠ "java/lang/invoke/VarHandle" ∧ (parseMethodDescriptor yAL_init.desc).map (fun d => d.parameters.length) = some 0 := by decide +kernel
abbrev cAL_grow : ByteArray := prog_28_method_7_code
def yAL_grow : MethodName := ⟨R_AL, "grow", "()[Ljava/lang/Object;"⟩
abbrev WAL_grow : List Cond := Cond.code yAL_grow cAL_grow 1 (some (.array (.object "java/lang/Object"))) :: TB
theorem hAL_grow : yAL_grow.cls ≠ "java/lang/invoke/MethodHandle" ∧ yAL_grow.cls ≠ "java/lang/invoke/VarHandle" ∧ (parseMethodDescriptor yAL_grow.desc).map (fun d => d.parameters.length) = some 0 := by decide +kernel
abbrev cAL_growb : ByteArray := prog_28_method_6_code
def yAL_growb : MethodName := ⟨R_AL, "grow", "(I)[Ljava/lang/Object;"⟩
abbrev WAL_growb : List Cond := Cond.code yAL_growb cAL_growb 4 (some (.array (.object "java/lang/Object"))) :: TB
theorem hAL_growb : yAL_growb.cls ≠ "java/lang/invoke/MethodHandle" ∧ yAL_growb.cls ≠ "java/lang/invoke/VarHandle" ∧ (parseMethodDescriptor yAL_growb.desc).map (fun d => d.parameters.length) = some 1 := by decide +kernel
abbrev cAL_size : ByteArray := prog_28_method_8_code
def yAL_size : MethodName := ⟨R_AL, "size", "()I"⟩
abbrev WAL_size : List Cond := Cond.code yAL_size cAL_size 1 (some .int) :: TB
theorem hAL_size : yAL_size.cls ≠ "java/lang/invoke/MethodHandle" ∧ yAL_size.cls ≠ "java/lang/invoke/VarHandle" ∧ (parseMethodDescriptor yAL_size.desc).map (fun d => d.parameters.length) = some 0 := by decide +kernel
abbrev cAr_fill : ByteArray := prog_29_method_104_code
def yAr_fill : MethodName := ⟨R_Ar, "fill", "([IIII)V"⟩
abbrev WAr_fill : List Cond := Cond.code yAr_fill cAr_fill 5 none :: TB
theorem hAr_fill : yAr_fill.cls ≠ "java/lang/invoke/MethodHandle" ∧ yAr_fill.cls ≠ "java/lang/invoke/VarHandle" ∧ (parseMethodDescriptor yAr_fill.desc).map (fun d => d.parameters.length) = some 4 := by decide +kernel
abbrev cAr_rangeCheck : ByteArray := prog_29_method_30_code
def yAr_rangeCheck : MethodName := ⟨R_Ar, "rangeCheck", "(III)V"⟩
abbrev WAr_rangeCheck : List Cond := Cond.code yAr_rangeCheck cAr_rangeCheck 3 none :: TB
theorem hAr_rangeCheck : yAr_rangeCheck.cls ≠ "java/lang/invoke/MethodHandle" ∧ yAr_rangeCheck.cls ≠ "java/lang/invoke/VarHandle" ∧ (parseMethodDescriptor yAr_rangeCheck.desc).map (fun d => d.parameters.length) = some 3 := by decide +kernel
