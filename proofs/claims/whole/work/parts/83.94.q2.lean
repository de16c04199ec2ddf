def R_Ob : String := "java/util/Objects"
def R_Pc : String := "jdk/internal/util/Preconditions"
def R_As : String := "jdk/internal/util/ArraysSupport"
abbrev cAL_get : ByteArray := prog_28_method_20_code
def yAL_get : MethodName := ⟨R_AL, "get", "(I)Ljava/lang/Object;"⟩
abbrev WAL_get : List Cond := Cond.code yAL_get cAL_get 2 (some (.object "java/lang/Object")) :: TB
theorem hAL_get : yAL_get.cls ≠ "java/lang/invoke/MethodHandle" ∧ yAL_get.cls ≠ "java/lang/invoke/VarHandle" ∧ (parseMethodDescriptor yAL_get.desc).map (fun d => d.parameters.length) = some 1 := by decide +kernel
abbrev cAL_elementData : ByteArray := prog_28_method_18_code
def yAL_elementData : MethodName := ⟨R_AL, "elementData", "(I)Ljava/lang/Object;"⟩
abbrev WAL_elementData : List Cond := Cond.code yAL_elementData cAL_elementData 2 (some (.object "java/lang/Object")) :: TB
theorem hAL_elementData : yAL_elementData.cls ≠ "java/lang/invoke/MethodHandle" ∧ yAL_elementData.cls ≠ "java/lang/invoke/VarHandle" ∧ (parseMethodDescriptor yAL_elementData.desc).map (fun d => d.parameters.length) = some 1 := by decide +kernel
abbrev cOb_checkIndex : ByteArray := prog_32_method_17_code
def yOb_checkIndex : MethodName := ⟨R_Ob, "checkIndex", "(II)I"⟩
abbrev WOb_checkIndex : List Cond := Cond.code yOb_checkIndex cOb_checkIndex 2 (some .int) :: TB
theorem hOb_checkIndex : yOb_checkIndex.cls ≠ "java/lang/invoke/MethodHandle" ∧ yOb_checkIndex.cls ≠ "java/lang/invoke/VarHandle" ∧ (parseMethodDescriptor yOb_checkIndex.desc).map (fun d => d.parameters.length) = some 2 := by decide +kernel
abbrev cPc_checkIndex : ByteArray := prog_36_method_11_code
def yPc_checkIndex : MethodName := ⟨R_Pc, "checkIndex", "(IILjava/util/function/BiFunction;)I"⟩
abbrev WPc_checkIndex : List Cond := Cond.code yPc_checkIndex cPc_checkIndex 3 (some .int) :: TB
theorem hPc_checkIndex : yPc_checkIndex.cls ≠ "java/lang/invoke/MethodHandle" ∧ yPc_checkIndex.cls ≠ "java/lang/invoke/VarHandle" ∧ (parseMethodDescriptor yPc_checkIndex.desc).map (fun d => d.parameters.length) = some 3 := by decide +kernel
abbrev cAL_add : ByteArray := prog_28_method_25_code
def yAL_add : MethodName := ⟨R_AL, "add", "(Ljava/lang/Object;)Z"⟩
abbrev WAL_add : List Cond := Cond.code yAL_add cAL_add 2 (some .boolean) :: TB
theorem hAL_add : yAL_add.cls ≠ "java/lang/invoke/MethodHandle" ∧ yAL_add.cls ≠ "java/lang/invoke/VarHandle" ∧ (parseMethodDescriptor yAL_add.desc).map (fun d => d.parameters.length) = some 1 := by decide +kernel
abbrev cAL_add3 : ByteArray := prog_28_method_24_code
def yAL_add3 : MethodName := ⟨R_AL, "add", "(Ljava/lang/Object;[Ljava/lang/Object;I)V"⟩
abbrev WAL_add3 : List Cond := Cond.code yAL_add3 cAL_add3 4 none :: TB
theorem hAL_add3 : yAL_add3.cls ≠ "java/lang/invoke/MethodHandle" ∧ yAL_add3.cls ≠ "java/lang/invoke/VarHandle" ∧ (parseMethodDescriptor yAL_add3.desc).map (fun d => d.parameters.length) = some 3 := by decide +kernel
abbrev cAr_copyOf : ByteArray := prog_29_method_119_code
def yAr_copyOf : MethodName := ⟨R_Ar, "copyOf", "([Ljava/lang/Object;I)[Ljava/lang/Object;"⟩
abbrev WAr_copyOf : List Cond := Cond.code yAr_copyOf cAr_copyOf 2 (some (.array (.object "java/lang/Object"))) :: TB
theorem hAr_copyOf : yAr_copyOf.cls ≠ "java/lang/invoke/MethodHandle" ∧ yAr_copyOf.cls ≠ "java/lang/invoke/VarHandle" ∧ (parseMethodDescriptor yAr_copyOf.desc).map (fun d => d.parameters.length) = some 2 := by decide +kernel
abbrev cAr_copyOf3 : ByteArray := prog_29_method_120_code
def yAr_copyOf3 : MethodName := ⟨R_Ar, "copyOf", "([Ljava/lang/Object;ILjava/lang/Class;)[Ljava/lang/Object;"⟩
abbrev WAr_copyOf3 : List Cond := Cond.code yAr_copyOf3 cAr_copyOf3 4 (some (.array (.object "java/lang/Object"))) :: TB
theorem hAr_copyOf3 : yAr_copyOf3.cls ≠ "java/lang/invoke/MethodHandle" ∧ yAr_copyOf3.cls ≠ "java/lang/invoke/VarHandle" ∧ (parseMethodDescriptor yAr_copyOf3.desc).map (fun d => d.parameters.length) = some 3 := by decide +kernel
abbrev cAs_newLength : ByteArray := prog_35_method_27_code
def yAs_newLength : MethodName := ⟨R_As, "newLength", "(III)I"⟩
abbrev WAs_newLength : List Cond := Cond.code yAs_newLength cAs_newLength 4 (some .int) :: TB
theorem hAs_newLength : yAs_newLength.cls ≠ "java/lang/invoke/MethodHandle" ∧ yAs_newLength.cls ≠ "java/lang/invoke/VarHandle" ∧ (parseMethodDescriptor yAs_newLength.desc).map (fun d => d.parameters.length) = some 3 := by decide +kernel
