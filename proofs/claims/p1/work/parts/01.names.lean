def R_R : String := "ResidualTrees"
def T_R : u_T := fun k => match k with
  | 0 => ("ResidualTrees", "table", "LResidualTrees$Table;", true)
  | 1 => ("ResidualTrees", "plan", "LResidualTrees$Plan;", true)
  | 2 => ("ResidualTrees", "residuals", "[LResidualTrees$Whole;", true)
  | 3 => ("ResidualTrees", "grower", "LResidualTrees$Grower;", true)
  | 4 => ("ResidualTrees", "forest", "Ljava/util/ArrayList;", true)
  | 5 => ("ResidualTrees", "treeCount", "I", false)
  | 6 => ("ResidualTrees", "out", "LResidualTrees$Out;", true)
  | 7 => ("ResidualTrees", "sorted", "[I", true)
  | 8 => ("ResidualTrees", "leaf", "LResidualTrees$Whole;", true)
  | 9 => ("ResidualTrees", "common", "LResidualTrees$Whole;", true)
  | 10 => ("ResidualTrees", "square", "LResidualTrees$Whole;", true)
  | 11 => ("ResidualTrees", "squares", "LResidualTrees$Whole;", true)
  | _ => ("ResidualTrees", "fewest", "LResidualTrees$Whole;", true)
def ty_R : Nat → FieldType := fun k => match k with
  | 0 => .object "ResidualTrees$Table"
  | 1 => .object "ResidualTrees$Plan"
  | 2 => .array (.object "ResidualTrees$Whole")
  | 3 => .object "ResidualTrees$Grower"
  | 4 => .object "java/util/ArrayList"
  | 5 => .int
  | 6 => .object "ResidualTrees$Out"
  | 7 => .array .int
  | 8 => .object "ResidualTrees$Whole"
  | 9 => .object "ResidualTrees$Whole"
  | 10 => .object "ResidualTrees$Whole"
  | 11 => .object "ResidualTrees$Whole"
  | _ => .object "ResidualTrees$Whole"
theorem m_R : ∀ a, a < 13 → ∀ b, b < 13 → a ≠ b → (T_R a).2.1 ≠ (T_R b).2.1 := by decide +kernel
theorem ty_R_ok : ∀ k, k < 13 → parseFieldDescriptor (T_R k).2.2.1 = some (ty_R k) := by decide +kernel
def R_C : String := "ResidualTrees$Column"
def T_C : u_T := fun k => match k with
  | 0 => ("ResidualTrees$Column", "values", "[I", true)
  | 1 => ("ResidualTrees$Column", "edges", "[I", true)
  | 2 => ("ResidualTrees$Column", "edgeCount", "I", false)
  | _ => ("ResidualTrees$Column", "ofKinds", "Z", false)
def ty_C : Nat → FieldType := fun k => match k with
  | 0 => .array .int
  | 1 => .array .int
  | 2 => .int
  | _ => .boolean
theorem m_C : ∀ a, a < 4 → ∀ b, b < 4 → a ≠ b → (T_C a).2.1 ≠ (T_C b).2.1 := by decide +kernel
theorem ty_C_ok : ∀ k, k < 4 → parseFieldDescriptor (T_C k).2.2.1 = some (ty_C k) := by decide +kernel
def R_T : String := "ResidualTrees$Table"
def T_T : u_T := fun k => match k with
  | 0 => ("ResidualTrees$Table", "columns", "[LResidualTrees$Column;", true)
  | 1 => ("ResidualTrees$Table", "targets", "[I", true)
  | 2 => ("ResidualTrees$Table", "width", "I", false)
  | _ => ("ResidualTrees$Table", "rows", "I", false)
def ty_T : Nat → FieldType := fun k => match k with
  | 0 => .array (.object "ResidualTrees$Column")
  | 1 => .array .int
  | 2 => .int
  | _ => .int
theorem m_T : ∀ a, a < 4 → ∀ b, b < 4 → a ≠ b → (T_T a).2.1 ≠ (T_T b).2.1 := by decide +kernel
theorem ty_T_ok : ∀ k, k < 4 → parseFieldDescriptor (T_T k).2.2.1 = some (ty_T k) := by decide +kernel
def R_P : String := "ResidualTrees$Plan"
def T_P : u_T := fun k => match k with
  | 0 => ("ResidualTrees$Plan", "depth", "I", false)
  | 1 => ("ResidualTrees$Plan", "least", "I", false)
  | 2 => ("ResidualTrees$Plan", "weight", "I", false)
  | 3 => ("ResidualTrees$Plan", "rateUpper", "I", false)
  | 4 => ("ResidualTrees$Plan", "rateLower", "I", false)
  | 5 => ("ResidualTrees$Plan", "sampleBits", "J", false)
  | _ => ("ResidualTrees$Plan", "choiceBits", "I", false)
def ty_P : Nat → FieldType := fun k => match k with
  | 0 => .int
  | 1 => .int
  | 2 => .int
  | 3 => .int
  | 4 => .int
  | 5 => .long
  | _ => .int
theorem m_P : ∀ a, a < 7 → ∀ b, b < 7 → a ≠ b → (T_P a).2.1 ≠ (T_P b).2.1 := by decide +kernel
theorem ty_P_ok : ∀ k, k < 7 → parseFieldDescriptor (T_P k).2.2.1 = some (ty_P k) := by decide +kernel
def R_W : String := "ResidualTrees$Whole"
def T_W : u_T := fun k => match k with
  | 0 => ("ResidualTrees$Whole", "words", "[I", true)
  | 1 => ("ResidualTrees$Whole", "length", "I", false)
  | _ => ("ResidualTrees$Whole", "isBelow", "Z", false)
def ty_W : Nat → FieldType := fun k => match k with
  | 0 => .array .int
  | 1 => .int
  | _ => .boolean
theorem m_W : ∀ a, a < 3 → ∀ b, b < 3 → a ≠ b → (T_W a).2.1 ≠ (T_W b).2.1 := by decide +kernel
theorem ty_W_ok : ∀ k, k < 3 → parseFieldDescriptor (T_W k).2.2.1 = some (ty_W k) := by decide +kernel
def R_G : String := "ResidualTrees$Group"
def T_G : u_T := fun k => match k with
  | 0 => ("ResidualTrees$Group", "rows", "J", false)
  | _ => ("ResidualTrees$Group", "sum", "LResidualTrees$Whole;", true)
def ty_G : Nat → FieldType := fun k => match k with
  | 0 => .long
  | _ => .object "ResidualTrees$Whole"
theorem m_G : ∀ a, a < 2 → ∀ b, b < 2 → a ≠ b → (T_G a).2.1 ≠ (T_G b).2.1 := by decide +kernel
theorem ty_G_ok : ∀ k, k < 2 → parseFieldDescriptor (T_G k).2.2.1 = some (ty_G k) := by decide +kernel
def R_S : String := "ResidualTrees$Split"
def T_S : u_T := fun k => match k with
  | 0 => ("ResidualTrees$Split", "column", "I", false)
  | 1 => ("ResidualTrees$Split", "mark", "I", false)
  | 2 => ("ResidualTrees$Split", "ofKinds", "Z", false)
  | 3 => ("ResidualTrees$Split", "missingLeft", "Z", false)
  | 4 => ("ResidualTrees$Split", "leftRows", "J", false)
  | 5 => ("ResidualTrees$Split", "worth", "LResidualTrees$Whole;", true)
  | _ => ("ResidualTrees$Split", "worthUnder", "I", false)
def ty_S : Nat → FieldType := fun k => match k with
  | 0 => .int
  | 1 => .int
  | 2 => .boolean
  | 3 => .boolean
  | 4 => .long
  | 5 => .object "ResidualTrees$Whole"
  | _ => .int
theorem m_S : ∀ a, a < 7 → ∀ b, b < 7 → a ≠ b → (T_S a).2.1 ≠ (T_S b).2.1 := by decide +kernel
theorem ty_S_ok : ∀ k, k < 7 → parseFieldDescriptor (T_S k).2.2.1 = some (ty_S k) := by decide +kernel
def R_Gr : String := "ResidualTrees$Grower"
def T_Gr : u_T := fun k => match k with
  | 0 => ("ResidualTrees$Grower", "table", "LResidualTrees$Table;", true)
  | 1 => ("ResidualTrees$Grower", "plan", "LResidualTrees$Plan;", true)
  | 2 => ("ResidualTrees$Grower", "residuals", "[LResidualTrees$Whole;", true)
  | 3 => ("ResidualTrees$Grower", "groups", "[LResidualTrees$Group;", true)
  | 4 => ("ResidualTrees$Grower", "order", "[I", true)
  | 5 => ("ResidualTrees$Grower", "missing", "LResidualTrees$Group;", true)
  | 6 => ("ResidualTrees$Grower", "below", "LResidualTrees$Group;", true)
  | 7 => ("ResidualTrees$Grower", "side", "LResidualTrees$Group;", true)
  | 8 => ("ResidualTrees$Grower", "otherSide", "LResidualTrees$Whole;", true)
  | 9 => ("ResidualTrees$Grower", "scaled", "LResidualTrees$Whole;", true)
  | 10 => ("ResidualTrees$Grower", "otherScaled", "LResidualTrees$Whole;", true)
  | 11 => ("ResidualTrees$Grower", "best", "LResidualTrees$Split;", false)
  | _ => ("ResidualTrees$Grower", "tried", "LResidualTrees$Split;", false)
def ty_Gr : Nat → FieldType := fun k => match k with
  | 0 => .object "ResidualTrees$Table"
  | 1 => .object "ResidualTrees$Plan"
  | 2 => .array (.object "ResidualTrees$Whole")
  | 3 => .array (.object "ResidualTrees$Group")
  | 4 => .array .int
  | 5 => .object "ResidualTrees$Group"
  | 6 => .object "ResidualTrees$Group"
  | 7 => .object "ResidualTrees$Group"
  | 8 => .object "ResidualTrees$Whole"
  | 9 => .object "ResidualTrees$Whole"
  | 10 => .object "ResidualTrees$Whole"
  | 11 => .object "ResidualTrees$Split"
  | _ => .object "ResidualTrees$Split"
theorem m_Gr : ∀ a, a < 13 → ∀ b, b < 13 → a ≠ b → (T_Gr a).2.1 ≠ (T_Gr b).2.1 := by decide +kernel
theorem ty_Gr_ok : ∀ k, k < 13 → parseFieldDescriptor (T_Gr k).2.2.1 = some (ty_Gr k) := by decide +kernel
def R_O : String := "ResidualTrees$Out"
def T_O : u_T := fun k => match k with
  | 0 => ("ResidualTrees$Out", "bytes", "[B", true)
  | 1 => ("ResidualTrees$Out", "length", "I", false)
  | 2 => ("ResidualTrees$Out", "upper", "[LResidualTrees$Whole;", true)
  | _ => ("ResidualTrees$Out", "lower", "LResidualTrees$Whole;", true)
def ty_O : Nat → FieldType := fun k => match k with
  | 0 => .array .byte
  | 1 => .int
  | 2 => .array (.object "ResidualTrees$Whole")
  | _ => .object "ResidualTrees$Whole"
theorem m_O : ∀ a, a < 4 → ∀ b, b < 4 → a ≠ b → (T_O a).2.1 ≠ (T_O b).2.1 := by decide +kernel
theorem ty_O_ok : ∀ k, k < 4 → parseFieldDescriptor (T_O k).2.2.1 = some (ty_O k) := by decide +kernel
def R_Tr : String := "ResidualTrees$Tree"
def T_Tr : u_T := fun k => match k with
  | 0 => ("ResidualTrees$Tree", "nodes", "Ljava/util/ArrayList;", true)
  | 1 => ("ResidualTrees$Tree", "nodeCount", "I", false)
  | 2 => ("ResidualTrees$Tree", "weight", "I", false)
  | 3 => ("ResidualTrees$Tree", "rateUpper", "I", false)
  | 4 => ("ResidualTrees$Tree", "rateLower", "I", false)
  | _ => ("ResidualTrees$Tree", "scale", "J", false)
def ty_Tr : Nat → FieldType := fun k => match k with
  | 0 => .object "java/util/ArrayList"
  | 1 => .int
  | 2 => .int
  | 3 => .int
  | 4 => .int
  | _ => .long
theorem m_Tr : ∀ a, a < 6 → ∀ b, b < 6 → a ≠ b → (T_Tr a).2.1 ≠ (T_Tr b).2.1 := by decide +kernel
theorem ty_Tr_ok : ∀ k, k < 6 → parseFieldDescriptor (T_Tr k).2.2.1 = some (ty_Tr k) := by decide +kernel
def R_N : String := "ResidualTrees$Node"
def T_N : u_T := fun k => match k with
  | 0 => ("ResidualTrees$Node", "column", "I", false)
  | 1 => ("ResidualTrees$Node", "mark", "I", false)
  | 2 => ("ResidualTrees$Node", "ofKinds", "Z", false)
  | 3 => ("ResidualTrees$Node", "missingLeft", "Z", false)
  | 4 => ("ResidualTrees$Node", "left", "I", false)
  | 5 => ("ResidualTrees$Node", "right", "I", false)
  | 6 => ("ResidualTrees$Node", "rows", "I", false)
  | 7 => ("ResidualTrees$Node", "depth", "I", false)
  | _ => ("ResidualTrees$Node", "sum", "LResidualTrees$Whole;", true)
def ty_N : Nat → FieldType := fun k => match k with
  | 0 => .int
  | 1 => .int
  | 2 => .boolean
  | 3 => .boolean
  | 4 => .int
  | 5 => .int
  | 6 => .int
  | 7 => .int
  | _ => .object "ResidualTrees$Whole"
theorem m_N : ∀ a, a < 9 → ∀ b, b < 9 → a ≠ b → (T_N a).2.1 ≠ (T_N b).2.1 := by decide +kernel
theorem ty_N_ok : ∀ k, k < 9 → parseFieldDescriptor (T_N k).2.2.1 = some (ty_N k) := by decide +kernel
def R_M : String := "ResidualTreesModel"
def T_M : u_T := fun k => match k with
  | 0 => ("ResidualTreesModel", "prime", "[I", true)
  | 1 => ("ResidualTreesModel", "fault", "I", false)
  | 2 => ("ResidualTreesModel", "columns", "I", false)
  | 3 => ("ResidualTreesModel", "rows", "I", false)
  | 4 => ("ResidualTreesModel", "targets", "[I", true)
  | 5 => ("ResidualTreesModel", "values", "[I", true)
  | 6 => ("ResidualTreesModel", "isKinds", "[Z", true)
  | 7 => ("ResidualTreesModel", "edges", "[I", true)
  | 8 => ("ResidualTreesModel", "edgeMany", "[I", true)
  | 9 => ("ResidualTreesModel", "question", "[I", true)
  | 10 => ("ResidualTreesModel", "depth", "I", false)
  | 11 => ("ResidualTreesModel", "least", "I", false)
  | 12 => ("ResidualTreesModel", "weight", "I", false)
  | 13 => ("ResidualTreesModel", "up", "I", false)
  | 14 => ("ResidualTreesModel", "low", "I", false)
  | 15 => ("ResidualTreesModel", "sampleBits", "J", false)
  | 16 => ("ResidualTreesModel", "choiceBits", "I", false)
  | 17 => ("ResidualTreesModel", "trees", "I", false)
  | 18 => ("ResidualTreesModel", "nodeMany", "[I", true)
  | 19 => ("ResidualTreesModel", "column", "[I", true)
  | 20 => ("ResidualTreesModel", "edge", "[I", true)
  | 21 => ("ResidualTreesModel", "toLeft", "[Z", true)
  | 22 => ("ResidualTreesModel", "left", "[I", true)
  | 23 => ("ResidualTreesModel", "right", "[I", true)
  | 24 => ("ResidualTreesModel", "many", "[I", true)
  | 25 => ("ResidualTreesModel", "deep", "[I", true)
  | 26 => ("ResidualTreesModel", "byKinds", "[Z", true)
  | 27 => ("ResidualTreesModel", "upper", "[I", true)
  | 28 => ("ResidualTreesModel", "lower", "[I", true)
  | 29 => ("ResidualTreesModel", "one", "[I", true)
  | 30 => ("ResidualTreesModel", "two", "[I", true)
  | 31 => ("ResidualTreesModel", "three", "[I", true)
  | 32 => ("ResidualTreesModel", "product", "[I", true)
  | 33 => ("ResidualTreesModel", "sumLeft", "[I", true)
  | 34 => ("ResidualTreesModel", "sumRight", "[I", true)
  | 35 => ("ResidualTreesModel", "gain", "[I", true)
  | 36 => ("ResidualTreesModel", "bestGain", "[I", true)
  | 37 => ("ResidualTreesModel", "total", "[I", true)
  | 38 => ("ResidualTreesModel", "bestTotal", "[I", true)
  | 39 => ("ResidualTreesModel", "scaled", "[I", true)
  | 40 => ("ResidualTreesModel", "oneLow", "[I", true)
  | 41 => ("ResidualTreesModel", "twoLow", "[I", true)
  | 42 => ("ResidualTreesModel", "totalLow", "[I", true)
  | 43 => ("ResidualTreesModel", "bestLow", "[I", true)
  | 44 => ("ResidualTreesModel", "common", "[I", true)
  | 45 => ("ResidualTreesModel", "restUp", "[I", true)
  | 46 => ("ResidualTreesModel", "restLow", "[I", true)
  | 47 => ("ResidualTreesModel", "told", "I", false)
  | 48 => ("ResidualTreesModel", "out", "[B", true)
  | 49 => ("ResidualTreesModel", "digits", "[B", true)
  | 50 => ("ResidualTreesModel", "bestUnder", "I", false)
  | 51 => ("ResidualTreesModel", "bestColumn", "I", false)
  | 52 => ("ResidualTreesModel", "bestEdge", "I", false)
  | 53 => ("ResidualTreesModel", "bestLeft", "Z", false)
  | 54 => ("ResidualTreesModel", "bestSide", "J", false)
  | 55 => ("ResidualTreesModel", "waiting", "I", false)
  | 56 => ("ResidualTreesModel", "waitRows", "[J", true)
  | 57 => ("ResidualTreesModel", "waitDeep", "[I", true)
  | 58 => ("ResidualTreesModel", "waitAbove", "[I", true)
  | _ => ("ResidualTreesModel", "waitLeft", "[Z", true)
def ty_M : Nat → FieldType := fun k => match k with
  | 0 => .array .int
  | 1 => .int
  | 2 => .int
  | 3 => .int
  | 4 => .array .int
  | 5 => .array .int
  | 6 => .array .boolean
  | 7 => .array .int
  | 8 => .array .int
  | 9 => .array .int
  | 10 => .int
  | 11 => .int
  | 12 => .int
  | 13 => .int
  | 14 => .int
  | 15 => .long
  | 16 => .int
  | 17 => .int
  | 18 => .array .int
  | 19 => .array .int
  | 20 => .array .int
  | 21 => .array .boolean
  | 22 => .array .int
  | 23 => .array .int
  | 24 => .array .int
  | 25 => .array .int
  | 26 => .array .boolean
  | 27 => .array .int
  | 28 => .array .int
  | 29 => .array .int
  | 30 => .array .int
  | 31 => .array .int
  | 32 => .array .int
  | 33 => .array .int
  | 34 => .array .int
  | 35 => .array .int
  | 36 => .array .int
  | 37 => .array .int
  | 38 => .array .int
  | 39 => .array .int
  | 40 => .array .int
  | 41 => .array .int
  | 42 => .array .int
  | 43 => .array .int
  | 44 => .array .int
  | 45 => .array .int
  | 46 => .array .int
  | 47 => .int
  | 48 => .array .byte
  | 49 => .array .byte
  | 50 => .int
  | 51 => .int
  | 52 => .int
  | 53 => .boolean
  | 54 => .long
  | 55 => .int
  | 56 => .array .long
  | 57 => .array .int
  | 58 => .array .int
  | _ => .array .boolean
theorem m_M : ∀ a, a < 60 → ∀ b, b < 60 → a ≠ b → (T_M a).2.1 ≠ (T_M b).2.1 := by decide +kernel
theorem ty_M_ok : ∀ k, k < 60 → parseFieldDescriptor (T_M k).2.2.1 = some (ty_M k) := by decide +kernel
def R_AL : String := "java/util/ArrayList"
def T_AL : u_T := fun k => match k with
  | 0 => ("java/util/ArrayList", "elementData", "[Ljava/lang/Object;", false)
  | 1 => ("java/util/ArrayList", "size", "I", false)
  | _ => ("java/util/AbstractList", "modCount", "I", false)
def ty_AL : Nat → FieldType := fun k => match k with
  | 0 => .array (.object "java/lang/Object")
  | 1 => .int
  | _ => .int
theorem m_AL : ∀ a, a < 3 → ∀ b, b < 3 → a ≠ b → (T_AL a).2.1 ≠ (T_AL b).2.1 := by decide +kernel
theorem ty_AL_ok : ∀ k, k < 3 → parseFieldDescriptor (T_AL k).2.2.1 = some (ty_AL k) := by decide +kernel
def R_L : String := "ResidualTreesLaw"
def R_Lg : String := "java/lang/Long"
def R_Ar : String := "java/util/Arrays"
def R_In : String := "java/lang/Integer"
abbrev cR_init : ByteArray := prog_1_method_1_code
def yR_init : MethodName := ⟨R_R, "<init>", "()V"⟩
abbrev WR_init : List Cond := Cond.code yR_init cR_init 1 none :: TB
abbrev cR_begin : ByteArray := prog_1_method_2_code
def yR_begin : MethodName := ⟨R_R, "begin", "(I)V"⟩
abbrev WR_begin : List Cond := Cond.code yR_begin cR_begin 2 none :: TB
abbrev cR_add : ByteArray := prog_1_method_3_code
def yR_add : MethodName := ⟨R_R, "add", "(I)I"⟩
abbrev WR_add : List Cond := Cond.code yR_add cR_add 2 (some .int) :: TB
abbrev cR_put : ByteArray := prog_1_method_4_code
def yR_put : MethodName := ⟨R_R, "put", "(III)I"⟩
abbrev WR_put : List Cond := Cond.code yR_put cR_put 4 (some .int) :: TB
abbrev cR_target : ByteArray := prog_1_method_5_code
def yR_target : MethodName := ⟨R_R, "target", "(II)I"⟩
abbrev WR_target : List Cond := Cond.code yR_target cR_target 4 (some .int) :: TB
abbrev cR_kinds : ByteArray := prog_1_method_6_code
def yR_kinds : MethodName := ⟨R_R, "kinds", "(IZ)Z"⟩
abbrev WR_kinds : List Cond := Cond.code yR_kinds cR_kinds 3 (some .boolean) :: TB
abbrev cR_cut : ByteArray := prog_1_method_7_code
def yR_cut : MethodName := ⟨R_R, "cut", "(IZI)I"⟩
abbrev WR_cut : List Cond := Cond.code yR_cut cR_cut 5 (some .int) :: TB
abbrev cR_edge : ByteArray := prog_1_method_8_code
def yR_edge : MethodName := ⟨R_R, "edge", "(II)I"⟩
abbrev WR_edge : List Cond := Cond.code yR_edge cR_edge 3 (some .int) :: TB
abbrev cR_bin : ByteArray := prog_1_method_9_code
def yR_bin : MethodName := ⟨R_R, "bin", "(II)I"⟩
abbrev WR_bin : List Cond := Cond.code yR_bin cR_bin 3 (some .int) :: TB
abbrev cR_shape : ByteArray := prog_1_method_10_code
def yR_shape : MethodName := ⟨R_R, "shape", "(III)V"⟩
abbrev WR_shape : List Cond := Cond.code yR_shape cR_shape 4 none :: TB
abbrev cR_rate : ByteArray := prog_1_method_11_code
def yR_rate : MethodName := ⟨R_R, "rate", "(II)V"⟩
abbrev WR_rate : List Cond := Cond.code yR_rate cR_rate 3 none :: TB
abbrev cR_sample : ByteArray := prog_1_method_12_code
def yR_sample : MethodName := ⟨R_R, "sample", "(JI)I"⟩
abbrev WR_sample : List Cond := Cond.code yR_sample cR_sample 4 (some .int) :: TB
abbrev cR_train : ByteArray := prog_1_method_13_code
def yR_train : MethodName := ⟨R_R, "train", "(I)I"⟩
abbrev WR_train : List Cond := Cond.code yR_train cR_train 7 (some .int) :: TB
abbrev cR_drop : ByteArray := prog_1_method_14_code
def yR_drop : MethodName := ⟨R_R, "drop", "(I)I"⟩
abbrev WR_drop : List Cond := Cond.code yR_drop cR_drop 3 (some .int) :: TB
abbrev cR_node : ByteArray := prog_1_method_15_code
def yR_node : MethodName := ⟨R_R, "node", "(III)I"⟩
abbrev WR_node : List Cond := Cond.code yR_node cR_node 5 (some .int) :: TB
abbrev cR_count : ByteArray := prog_1_method_16_code
def yR_count : MethodName := ⟨R_R, "count", "(I)I"⟩
abbrev WR_count : List Cond := Cond.code yR_count cR_count 2 (some .int) :: TB
abbrev cR_nodes : ByteArray := prog_1_method_17_code
def yR_nodes : MethodName := ⟨R_R, "nodes", "(I)I"⟩
abbrev WR_nodes : List Cond := Cond.code yR_nodes cR_nodes 2 (some .int) :: TB
abbrev cR_uses : ByteArray := prog_1_method_18_code
def yR_uses : MethodName := ⟨R_R, "uses", "(I)I"⟩
abbrev WR_uses : List Cond := Cond.code yR_uses cR_uses 4 (some .int) :: TB
abbrev cR_tell : ByteArray := prog_1_method_19_code
def yR_tell : MethodName := ⟨R_R, "tell", "(II)I"⟩
abbrev WR_tell : List Cond := Cond.code yR_tell cR_tell 5 (some .int) :: TB
abbrev cR_residual : ByteArray := prog_1_method_20_code
def yR_residual : MethodName := ⟨R_R, "residual", "(II)I"⟩
abbrev WR_residual : List Cond := Cond.code yR_residual cR_residual 3 (some .int) :: TB
abbrev cR_ask : ByteArray := prog_1_method_21_code
def yR_ask : MethodName := ⟨R_R, "ask", "(II)I"⟩
abbrev WR_ask : List Cond := Cond.code yR_ask cR_ask 3 (some .int) :: TB
abbrev cR_predict : ByteArray := prog_1_method_22_code
def yR_predict : MethodName := ⟨R_R, "predict", "(I)I"⟩
abbrev WR_predict : List Cond := Cond.code yR_predict cR_predict 2 (some .int) :: TB
abbrev cR_error : ByteArray := prog_1_method_23_code
def yR_error : MethodName := ⟨R_R, "error", "(JI)I"⟩
abbrev WR_error : List Cond := Cond.code yR_error cR_error 4 (some .int) :: TB
abbrev cR_best : ByteArray := prog_1_method_24_code
def yR_best : MethodName := ⟨R_R, "best", "(J)I"⟩
abbrev WR_best : List Cond := Cond.code yR_best cR_best 9 (some .int) :: TB
abbrev cR_byteAt : ByteArray := prog_1_method_25_code
def yR_byteAt : MethodName := ⟨R_R, "byteAt", "(I)I"⟩
abbrev WR_byteAt : List Cond := Cond.code yR_byteAt cR_byteAt 2 (some .int) :: TB
abbrev cR_startOver : ByteArray := prog_1_method_26_code
def yR_startOver : MethodName := ⟨R_R, "startOver", "(I)V"⟩
abbrev WR_startOver : List Cond := Cond.code yR_startOver cR_startOver 2 none :: TB
abbrev cR_demand : ByteArray := prog_1_method_27_code
def yR_demand : MethodName := ⟨R_R, "demand", "(Z)V"⟩
abbrev WR_demand : List Cond := Cond.code yR_demand cR_demand 1 none :: TB
abbrev cR_demandState : ByteArray := prog_1_method_28_code
def yR_demandState : MethodName := ⟨R_R, "demandState", "(Z)V"⟩
abbrev WR_demandState : List Cond := Cond.code yR_demandState cR_demandState 1 none :: TB
abbrev cR_isWithin : ByteArray := prog_1_method_29_code
def yR_isWithin : MethodName := ⟨R_R, "isWithin", "(III)Z"⟩
abbrev WR_isWithin : List Cond := Cond.code yR_isWithin cR_isWithin 3 (some .boolean) :: TB
abbrev cR_isTarget : ByteArray := prog_1_method_30_code
def yR_isTarget : MethodName := ⟨R_R, "isTarget", "(I)Z"⟩
abbrev WR_isTarget : List Cond := Cond.code yR_isTarget cR_isTarget 1 (some .boolean) :: TB
abbrev cR_isNumber : ByteArray := prog_1_method_31_code
def yR_isNumber : MethodName := ⟨R_R, "isNumber", "(I)Z"⟩
abbrev WR_isNumber : List Cond := Cond.code yR_isNumber cR_isNumber 1 (some .boolean) :: TB
abbrev cR_isKind : ByteArray := prog_1_method_32_code
def yR_isKind : MethodName := ⟨R_R, "isKind", "(I)Z"⟩
abbrev WR_isKind : List Cond := Cond.code yR_isKind cR_isKind 1 (some .boolean) :: TB
abbrev cR_hasNode : ByteArray := prog_1_method_33_code
def yR_hasNode : MethodName := ⟨R_R, "hasNode", "(II)Z"⟩
abbrev WR_hasNode : List Cond := Cond.code yR_hasNode cR_hasNode 3 (some .boolean) :: TB
abbrev cR_freshTree : ByteArray := prog_1_method_34_code
def yR_freshTree : MethodName := ⟨R_R, "freshTree", "()LResidualTrees$Tree;"⟩
abbrev WR_freshTree : List Cond := Cond.code yR_freshTree cR_freshTree 2 (some (.object "ResidualTrees$Tree")) :: TB
abbrev cR_leave : ByteArray := prog_1_method_35_code
def yR_leave : MethodName := ⟨R_R, "leave", "(IILResidualTrees$Whole;)V"⟩
abbrev WR_leave : List Cond := Cond.code yR_leave cR_leave 5 none :: TB
abbrev cR_leaveBehind : ByteArray := prog_1_method_36_code
def yR_leaveBehind : MethodName := ⟨R_R, "leaveBehind", "(LResidualTrees$Tree;ILResidualTrees$Whole;)V"⟩
abbrev WR_leaveBehind : List Cond := Cond.code yR_leaveBehind cR_leaveBehind 4 none :: TB
abbrev cR_leaveAll : ByteArray := prog_1_method_37_code
def yR_leaveAll : MethodName := ⟨R_R, "leaveAll", "(I)V"⟩
abbrev WR_leaveAll : List Cond := Cond.code yR_leaveAll cR_leaveAll 3 none :: TB
abbrev cR_setToScales : ByteArray := prog_1_method_38_code
def yR_setToScales : MethodName := ⟨R_R, "setToScales", "(LResidualTrees$Whole;I)V"⟩
abbrev WR_setToScales : List Cond := Cond.code yR_setToScales cR_setToScales 4 none :: TB
abbrev cR_setToGain : ByteArray := prog_1_method_39_code
def yR_setToGain : MethodName := ⟨R_R, "setToGain", "(LResidualTrees$Tree;LResidualTrees$Node;)V"⟩
abbrev WR_setToGain : List Cond := Cond.code yR_setToGain cR_setToGain 8 none :: TB
abbrev cR_setToSides : ByteArray := prog_1_method_40_code
def yR_setToSides : MethodName := ⟨R_R, "setToSides", "(LResidualTrees$Whole;LResidualTrees$Whole;ILResidualTrees$Whole;ILResidualTrees$Whole;)V"⟩
abbrev WR_setToSides : List Cond := Cond.code yR_setToSides cR_setToSides 6 none :: TB
abbrev cR_sumSquares : ByteArray := prog_1_method_41_code
def yR_sumSquares : MethodName := ⟨R_R, "sumSquares", "(J)V"⟩
abbrev WR_sumSquares : List Cond := Cond.code yR_sumSquares cR_sumSquares 4 none :: TB
abbrev cR_commonBits : ByteArray := prog_1_method_42_code
def yR_commonBits : MethodName := ⟨R_R, "commonBits", "()I"⟩
abbrev WR_commonBits : List Cond := Cond.code yR_commonBits cR_commonBits 1 (some .int) :: TB
abbrev cR_reduce : ByteArray := prog_1_method_43_code
def yR_reduce : MethodName := ⟨R_R, "reduce", "([LResidualTrees$Whole;ILResidualTrees$Whole;)V"⟩
abbrev WR_reduce : List Cond := Cond.code yR_reduce cR_reduce 9 none :: TB
abbrev cR_divides : ByteArray := prog_1_method_44_code
def yR_divides : MethodName := ⟨R_R, "divides", "(I[LResidualTrees$Whole;ILResidualTrees$Whole;)Z"⟩
abbrev WR_divides : List Cond := Cond.code yR_divides cR_divides 6 (some .boolean) :: TB
abbrev cR_greatestDivisor : ByteArray := prog_1_method_45_code
def yR_greatestDivisor : MethodName := ⟨R_R, "greatestDivisor", "(JJ)J"⟩
abbrev WR_greatestDivisor : List Cond := Cond.code yR_greatestDivisor cR_greatestDivisor 11 (some .long) :: TB
abbrev cR_wholes : ByteArray := prog_1_method_46_code
def yR_wholes : MethodName := ⟨R_R, "wholes", "(I)[LResidualTrees$Whole;"⟩
abbrev WR_wholes : List Cond := Cond.code yR_wholes cR_wholes 3 (some (.array (.object "ResidualTrees$Whole"))) :: TB
abbrev cM_init : ByteArray := prog_13_method_1_code
def yM_init : MethodName := ⟨R_M, "<init>", "()V"⟩
abbrev WM_init : List Cond := Cond.code yM_init cM_init 1 none :: TB
abbrev cM_thrown : ByteArray := prog_13_method_2_code
def yM_thrown : MethodName := ⟨R_M, "thrown", "()I"⟩
abbrev WM_thrown : List Cond := Cond.code yM_thrown cM_thrown 1 (some .int) :: TB
abbrev cM_refused : ByteArray := prog_13_method_3_code
def yM_refused : MethodName := ⟨R_M, "refused", "(I)Z"⟩
abbrev WM_refused : List Cond := Cond.code yM_refused cM_refused 2 (some .boolean) :: TB
abbrev cM_in : ByteArray := prog_13_method_4_code
def yM_in : MethodName := ⟨R_M, "in", "(III)Z"⟩
abbrev WM_in : List Cond := Cond.code yM_in cM_in 3 (some .boolean) :: TB
abbrev cM_setInt : ByteArray := prog_13_method_5_code
def yM_setInt : MethodName := ⟨R_M, "setInt", "([IJ)V"⟩
abbrev WM_setInt : List Cond := Cond.code yM_setInt cM_setInt 6 none :: TB
abbrev cM_copy : ByteArray := prog_13_method_6_code
def yM_copy : MethodName := ⟨R_M, "copy", "([I[I)V"⟩
abbrev WM_copy : List Cond := Cond.code yM_copy cM_copy 3 none :: TB
abbrev cM_compareSizes : ByteArray := prog_13_method_7_code
def yM_compareSizes : MethodName := ⟨R_M, "compareSizes", "([I[I)I"⟩
abbrev WM_compareSizes : List Cond := Cond.code yM_compareSizes cM_compareSizes 3 (some .int) :: TB
abbrev cM_compare : ByteArray := prog_13_method_8_code
def yM_compare : MethodName := ⟨R_M, "compare", "([I[I)I"⟩
abbrev WM_compare : List Cond := Cond.code yM_compare cM_compare 2 (some .int) :: TB
abbrev cM_trim : ByteArray := prog_13_method_9_code
def yM_trim : MethodName := ⟨R_M, "trim", "([II)V"⟩
abbrev WM_trim : List Cond := Cond.code yM_trim cM_trim 3 none :: TB
abbrev cM_add : ByteArray := prog_13_method_10_code
def yM_add : MethodName := ⟨R_M, "add", "([I[II)V"⟩
abbrev WM_add : List Cond := Cond.code yM_add cM_add 4 none :: TB
abbrev cM_addSizes : ByteArray := prog_13_method_11_code
def yM_addSizes : MethodName := ⟨R_M, "addSizes", "([I[I)V"⟩
abbrev WM_addSizes : List Cond := Cond.code yM_addSizes cM_addSizes 6 none :: TB
abbrev cM_takeSizes : ByteArray := prog_13_method_12_code
def yM_takeSizes : MethodName := ⟨R_M, "takeSizes", "([I[II)V"⟩
abbrev WM_takeSizes : List Cond := Cond.code yM_takeSizes cM_takeSizes 10 none :: TB
abbrev cM_times : ByteArray := prog_13_method_13_code
def yM_times : MethodName := ⟨R_M, "times", "([II)V"⟩
abbrev WM_times : List Cond := Cond.code yM_times cM_times 8 none :: TB
abbrev cM_rest : ByteArray := prog_13_method_14_code
def yM_rest : MethodName := ⟨R_M, "rest", "([II)I"⟩
abbrev WM_rest : List Cond := Cond.code yM_rest cM_rest 5 (some .int) :: TB
abbrev cM_divide : ByteArray := prog_13_method_15_code
def yM_divide : MethodName := ⟨R_M, "divide", "([II)I"⟩
abbrev WM_divide : List Cond := Cond.code yM_divide cM_divide 7 (some .int) :: TB
abbrev cM_multiply : ByteArray := prog_13_method_16_code
def yM_multiply : MethodName := ⟨R_M, "multiply", "([I[I)V"⟩
abbrev WM_multiply : List Cond := Cond.code yM_multiply cM_multiply 10 none :: TB
abbrev cM_zero : ByteArray := prog_13_method_17_code
def yM_zero : MethodName := ⟨R_M, "zero", "([I)V"⟩
abbrev WM_zero : List Cond := Cond.code yM_zero cM_zero 2 none :: TB
abbrev cM_under : ByteArray := prog_13_method_18_code
def yM_under : MethodName := ⟨R_M, "under", "([II)V"⟩
abbrev WM_under : List Cond := Cond.code yM_under cM_under 5 none :: TB
abbrev cM_reduce : ByteArray := prog_13_method_19_code
def yM_reduce : MethodName := ⟨R_M, "reduce", "([I[I)V"⟩
abbrev WM_reduce : List Cond := Cond.code yM_reduce cM_reduce 5 none :: TB
abbrev cM_raise : ByteArray := prog_13_method_20_code
def yM_raise : MethodName := ⟨R_M, "raise", "([I[I[I)V"⟩
abbrev WM_raise : List Cond := Cond.code yM_raise cM_raise 5 none :: TB
abbrev cM_addFractions : ByteArray := prog_13_method_21_code
def yM_addFractions : MethodName := ⟨R_M, "addFractions", "([I[I[I[II)V"⟩
abbrev WM_addFractions : List Cond := Cond.code yM_addFractions cM_addFractions 6 none :: TB
abbrev cM_store : ByteArray := prog_13_method_22_code
def yM_store : MethodName := ⟨R_M, "store", "([I[II)V"⟩
abbrev WM_store : List Cond := Cond.code yM_store cM_store 4 none :: TB
abbrev cM_load : ByteArray := prog_13_method_23_code
def yM_load : MethodName := ⟨R_M, "load", "([II[I)V"⟩
abbrev WM_load : List Cond := Cond.code yM_load cM_load 4 none :: TB
abbrev cM_storeLows : ByteArray := prog_13_method_24_code
def yM_storeLows : MethodName := ⟨R_M, "storeLows", "([I[II)V"⟩
abbrev WM_storeLows : List Cond := Cond.code yM_storeLows cM_storeLows 4 none :: TB
abbrev cM_loadLows : ByteArray := prog_13_method_25_code
def yM_loadLows : MethodName := ⟨R_M, "loadLows", "([II[I)V"⟩
abbrev WM_loadLows : List Cond := Cond.code yM_loadLows cM_loadLows 4 none :: TB
abbrev cM_clear : ByteArray := prog_13_method_26_code
def yM_clear : MethodName := ⟨R_M, "clear", "(I)V"⟩
abbrev WM_clear : List Cond := Cond.code yM_clear cM_clear 3 none :: TB
abbrev cM_begin : ByteArray := prog_13_method_27_code
def yM_begin : MethodName := ⟨R_M, "begin", "(I)V"⟩
abbrev WM_begin : List Cond := Cond.code yM_begin cM_begin 2 none :: TB
abbrev cM_addb : ByteArray := prog_13_method_28_code
def yM_addb : MethodName := ⟨R_M, "add", "(I)I"⟩
abbrev WM_addb : List Cond := Cond.code yM_addb cM_addb 3 (some .int) :: TB
abbrev cM_noRow : ByteArray := prog_13_method_29_code
def yM_noRow : MethodName := ⟨R_M, "noRow", "(I)Z"⟩
abbrev WM_noRow : List Cond := Cond.code yM_noRow cM_noRow 2 (some .boolean) :: TB
abbrev cM_noColumn : ByteArray := prog_13_method_30_code
def yM_noColumn : MethodName := ⟨R_M, "noColumn", "(I)Z"⟩
abbrev WM_noColumn : List Cond := Cond.code yM_noColumn cM_noColumn 2 (some .boolean) :: TB
abbrev cM_isNumber : ByteArray := prog_13_method_31_code
def yM_isNumber : MethodName := ⟨R_M, "isNumber", "(I)Z"⟩
abbrev WM_isNumber : List Cond := Cond.code yM_isNumber cM_isNumber 1 (some .boolean) :: TB
abbrev cM_isValue : ByteArray := prog_13_method_32_code
def yM_isValue : MethodName := ⟨R_M, "isValue", "(II)Z"⟩
abbrev WM_isValue : List Cond := Cond.code yM_isValue cM_isValue 3 (some .boolean) :: TB
abbrev cM_put : ByteArray := prog_13_method_33_code
def yM_put : MethodName := ⟨R_M, "put", "(III)I"⟩
abbrev WM_put : List Cond := Cond.code yM_put cM_put 5 (some .int) :: TB
abbrev cM_target : ByteArray := prog_13_method_34_code
def yM_target : MethodName := ⟨R_M, "target", "(II)I"⟩
abbrev WM_target : List Cond := Cond.code yM_target cM_target 4 (some .int) :: TB
abbrev cM_kinds : ByteArray := prog_13_method_35_code
def yM_kinds : MethodName := ⟨R_M, "kinds", "(IZ)Z"⟩
abbrev WM_kinds : List Cond := Cond.code yM_kinds cM_kinds 6 (some .boolean) :: TB
abbrev cM_cut : ByteArray := prog_13_method_36_code
def yM_cut : MethodName := ⟨R_M, "cut", "(IZI)I"⟩
abbrev WM_cut : List Cond := Cond.code yM_cut cM_cut 11 (some .int) :: TB
abbrev cM_inOrder : ByteArray := prog_13_method_37_code
def yM_inOrder : MethodName := ⟨R_M, "inOrder", "(II)I"⟩
abbrev WM_inOrder : List Cond := Cond.code yM_inOrder cM_inOrder 9 (some .int) :: TB
abbrev cM_edge : ByteArray := prog_13_method_38_code
def yM_edge : MethodName := ⟨R_M, "edge", "(II)I"⟩
abbrev WM_edge : List Cond := Cond.code yM_edge cM_edge 3 (some .int) :: TB
abbrev cM_bin : ByteArray := prog_13_method_39_code
def yM_bin : MethodName := ⟨R_M, "bin", "(II)I"⟩
abbrev WM_bin : List Cond := Cond.code yM_bin cM_bin 5 (some .int) :: TB
abbrev cM_shape : ByteArray := prog_13_method_40_code
def yM_shape : MethodName := ⟨R_M, "shape", "(III)V"⟩
abbrev WM_shape : List Cond := Cond.code yM_shape cM_shape 4 none :: TB
abbrev cM_rate : ByteArray := prog_13_method_41_code
def yM_rate : MethodName := ⟨R_M, "rate", "(II)V"⟩
abbrev WM_rate : List Cond := Cond.code yM_rate cM_rate 3 none :: TB
abbrev cM_count : ByteArray := prog_13_method_42_code
def yM_count : MethodName := ⟨R_M, "count", "(J)I"⟩
abbrev WM_count : List Cond := Cond.code yM_count cM_count 4 (some .int) :: TB
abbrev cM_there : ByteArray := prog_13_method_43_code
def yM_there : MethodName := ⟨R_M, "there", "()J"⟩
abbrev WM_there : List Cond := Cond.code yM_there cM_there 1 (some .long) :: TB
abbrev cM_sample : ByteArray := prog_13_method_44_code
def yM_sample : MethodName := ⟨R_M, "sample", "(JI)I"⟩
abbrev WM_sample : List Cond := Cond.code yM_sample cM_sample 4 (some .int) :: TB
abbrev cM_goesLeft : ByteArray := prog_13_method_45_code
def yM_goesLeft : MethodName := ⟨R_M, "goesLeft", "(II)Z"⟩
abbrev WM_goesLeft : List Cond := Cond.code yM_goesLeft cM_goesLeft 3 (some .boolean) :: TB
abbrev cM_leafOf : ByteArray := prog_13_method_46_code
def yM_leafOf : MethodName := ⟨R_M, "leafOf", "(II)I"⟩
abbrev WM_leafOf : List Cond := Cond.code yM_leafOf cM_leafOf 5 (some .int) :: TB
abbrev cM_take : ByteArray := prog_13_method_47_code
def yM_take : MethodName := ⟨R_M, "take", "(I)V"⟩
abbrev WM_take : List Cond := Cond.code yM_take cM_take 2 none :: TB
abbrev cM_walk : ByteArray := prog_13_method_48_code
def yM_walk : MethodName := ⟨R_M, "walk", "(IIII)V"⟩
abbrev WM_walk : List Cond := Cond.code yM_walk cM_walk 6 none :: TB
abbrev cM_findResiduals : ByteArray := prog_13_method_49_code
def yM_findResiduals : MethodName := ⟨R_M, "findResiduals", "()V"⟩
abbrev WM_findResiduals : List Cond := Cond.code yM_findResiduals cM_findResiduals 3 none :: TB
abbrev cM_commonBits : ByteArray := prog_13_method_50_code
def yM_commonBits : MethodName := ⟨R_M, "commonBits", "()I"⟩
abbrev WM_commonBits : List Cond := Cond.code yM_commonBits cM_commonBits 3 (some .int) :: TB
abbrev cM_train : ByteArray := prog_13_method_51_code
def yM_train : MethodName := ⟨R_M, "train", "(I)I"⟩
abbrev WM_train : List Cond := Cond.code yM_train cM_train 6 (some .int) :: TB
abbrev cM_hold : ByteArray := prog_13_method_52_code
def yM_hold : MethodName := ⟨R_M, "hold", "(JIIZ)V"⟩
abbrev WM_hold : List Cond := Cond.code yM_hold cM_hold 6 none :: TB
abbrev cM_grow : ByteArray := prog_13_method_53_code
def yM_grow : MethodName := ⟨R_M, "grow", "(J)V"⟩
abbrev WM_grow : List Cond := Cond.code yM_grow cM_grow 8 none :: TB
abbrev cM_beginNode : ByteArray := prog_13_method_54_code
def yM_beginNode : MethodName := ⟨R_M, "beginNode", "(IJI)V"⟩
abbrev WM_beginNode : List Cond := Cond.code yM_beginNode cM_beginNode 5 none :: TB
abbrev cM_leaf : ByteArray := prog_13_method_55_code
def yM_leaf : MethodName := ⟨R_M, "leaf", "(IJ)V"⟩
abbrev WM_leaf : List Cond := Cond.code yM_leaf cM_leaf 4 none :: TB
abbrev cM_split : ByteArray := prog_13_method_56_code
def yM_split : MethodName := ⟨R_M, "split", "(I)V"⟩
abbrev WM_split : List Cond := Cond.code yM_split cM_split 3 none :: TB
abbrev cM_keep : ByteArray := prog_13_method_57_code
def yM_keep : MethodName := ⟨R_M, "keep", "(I[I)V"⟩
abbrev WM_keep : List Cond := Cond.code yM_keep cM_keep 3 none :: TB
abbrev cM_sum : ByteArray := prog_13_method_58_code
def yM_sum : MethodName := ⟨R_M, "sum", "(J[I)V"⟩
abbrev WM_sum : List Cond := Cond.code yM_sum cM_sum 5 none :: TB
abbrev cM_look : ByteArray := prog_13_method_59_code
def yM_look : MethodName := ⟨R_M, "look", "(J)V"⟩
abbrev WM_look : List Cond := Cond.code yM_look cM_look 10 none :: TB
abbrev cM_rowsOf : ByteArray := prog_13_method_60_code
def yM_rowsOf : MethodName := ⟨R_M, "rowsOf", "(JII)J"⟩
abbrev WM_rowsOf : List Cond := Cond.code yM_rowsOf cM_rowsOf 8 (some .long) :: TB
abbrev cM_isBefore : ByteArray := prog_13_method_61_code
def yM_isBefore : MethodName := ⟨R_M, "isBefore", "(JIJI)Z"⟩
abbrev WM_isBefore : List Cond := Cond.code yM_isBefore cM_isBefore 8 (some .boolean) :: TB
abbrev cM_lookAtKinds : ByteArray := prog_13_method_62_code
def yM_lookAtKinds : MethodName := ⟨R_M, "lookAtKinds", "(JJI)V"⟩
abbrev WM_lookAtKinds : List Cond := Cond.code yM_lookAtKinds cM_lookAtKinds 10 none :: TB
abbrev cM_nextKind : ByteArray := prog_13_method_63_code
def yM_nextKind : MethodName := ⟨R_M, "nextKind", "(JII)I"⟩
abbrev WM_nextKind : List Cond := Cond.code yM_nextKind cM_nextKind 9 (some .int) :: TB
abbrev cM_lookAtSide : ByteArray := prog_13_method_64_code
def yM_lookAtSide : MethodName := ⟨R_M, "lookAtSide", "(JJJII)V"⟩
abbrev WM_lookAtSide : List Cond := Cond.code yM_lookAtSide cM_lookAtSide 9 none :: TB
abbrev cM_weigh : ByteArray := prog_13_method_65_code
def yM_weigh : MethodName := ⟨R_M, "weigh", "(JJIIZ)V"⟩
abbrev WM_weigh : List Cond := Cond.code yM_weigh cM_weigh 13 none :: TB
abbrev cM_drop : ByteArray := prog_13_method_66_code
def yM_drop : MethodName := ⟨R_M, "drop", "(I)I"⟩
abbrev WM_drop : List Cond := Cond.code yM_drop cM_drop 3 (some .int) :: TB
abbrev cM_noTree : ByteArray := prog_13_method_67_code
def yM_noTree : MethodName := ⟨R_M, "noTree", "(I)Z"⟩
abbrev WM_noTree : List Cond := Cond.code yM_noTree cM_noTree 2 (some .boolean) :: TB
abbrev cM_noNode : ByteArray := prog_13_method_68_code
def yM_noNode : MethodName := ⟨R_M, "noNode", "(II)Z"⟩
abbrev WM_noNode : List Cond := Cond.code yM_noNode cM_noNode 3 (some .boolean) :: TB
abbrev cM_node : ByteArray := prog_13_method_69_code
def yM_node : MethodName := ⟨R_M, "node", "(III)I"⟩
abbrev WM_node : List Cond := Cond.code yM_node cM_node 5 (some .int) :: TB
abbrev cM_countb : ByteArray := prog_13_method_70_code
def yM_countb : MethodName := ⟨R_M, "count", "(I)I"⟩
abbrev WM_countb : List Cond := Cond.code yM_countb cM_countb 2 (some .int) :: TB
abbrev cM_nodes : ByteArray := prog_13_method_71_code
def yM_nodes : MethodName := ⟨R_M, "nodes", "(I)I"⟩
abbrev WM_nodes : List Cond := Cond.code yM_nodes cM_nodes 2 (some .int) :: TB
abbrev cM_uses : ByteArray := prog_13_method_72_code
def yM_uses : MethodName := ⟨R_M, "uses", "(I)I"⟩
abbrev WM_uses : List Cond := Cond.code yM_uses cM_uses 5 (some .int) :: TB
abbrev cM_writeDigits : ByteArray := prog_13_method_73_code
def yM_writeDigits : MethodName := ⟨R_M, "writeDigits", "([I)V"⟩
abbrev WM_writeDigits : List Cond := Cond.code yM_writeDigits cM_writeDigits 5 none :: TB
abbrev cM_write : ByteArray := prog_13_method_74_code
def yM_write : MethodName := ⟨R_M, "write", "([I[I)I"⟩
abbrev WM_write : List Cond := Cond.code yM_write cM_write 6 (some .int) :: TB
abbrev cM_tell : ByteArray := prog_13_method_75_code
def yM_tell : MethodName := ⟨R_M, "tell", "(II)I"⟩
abbrev WM_tell : List Cond := Cond.code yM_tell cM_tell 3 (some .int) :: TB
abbrev cM_residual : ByteArray := prog_13_method_76_code
def yM_residual : MethodName := ⟨R_M, "residual", "(II)I"⟩
abbrev WM_residual : List Cond := Cond.code yM_residual cM_residual 3 (some .int) :: TB
abbrev cM_ask : ByteArray := prog_13_method_77_code
def yM_ask : MethodName := ⟨R_M, "ask", "(II)I"⟩
abbrev WM_ask : List Cond := Cond.code yM_ask cM_ask 4 (some .int) :: TB
abbrev cM_predict : ByteArray := prog_13_method_78_code
def yM_predict : MethodName := ⟨R_M, "predict", "(I)I"⟩
abbrev WM_predict : List Cond := Cond.code yM_predict cM_predict 2 (some .int) :: TB
abbrev cM_sumSquares : ByteArray := prog_13_method_79_code
def yM_sumSquares : MethodName := ⟨R_M, "sumSquares", "(JI)V"⟩
abbrev WM_sumSquares : List Cond := Cond.code yM_sumSquares cM_sumSquares 6 none :: TB
abbrev cM_error : ByteArray := prog_13_method_80_code
def yM_error : MethodName := ⟨R_M, "error", "(JI)I"⟩
abbrev WM_error : List Cond := Cond.code yM_error cM_error 4 (some .int) :: TB
abbrev cM_best : ByteArray := prog_13_method_81_code
def yM_best : MethodName := ⟨R_M, "best", "(J)I"⟩
abbrev WM_best : List Cond := Cond.code yM_best cM_best 5 (some .int) :: TB
abbrev cM_byteAt : ByteArray := prog_13_method_82_code
def yM_byteAt : MethodName := ⟨R_M, "byteAt", "(I)I"⟩
abbrev WM_byteAt : List Cond := Cond.code yM_byteAt cM_byteAt 2 (some .int) :: TB
abbrev cC_init : ByteArray := prog_2_method_1_code
def yC_init : MethodName := ⟨R_C, "<init>", "()V"⟩
abbrev WC_init : List Cond := Cond.code yC_init cC_init 1 none :: TB
abbrev cC_takes : ByteArray := prog_2_method_2_code
def yC_takes : MethodName := ⟨R_C, "takes", "(I)Z"⟩
abbrev WC_takes : List Cond := Cond.code yC_takes cC_takes 2 (some .boolean) :: TB
abbrev cC_exchange : ByteArray := prog_2_method_3_code
def yC_exchange : MethodName := ⟨R_C, "exchange", "(II)I"⟩
abbrev WC_exchange : List Cond := Cond.code yC_exchange cC_exchange 4 (some .int) :: TB
abbrev cC_hasKindsAlone : ByteArray := prog_2_method_4_code
def yC_hasKindsAlone : MethodName := ⟨R_C, "hasKindsAlone", "(I)Z"⟩
abbrev WC_hasKindsAlone : List Cond := Cond.code yC_hasKindsAlone cC_hasKindsAlone 4 (some .boolean) :: TB
abbrev cC_become : ByteArray := prog_2_method_5_code
def yC_become : MethodName := ⟨R_C, "become", "(Z)Z"⟩
abbrev WC_become : List Cond := Cond.code yC_become cC_become 3 (some .boolean) :: TB
abbrev cC_binOf : ByteArray := prog_2_method_6_code
def yC_binOf : MethodName := ⟨R_C, "binOf", "(I)I"⟩
abbrev WC_binOf : List Cond := Cond.code yC_binOf cC_binOf 3 (some .int) :: TB
abbrev cC_sortInto : ByteArray := prog_2_method_7_code
def yC_sortInto : MethodName := ⟨R_C, "sortInto", "([II)I"⟩
abbrev WC_sortInto : List Cond := Cond.code yC_sortInto cC_sortInto 6 (some .int) :: TB
abbrev cC_cutEdges : ByteArray := prog_2_method_8_code
def yC_cutEdges : MethodName := ⟨R_C, "cutEdges", "(ZI[II)I"⟩
abbrev WC_cutEdges : List Cond := Cond.code yC_cutEdges cC_cutEdges 10 (some .int) :: TB
abbrev cG_init : ByteArray := prog_3_method_1_code
def yG_init : MethodName := ⟨R_G, "<init>", "()V"⟩
abbrev WG_init : List Cond := Cond.code yG_init cG_init 1 none :: TB
abbrev cG_clear : ByteArray := prog_3_method_2_code
def yG_clear : MethodName := ⟨R_G, "clear", "()V"⟩
abbrev WG_clear : List Cond := Cond.code yG_clear cG_clear 1 none :: TB
abbrev cG_takeIn : ByteArray := prog_3_method_3_code
def yG_takeIn : MethodName := ⟨R_G, "takeIn", "(JLResidualTrees$Whole;)V"⟩
abbrev WG_takeIn : List Cond := Cond.code yG_takeIn cG_takeIn 4 none :: TB
abbrev cG_become : ByteArray := prog_3_method_4_code
def yG_become : MethodName := ⟨R_G, "become", "(LResidualTrees$Group;)V"⟩
abbrev WG_become : List Cond := Cond.code yG_become cG_become 2 none :: TB
abbrev cGr_init : ByteArray := prog_4_method_1_code
def yGr_init : MethodName := ⟨R_Gr, "<init>", "(LResidualTrees$Table;LResidualTrees$Plan;[LResidualTrees$Whole;)V"⟩
abbrev WGr_init : List Cond := Cond.code yGr_init cGr_init 5 none :: TB
abbrev cGr_grow : ByteArray := prog_4_method_2_code
def yGr_grow : MethodName := ⟨R_Gr, "grow", "(LResidualTrees$Tree;JI)I"⟩
abbrev WGr_grow : List Cond := Cond.code yGr_grow cGr_grow 9 (some .int) :: TB
abbrev cGr_sumUp : ByteArray := prog_4_method_3_code
def yGr_sumUp : MethodName := ⟨R_Gr, "sumUp", "(JLResidualTrees$Whole;)V"⟩
abbrev WGr_sumUp : List Cond := Cond.code yGr_sumUp cGr_sumUp 5 none :: TB
abbrev cGr_findSplit : ByteArray := prog_4_method_4_code
def yGr_findSplit : MethodName := ⟨R_Gr, "findSplit", "(LResidualTrees$Node;J)Z"⟩
abbrev WGr_findSplit : List Cond := Cond.code yGr_findSplit cGr_findSplit 5 (some .boolean) :: TB
abbrev cGr_tryColumn : ByteArray := prog_4_method_5_code
def yGr_tryColumn : MethodName := ⟨R_Gr, "tryColumn", "(ILResidualTrees$Node;J)V"⟩
abbrev WGr_tryColumn : List Cond := Cond.code yGr_tryColumn cGr_tryColumn 11 none :: TB
abbrev cGr_gather : ByteArray := prog_4_method_6_code
def yGr_gather : MethodName := ⟨R_Gr, "gather", "(LResidualTrees$Column;J)V"⟩
abbrev WGr_gather : List Cond := Cond.code yGr_gather cGr_gather 8 none :: TB
abbrev cGr_orderBins : ByteArray := prog_4_method_7_code
def yGr_orderBins : MethodName := ⟨R_Gr, "orderBins", "(I)I"⟩
abbrev WGr_orderBins : List Cond := Cond.code yGr_orderBins cGr_orderBins 3 (some .int) :: TB
abbrev cGr_orderKinds : ByteArray := prog_4_method_8_code
def yGr_orderKinds : MethodName := ⟨R_Gr, "orderKinds", "()I"⟩
abbrev WGr_orderKinds : List Cond := Cond.code yGr_orderKinds cGr_orderKinds 4 (some .int) :: TB
abbrev cGr_isBefore : ByteArray := prog_4_method_9_code
def yGr_isBefore : MethodName := ⟨R_Gr, "isBefore", "(LResidualTrees$Group;LResidualTrees$Group;)Z"⟩
abbrev WGr_isBefore : List Cond := Cond.code yGr_isBefore cGr_isBefore 3 (some .boolean) :: TB
abbrev cGr_consider : ByteArray := prog_4_method_10_code
def yGr_consider : MethodName := ⟨R_Gr, "consider", "(LResidualTrees$Node;IILResidualTrees$Group;Z)V"⟩
abbrev WGr_consider : List Cond := Cond.code yGr_consider cGr_consider 11 none :: TB
abbrev cGr_isBetter : ByteArray := prog_4_method_11_code
def yGr_isBetter : MethodName := ⟨R_Gr, "isBetter", "()Z"⟩
abbrev WGr_isBetter : List Cond := Cond.code yGr_isBetter cGr_isBetter 1 (some .boolean) :: TB
abbrev cN_init : ByteArray := prog_5_method_1_code
def yN_init : MethodName := ⟨R_N, "<init>", "()V"⟩
abbrev WN_init : List Cond := Cond.code yN_init cN_init 1 none :: TB
abbrev cN_becomeLeaf : ByteArray := prog_5_method_2_code
def yN_becomeLeaf : MethodName := ⟨R_N, "becomeLeaf", "()V"⟩
abbrev WN_becomeLeaf : List Cond := Cond.code yN_becomeLeaf cN_becomeLeaf 1 none :: TB
abbrev cN_sendsLeft : ByteArray := prog_5_method_3_code
def yN_sendsLeft : MethodName := ⟨R_N, "sendsLeft", "(I)Z"⟩
abbrev WN_sendsLeft : List Cond := Cond.code yN_sendsLeft cN_sendsLeft 2 (some .boolean) :: TB
abbrev cO_init : ByteArray := prog_6_method_1_code
def yO_init : MethodName := ⟨R_O, "<init>", "()V"⟩
abbrev WO_init : List Cond := Cond.code yO_init cO_init 1 none :: TB
abbrev cO_write : ByteArray := prog_6_method_2_code
def yO_write : MethodName := ⟨R_O, "write", "()I"⟩
abbrev WO_write : List Cond := Cond.code yO_write cO_write 1 (some .int) :: TB
abbrev cO_appendDigits : ByteArray := prog_6_method_3_code
def yO_appendDigits : MethodName := ⟨R_O, "appendDigits", "(LResidualTrees$Whole;)V"⟩
abbrev WO_appendDigits : List Cond := Cond.code yO_appendDigits cO_appendDigits 6 none :: TB
abbrev cO_append : ByteArray := prog_6_method_4_code
def yO_append : MethodName := ⟨R_O, "append", "(I)V"⟩
abbrev WO_append : List Cond := Cond.code yO_append cO_append 2 none :: TB
abbrev cP_init : ByteArray := prog_7_method_1_code
def yP_init : MethodName := ⟨R_P, "<init>", "()V"⟩
abbrev WP_init : List Cond := Cond.code yP_init cP_init 1 none :: TB
abbrev cP_clear : ByteArray := prog_7_method_2_code
def yP_clear : MethodName := ⟨R_P, "clear", "()V"⟩
abbrev WP_clear : List Cond := Cond.code yP_clear cP_clear 1 none :: TB
abbrev cS_init : ByteArray := prog_8_method_1_code
def yS_init : MethodName := ⟨R_S, "<init>", "()V"⟩
abbrev WS_init : List Cond := Cond.code yS_init cS_init 1 none :: TB
abbrev cT_init : ByteArray := prog_9_method_1_code
def yT_init : MethodName := ⟨R_T, "<init>", "()V"⟩
abbrev WT_init : List Cond := Cond.code yT_init cT_init 2 none :: TB
abbrev cT_clear : ByteArray := prog_9_method_2_code
def yT_clear : MethodName := ⟨R_T, "clear", "(I)V"⟩
abbrev WT_clear : List Cond := Cond.code yT_clear cT_clear 6 none :: TB
abbrev cT_hasRow : ByteArray := prog_9_method_3_code
def yT_hasRow : MethodName := ⟨R_T, "hasRow", "(I)Z"⟩
abbrev WT_hasRow : List Cond := Cond.code yT_hasRow cT_hasRow 2 (some .boolean) :: TB
abbrev cT_hasColumn : ByteArray := prog_9_method_4_code
def yT_hasColumn : MethodName := ⟨R_T, "hasColumn", "(I)Z"⟩
abbrev WT_hasColumn : List Cond := Cond.code yT_hasColumn cT_hasColumn 2 (some .boolean) :: TB
abbrev cT_rowBits : ByteArray := prog_9_method_5_code
def yT_rowBits : MethodName := ⟨R_T, "rowBits", "()J"⟩
abbrev WT_rowBits : List Cond := Cond.code yT_rowBits cT_rowBits 1 (some .long) :: TB
abbrev cT_columnBits : ByteArray := prog_9_method_6_code
def yT_columnBits : MethodName := ⟨R_T, "columnBits", "()I"⟩
abbrev WT_columnBits : List Cond := Cond.code yT_columnBits cT_columnBits 1 (some .int) :: TB
abbrev cT_newRow : ByteArray := prog_9_method_7_code
def yT_newRow : MethodName := ⟨R_T, "newRow", "(I)I"⟩
abbrev WT_newRow : List Cond := Cond.code yT_newRow cT_newRow 6 (some .int) :: TB
abbrev cTr_init : ByteArray := prog_10_method_1_code
def yTr_init : MethodName := ⟨R_Tr, "<init>", "()V"⟩
abbrev WTr_init : List Cond := Cond.code yTr_init cTr_init 1 none :: TB
abbrev cTr_at : ByteArray := prog_10_method_2_code
def yTr_at : MethodName := ⟨R_Tr, "at", "(I)LResidualTrees$Node;"⟩
abbrev WTr_at : List Cond := Cond.code yTr_at cTr_at 2 (some (.object "ResidualTrees$Node")) :: TB
abbrev cTr_newLeaf : ByteArray := prog_10_method_3_code
def yTr_newLeaf : MethodName := ⟨R_Tr, "newLeaf", "(II)I"⟩
abbrev WTr_newLeaf : List Cond := Cond.code yTr_newLeaf cTr_newLeaf 4 (some .int) :: TB
abbrev cTr_settle : ByteArray := prog_10_method_4_code
def yTr_settle : MethodName := ⟨R_Tr, "settle", "(LResidualTrees$Plan;)V"⟩
abbrev WTr_settle : List Cond := Cond.code yTr_settle cTr_settle 7 none :: TB
abbrev cTr_setToValue : ByteArray := prog_10_method_5_code
def yTr_setToValue : MethodName := ⟨R_Tr, "setToValue", "(LResidualTrees$Whole;LResidualTrees$Node;)V"⟩
abbrev WTr_setToValue : List Cond := Cond.code yTr_setToValue cTr_setToValue 6 none :: TB
abbrev cTr_leafOf : ByteArray := prog_10_method_6_code
def yTr_leafOf : MethodName := ⟨R_Tr, "leafOf", "([LResidualTrees$Column;I)LResidualTrees$Node;"⟩
abbrev WTr_leafOf : List Cond := Cond.code yTr_leafOf cTr_leafOf 6 (some (.object "ResidualTrees$Node")) :: TB
abbrev cTr_splitsOf : ByteArray := prog_10_method_7_code
def yTr_splitsOf : MethodName := ⟨R_Tr, "splitsOf", "(I)I"⟩
abbrev WTr_splitsOf : List Cond := Cond.code yTr_splitsOf cTr_splitsOf 4 (some .int) :: TB
abbrev cW_init : ByteArray := prog_11_method_1_code
def yW_init : MethodName := ⟨R_W, "<init>", "(I)V"⟩
abbrev WW_init : List Cond := Cond.code yW_init cW_init 2 none :: TB
abbrev cW_mostBits : ByteArray := prog_11_method_2_code
def yW_mostBits : MethodName := ⟨R_W, "mostBits", "()I"⟩
abbrev WW_mostBits : List Cond := Cond.code yW_mostBits cW_mostBits 1 (some .int) :: TB
abbrev cW_set : ByteArray := prog_11_method_3_code
def yW_set : MethodName := ⟨R_W, "set", "(I)V"⟩
abbrev WW_set : List Cond := Cond.code yW_set cW_set 2 none :: TB
abbrev cW_setb : ByteArray := prog_11_method_4_code
def yW_setb : MethodName := ⟨R_W, "set", "(LResidualTrees$Whole;)V"⟩
abbrev WW_setb : List Cond := Cond.code yW_setb cW_setb 2 none :: TB
abbrev cW_turn : ByteArray := prog_11_method_5_code
def yW_turn : MethodName := ⟨R_W, "turn", "()V"⟩
abbrev WW_turn : List Cond := Cond.code yW_turn cW_turn 1 none :: TB
abbrev cW_sign : ByteArray := prog_11_method_6_code
def yW_sign : MethodName := ⟨R_W, "sign", "()I"⟩
abbrev WW_sign : List Cond := Cond.code yW_sign cW_sign 1 (some .int) :: TB
abbrev cW_trim : ByteArray := prog_11_method_7_code
def yW_trim : MethodName := ⟨R_W, "trim", "(I)V"⟩
abbrev WW_trim : List Cond := Cond.code yW_trim cW_trim 2 none :: TB
abbrev cW_times : ByteArray := prog_11_method_8_code
def yW_times : MethodName := ⟨R_W, "times", "(J)V"⟩
abbrev WW_times : List Cond := Cond.code yW_times cW_times 16 none :: TB
abbrev cW_setProduct : ByteArray := prog_11_method_9_code
def yW_setProduct : MethodName := ⟨R_W, "setProduct", "(LResidualTrees$Whole;LResidualTrees$Whole;)V"⟩
abbrev WW_setProduct : List Cond := Cond.code yW_setProduct cW_setProduct 12 none :: TB
abbrev cW_plus : ByteArray := prog_11_method_10_code
def yW_plus : MethodName := ⟨R_W, "plus", "(LResidualTrees$Whole;Z)V"⟩
abbrev WW_plus : List Cond := Cond.code yW_plus cW_plus 8 none :: TB
abbrev cW_complement : ByteArray := prog_11_method_11_code
def yW_complement : MethodName := ⟨R_W, "complement", "(I)V"⟩
abbrev WW_complement : List Cond := Cond.code yW_complement cW_complement 5 none :: TB
abbrev cW_rest : ByteArray := prog_11_method_12_code
def yW_rest : MethodName := ⟨R_W, "rest", "(I)I"⟩
abbrev WW_rest : List Cond := Cond.code yW_rest cW_rest 5 (some .int) :: TB
abbrev cW_divide : ByteArray := prog_11_method_13_code
def yW_divide : MethodName := ⟨R_W, "divide", "(I)V"⟩
abbrev WW_divide : List Cond := Cond.code yW_divide cW_divide 7 none :: TB
abbrev cW_compare : ByteArray := prog_11_method_14_code
def yW_compare : MethodName := ⟨R_W, "compare", "(LResidualTrees$Whole;)I"⟩
abbrev WW_compare : List Cond := Cond.code yW_compare cW_compare 4 (some .int) :: TB
abbrev cW_halveAway : ByteArray := prog_11_method_15_code
def yW_halveAway : MethodName := ⟨R_W, "halveAway", "()I"⟩
abbrev WW_halveAway : List Cond := Cond.code yW_halveAway cW_halveAway 2 (some .int) :: TB
abbrev cL_begin : ByteArray := method_3_code
def yL_begin : MethodName := ⟨R_L, "begin", "(LResidualTrees;I)I"⟩
abbrev WL_begin : List Cond := Cond.codeWith yL_begin cL_begin 3 (some .int) [(0, 5, 8, 13)] :: TB
abbrev cL_add : ByteArray := method_4_code
def yL_add : MethodName := ⟨R_L, "add", "(LResidualTrees;I[J)I"⟩
abbrev WL_add : List Cond := Cond.codeWith yL_add cL_add 4 (some .int) [(0, 9, 12, 13), (0, 9, 15, 19)] :: TB
abbrev cL_put : ByteArray := method_5_code
def yL_put : MethodName := ⟨R_L, "put", "(LResidualTrees;III[J)I"⟩
abbrev WL_put : List Cond := Cond.codeWith yL_put cL_put 6 (some .int) [(0, 12, 15, 13)] :: TB
abbrev cL_target : ByteArray := method_6_code
def yL_target : MethodName := ⟨R_L, "target", "(LResidualTrees;II[J)I"⟩
abbrev WL_target : List Cond := Cond.codeWith yL_target cL_target 5 (some .int) [(0, 10, 13, 13)] :: TB
abbrev cL_kinds : ByteArray := method_7_code
def yL_kinds : MethodName := ⟨R_L, "kinds", "(LResidualTrees;IZ[J)I"⟩
abbrev WL_kinds : List Cond := Cond.codeWith yL_kinds cL_kinds 5 (some .int) [(0, 17, 20, 13), (0, 17, 24, 19)] :: TB
abbrev cL_cut : ByteArray := method_8_code
def yL_cut : MethodName := ⟨R_L, "cut", "(LResidualTrees;IZI[J)I"⟩
abbrev WL_cut : List Cond := Cond.codeWith yL_cut cL_cut 6 (some .int) [(0, 12, 15, 13), (0, 12, 19, 19)] :: TB
abbrev cL_edge : ByteArray := method_9_code
def yL_edge : MethodName := ⟨R_L, "edge", "(LResidualTrees;II[J)I"⟩
abbrev WL_edge : List Cond := Cond.codeWith yL_edge cL_edge 5 (some .int) [(0, 10, 13, 13)] :: TB
abbrev cL_bin : ByteArray := method_10_code
def yL_bin : MethodName := ⟨R_L, "bin", "(LResidualTrees;II[J)I"⟩
abbrev WL_bin : List Cond := Cond.codeWith yL_bin cL_bin 5 (some .int) [(0, 10, 13, 13)] :: TB
abbrev cL_shape : ByteArray := method_11_code
def yL_shape : MethodName := ⟨R_L, "shape", "(LResidualTrees;III)I"⟩
abbrev WL_shape : List Cond := Cond.codeWith yL_shape cL_shape 5 (some .int) [(0, 7, 10, 13)] :: TB
abbrev cL_rate : ByteArray := method_12_code
def yL_rate : MethodName := ⟨R_L, "rate", "(LResidualTrees;II)I"⟩
abbrev WL_rate : List Cond := Cond.codeWith yL_rate cL_rate 4 (some .int) [(0, 6, 9, 13)] :: TB
abbrev cL_train : ByteArray := method_13_code
def yL_train : MethodName := ⟨R_L, "train", "(LResidualTrees;I[J)I"⟩
abbrev WL_train : List Cond := Cond.codeWith yL_train cL_train 4 (some .int) [(0, 9, 12, 13), (0, 9, 15, 19)] :: TB
abbrev cL_drop : ByteArray := method_14_code
def yL_drop : MethodName := ⟨R_L, "drop", "(LResidualTrees;I[J)I"⟩
abbrev WL_drop : List Cond := Cond.codeWith yL_drop cL_drop 4 (some .int) [(0, 9, 12, 13)] :: TB
abbrev cL_node : ByteArray := method_15_code
def yL_node : MethodName := ⟨R_L, "node", "(LResidualTrees;III[J)I"⟩
abbrev WL_node : List Cond := Cond.codeWith yL_node cL_node 6 (some .int) [(0, 12, 15, 13)] :: TB
abbrev cL_count : ByteArray := method_16_code
def yL_count : MethodName := ⟨R_L, "count", "(LResidualTrees;I[J)I"⟩
abbrev WL_count : List Cond := Cond.codeWith yL_count cL_count 4 (some .int) [(0, 9, 12, 13)] :: TB
abbrev cL_nodes : ByteArray := method_17_code
def yL_nodes : MethodName := ⟨R_L, "nodes", "(LResidualTrees;I[J)I"⟩
abbrev WL_nodes : List Cond := Cond.codeWith yL_nodes cL_nodes 4 (some .int) [(0, 9, 12, 13)] :: TB
abbrev cL_uses : ByteArray := method_18_code
def yL_uses : MethodName := ⟨R_L, "uses", "(LResidualTrees;I[J)I"⟩
abbrev WL_uses : List Cond := Cond.codeWith yL_uses cL_uses 4 (some .int) [(0, 9, 12, 13)] :: TB
abbrev cL_tell : ByteArray := method_19_code
def yL_tell : MethodName := ⟨R_L, "tell", "(LResidualTrees;II[J)I"⟩
abbrev WL_tell : List Cond := Cond.codeWith yL_tell cL_tell 5 (some .int) [(0, 10, 13, 13)] :: TB
abbrev cL_residual : ByteArray := method_20_code
def yL_residual : MethodName := ⟨R_L, "residual", "(LResidualTrees;II[J)I"⟩
abbrev WL_residual : List Cond := Cond.codeWith yL_residual cL_residual 5 (some .int) [(0, 10, 13, 13)] :: TB
abbrev cL_ask : ByteArray := method_21_code
def yL_ask : MethodName := ⟨R_L, "ask", "(LResidualTrees;II[J)I"⟩
abbrev WL_ask : List Cond := Cond.codeWith yL_ask cL_ask 5 (some .int) [(0, 10, 13, 13)] :: TB
abbrev cL_predict : ByteArray := method_22_code
def yL_predict : MethodName := ⟨R_L, "predict", "(LResidualTrees;I[J)I"⟩
abbrev WL_predict : List Cond := Cond.codeWith yL_predict cL_predict 4 (some .int) [(0, 9, 12, 13)] :: TB
abbrev cL_error : ByteArray := method_23_code
def yL_error : MethodName := ⟨R_L, "error", "(LResidualTrees;JI[J)I"⟩
abbrev WL_error : List Cond := Cond.codeWith yL_error cL_error 6 (some .int) [(0, 11, 14, 13)] :: TB
theorem hR_init : yR_init.cls ≠ "java/lang/invoke/MethodHandle" ∧ yR_init.cls ≠ "java/lang/invoke/VarHandle" ∧ (parseMethodDescriptor yR_init.desc).map (fun d => d.parameters.length) = some 0 := by decide +kernel
theorem hR_begin : yR_begin.cls ≠ "java/lang/invoke/MethodHandle" ∧ yR_begin.cls ≠ "java/lang/invoke/VarHandle" ∧ (parseMethodDescriptor yR_begin.desc).map (fun d => d.parameters.length) = some 1 := by decide +kernel
theorem hR_add : yR_add.cls ≠ "java/lang/invoke/MethodHandle" ∧ yR_add.cls ≠ "java/lang/invoke/VarHandle" ∧ (parseMethodDescriptor yR_add.desc).map (fun d => d.parameters.length) = some 1 := by decide +kernel
theorem hR_put : yR_put.cls ≠ "java/lang/invoke/MethodHandle" ∧ yR_put.cls ≠ "java/lang/invoke/VarHandle" ∧ (parseMethodDescriptor yR_put.desc).map (fun d => d.parameters.length) = some 3 := by decide +kernel
theorem hR_target : yR_target.cls ≠ "java/lang/invoke/MethodHandle" ∧ yR_target.cls ≠ "java/lang/invoke/VarHandle" ∧ (parseMethodDescriptor yR_target.desc).map (fun d => d.parameters.length) = some 2 := by decide +kernel
theorem hR_kinds : yR_kinds.cls ≠ "java/lang/invoke/MethodHandle" ∧ yR_kinds.cls ≠ "java/lang/invoke/VarHandle" ∧ (parseMethodDescriptor yR_kinds.desc).map (fun d => d.parameters.length) = some 2 := by decide +kernel
theorem hR_cut : yR_cut.cls ≠ "java/lang/invoke/MethodHandle" ∧ yR_cut.cls ≠ "java/lang/invoke/VarHandle" ∧ (parseMethodDescriptor yR_cut.desc).map (fun d => d.parameters.length) = some 3 := by decide +kernel
theorem hR_edge : yR_edge.cls ≠ "java/lang/invoke/MethodHandle" ∧ yR_edge.cls ≠ "java/lang/invoke/VarHandle" ∧ (parseMethodDescriptor yR_edge.desc).map (fun d => d.parameters.length) = some 2 := by decide +kernel
theorem hR_bin : yR_bin.cls ≠ "java/lang/invoke/MethodHandle" ∧ yR_bin.cls ≠ "java/lang/invoke/VarHandle" ∧ (parseMethodDescriptor yR_bin.desc).map (fun d => d.parameters.length) = some 2 := by decide +kernel
theorem hR_shape : yR_shape.cls ≠ "java/lang/invoke/MethodHandle" ∧ yR_shape.cls ≠ "java/lang/invoke/VarHandle" ∧ (parseMethodDescriptor yR_shape.desc).map (fun d => d.parameters.length) = some 3 := by decide +kernel
theorem hR_rate : yR_rate.cls ≠ "java/lang/invoke/MethodHandle" ∧ yR_rate.cls ≠ "java/lang/invoke/VarHandle" ∧ (parseMethodDescriptor yR_rate.desc).map (fun d => d.parameters.length) = some 2 := by decide +kernel
theorem hR_sample : yR_sample.cls ≠ "java/lang/invoke/MethodHandle" ∧ yR_sample.cls ≠ "java/lang/invoke/VarHandle" ∧ (parseMethodDescriptor yR_sample.desc).map (fun d => d.parameters.length) = some 2 := by decide +kernel
theorem hR_train : yR_train.cls ≠ "java/lang/invoke/MethodHandle" ∧ yR_train.cls ≠ "java/lang/invoke/VarHandle" ∧ (parseMethodDescriptor yR_train.desc).map (fun d => d.parameters.length) = some 1 := by decide +kernel
theorem hR_drop : yR_drop.cls ≠ "java/lang/invoke/MethodHandle" ∧ yR_drop.cls ≠ "java/lang/invoke/VarHandle" ∧ (parseMethodDescriptor yR_drop.desc).map (fun d => d.parameters.length) = some 1 := by decide +kernel
theorem hR_node : yR_node.cls ≠ "java/lang/invoke/MethodHandle" ∧ yR_node.cls ≠ "java/lang/invoke/VarHandle" ∧ (parseMethodDescriptor yR_node.desc).map (fun d => d.parameters.length) = some 3 := by decide +kernel
theorem hR_count : yR_count.cls ≠ "java/lang/invoke/MethodHandle" ∧ yR_count.cls ≠ "java/lang/invoke/VarHandle" ∧ (parseMethodDescriptor yR_count.desc).map (fun d => d.parameters.length) = some 1 := by decide +kernel
theorem hR_nodes : yR_nodes.cls ≠ "java/lang/invoke/MethodHandle" ∧ yR_nodes.cls ≠ "java/lang/invoke/VarHandle" ∧ (parseMethodDescriptor yR_nodes.desc).map (fun d => d.parameters.length) = some 1 := by decide +kernel
theorem hR_uses : yR_uses.cls ≠ "java/lang/invoke/MethodHandle" ∧ yR_uses.cls ≠ "java/lang/invoke/VarHandle" ∧ (parseMethodDescriptor yR_uses.desc).map (fun d => d.parameters.length) = some 1 := by decide +kernel
theorem hR_tell : yR_tell.cls ≠ "java/lang/invoke/MethodHandle" ∧ yR_tell.cls ≠ "java/lang/invoke/VarHandle" ∧ (parseMethodDescriptor yR_tell.desc).map (fun d => d.parameters.length) = some 2 := by decide +kernel
theorem hR_residual : yR_residual.cls ≠ "java/lang/invoke/MethodHandle" ∧ yR_residual.cls ≠ "java/lang/invoke/VarHandle" ∧ (parseMethodDescriptor yR_residual.desc).map (fun d => d.parameters.length) = some 2 := by decide +kernel
theorem hR_ask : yR_ask.cls ≠ "java/lang/invoke/MethodHandle" ∧ yR_ask.cls ≠ "java/lang/invoke/VarHandle" ∧ (parseMethodDescriptor yR_ask.desc).map (fun d => d.parameters.length) = some 2 := by decide +kernel
theorem hR_predict : yR_predict.cls ≠ "java/lang/invoke/MethodHandle" ∧ yR_predict.cls ≠ "java/lang/invoke/VarHandle" ∧ (parseMethodDescriptor yR_predict.desc).map (fun d => d.parameters.length) = some 1 := by decide +kernel
theorem hR_error : yR_error.cls ≠ "java/lang/invoke/MethodHandle" ∧ yR_error.cls ≠ "java/lang/invoke/VarHandle" ∧ (parseMethodDescriptor yR_error.desc).map (fun d => d.parameters.length) = some 2 := by decide +kernel
theorem hR_best : yR_best.cls ≠ "java/lang/invoke/MethodHandle" ∧ yR_best.cls ≠ "java/lang/invoke/VarHandle" ∧ (parseMethodDescriptor yR_best.desc).map (fun d => d.parameters.length) = some 1 := by decide +kernel
theorem hR_byteAt : yR_byteAt.cls ≠ "java/lang/invoke/MethodHandle" ∧ yR_byteAt.cls ≠ "java/lang/invoke/VarHandle" ∧ (parseMethodDescriptor yR_byteAt.desc).map (fun d => d.parameters.length) = some 1 := by decide +kernel
theorem hR_startOver : yR_startOver.cls ≠ "java/lang/invoke/MethodHandle" ∧ yR_startOver.cls ≠ "java/lang/invoke/VarHandle" ∧ (parseMethodDescriptor yR_startOver.desc).map (fun d => d.parameters.length) = some 1 := by decide +kernel
theorem hR_demand : yR_demand.cls ≠ "java/lang/invoke/MethodHandle" ∧ yR_demand.cls ≠ "java/lang/invoke/VarHandle" ∧ (parseMethodDescriptor yR_demand.desc).map (fun d => d.parameters.length) = some 1 := by decide +kernel
theorem hR_demandState : yR_demandState.cls ≠ "java/lang/invoke/MethodHandle" ∧ yR_demandState.cls ≠ "java/lang/invoke/VarHandle" ∧ (parseMethodDescriptor yR_demandState.desc).map (fun d => d.parameters.length) = some 1 := by decide +kernel
theorem hR_isWithin : yR_isWithin.cls ≠ "java/lang/invoke/MethodHandle" ∧ yR_isWithin.cls ≠ "java/lang/invoke/VarHandle" ∧ (parseMethodDescriptor yR_isWithin.desc).map (fun d => d.parameters.length) = some 3 := by decide +kernel
theorem hR_isTarget : yR_isTarget.cls ≠ "java/lang/invoke/MethodHandle" ∧ yR_isTarget.cls ≠ "java/lang/invoke/VarHandle" ∧ (parseMethodDescriptor yR_isTarget.desc).map (fun d => d.parameters.length) = some 1 := by decide +kernel
theorem hR_isNumber : yR_isNumber.cls ≠ "java/lang/invoke/MethodHandle" ∧ yR_isNumber.cls ≠ "java/lang/invoke/VarHandle" ∧ (parseMethodDescriptor yR_isNumber.desc).map (fun d => d.parameters.length) = some 1 := by decide +kernel
theorem hR_isKind : yR_isKind.cls ≠ "java/lang/invoke/MethodHandle" ∧ yR_isKind.cls ≠ "java/lang/invoke/VarHandle" ∧ (parseMethodDescriptor yR_isKind.desc).map (fun d => d.parameters.length) = some 1 := by decide +kernel
theorem hR_hasNode : yR_hasNode.cls ≠ "java/lang/invoke/MethodHandle" ∧ yR_hasNode.cls ≠ "java/lang/invoke/VarHandle" ∧ (parseMethodDescriptor yR_hasNode.desc).map (fun d => d.parameters.length) = some 2 := by decide +kernel
theorem hR_freshTree : yR_freshTree.cls ≠ "java/lang/invoke/MethodHandle" ∧ yR_freshTree.cls ≠ "java/lang/invoke/VarHandle" ∧ (parseMethodDescriptor yR_freshTree.desc).map (fun d => d.parameters.length) = some 0 := by decide +kernel
theorem hR_leave : yR_leave.cls ≠ "java/lang/invoke/MethodHandle" ∧ yR_leave.cls ≠ "java/lang/invoke/VarHandle" ∧ (parseMethodDescriptor yR_leave.desc).map (fun d => d.parameters.length) = some 3 := by decide +kernel
theorem hR_leaveBehind : yR_leaveBehind.cls ≠ "java/lang/invoke/MethodHandle" ∧ yR_leaveBehind.cls ≠ "java/lang/invoke/VarHandle" ∧ (parseMethodDescriptor yR_leaveBehind.desc).map (fun d => d.parameters.length) = some 3 := by decide +kernel
theorem hR_leaveAll : yR_leaveAll.cls ≠ "java/lang/invoke/MethodHandle" ∧ yR_leaveAll.cls ≠ "java/lang/invoke/VarHandle" ∧ (parseMethodDescriptor yR_leaveAll.desc).map (fun d => d.parameters.length) = some 1 := by decide +kernel
theorem hR_setToScales : yR_setToScales.cls ≠ "java/lang/invoke/MethodHandle" ∧ yR_setToScales.cls ≠ "java/lang/invoke/VarHandle" ∧ (parseMethodDescriptor yR_setToScales.desc).map (fun d => d.parameters.length) = some 2 := by decide +kernel
theorem hR_setToGain : yR_setToGain.cls ≠ "java/lang/invoke/MethodHandle" ∧ yR_setToGain.cls ≠ "java/lang/invoke/VarHandle" ∧ (parseMethodDescriptor yR_setToGain.desc).map (fun d => d.parameters.length) = some 2 := by decide +kernel
theorem hR_setToSides : yR_setToSides.cls ≠ "java/lang/invoke/MethodHandle" ∧ yR_setToSides.cls ≠ "java/lang/invoke/VarHandle" ∧ (parseMethodDescriptor yR_setToSides.desc).map (fun d => d.parameters.length) = some 6 := by decide +kernel
theorem hR_sumSquares : yR_sumSquares.cls ≠ "java/lang/invoke/MethodHandle" ∧ yR_sumSquares.cls ≠ "java/lang/invoke/VarHandle" ∧ (parseMethodDescriptor yR_sumSquares.desc).map (fun d => d.parameters.length) = some 1 := by decide +kernel
theorem hR_commonBits : yR_commonBits.cls ≠ "java/lang/invoke/MethodHandle" ∧ yR_commonBits.cls ≠ "java/lang/invoke/VarHandle" ∧ (parseMethodDescriptor yR_commonBits.desc).map (fun d => d.parameters.length) = some 0 := by decide +kernel
theorem hR_reduce : yR_reduce.cls ≠ "java/lang/invoke/MethodHandle" ∧ yR_reduce.cls ≠ "java/lang/invoke/VarHandle" ∧ (parseMethodDescriptor yR_reduce.desc).map (fun d => d.parameters.length) = some 3 := by decide +kernel
theorem hR_divides : yR_divides.cls ≠ "java/lang/invoke/MethodHandle" ∧ yR_divides.cls ≠ "java/lang/invoke/VarHandle" ∧ (parseMethodDescriptor yR_divides.desc).map (fun d => d.parameters.length) = some 4 := by decide +kernel
theorem hR_greatestDivisor : yR_greatestDivisor.cls ≠ "java/lang/invoke/MethodHandle" ∧ yR_greatestDivisor.cls ≠ "java/lang/invoke/VarHandle" ∧ (parseMethodDescriptor yR_greatestDivisor.desc).map (fun d => d.parameters.length) = some 2 := by decide +kernel
theorem hR_wholes : yR_wholes.cls ≠ "java/lang/invoke/MethodHandle" ∧ yR_wholes.cls ≠ "java/lang/invoke/VarHandle" ∧ (parseMethodDescriptor yR_wholes.desc).map (fun d => d.parameters.length) = some 1 := by decide +kernel
theorem hM_init : yM_init.cls ≠ "java/lang/invoke/MethodHandle" ∧ yM_init.cls ≠ "java/lang/invoke/VarHandle" ∧ (parseMethodDescriptor yM_init.desc).map (fun d => d.parameters.length) = some 0 := by decide +kernel
theorem hM_thrown : yM_thrown.cls ≠ "java/lang/invoke/MethodHandle" ∧ yM_thrown.cls ≠ "java/lang/invoke/VarHandle" ∧ (parseMethodDescriptor yM_thrown.desc).map (fun d => d.parameters.length) = some 0 := by decide +kernel
theorem hM_refused : yM_refused.cls ≠ "java/lang/invoke/MethodHandle" ∧ yM_refused.cls ≠ "java/lang/invoke/VarHandle" ∧ (parseMethodDescriptor yM_refused.desc).map (fun d => d.parameters.length) = some 1 := by decide +kernel
theorem hM_in : yM_in.cls ≠ "java/lang/invoke/MethodHandle" ∧ yM_in.cls ≠ "java/lang/invoke/VarHandle" ∧ (parseMethodDescriptor yM_in.desc).map (fun d => d.parameters.length) = some 3 := by decide +kernel
theorem hM_setInt : yM_setInt.cls ≠ "java/lang/invoke/MethodHandle" ∧ yM_setInt.cls ≠ "java/lang/invoke/VarHandle" ∧ (parseMethodDescriptor yM_setInt.desc).map (fun d => d.parameters.length) = some 2 := by decide +kernel
theorem hM_copy : yM_copy.cls ≠ "java/lang/invoke/MethodHandle" ∧ yM_copy.cls ≠ "java/lang/invoke/VarHandle" ∧ (parseMethodDescriptor yM_copy.desc).map (fun d => d.parameters.length) = some 2 := by decide +kernel
theorem hM_compareSizes : yM_compareSizes.cls ≠ "java/lang/invoke/MethodHandle" ∧ yM_compareSizes.cls ≠ "java/lang/invoke/VarHandle" ∧ (parseMethodDescriptor yM_compareSizes.desc).map (fun d => d.parameters.length) = some 2 := by decide +kernel
theorem hM_compare : yM_compare.cls ≠ "java/lang/invoke/MethodHandle" ∧ yM_compare.cls ≠ "java/lang/invoke/VarHandle" ∧ (parseMethodDescriptor yM_compare.desc).map (fun d => d.parameters.length) = some 2 := by decide +kernel
theorem hM_trim : yM_trim.cls ≠ "java/lang/invoke/MethodHandle" ∧ yM_trim.cls ≠ "java/lang/invoke/VarHandle" ∧ (parseMethodDescriptor yM_trim.desc).map (fun d => d.parameters.length) = some 2 := by decide +kernel
theorem hM_add : yM_add.cls ≠ "java/lang/invoke/MethodHandle" ∧ yM_add.cls ≠ "java/lang/invoke/VarHandle" ∧ (parseMethodDescriptor yM_add.desc).map (fun d => d.parameters.length) = some 3 := by decide +kernel
theorem hM_addSizes : yM_addSizes.cls ≠ "java/lang/invoke/MethodHandle" ∧ yM_addSizes.cls ≠ "java/lang/invoke/VarHandle" ∧ (parseMethodDescriptor yM_addSizes.desc).map (fun d => d.parameters.length) = some 2 := by decide +kernel
theorem hM_takeSizes : yM_takeSizes.cls ≠ "java/lang/invoke/MethodHandle" ∧ yM_takeSizes.cls ≠ "java/lang/invoke/VarHandle" ∧ (parseMethodDescriptor yM_takeSizes.desc).map (fun d => d.parameters.length) = some 3 := by decide +kernel
theorem hM_times : yM_times.cls ≠ "java/lang/invoke/MethodHandle" ∧ yM_times.cls ≠ "java/lang/invoke/VarHandle" ∧ (parseMethodDescriptor yM_times.desc).map (fun d => d.parameters.length) = some 2 := by decide +kernel
theorem hM_rest : yM_rest.cls ≠ "java/lang/invoke/MethodHandle" ∧ yM_rest.cls ≠ "java/lang/invoke/VarHandle" ∧ (parseMethodDescriptor yM_rest.desc).map (fun d => d.parameters.length) = some 2 := by decide +kernel
theorem hM_divide : yM_divide.cls ≠ "java/lang/invoke/MethodHandle" ∧ yM_divide.cls ≠ "java/lang/invoke/VarHandle" ∧ (parseMethodDescriptor yM_divide.desc).map (fun d => d.parameters.length) = some 2 := by decide +kernel
theorem hM_multiply : yM_multiply.cls ≠ "java/lang/invoke/MethodHandle" ∧ yM_multiply.cls ≠ "java/lang/invoke/VarHandle" ∧ (parseMethodDescriptor yM_multiply.desc).map (fun d => d.parameters.length) = some 2 := by decide +kernel
theorem hM_zero : yM_zero.cls ≠ "java/lang/invoke/MethodHandle" ∧ yM_zero.cls ≠ "java/lang/invoke/VarHandle" ∧ (parseMethodDescriptor yM_zero.desc).map (fun d => d.parameters.length) = some 1 := by decide +kernel
theorem hM_under : yM_under.cls ≠ "java/lang/invoke/MethodHandle" ∧ yM_under.cls ≠ "java/lang/invoke/VarHandle" ∧ (parseMethodDescriptor yM_under.desc).map (fun d => d.parameters.length) = some 2 := by decide +kernel
theorem hM_reduce : yM_reduce.cls ≠ "java/lang/invoke/MethodHandle" ∧ yM_reduce.cls ≠ "java/lang/invoke/VarHandle" ∧ (parseMethodDescriptor yM_reduce.desc).map (fun d => d.parameters.length) = some 2 := by decide +kernel
theorem hM_raise : yM_raise.cls ≠ "java/lang/invoke/MethodHandle" ∧ yM_raise.cls ≠ "java/lang/invoke/VarHandle" ∧ (parseMethodDescriptor yM_raise.desc).map (fun d => d.parameters.length) = some 3 := by decide +kernel
theorem hM_addFractions : yM_addFractions.cls ≠ "java/lang/invoke/MethodHandle" ∧ yM_addFractions.cls ≠ "java/lang/invoke/VarHandle" ∧ (parseMethodDescriptor yM_addFractions.desc).map (fun d => d.parameters.length) = some 5 := by decide +kernel
theorem hM_store : yM_store.cls ≠ "java/lang/invoke/MethodHandle" ∧ yM_store.cls ≠ "java/lang/invoke/VarHandle" ∧ (parseMethodDescriptor yM_store.desc).map (fun d => d.parameters.length) = some 3 := by decide +kernel
theorem hM_load : yM_load.cls ≠ "java/lang/invoke/MethodHandle" ∧ yM_load.cls ≠ "java/lang/invoke/VarHandle" ∧ (parseMethodDescriptor yM_load.desc).map (fun d => d.parameters.length) = some 3 := by decide +kernel
theorem hM_storeLows : yM_storeLows.cls ≠ "java/lang/invoke/MethodHandle" ∧ yM_storeLows.cls ≠ "java/lang/invoke/VarHandle" ∧ (parseMethodDescriptor yM_storeLows.desc).map (fun d => d.parameters.length) = some 3 := by decide +kernel
theorem hM_loadLows : yM_loadLows.cls ≠ "java/lang/invoke/MethodHandle" ∧ yM_loadLows.cls ≠ "java/lang/invoke/VarHandle" ∧ (parseMethodDescriptor yM_loadLows.desc).map (fun d => d.parameters.length) = some 3 := by decide +kernel
theorem hM_clear : yM_clear.cls ≠ "java/lang/invoke/MethodHandle" ∧ yM_clear.cls ≠ "java/lang/invoke/VarHandle" ∧ (parseMethodDescriptor yM_clear.desc).map (fun d => d.parameters.length) = some 1 := by decide +kernel
theorem hM_begin : yM_begin.cls ≠ "java/lang/invoke/MethodHandle" ∧ yM_begin.cls ≠ "java/lang/invoke/VarHandle" ∧ (parseMethodDescriptor yM_begin.desc).map (fun d => d.parameters.length) = some 1 := by decide +kernel
theorem hM_addb : yM_addb.cls ≠ "java/lang/invoke/MethodHandle" ∧ yM_addb.cls ≠ "java/lang/invoke/VarHandle" ∧ (parseMethodDescriptor yM_addb.desc).map (fun d => d.parameters.length) = some 1 := by decide +kernel
theorem hM_noRow : yM_noRow.cls ≠ "java/lang/invoke/MethodHandle" ∧ yM_noRow.cls ≠ "java/lang/invoke/VarHandle" ∧ (parseMethodDescriptor yM_noRow.desc).map (fun d => d.parameters.length) = some 1 := by decide +kernel
theorem hM_noColumn : yM_noColumn.cls ≠ "java/lang/invoke/MethodHandle" ∧ yM_noColumn.cls ≠ "java/lang/invoke/VarHandle" ∧ (parseMethodDescriptor yM_noColumn.desc).map (fun d => d.parameters.length) = some 1 := by decide +kernel
theorem hM_isNumber : yM_isNumber.cls ≠ "java/lang/invoke/MethodHandle" ∧ yM_isNumber.cls ≠ "java/lang/invoke/VarHandle" ∧ (parseMethodDescriptor yM_isNumber.desc).map (fun d => d.parameters.length) = some 1 := by decide +kernel
theorem hM_isValue : yM_isValue.cls ≠ "java/lang/invoke/MethodHandle" ∧ yM_isValue.cls ≠ "java/lang/invoke/VarHandle" ∧ (parseMethodDescriptor yM_isValue.desc).map (fun d => d.parameters.length) = some 2 := by decide +kernel
theorem hM_put : yM_put.cls ≠ "java/lang/invoke/MethodHandle" ∧ yM_put.cls ≠ "java/lang/invoke/VarHandle" ∧ (parseMethodDescriptor yM_put.desc).map (fun d => d.parameters.length) = some 3 := by decide +kernel
theorem hM_target : yM_target.cls ≠ "java/lang/invoke/MethodHandle" ∧ yM_target.cls ≠ "java/lang/invoke/VarHandle" ∧ (parseMethodDescriptor yM_target.desc).map (fun d => d.parameters.length) = some 2 := by decide +kernel
theorem hM_kinds : yM_kinds.cls ≠ "java/lang/invoke/MethodHandle" ∧ yM_kinds.cls ≠ "java/lang/invoke/VarHandle" ∧ (parseMethodDescriptor yM_kinds.desc).map (fun d => d.parameters.length) = some 2 := by decide +kernel
theorem hM_cut : yM_cut.cls ≠ "java/lang/invoke/MethodHandle" ∧ yM_cut.cls ≠ "java/lang/invoke/VarHandle" ∧ (parseMethodDescriptor yM_cut.desc).map (fun d => d.parameters.length) = some 3 := by decide +kernel
theorem hM_inOrder : yM_inOrder.cls ≠ "java/lang/invoke/MethodHandle" ∧ yM_inOrder.cls ≠ "java/lang/invoke/VarHandle" ∧ (parseMethodDescriptor yM_inOrder.desc).map (fun d => d.parameters.length) = some 2 := by decide +kernel
theorem hM_edge : yM_edge.cls ≠ "java/lang/invoke/MethodHandle" ∧ yM_edge.cls ≠ "java/lang/invoke/VarHandle" ∧ (parseMethodDescriptor yM_edge.desc).map (fun d => d.parameters.length) = some 2 := by decide +kernel
theorem hM_bin : yM_bin.cls ≠ "java/lang/invoke/MethodHandle" ∧ yM_bin.cls ≠ "java/lang/invoke/VarHandle" ∧ (parseMethodDescriptor yM_bin.desc).map (fun d => d.parameters.length) = some 2 := by decide +kernel
theorem hM_shape : yM_shape.cls ≠ "java/lang/invoke/MethodHandle" ∧ yM_shape.cls ≠ "java/lang/invoke/VarHandle" ∧ (parseMethodDescriptor yM_shape.desc).map (fun d => d.parameters.length) = some 3 := by decide +kernel
theorem hM_rate : yM_rate.cls ≠ "java/lang/invoke/MethodHandle" ∧ yM_rate.cls ≠ "java/lang/invoke/VarHandle" ∧ (parseMethodDescriptor yM_rate.desc).map (fun d => d.parameters.length) = some 2 := by decide +kernel
theorem hM_count : yM_count.cls ≠ "java/lang/invoke/MethodHandle" ∧ yM_count.cls ≠ "java/lang/invoke/VarHandle" ∧ (parseMethodDescriptor yM_count.desc).map (fun d => d.parameters.length) = some 1 := by decide +kernel
theorem hM_there : yM_there.cls ≠ "java/lang/invoke/MethodHandle" ∧ yM_there.cls ≠ "java/lang/invoke/VarHandle" ∧ (parseMethodDescriptor yM_there.desc).map (fun d => d.parameters.length) = some 0 := by decide +kernel
theorem hM_sample : yM_sample.cls ≠ "java/lang/invoke/MethodHandle" ∧ yM_sample.cls ≠ "java/lang/invoke/VarHandle" ∧ (parseMethodDescriptor yM_sample.desc).map (fun d => d.parameters.length) = some 2 := by decide +kernel
theorem hM_goesLeft : yM_goesLeft.cls ≠ "java/lang/invoke/MethodHandle" ∧ yM_goesLeft.cls ≠ "java/lang/invoke/VarHandle" ∧ (parseMethodDescriptor yM_goesLeft.desc).map (fun d => d.parameters.length) = some 2 := by decide +kernel
theorem hM_leafOf : yM_leafOf.cls ≠ "java/lang/invoke/MethodHandle" ∧ yM_leafOf.cls ≠ "java/lang/invoke/VarHandle" ∧ (parseMethodDescriptor yM_leafOf.desc).map (fun d => d.parameters.length) = some 2 := by decide +kernel
theorem hM_take : yM_take.cls ≠ "java/lang/invoke/MethodHandle" ∧ yM_take.cls ≠ "java/lang/invoke/VarHandle" ∧ (parseMethodDescriptor yM_take.desc).map (fun d => d.parameters.length) = some 1 := by decide +kernel
theorem hM_walk : yM_walk.cls ≠ "java/lang/invoke/MethodHandle" ∧ yM_walk.cls ≠ "java/lang/invoke/VarHandle" ∧ (parseMethodDescriptor yM_walk.desc).map (fun d => d.parameters.length) = some 4 := by decide +kernel
theorem hM_findResiduals : yM_findResiduals.cls ≠ "java/lang/invoke/MethodHandle" ∧ yM_findResiduals.cls ≠ "java/lang/invoke/VarHandle" ∧ (parseMethodDescriptor yM_findResiduals.desc).map (fun d => d.parameters.length) = some 0 := by decide +kernel
theorem hM_commonBits : yM_commonBits.cls ≠ "java/lang/invoke/MethodHandle" ∧ yM_commonBits.cls ≠ "java/lang/invoke/VarHandle" ∧ (parseMethodDescriptor yM_commonBits.desc).map (fun d => d.parameters.length) = some 0 := by decide +kernel
theorem hM_train : yM_train.cls ≠ "java/lang/invoke/MethodHandle" ∧ yM_train.cls ≠ "java/lang/invoke/VarHandle" ∧ (parseMethodDescriptor yM_train.desc).map (fun d => d.parameters.length) = some 1 := by decide +kernel
theorem hM_hold : yM_hold.cls ≠ "java/lang/invoke/MethodHandle" ∧ yM_hold.cls ≠ "java/lang/invoke/VarHandle" ∧ (parseMethodDescriptor yM_hold.desc).map (fun d => d.parameters.length) = some 4 := by decide +kernel
theorem hM_grow : yM_grow.cls ≠ "java/lang/invoke/MethodHandle" ∧ yM_grow.cls ≠ "java/lang/invoke/VarHandle" ∧ (parseMethodDescriptor yM_grow.desc).map (fun d => d.parameters.length) = some 1 := by decide +kernel
theorem hM_beginNode : yM_beginNode.cls ≠ "java/lang/invoke/MethodHandle" ∧ yM_beginNode.cls ≠ "java/lang/invoke/VarHandle" ∧ (parseMethodDescriptor yM_beginNode.desc).map (fun d => d.parameters.length) = some 3 := by decide +kernel
theorem hM_leaf : yM_leaf.cls ≠ "java/lang/invoke/MethodHandle" ∧ yM_leaf.cls ≠ "java/lang/invoke/VarHandle" ∧ (parseMethodDescriptor yM_leaf.desc).map (fun d => d.parameters.length) = some 2 := by decide +kernel
theorem hM_split : yM_split.cls ≠ "java/lang/invoke/MethodHandle" ∧ yM_split.cls ≠ "java/lang/invoke/VarHandle" ∧ (parseMethodDescriptor yM_split.desc).map (fun d => d.parameters.length) = some 1 := by decide +kernel
theorem hM_keep : yM_keep.cls ≠ "java/lang/invoke/MethodHandle" ∧ yM_keep.cls ≠ "java/lang/invoke/VarHandle" ∧ (parseMethodDescriptor yM_keep.desc).map (fun d => d.parameters.length) = some 2 := by decide +kernel
theorem hM_sum : yM_sum.cls ≠ "java/lang/invoke/MethodHandle" ∧ yM_sum.cls ≠ "java/lang/invoke/VarHandle" ∧ (parseMethodDescriptor yM_sum.desc).map (fun d => d.parameters.length) = some 2 := by decide +kernel
theorem hM_look : yM_look.cls ≠ "java/lang/invoke/MethodHandle" ∧ yM_look.cls ≠ "java/lang/invoke/VarHandle" ∧ (parseMethodDescriptor yM_look.desc).map (fun d => d.parameters.length) = some 1 := by decide +kernel
theorem hM_rowsOf : yM_rowsOf.cls ≠ "java/lang/invoke/MethodHandle" ∧ yM_rowsOf.cls ≠ "java/lang/invoke/VarHandle" ∧ (parseMethodDescriptor yM_rowsOf.desc).map (fun d => d.parameters.length) = some 3 := by decide +kernel
theorem hM_isBefore : yM_isBefore.cls ≠ "java/lang/invoke/MethodHandle" ∧ yM_isBefore.cls ≠ "java/lang/invoke/VarHandle" ∧ (parseMethodDescriptor yM_isBefore.desc).map (fun d => d.parameters.length) = some 4 := by decide +kernel
theorem hM_lookAtKinds : yM_lookAtKinds.cls ≠ "java/lang/invoke/MethodHandle" ∧ yM_lookAtKinds.cls ≠ "java/lang/invoke/VarHandle" ∧ (parseMethodDescriptor yM_lookAtKinds.desc).map (fun d => d.parameters.length) = some 3 := by decide +kernel
theorem hM_nextKind : yM_nextKind.cls ≠ "java/lang/invoke/MethodHandle" ∧ yM_nextKind.cls ≠ "java/lang/invoke/VarHandle" ∧ (parseMethodDescriptor yM_nextKind.desc).map (fun d => d.parameters.length) = some 3 := by decide +kernel
theorem hM_lookAtSide : yM_lookAtSide.cls ≠ "java/lang/invoke/MethodHandle" ∧ yM_lookAtSide.cls ≠ "java/lang/invoke/VarHandle" ∧ (parseMethodDescriptor yM_lookAtSide.desc).map (fun d => d.parameters.length) = some 5 := by decide +kernel
theorem hM_weigh : yM_weigh.cls ≠ "java/lang/invoke/MethodHandle" ∧ yM_weigh.cls ≠ "java/lang/invoke/VarHandle" ∧ (parseMethodDescriptor yM_weigh.desc).map (fun d => d.parameters.length) = some 5 := by decide +kernel
theorem hM_drop : yM_drop.cls ≠ "java/lang/invoke/MethodHandle" ∧ yM_drop.cls ≠ "java/lang/invoke/VarHandle" ∧ (parseMethodDescriptor yM_drop.desc).map (fun d => d.parameters.length) = some 1 := by decide +kernel
theorem hM_noTree : yM_noTree.cls ≠ "java/lang/invoke/MethodHandle" ∧ yM_noTree.cls ≠ "java/lang/invoke/VarHandle" ∧ (parseMethodDescriptor yM_noTree.desc).map (fun d => d.parameters.length) = some 1 := by decide +kernel
theorem hM_noNode : yM_noNode.cls ≠ "java/lang/invoke/MethodHandle" ∧ yM_noNode.cls ≠ "java/lang/invoke/VarHandle" ∧ (parseMethodDescriptor yM_noNode.desc).map (fun d => d.parameters.length) = some 2 := by decide +kernel
theorem hM_node : yM_node.cls ≠ "java/lang/invoke/MethodHandle" ∧ yM_node.cls ≠ "java/lang/invoke/VarHandle" ∧ (parseMethodDescriptor yM_node.desc).map (fun d => d.parameters.length) = some 3 := by decide +kernel
theorem hM_countb : yM_countb.cls ≠ "java/lang/invoke/MethodHandle" ∧ yM_countb.cls ≠ "java/lang/invoke/VarHandle" ∧ (parseMethodDescriptor yM_countb.desc).map (fun d => d.parameters.length) = some 1 := by decide +kernel
theorem hM_nodes : yM_nodes.cls ≠ "java/lang/invoke/MethodHandle" ∧ yM_nodes.cls ≠ "java/lang/invoke/VarHandle" ∧ (parseMethodDescriptor yM_nodes.desc).map (fun d => d.parameters.length) = some 1 := by decide +kernel
theorem hM_uses : yM_uses.cls ≠ "java/lang/invoke/MethodHandle" ∧ yM_uses.cls ≠ "java/lang/invoke/VarHandle" ∧ (parseMethodDescriptor yM_uses.desc).map (fun d => d.parameters.length) = some 1 := by decide +kernel
theorem hM_writeDigits : yM_writeDigits.cls ≠ "java/lang/invoke/MethodHandle" ∧ yM_writeDigits.cls ≠ "java/lang/invoke/VarHandle" ∧ (parseMethodDescriptor yM_writeDigits.desc).map (fun d => d.parameters.length) = some 1 := by decide +kernel
theorem hM_write : yM_write.cls ≠ "java/lang/invoke/MethodHandle" ∧ yM_write.cls ≠ "java/lang/invoke/VarHandle" ∧ (parseMethodDescriptor yM_write.desc).map (fun d => d.parameters.length) = some 2 := by decide +kernel
theorem hM_tell : yM_tell.cls ≠ "java/lang/invoke/MethodHandle" ∧ yM_tell.cls ≠ "java/lang/invoke/VarHandle" ∧ (parseMethodDescriptor yM_tell.desc).map (fun d => d.parameters.length) = some 2 := by decide +kernel
theorem hM_residual : yM_residual.cls ≠ "java/lang/invoke/MethodHandle" ∧ yM_residual.cls ≠ "java/lang/invoke/VarHandle" ∧ (parseMethodDescriptor yM_residual.desc).map (fun d => d.parameters.length) = some 2 := by decide +kernel
theorem hM_ask : yM_ask.cls ≠ "java/lang/invoke/MethodHandle" ∧ yM_ask.cls ≠ "java/lang/invoke/VarHandle" ∧ (parseMethodDescriptor yM_ask.desc).map (fun d => d.parameters.length) = some 2 := by decide +kernel
theorem hM_predict : yM_predict.cls ≠ "java/lang/invoke/MethodHandle" ∧ yM_predict.cls ≠ "java/lang/invoke/VarHandle" ∧ (parseMethodDescriptor yM_predict.desc).map (fun d => d.parameters.length) = some 1 := by decide +kernel
theorem hM_sumSquares : yM_sumSquares.cls ≠ "java/lang/invoke/MethodHandle" ∧ yM_sumSquares.cls ≠ "java/lang/invoke/VarHandle" ∧ (parseMethodDescriptor yM_sumSquares.desc).map (fun d => d.parameters.length) = some 2 := by decide +kernel
theorem hM_error : yM_error.cls ≠ "java/lang/invoke/MethodHandle" ∧ yM_error.cls ≠ "java/lang/invoke/VarHandle" ∧ (parseMethodDescriptor yM_error.desc).map (fun d => d.parameters.length) = some 2 := by decide +kernel
theorem hM_best : yM_best.cls ≠ "java/lang/invoke/MethodHandle" ∧ yM_best.cls ≠ "java/lang/invoke/VarHandle" ∧ (parseMethodDescriptor yM_best.desc).map (fun d => d.parameters.length) = some 1 := by decide +kernel
theorem hM_byteAt : yM_byteAt.cls ≠ "java/lang/invoke/MethodHandle" ∧ yM_byteAt.cls ≠ "java/lang/invoke/VarHandle" ∧ (parseMethodDescriptor yM_byteAt.desc).map (fun d => d.parameters.length) = some 1 := by decide +kernel
theorem hC_init : yC_init.cls ≠ "java/lang/invoke/MethodHandle" ∧ yC_init.cls ≠ "java/lang/invoke/VarHandle" ∧ (parseMethodDescriptor yC_init.desc).map (fun d => d.parameters.length) = some 0 := by decide +kernel
theorem hC_takes : yC_takes.cls ≠ "java/lang/invoke/MethodHandle" ∧ yC_takes.cls ≠ "java/lang/invoke/VarHandle" ∧ (parseMethodDescriptor yC_takes.desc).map (fun d => d.parameters.length) = some 1 := by decide +kernel
theorem hC_exchange : yC_exchange.cls ≠ "java/lang/invoke/MethodHandle" ∧ yC_exchange.cls ≠ "java/lang/invoke/VarHandle" ∧ (parseMethodDescriptor yC_exchange.desc).map (fun d => d.parameters.length) = some 2 := by decide +kernel
theorem hC_hasKindsAlone : yC_hasKindsAlone.cls ≠ "java/lang/invoke/MethodHandle" ∧ yC_hasKindsAlone.cls ≠ "java/lang/invoke/VarHandle" ∧ (parseMethodDescriptor yC_hasKindsAlone.desc).map (fun d => d.parameters.length) = some 1 := by decide +kernel
theorem hC_become : yC_become.cls ≠ "java/lang/invoke/MethodHandle" ∧ yC_become.cls ≠ "java/lang/invoke/VarHandle" ∧ (parseMethodDescriptor yC_become.desc).map (fun d => d.parameters.length) = some 1 := by decide +kernel
theorem hC_binOf : yC_binOf.cls ≠ "java/lang/invoke/MethodHandle" ∧ yC_binOf.cls ≠ "java/lang/invoke/VarHandle" ∧ (parseMethodDescriptor yC_binOf.desc).map (fun d => d.parameters.length) = some 1 := by decide +kernel
theorem hC_sortInto : yC_sortInto.cls ≠ "java/lang/invoke/MethodHandle" ∧ yC_sortInto.cls ≠ "java/lang/invoke/VarHandle" ∧ (parseMethodDescriptor yC_sortInto.desc).map (fun d => d.parameters.length) = some 2 := by decide +kernel
theorem hC_cutEdges : yC_cutEdges.cls ≠ "java/lang/invoke/MethodHandle" ∧ yC_cutEdges.cls ≠ "java/lang/invoke/VarHandle" ∧ (parseMethodDescriptor yC_cutEdges.desc).map (fun d => d.parameters.length) = some 4 := by decide +kernel
theorem hG_init : yG_init.cls ≠ "java/lang/invoke/MethodHandle" ∧ yG_init.cls ≠ "java/lang/invoke/VarHandle" ∧ (parseMethodDescriptor yG_init.desc).map (fun d => d.parameters.length) = some 0 := by decide +kernel
theorem hG_clear : yG_clear.cls ≠ "java/lang/invoke/MethodHandle" ∧ yG_clear.cls ≠ "java/lang/invoke/VarHandle" ∧ (parseMethodDescriptor yG_clear.desc).map (fun d => d.parameters.length) = some 0 := by decide +kernel
theorem hG_takeIn : yG_takeIn.cls ≠ "java/lang/invoke/MethodHandle" ∧ yG_takeIn.cls ≠ "java/lang/invoke/VarHandle" ∧ (parseMethodDescriptor yG_takeIn.desc).map (fun d => d.parameters.length) = some 2 := by decide +kernel
theorem hG_become : yG_become.cls ≠ "java/lang/invoke/MethodHandle" ∧ yG_become.cls ≠ "java/lang/invoke/VarHandle" ∧ (parseMethodDescriptor yG_become.desc).map (fun d => d.parameters.length) = some 1 := by decide +kernel
theorem hGr_init : yGr_init.cls ≠ "java/lang/invoke/MethodHandle" ∧ yGr_init.cls ≠ "java/lang/invoke/VarHandle" ∧ (parseMethodDescriptor yGr_init.desc).map (fun d => d.parameters.length) = some 3 := by decide +kernel
theorem hGr_grow : yGr_grow.cls ≠ "java/lang/invoke/MethodHandle" ∧ yGr_grow.cls ≠ "java/lang/invoke/VarHandle" ∧ (parseMethodDescriptor yGr_grow.desc).map (fun d => d.parameters.length) = some 3 := by decide +kernel
theorem hGr_sumUp : yGr_sumUp.cls ≠ "java/lang/invoke/MethodHandle" ∧ yGr_sumUp.cls ≠ "java/lang/invoke/VarHandle" ∧ (parseMethodDescriptor yGr_sumUp.desc).map (fun d => d.parameters.length) = some 2 := by decide +kernel
theorem hGr_findSplit : yGr_findSplit.cls ≠ "java/lang/invoke/MethodHandle" ∧ yGr_findSplit.cls ≠ "java/lang/invoke/VarHandle" ∧ (parseMethodDescriptor yGr_findSplit.desc).map (fun d => d.parameters.length) = some 2 := by decide +kernel
theorem hGr_tryColumn : yGr_tryColumn.cls ≠ "java/lang/invoke/MethodHandle" ∧ yGr_tryColumn.cls ≠ "java/lang/invoke/VarHandle" ∧ (parseMethodDescriptor yGr_tryColumn.desc).map (fun d => d.parameters.length) = some 3 := by decide +kernel
theorem hGr_gather : yGr_gather.cls ≠ "java/lang/invoke/MethodHandle" ∧ yGr_gather.cls ≠ "java/lang/invoke/VarHandle" ∧ (parseMethodDescriptor yGr_gather.desc).map (fun d => d.parameters.length) = some 2 := by decide +kernel
theorem hGr_orderBins : yGr_orderBins.cls ≠ "java/lang/invoke/MethodHandle" ∧ yGr_orderBins.cls ≠ "java/lang/invoke/VarHandle" ∧ (parseMethodDescriptor yGr_orderBins.desc).map (fun d => d.parameters.length) = some 1 := by decide +kernel
theorem hGr_orderKinds : yGr_orderKinds.cls ≠ "java/lang/invoke/MethodHandle" ∧ yGr_orderKinds.cls ≠ "java/lang/invoke/VarHandle" ∧ (parseMethodDescriptor yGr_orderKinds.desc).map (fun d => d.parameters.length) = some 0 := by decide +kernel
theorem hGr_isBefore : yGr_isBefore.cls ≠ "java/lang/invoke/MethodHandle" ∧ yGr_isBefore.cls ≠ "java/lang/invoke/VarHandle" ∧ (parseMethodDescriptor yGr_isBefore.desc).map (fun d => d.parameters.length) = some 2 := by decide +kernel
theorem hGr_consider : yGr_consider.cls ≠ "java/lang/invoke/MethodHandle" ∧ yGr_consider.cls ≠ "java/lang/invoke/VarHandle" ∧ (parseMethodDescriptor yGr_consider.desc).map (fun d => d.parameters.length) = some 5 := by decide +kernel
theorem hGr_isBetter : yGr_isBetter.cls ≠ "java/lang/invoke/MethodHandle" ∧ yGr_isBetter.cls ≠ "java/lang/invoke/VarHandle" ∧ (parseMethodDescriptor yGr_isBetter.desc).map (fun d => d.parameters.length) = some 0 := by decide +kernel
theorem hN_init : yN_init.cls ≠ "java/lang/invoke/MethodHandle" ∧ yN_init.cls ≠ "java/lang/invoke/VarHandle" ∧ (parseMethodDescriptor yN_init.desc).map (fun d => d.parameters.length) = some 0 := by decide +kernel
theorem hN_becomeLeaf : yN_becomeLeaf.cls ≠ "java/lang/invoke/MethodHandle" ∧ yN_becomeLeaf.cls ≠ "java/lang/invoke/VarHandle" ∧ (parseMethodDescriptor yN_becomeLeaf.desc).map (fun d => d.parameters.length) = some 0 := by decide +kernel
theorem hN_sendsLeft : yN_sendsLeft.cls ≠ "java/lang/invoke/MethodHandle" ∧ yN_sendsLeft.cls ≠ "java/lang/invoke/VarHandle" ∧ (parseMethodDescriptor yN_sendsLeft.desc).map (fun d => d.parameters.length) = some 1 := by decide +kernel
theorem hO_init : yO_init.cls ≠ "java/lang/invoke/MethodHandle" ∧ yO_init.cls ≠ "java/lang/invoke/VarHandle" ∧ (parseMethodDescriptor yO_init.desc).map (fun d => d.parameters.length) = some 0 := by decide +kernel
theorem hO_write : yO_write.cls ≠ "java/lang/invoke/MethodHandle" ∧ yO_write.cls ≠ "java/lang/invoke/VarHandle" ∧ (parseMethodDescriptor yO_write.desc).map (fun d => d.parameters.length) = some 0 := by decide +kernel
theorem hO_appendDigits : yO_appendDigits.cls ≠ "java/lang/invoke/MethodHandle" ∧ yO_appendDigits.cls ≠ "java/lang/invoke/VarHandle" ∧ (parseMethodDescriptor yO_appendDigits.desc).map (fun d => d.parameters.length) = some 1 := by decide +kernel
theorem hO_append : yO_append.cls ≠ "java/lang/invoke/MethodHandle" ∧ yO_append.cls ≠ "java/lang/invoke/VarHandle" ∧ (parseMethodDescriptor yO_append.desc).map (fun d => d.parameters.length) = some 1 := by decide +kernel
theorem hP_init : yP_init.cls ≠ "java/lang/invoke/MethodHandle" ∧ yP_init.cls ≠ "java/lang/invoke/VarHandle" ∧ (parseMethodDescriptor yP_init.desc).map (fun d => d.parameters.length) = some 0 := by decide +kernel
theorem hP_clear : yP_clear.cls ≠ "java/lang/invoke/MethodHandle" ∧ yP_clear.cls ≠ "java/lang/invoke/VarHandle" ∧ (parseMethodDescriptor yP_clear.desc).map (fun d => d.parameters.length) = some 0 := by decide +kernel
theorem hS_init : yS_init.cls ≠ "java/lang/invoke/MethodHandle" ∧ yS_init.cls ≠ "java/lang/invoke/VarHandle" ∧ (parseMethodDescriptor yS_init.desc).map (fun d => d.parameters.length) = some 0 := by decide +kernel
theorem hT_init : yT_init.cls ≠ "java/lang/invoke/MethodHandle" ∧ yT_init.cls ≠ "java/lang/invoke/VarHandle" ∧ (parseMethodDescriptor yT_init.desc).map (fun d => d.parameters.length) = some 0 := by decide +kernel
theorem hT_clear : yT_clear.cls ≠ "java/lang/invoke/MethodHandle" ∧ yT_clear.cls ≠ "java/lang/invoke/VarHandle" ∧ (parseMethodDescriptor yT_clear.desc).map (fun d => d.parameters.length) = some 1 := by decide +kernel
theorem hT_hasRow : yT_hasRow.cls ≠ "java/lang/invoke/MethodHandle" ∧ yT_hasRow.cls ≠ "java/lang/invoke/VarHandle" ∧ (parseMethodDescriptor yT_hasRow.desc).map (fun d => d.parameters.length) = some 1 := by decide +kernel
theorem hT_hasColumn : yT_hasColumn.cls ≠ "java/lang/invoke/MethodHandle" ∧ yT_hasColumn.cls ≠ "java/lang/invoke/VarHandle" ∧ (parseMethodDescriptor yT_hasColumn.desc).map (fun d => d.parameters.length) = some 1 := by decide +kernel
theorem hT_rowBits : yT_rowBits.cls ≠ "java/lang/invoke/MethodHandle" ∧ yT_rowBits.cls ≠ "java/lang/invoke/VarHandle" ∧ (parseMethodDescriptor yT_rowBits.desc).map (fun d => d.parameters.length) = some 0 := by decide +kernel
theorem hT_columnBits : yT_columnBits.cls ≠ "java/lang/invoke/MethodHandle" ∧ yT_columnBits.cls ≠ "java/lang/invoke/VarHandle" ∧ (parseMethodDescriptor yT_columnBits.desc).map (fun d => d.parameters.length) = some 0 := by decide +kernel
theorem hT_newRow : yT_newRow.cls ≠ "java/lang/invoke/MethodHandle" ∧ yT_newRow.cls ≠ "java/lang/invoke/VarHandle" ∧ (parseMethodDescriptor yT_newRow.desc).map (fun d => d.parameters.length) = some 1 := by decide +kernel
theorem hTr_init : yTr_init.cls ≠ "java/lang/invoke/MethodHandle" ∧ yTr_init.cls ≠ "java/lang/invoke/VarHandle" ∧ (parseMethodDescriptor yTr_init.desc).map (fun d => d.parameters.length) = some 0 := by decide +kernel
theorem hTr_at : yTr_at.cls ≠ "java/lang/invoke/MethodHandle" ∧ yTr_at.cls ≠ "java/lang/invoke/VarHandle" ∧ (parseMethodDescriptor yTr_at.desc).map (fun d => d.parameters.length) = some 1 := by decide +kernel
theorem hTr_newLeaf : yTr_newLeaf.cls ≠ "java/lang/invoke/MethodHandle" ∧ yTr_newLeaf.cls ≠ "java/lang/invoke/VarHandle" ∧ (parseMethodDescriptor yTr_newLeaf.desc).map (fun d => d.parameters.length) = some 2 := by decide +kernel
theorem hTr_settle : yTr_settle.cls ≠ "java/lang/invoke/MethodHandle" ∧ yTr_settle.cls ≠ "java/lang/invoke/VarHandle" ∧ (parseMethodDescriptor yTr_settle.desc).map (fun d => d.parameters.length) = some 1 := by decide +kernel
theorem hTr_setToValue : yTr_setToValue.cls ≠ "java/lang/invoke/MethodHandle" ∧ yTr_setToValue.cls ≠ "java/lang/invoke/VarHandle" ∧ (parseMethodDescriptor yTr_setToValue.desc).map (fun d => d.parameters.length) = some 2 := by decide +kernel
theorem hTr_leafOf : yTr_leafOf.cls ≠ "java/lang/invoke/MethodHandle" ∧ yTr_leafOf.cls ≠ "java/lang/invoke/VarHandle" ∧ (parseMethodDescriptor yTr_leafOf.desc).map (fun d => d.parameters.length) = some 2 := by decide +kernel
theorem hTr_splitsOf : yTr_splitsOf.cls ≠ "java/lang/invoke/MethodHandle" ∧ yTr_splitsOf.cls ≠ "java/lang/invoke/VarHandle" ∧ (parseMethodDescriptor yTr_splitsOf.desc).map (fun d => d.parameters.length) = some 1 := by decide +kernel
theorem hW_init : yW_init.cls ≠ "java/lang/invoke/MethodHandle" ∧ yW_init.cls ≠ "java/lang/invoke/VarHandle" ∧ (parseMethodDescriptor yW_init.desc).map (fun d => d.parameters.length) = some 1 := by decide +kernel
theorem hW_mostBits : yW_mostBits.cls ≠ "java/lang/invoke/MethodHandle" ∧ yW_mostBits.cls ≠ "java/lang/invoke/VarHandle" ∧ (parseMethodDescriptor yW_mostBits.desc).map (fun d => d.parameters.length) = some 0 := by decide +kernel
theorem hW_set : yW_set.cls ≠ "java/lang/invoke/MethodHandle" ∧ yW_set.cls ≠ "java/lang/invoke/VarHandle" ∧ (parseMethodDescriptor yW_set.desc).map (fun d => d.parameters.length) = some 1 := by decide +kernel
theorem hW_setb : yW_setb.cls ≠ "java/lang/invoke/MethodHandle" ∧ yW_setb.cls ≠ "java/lang/invoke/VarHandle" ∧ (parseMethodDescriptor yW_setb.desc).map (fun d => d.parameters.length) = some 1 := by decide +kernel
theorem hW_turn : yW_turn.cls ≠ "java/lang/invoke/MethodHandle" ∧ yW_turn.cls ≠ "java/lang/invoke/VarHandle" ∧ (parseMethodDescriptor yW_turn.desc).map (fun d => d.parameters.length) = some 0 := by decide +kernel
theorem hW_sign : yW_sign.cls ≠ "java/lang/invoke/MethodHandle" ∧ yW_sign.cls ≠ "java/lang/invoke/VarHandle" ∧ (parseMethodDescriptor yW_sign.desc).map (fun d => d.parameters.length) = some 0 := by decide +kernel
theorem hW_trim : yW_trim.cls ≠ "java/lang/invoke/MethodHandle" ∧ yW_trim.cls ≠ "java/lang/invoke/VarHandle" ∧ (parseMethodDescriptor yW_trim.desc).map (fun d => d.parameters.length) = some 1 := by decide +kernel
theorem hW_times : yW_times.cls ≠ "java/lang/invoke/MethodHandle" ∧ yW_times.cls ≠ "java/lang/invoke/VarHandle" ∧ (parseMethodDescriptor yW_times.desc).map (fun d => d.parameters.length) = some 1 := by decide +kernel
theorem hW_setProduct : yW_setProduct.cls ≠ "java/lang/invoke/MethodHandle" ∧ yW_setProduct.cls ≠ "java/lang/invoke/VarHandle" ∧ (parseMethodDescriptor yW_setProduct.desc).map (fun d => d.parameters.length) = some 2 := by decide +kernel
theorem hW_plus : yW_plus.cls ≠ "java/lang/invoke/MethodHandle" ∧ yW_plus.cls ≠ "java/lang/invoke/VarHandle" ∧ (parseMethodDescriptor yW_plus.desc).map (fun d => d.parameters.length) = some 2 := by decide +kernel
theorem hW_complement : yW_complement.cls ≠ "java/lang/invoke/MethodHandle" ∧ yW_complement.cls ≠ "java/lang/invoke/VarHandle" ∧ (parseMethodDescriptor yW_complement.desc).map (fun d => d.parameters.length) = some 1 := by decide +kernel
theorem hW_rest : yW_rest.cls ≠ "java/lang/invoke/MethodHandle" ∧ yW_rest.cls ≠ "java/lang/invoke/VarHandle" ∧ (parseMethodDescriptor yW_rest.desc).map (fun d => d.parameters.length) = some 1 := by decide +kernel
theorem hW_divide : yW_divide.cls ≠ "java/lang/invoke/MethodHandle" ∧ yW_divide.cls ≠ "java/lang/invoke/VarHandle" ∧ (parseMethodDescriptor yW_divide.desc).map (fun d => d.parameters.length) = some 1 := by decide +kernel
theorem hW_compare : yW_compare.cls ≠ "java/lang/invoke/MethodHandle" ∧ yW_compare.cls ≠ "java/lang/invoke/VarHandle" ∧ (parseMethodDescriptor yW_compare.desc).map (fun d => d.parameters.length) = some 1 := by decide +kernel
theorem hW_halveAway : yW_halveAway.cls ≠ "java/lang/invoke/MethodHandle" ∧ yW_halveAway.cls ≠ "java/lang/invoke/VarHandle" ∧ (parseMethodDescriptor yW_halveAway.desc).map (fun d => d.parameters.length) = some 0 := by decide +kernel
theorem hL_begin : yL_begin.cls ≠ "java/lang/invoke/MethodHandle" ∧ yL_begin.cls ≠ "java/lang/invoke/VarHandle" ∧ (parseMethodDescriptor yL_begin.desc).map (fun d => d.parameters.length) = some 2 := by decide +kernel
theorem hL_add : yL_add.cls ≠ "java/lang/invoke/MethodHandle" ∧ yL_add.cls ≠ "java/lang/invoke/VarHandle" ∧ (parseMethodDescriptor yL_add.desc).map (fun d => d.parameters.length) = some 3 := by decide +kernel
theorem hL_put : yL_put.cls ≠ "java/lang/invoke/MethodHandle" ∧ yL_put.cls ≠ "java/lang/invoke/VarHandle" ∧ (parseMethodDescriptor yL_put.desc).map (fun d => d.parameters.length) = some 5 := by decide +kernel
theorem hL_target : yL_target.cls ≠ "java/lang/invoke/MethodHandle" ∧ yL_target.cls ≠ "java/lang/invoke/VarHandle" ∧ (parseMethodDescriptor yL_target.desc).map (fun d => d.parameters.length) = some 4 := by decide +kernel
theorem hL_kinds : yL_kinds.cls ≠ "java/lang/invoke/MethodHandle" ∧ yL_kinds.cls ≠ "java/lang/invoke/VarHandle" ∧ (parseMethodDescriptor yL_kinds.desc).map (fun d => d.parameters.length) = some 4 := by decide +kernel
theorem hL_cut : yL_cut.cls ≠ "java/lang/invoke/MethodHandle" ∧ yL_cut.cls ≠ "java/lang/invoke/VarHandle" ∧ (parseMethodDescriptor yL_cut.desc).map (fun d => d.parameters.length) = some 5 := by decide +kernel
theorem hL_edge : yL_edge.cls ≠ "java/lang/invoke/MethodHandle" ∧ yL_edge.cls ≠ "java/lang/invoke/VarHandle" ∧ (parseMethodDescriptor yL_edge.desc).map (fun d => d.parameters.length) = some 4 := by decide +kernel
theorem hL_bin : yL_bin.cls ≠ "java/lang/invoke/MethodHandle" ∧ yL_bin.cls ≠ "java/lang/invoke/VarHandle" ∧ (parseMethodDescriptor yL_bin.desc).map (fun d => d.parameters.length) = some 4 := by decide +kernel
theorem hL_shape : yL_shape.cls ≠ "java/lang/invoke/MethodHandle" ∧ yL_shape.cls ≠ "java/lang/invoke/VarHandle" ∧ (parseMethodDescriptor yL_shape.desc).map (fun d => d.parameters.length) = some 4 := by decide +kernel
theorem hL_rate : yL_rate.cls ≠ "java/lang/invoke/MethodHandle" ∧ yL_rate.cls ≠ "java/lang/invoke/VarHandle" ∧ (parseMethodDescriptor yL_rate.desc).map (fun d => d.parameters.length) = some 3 := by decide +kernel
theorem hL_train : yL_train.cls ≠ "java/lang/invoke/MethodHandle" ∧ yL_train.cls ≠ "java/lang/invoke/VarHandle" ∧ (parseMethodDescriptor yL_train.desc).map (fun d => d.parameters.length) = some 3 := by decide +kernel
theorem hL_drop : yL_drop.cls ≠ "java/lang/invoke/MethodHandle" ∧ yL_drop.cls ≠ "java/lang/invoke/VarHandle" ∧ (parseMethodDescriptor yL_drop.desc).map (fun d => d.parameters.length) = some 3 := by decide +kernel
theorem hL_node : yL_node.cls ≠ "java/lang/invoke/MethodHandle" ∧ yL_node.cls ≠ "java/lang/invoke/VarHandle" ∧ (parseMethodDescriptor yL_node.desc).map (fun d => d.parameters.length) = some 5 := by decide +kernel
theorem hL_count : yL_count.cls ≠ "java/lang/invoke/MethodHandle" ∧ yL_count.cls ≠ "java/lang/invoke/VarHandle" ∧ (parseMethodDescriptor yL_count.desc).map (fun d => d.parameters.length) = some 3 := by decide +kernel
theorem hL_nodes : yL_nodes.cls ≠ "java/lang/invoke/MethodHandle" ∧ yL_nodes.cls ≠ "java/lang/invoke/VarHandle" ∧ (parseMethodDescriptor yL_nodes.desc).map (fun d => d.parameters.length) = some 3 := by decide +kernel
theorem hL_uses : yL_uses.cls ≠ "java/lang/invoke/MethodHandle" ∧ yL_uses.cls ≠ "java/lang/invoke/VarHandle" ∧ (parseMethodDescriptor yL_uses.desc).map (fun d => d.parameters.length) = some 3 := by decide +kernel
theorem hL_tell : yL_tell.cls ≠ "java/lang/invoke/MethodHandle" ∧ yL_tell.cls ≠ "java/lang/invoke/VarHandle" ∧ (parseMethodDescriptor yL_tell.desc).map (fun d => d.parameters.length) = some 4 := by decide +kernel
theorem hL_residual : yL_residual.cls ≠ "java/lang/invoke/MethodHandle" ∧ yL_residual.cls ≠ "java/lang/invoke/VarHandle" ∧ (parseMethodDescriptor yL_residual.desc).map (fun d => d.parameters.length) = some 4 := by decide +kernel
theorem hL_ask : yL_ask.cls ≠ "java/lang/invoke/MethodHandle" ∧ yL_ask.cls ≠ "java/lang/invoke/VarHandle" ∧ (parseMethodDescriptor yL_ask.desc).map (fun d => d.parameters.length) = some 4 := by decide +kernel
theorem hL_predict : yL_predict.cls ≠ "java/lang/invoke/MethodHandle" ∧ yL_predict.cls ≠ "java/lang/invoke/VarHandle" ∧ (parseMethodDescriptor yL_predict.desc).map (fun d => d.parameters.length) = some 3 := by decide +kernel
theorem hL_error : yL_error.cls ≠ "java/lang/invoke/MethodHandle" ∧ yL_error.cls ≠ "java/lang/invoke/VarHandle" ∧ (parseMethodDescriptor yL_error.desc).map (fun d => d.parameters.length) = some 4 := by decide +kernel
abbrev vwCl : List vw_C := [(R_R, T_R, 13), (R_C, T_C, 4), (R_T, T_T, 4), (R_P, T_P, 7), (R_W, T_W, 3), (R_G, T_G, 2), (R_S, T_S, 7), (R_Gr, T_Gr, 13), (R_O, T_O, 4), (R_Tr, T_Tr, 6), (R_N, T_N, 9), (R_M, T_M, 60), (R_AL, T_AL, 3)]
