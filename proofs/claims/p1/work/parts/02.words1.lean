theorem w0 : (Jvm.Cond.initialized "ResidualTreesLaw") ∈ TB := tb_1 0 rfl rfl
theorem w1 : (Jvm.Cond.initialized "ResidualTrees") ∈ TB := tb_1 1 rfl rfl
theorem w2 : (Jvm.Cond.initialized "ResidualTrees$Table") ∈ TB := tb_1 2 rfl rfl
theorem w3 : (Jvm.Cond.initialized "ResidualTrees$Column") ∈ TB := tb_1 3 rfl rfl
theorem w4 : (Jvm.Cond.initialized "ResidualTrees$Plan") ∈ TB := tb_1 4 rfl rfl
theorem w5 : (Jvm.Cond.initialized "ResidualTrees$Whole") ∈ TB := tb_1 5 rfl rfl
theorem w6 : (Jvm.Cond.initialized "ResidualTrees$Grower") ∈ TB := tb_1 6 rfl rfl
theorem w7 : (Jvm.Cond.initialized "ResidualTrees$Group") ∈ TB := tb_1 7 rfl rfl
theorem w8 : (Jvm.Cond.initialized "ResidualTrees$Split") ∈ TB := tb_1 8 rfl rfl
theorem w9 : (Jvm.Cond.initialized "java/util/AbstractCollection") ∈ TB := tb_1 9 rfl rfl
theorem w10 : (Jvm.Cond.initialized "java/util/AbstractList") ∈ TB := tb_1 10 rfl rfl
theorem w11 : (Jvm.Cond.initialized "java/util/ArrayList") ∈ TB := tb_1 11 rfl rfl
theorem w12 : (Jvm.Cond.initialized "ResidualTrees$Out") ∈ TB := tb_1 12 rfl rfl
theorem w13 : (Jvm.Cond.initialized "ResidualTreesModel") ∈ TB := tb_1 13 rfl rfl
theorem w14 : (Jvm.Cond.initialized "java/lang/Throwable") ∈ TB := tb_1 14 rfl rfl
theorem w15 : (Jvm.Cond.initialized "java/lang/Exception") ∈ TB := tb_1 15 rfl rfl
theorem w16 : (Jvm.Cond.initialized "java/lang/RuntimeException") ∈ TB := tb_1 16 rfl rfl
theorem w17 : (Jvm.Cond.initialized "java/lang/IllegalArgumentException") ∈ TB := tb_1 17 rfl rfl
theorem w18 : (Jvm.Cond.initialized "java/lang/IllegalStateException") ∈ TB := tb_1 18 rfl rfl
theorem w19 : (Jvm.Cond.initialized "java/lang/Long") ∈ TB := tb_1 19 rfl rfl
theorem w20 : (Jvm.Cond.initialized "java/util/Objects") ∈ TB := tb_1 20 rfl rfl
theorem w21 : (Jvm.Cond.initialized "jdk/internal/util/Preconditions") ∈ TB := tb_1 21 rfl rfl
theorem w22 : (Jvm.Cond.initialized "java/lang/Math") ∈ TB := tb_1 22 rfl rfl
theorem w23 : (Jvm.Cond.initialized "java/lang/System") ∈ TB := tb_1 23 rfl rfl
theorem w24 : (Jvm.Cond.initialized "ResidualTrees$Tree") ∈ TB := tb_1 24 rfl rfl
theorem w25 : (Jvm.Cond.initialized "jdk/internal/util/ArraysSupport") ∈ TB := tb_1 25 rfl rfl
theorem w26 : (Jvm.Cond.initialized "java/util/Arrays") ∈ TB := tb_1 26 rfl rfl
theorem w27 : (Jvm.Cond.initialized "ResidualTrees$Node") ∈ TB := tb_1 27 rfl rfl
theorem w28 : (Jvm.Cond.initialized "java/lang/Integer") ∈ TB := tb_1 28 rfl rfl
theorem w29 : (Jvm.Cond.classLink "ResidualTreesLaw" (8 : Nat) "ResidualTrees") ∈ TB := tb_1 29 rfl rfl
theorem w30 : (Jvm.Cond.instantiable "ResidualTrees" (13 : Nat)) ∈ TB := tb_1 30 rfl rfl
theorem w31 : (Jvm.Cond.methodLink "ResidualTreesLaw" (85 : Nat) ({ cls := "ResidualTrees", name := "<init>", desc := "()V" } : Jvm.MethodName)) ∈ TB := tb_1 31 rfl rfl
theorem w32 : (Jvm.Cond.instanceMethod ({ cls := "ResidualTrees", name := "<init>", desc := "()V" } : Jvm.MethodName)) ∈ TB := tb_1 32 rfl rfl
theorem w33 : (Jvm.Cond.code ({ cls := "ResidualTrees", name := "<init>", desc := "()V" } : Jvm.MethodName) prog_1_method_1_code (1 : Nat) (Option.none : Option Jvm.ClassFile.FieldType)) ∈ TB := tb_1 33 rfl rfl
theorem w34 : (Jvm.Cond.methodLink "ResidualTrees" (3 : Nat) ({ cls := "java/lang/Object", name := "<init>", desc := "()V" } : Jvm.MethodName)) ∈ TB := tb_1 34 rfl rfl
theorem w35 : (Jvm.Cond.instanceMethod ({ cls := "java/lang/Object", name := "<init>", desc := "()V" } : Jvm.MethodName)) ∈ TB := tb_1 35 rfl rfl
theorem w36 : (Jvm.Cond.code ({ cls := "java/lang/Object", name := "<init>", desc := "()V" } : Jvm.MethodName) object_method_1_code (1 : Nat) (Option.none : Option Jvm.ClassFile.FieldType)) ∈ TB := tb_1 36 rfl rfl
theorem w37 : (Jvm.Cond.classLink "ResidualTrees" (9 : Nat) "ResidualTrees$Table") ∈ TB := tb_1 37 rfl rfl
theorem w38 : (Jvm.Cond.instantiable "ResidualTrees$Table" (4 : Nat)) ∈ TB := tb_1 38 rfl rfl
theorem w39 : (Jvm.Cond.methodLink "ResidualTrees" (11 : Nat) ({ cls := "ResidualTrees$Table", name := "<init>", desc := "()V" } : Jvm.MethodName)) ∈ TB := tb_1 39 rfl rfl
theorem w40 : (Jvm.Cond.instanceMethod ({ cls := "ResidualTrees$Table", name := "<init>", desc := "()V" } : Jvm.MethodName)) ∈ TB := tb_1 40 rfl rfl
theorem w41 : (Jvm.Cond.code ({ cls := "ResidualTrees$Table", name := "<init>", desc := "()V" } : Jvm.MethodName) prog_9_method_1_code (2 : Nat) (Option.none : Option Jvm.ClassFile.FieldType)) ∈ TB := tb_1 41 rfl rfl
theorem w42 : (Jvm.Cond.methodLink "ResidualTrees$Table" (3 : Nat) ({ cls := "java/lang/Object", name := "<init>", desc := "()V" } : Jvm.MethodName)) ∈ TB := tb_1 42 rfl rfl
theorem w43 : (Jvm.Cond.classLink "ResidualTrees$Table" (9 : Nat) "ResidualTrees$Column") ∈ TB := tb_1 43 rfl rfl
theorem w45 : (Jvm.Cond.instantiable "ResidualTrees$Column" (4 : Nat)) ∈ TB := tb_1 45 rfl rfl
theorem w47 : (Jvm.Cond.instanceMethod ({ cls := "ResidualTrees$Column", name := "<init>", desc := "()V" } : Jvm.MethodName)) ∈ TB := tb_1 47 rfl rfl
theorem w48 : (Jvm.Cond.code ({ cls := "ResidualTrees$Column", name := "<init>", desc := "()V" } : Jvm.MethodName) prog_2_method_1_code (1 : Nat) (Option.none : Option Jvm.ClassFile.FieldType)) ∈ TB := tb_1 48 rfl rfl
theorem w49 : (Jvm.Cond.methodLink "ResidualTrees$Column" (3 : Nat) ({ cls := "java/lang/Object", name := "<init>", desc := "()V" } : Jvm.MethodName)) ∈ TB := tb_1 49 rfl rfl
theorem w50 : (Jvm.Cond.fieldLink "ResidualTrees$Column" (9 : Nat) "ResidualTrees$Column" "values" "[I") ∈ TB := tb_1 50 rfl rfl
theorem w51 : (Jvm.Cond.fieldLink "ResidualTrees$Table" (33 : Nat) "ResidualTrees$Column" "values" "[I") ∈ TB := tb_1 51 rfl rfl
theorem w52 : (Jvm.Cond.fieldLink "ResidualTrees$Tree" (93 : Nat) "ResidualTrees$Column" "values" "[I") ∈ TB := tb_1 52 rfl rfl
theorem w53 : (Jvm.Cond.fieldLink "ResidualTrees$Grower" (226 : Nat) "ResidualTrees$Column" "values" "[I") ∈ TB := tb_1 53 rfl rfl
theorem w54 : (Jvm.Cond.fieldLink "ResidualTrees$Column" (15 : Nat) "ResidualTrees$Column" "edges" "[I") ∈ TB := tb_1 54 rfl rfl
theorem w55 : (Jvm.Cond.fieldLink "ResidualTrees$Grower" (215 : Nat) "ResidualTrees$Column" "edges" "[I") ∈ TB := tb_1 55 rfl rfl
theorem w56 : (Jvm.Cond.fieldLink "ResidualTrees" (149 : Nat) "ResidualTrees$Column" "edges" "[I") ∈ TB := tb_1 56 rfl rfl
theorem w57 : (Jvm.Cond.fieldLink "ResidualTrees$Column" (30 : Nat) "ResidualTrees$Column" "edgeCount" "I") ∈ TB := tb_1 57 rfl rfl
theorem w58 : (Jvm.Cond.fieldLink "ResidualTrees$Grower" (199 : Nat) "ResidualTrees$Column" "edgeCount" "I") ∈ TB := tb_1 58 rfl rfl
theorem w59 : (Jvm.Cond.fieldLink "ResidualTrees" (146 : Nat) "ResidualTrees$Column" "edgeCount" "I") ∈ TB := tb_1 59 rfl rfl
theorem w60 : (Jvm.Cond.fieldLink "ResidualTrees$Column" (19 : Nat) "ResidualTrees$Column" "ofKinds" "Z") ∈ TB := tb_1 60 rfl rfl
theorem w61 : (Jvm.Cond.fieldLink "ResidualTrees$Grower" (192 : Nat) "ResidualTrees$Column" "ofKinds" "Z") ∈ TB := tb_1 61 rfl rfl
theorem w62 : (Jvm.Cond.fieldLink "ResidualTrees" (134 : Nat) "ResidualTrees$Column" "ofKinds" "Z") ∈ TB := tb_1 62 rfl rfl
theorem w63 : (Jvm.Cond.laysFinal "ResidualTrees$Column" "ResidualTrees$Column" "values" "[I") ∈ TB := tb_1 63 rfl rfl
theorem w64 : (Jvm.Cond.soleField "ResidualTrees$Column" "values") ∈ TB := tb_1 64 rfl rfl
theorem w65 : (Jvm.Cond.laysFinal "ResidualTrees$Column" "ResidualTrees$Column" "edges" "[I") ∈ TB := tb_1 65 rfl rfl
theorem w66 : (Jvm.Cond.soleField "ResidualTrees$Column" "edges") ∈ TB := tb_1 66 rfl rfl
theorem w67 : (Jvm.Cond.lays "ResidualTrees$Column" "ResidualTrees$Column" "edgeCount" "I") ∈ TB := tb_1 67 rfl rfl
theorem w68 : (Jvm.Cond.soleField "ResidualTrees$Column" "edgeCount") ∈ TB := tb_1 68 rfl rfl
theorem w69 : (Jvm.Cond.lays "ResidualTrees$Column" "ResidualTrees$Column" "ofKinds" "Z") ∈ TB := tb_1 69 rfl rfl
theorem w70 : (Jvm.Cond.soleField "ResidualTrees$Column" "ofKinds") ∈ TB := tb_1 70 rfl rfl
theorem w71 : (Jvm.Cond.superclass "ResidualTrees$Column" "java/lang/Object") ∈ TB := tb_1 71 rfl rfl
theorem w72 : (Jvm.Cond.arrayClass Jvm.ClassFile.FieldType.int) ∈ TB := tb_1 72 rfl rfl
theorem w73 : (Jvm.Cond.fieldLink "ResidualTrees$Table" (11 : Nat) "ResidualTrees$Table" "columns" "[LResidualTrees$Column;") ∈ TB := tb_1 73 rfl rfl
theorem w74 : (Jvm.Cond.fieldLink "ResidualTrees" (111 : Nat) "ResidualTrees$Table" "columns" "[LResidualTrees$Column;") ∈ TB := tb_1 74 rfl rfl
theorem w75 : (Jvm.Cond.fieldLink "ResidualTrees$Grower" (184 : Nat) "ResidualTrees$Table" "columns" "[LResidualTrees$Column;") ∈ TB := tb_1 75 rfl rfl
theorem w76 : (Jvm.Cond.fieldLink "ResidualTrees$Table" (17 : Nat) "ResidualTrees$Table" "targets" "[I") ∈ TB := tb_1 76 rfl rfl
theorem w77 : (Jvm.Cond.fieldLink "ResidualTrees" (124 : Nat) "ResidualTrees$Table" "targets" "[I") ∈ TB := tb_1 77 rfl rfl
theorem w78 : (Jvm.Cond.fieldLink "ResidualTrees$Table" (22 : Nat) "ResidualTrees$Table" "width" "I") ∈ TB := tb_1 78 rfl rfl
theorem w79 : (Jvm.Cond.fieldLink "ResidualTrees$Grower" (149 : Nat) "ResidualTrees$Table" "width" "I") ∈ TB := tb_1 79 rfl rfl
theorem w80 : (Jvm.Cond.fieldLink "ResidualTrees" (250 : Nat) "ResidualTrees$Table" "width" "I") ∈ TB := tb_1 80 rfl rfl
theorem w81 : (Jvm.Cond.fieldLink "ResidualTrees$Table" (26 : Nat) "ResidualTrees$Table" "rows" "I") ∈ TB := tb_1 81 rfl rfl
theorem w82 : (Jvm.Cond.fieldLink "ResidualTrees" (94 : Nat) "ResidualTrees$Table" "rows" "I") ∈ TB := tb_1 82 rfl rfl
theorem w83 : (Jvm.Cond.fieldLink "ResidualTrees$Grower" (140 : Nat) "ResidualTrees$Table" "rows" "I") ∈ TB := tb_1 83 rfl rfl
theorem w84 : (Jvm.Cond.laysFinal "ResidualTrees$Table" "ResidualTrees$Table" "columns" "[LResidualTrees$Column;") ∈ TB := tb_1 84 rfl rfl
theorem w85 : (Jvm.Cond.soleField "ResidualTrees$Table" "columns") ∈ TB := tb_1 85 rfl rfl
theorem w86 : (Jvm.Cond.laysFinal "ResidualTrees$Table" "ResidualTrees$Table" "targets" "[I") ∈ TB := tb_1 86 rfl rfl
theorem w87 : (Jvm.Cond.soleField "ResidualTrees$Table" "targets") ∈ TB := tb_1 87 rfl rfl
theorem w88 : (Jvm.Cond.lays "ResidualTrees$Table" "ResidualTrees$Table" "width" "I") ∈ TB := tb_1 88 rfl rfl
theorem w89 : (Jvm.Cond.soleField "ResidualTrees$Table" "width") ∈ TB := tb_1 89 rfl rfl
theorem w90 : (Jvm.Cond.lays "ResidualTrees$Table" "ResidualTrees$Table" "rows" "I") ∈ TB := tb_1 90 rfl rfl
theorem w91 : (Jvm.Cond.soleField "ResidualTrees$Table" "rows") ∈ TB := tb_1 91 rfl rfl
theorem w92 : (Jvm.Cond.superclass "ResidualTrees$Table" "java/lang/Object") ∈ TB := tb_1 92 rfl rfl
theorem w93 : (Jvm.Cond.classLink "ResidualTrees" (16 : Nat) "ResidualTrees$Plan") ∈ TB := tb_1 93 rfl rfl
theorem w94 : (Jvm.Cond.instantiable "ResidualTrees$Plan" (7 : Nat)) ∈ TB := tb_1 94 rfl rfl
theorem w96 : (Jvm.Cond.instanceMethod ({ cls := "ResidualTrees$Plan", name := "<init>", desc := "()V" } : Jvm.MethodName)) ∈ TB := tb_1 96 rfl rfl
theorem w97 : (Jvm.Cond.code ({ cls := "ResidualTrees$Plan", name := "<init>", desc := "()V" } : Jvm.MethodName) prog_7_method_1_code (1 : Nat) (Option.none : Option Jvm.ClassFile.FieldType)) ∈ TB := tb_1 97 rfl rfl
theorem w98 : (Jvm.Cond.methodLink "ResidualTrees$Plan" (1 : Nat) ({ cls := "java/lang/Object", name := "<init>", desc := "()V" } : Jvm.MethodName)) ∈ TB := tb_1 98 rfl rfl
theorem w99 : (Jvm.Cond.fieldLink "ResidualTrees$Plan" (7 : Nat) "ResidualTrees$Plan" "depth" "I") ∈ TB := tb_1 99 rfl rfl
theorem w100 : (Jvm.Cond.fieldLink "ResidualTrees$Grower" (94 : Nat) "ResidualTrees$Plan" "depth" "I") ∈ TB := tb_1 100 rfl rfl
theorem w101 : (Jvm.Cond.fieldLink "ResidualTrees" (156 : Nat) "ResidualTrees$Plan" "depth" "I") ∈ TB := tb_1 101 rfl rfl
theorem w102 : (Jvm.Cond.fieldLink "ResidualTrees$Plan" (13 : Nat) "ResidualTrees$Plan" "least" "I") ∈ TB := tb_1 102 rfl rfl
theorem w103 : (Jvm.Cond.fieldLink "ResidualTrees$Grower" (237 : Nat) "ResidualTrees$Plan" "least" "I") ∈ TB := tb_1 103 rfl rfl
theorem w104 : (Jvm.Cond.fieldLink "ResidualTrees" (159 : Nat) "ResidualTrees$Plan" "least" "I") ∈ TB := tb_1 104 rfl rfl
theorem w105 : (Jvm.Cond.fieldLink "ResidualTrees$Plan" (16 : Nat) "ResidualTrees$Plan" "weight" "I") ∈ TB := tb_1 105 rfl rfl
theorem w106 : (Jvm.Cond.fieldLink "ResidualTrees$Tree" (46 : Nat) "ResidualTrees$Plan" "weight" "I") ∈ TB := tb_1 106 rfl rfl
theorem w107 : (Jvm.Cond.fieldLink "ResidualTrees$Grower" (166 : Nat) "ResidualTrees$Plan" "weight" "I") ∈ TB := tb_1 107 rfl rfl
theorem w108 : (Jvm.Cond.fieldLink "ResidualTrees" (162 : Nat) "ResidualTrees$Plan" "weight" "I") ∈ TB := tb_1 108 rfl rfl
theorem w109 : (Jvm.Cond.fieldLink "ResidualTrees$Plan" (19 : Nat) "ResidualTrees$Plan" "rateUpper" "I") ∈ TB := tb_1 109 rfl rfl
theorem w110 : (Jvm.Cond.fieldLink "ResidualTrees$Tree" (52 : Nat) "ResidualTrees$Plan" "rateUpper" "I") ∈ TB := tb_1 110 rfl rfl
theorem w111 : (Jvm.Cond.fieldLink "ResidualTrees" (165 : Nat) "ResidualTrees$Plan" "rateUpper" "I") ∈ TB := tb_1 111 rfl rfl
theorem w112 : (Jvm.Cond.fieldLink "ResidualTrees$Plan" (22 : Nat) "ResidualTrees$Plan" "rateLower" "I") ∈ TB := tb_1 112 rfl rfl
theorem w113 : (Jvm.Cond.fieldLink "ResidualTrees$Tree" (56 : Nat) "ResidualTrees$Plan" "rateLower" "I") ∈ TB := tb_1 113 rfl rfl
theorem w114 : (Jvm.Cond.fieldLink "ResidualTrees" (168 : Nat) "ResidualTrees$Plan" "rateLower" "I") ∈ TB := tb_1 114 rfl rfl
theorem w115 : (Jvm.Cond.fieldLink "ResidualTrees$Plan" (27 : Nat) "ResidualTrees$Plan" "sampleBits" "J") ∈ TB := tb_1 115 rfl rfl
theorem w116 : (Jvm.Cond.fieldLink "ResidualTrees" (171 : Nat) "ResidualTrees$Plan" "sampleBits" "J") ∈ TB := tb_1 116 rfl rfl
theorem w117 : (Jvm.Cond.fieldLink "ResidualTrees$Plan" (31 : Nat) "ResidualTrees$Plan" "choiceBits" "I") ∈ TB := tb_1 117 rfl rfl
theorem w118 : (Jvm.Cond.fieldLink "ResidualTrees$Grower" (152 : Nat) "ResidualTrees$Plan" "choiceBits" "I") ∈ TB := tb_1 118 rfl rfl
theorem w119 : (Jvm.Cond.fieldLink "ResidualTrees" (175 : Nat) "ResidualTrees$Plan" "choiceBits" "I") ∈ TB := tb_1 119 rfl rfl
theorem w120 : (Jvm.Cond.lays "ResidualTrees$Plan" "ResidualTrees$Plan" "depth" "I") ∈ TB := tb_1 120 rfl rfl
theorem w121 : (Jvm.Cond.soleField "ResidualTrees$Plan" "depth") ∈ TB := tb_1 121 rfl rfl
theorem w122 : (Jvm.Cond.lays "ResidualTrees$Plan" "ResidualTrees$Plan" "least" "I") ∈ TB := tb_1 122 rfl rfl
theorem w123 : (Jvm.Cond.soleField "ResidualTrees$Plan" "least") ∈ TB := tb_1 123 rfl rfl
theorem w124 : (Jvm.Cond.lays "ResidualTrees$Plan" "ResidualTrees$Plan" "weight" "I") ∈ TB := tb_1 124 rfl rfl
theorem w125 : (Jvm.Cond.soleField "ResidualTrees$Plan" "weight") ∈ TB := tb_1 125 rfl rfl
theorem w126 : (Jvm.Cond.lays "ResidualTrees$Plan" "ResidualTrees$Plan" "rateUpper" "I") ∈ TB := tb_1 126 rfl rfl
theorem w127 : (Jvm.Cond.soleField "ResidualTrees$Plan" "rateUpper") ∈ TB := tb_1 127 rfl rfl
theorem w128 : (Jvm.Cond.lays "ResidualTrees$Plan" "ResidualTrees$Plan" "rateLower" "I") ∈ TB := tb_1 128 rfl rfl
theorem w129 : (Jvm.Cond.soleField "ResidualTrees$Plan" "rateLower") ∈ TB := tb_1 129 rfl rfl
theorem w130 : (Jvm.Cond.lays "ResidualTrees$Plan" "ResidualTrees$Plan" "sampleBits" "J") ∈ TB := tb_1 130 rfl rfl
theorem w131 : (Jvm.Cond.soleField "ResidualTrees$Plan" "sampleBits") ∈ TB := tb_1 131 rfl rfl
theorem w132 : (Jvm.Cond.lays "ResidualTrees$Plan" "ResidualTrees$Plan" "choiceBits" "I") ∈ TB := tb_1 132 rfl rfl
theorem w133 : (Jvm.Cond.soleField "ResidualTrees$Plan" "choiceBits") ∈ TB := tb_1 133 rfl rfl
theorem w134 : (Jvm.Cond.superclass "ResidualTrees$Plan" "java/lang/Object") ∈ TB := tb_1 134 rfl rfl
theorem w135 : (Jvm.Cond.methodLink "ResidualTrees" (23 : Nat) ({ cls := "ResidualTrees", name := "wholes", desc := "(I)[LResidualTrees$Whole;" } : Jvm.MethodName)) ∈ TB := tb_1 135 rfl rfl
theorem w136 : (Jvm.Cond.static ({ cls := "ResidualTrees", name := "wholes", desc := "(I)[LResidualTrees$Whole;" } : Jvm.MethodName)) ∈ TB := tb_1 136 rfl rfl
theorem w137 : (Jvm.Cond.code ({ cls := "ResidualTrees", name := "wholes", desc := "(I)[LResidualTrees$Whole;" } : Jvm.MethodName) prog_1_method_46_code (3 : Nat) (Option.some (Jvm.ClassFile.FieldType.array (Jvm.ClassFile.FieldType.object "ResidualTrees$Whole")))) ∈ TB := tb_1 137 rfl rfl
theorem w138 : (Jvm.Cond.classLink "ResidualTrees" (58 : Nat) "ResidualTrees$Whole") ∈ TB := tb_1 138 rfl rfl
theorem w140 : (Jvm.Cond.instantiable "ResidualTrees$Whole" (3 : Nat)) ∈ TB := tb_1 140 rfl rfl
theorem w141 : (Jvm.Cond.methodLink "ResidualTrees" (60 : Nat) ({ cls := "ResidualTrees$Whole", name := "<init>", desc := "(I)V" } : Jvm.MethodName)) ∈ TB := tb_1 141 rfl rfl
theorem w142 : (Jvm.Cond.instanceMethod ({ cls := "ResidualTrees$Whole", name := "<init>", desc := "(I)V" } : Jvm.MethodName)) ∈ TB := tb_1 142 rfl rfl
theorem w143 : (Jvm.Cond.code ({ cls := "ResidualTrees$Whole", name := "<init>", desc := "(I)V" } : Jvm.MethodName) prog_11_method_1_code (2 : Nat) (Option.none : Option Jvm.ClassFile.FieldType)) ∈ TB := tb_1 143 rfl rfl
theorem w144 : (Jvm.Cond.methodLink "ResidualTrees$Whole" (1 : Nat) ({ cls := "java/lang/Object", name := "<init>", desc := "()V" } : Jvm.MethodName)) ∈ TB := tb_1 144 rfl rfl
theorem w145 : (Jvm.Cond.fieldLink "ResidualTrees$Whole" (7 : Nat) "ResidualTrees$Whole" "words" "[I") ∈ TB := tb_1 145 rfl rfl
theorem w146 : (Jvm.Cond.fieldLink "ResidualTrees$Out" (48 : Nat) "ResidualTrees$Whole" "words" "[I") ∈ TB := tb_1 146 rfl rfl
theorem w147 : (Jvm.Cond.fieldLink "ResidualTrees$Out" (47 : Nat) "ResidualTrees$Whole" "length" "I") ∈ TB := tb_1 147 rfl rfl
theorem w148 : (Jvm.Cond.fieldLink "ResidualTrees$Whole" (21 : Nat) "ResidualTrees$Whole" "length" "I") ∈ TB := tb_1 148 rfl rfl
theorem w149 : (Jvm.Cond.fieldLink "ResidualTrees$Whole" (13 : Nat) "ResidualTrees$Whole" "isBelow" "Z") ∈ TB := tb_1 149 rfl rfl
theorem w150 : (Jvm.Cond.laysFinal "ResidualTrees$Whole" "ResidualTrees$Whole" "words" "[I") ∈ TB := tb_1 150 rfl rfl
theorem w151 : (Jvm.Cond.soleField "ResidualTrees$Whole" "words") ∈ TB := tb_1 151 rfl rfl
theorem w152 : (Jvm.Cond.lays "ResidualTrees$Whole" "ResidualTrees$Whole" "length" "I") ∈ TB := tb_1 152 rfl rfl
theorem w153 : (Jvm.Cond.soleField "ResidualTrees$Whole" "length") ∈ TB := tb_1 153 rfl rfl
theorem w154 : (Jvm.Cond.lays "ResidualTrees$Whole" "ResidualTrees$Whole" "isBelow" "Z") ∈ TB := tb_1 154 rfl rfl
theorem w155 : (Jvm.Cond.soleField "ResidualTrees$Whole" "isBelow") ∈ TB := tb_1 155 rfl rfl
theorem w156 : (Jvm.Cond.superclass "ResidualTrees$Whole" "java/lang/Object") ∈ TB := tb_1 156 rfl rfl
theorem w157 : (Jvm.Cond.classLink "ResidualTrees" (31 : Nat) "ResidualTrees$Grower") ∈ TB := tb_1 157 rfl rfl
theorem w158 : (Jvm.Cond.instantiable "ResidualTrees$Grower" (13 : Nat)) ∈ TB := tb_1 158 rfl rfl
theorem w159 : (Jvm.Cond.methodLink "ResidualTrees" (33 : Nat) ({ cls := "ResidualTrees$Grower", name := "<init>", desc := "(LResidualTrees$Table;LResidualTrees$Plan;[LResidualTrees$Whole;)V" } : Jvm.MethodName)) ∈ TB := tb_1 159 rfl rfl
theorem w160 : (Jvm.Cond.instanceMethod ({ cls := "ResidualTrees$Grower", name := "<init>", desc := "(LResidualTrees$Table;LResidualTrees$Plan;[LResidualTrees$Whole;)V" } : Jvm.MethodName)) ∈ TB := tb_1 160 rfl rfl
theorem w161 : (Jvm.Cond.code ({ cls := "ResidualTrees$Grower", name := "<init>", desc := "(LResidualTrees$Table;LResidualTrees$Plan;[LResidualTrees$Whole;)V" } : Jvm.MethodName) prog_4_method_1_code (5 : Nat) (Option.none : Option Jvm.ClassFile.FieldType)) ∈ TB := tb_1 161 rfl rfl
theorem w162 : (Jvm.Cond.methodLink "ResidualTrees$Grower" (3 : Nat) ({ cls := "java/lang/Object", name := "<init>", desc := "()V" } : Jvm.MethodName)) ∈ TB := tb_1 162 rfl rfl
theorem w163 : (Jvm.Cond.classLink "ResidualTrees$Grower" (9 : Nat) "ResidualTrees$Group") ∈ TB := tb_1 163 rfl rfl
theorem w165 : (Jvm.Cond.instantiable "ResidualTrees$Group" (2 : Nat)) ∈ TB := tb_1 165 rfl rfl
theorem w167 : (Jvm.Cond.instanceMethod ({ cls := "ResidualTrees$Group", name := "<init>", desc := "()V" } : Jvm.MethodName)) ∈ TB := tb_1 167 rfl rfl
theorem w168 : (Jvm.Cond.code ({ cls := "ResidualTrees$Group", name := "<init>", desc := "()V" } : Jvm.MethodName) prog_3_method_1_code (1 : Nat) (Option.none : Option Jvm.ClassFile.FieldType)) ∈ TB := tb_1 168 rfl rfl
theorem w169 : (Jvm.Cond.methodLink "ResidualTrees$Group" (3 : Nat) ({ cls := "java/lang/Object", name := "<init>", desc := "()V" } : Jvm.MethodName)) ∈ TB := tb_1 169 rfl rfl
theorem w170 : (Jvm.Cond.classLink "ResidualTrees$Group" (9 : Nat) "ResidualTrees$Whole") ∈ TB := tb_1 170 rfl rfl
theorem w171 : (Jvm.Cond.methodLink "ResidualTrees$Group" (11 : Nat) ({ cls := "ResidualTrees$Whole", name := "<init>", desc := "(I)V" } : Jvm.MethodName)) ∈ TB := tb_1 171 rfl rfl
theorem w172 : (Jvm.Cond.fieldLink "ResidualTrees$Group" (20 : Nat) "ResidualTrees$Group" "rows" "J") ∈ TB := tb_1 172 rfl rfl
theorem w173 : (Jvm.Cond.fieldLink "ResidualTrees$Grower" (209 : Nat) "ResidualTrees$Group" "rows" "J") ∈ TB := tb_1 173 rfl rfl
theorem w174 : (Jvm.Cond.fieldLink "ResidualTrees$Group" (14 : Nat) "ResidualTrees$Group" "sum" "LResidualTrees$Whole;") ∈ TB := tb_1 174 rfl rfl
theorem w175 : (Jvm.Cond.fieldLink "ResidualTrees$Grower" (211 : Nat) "ResidualTrees$Group" "sum" "LResidualTrees$Whole;") ∈ TB := tb_1 175 rfl rfl
theorem w176 : (Jvm.Cond.lays "ResidualTrees$Group" "ResidualTrees$Group" "rows" "J") ∈ TB := tb_1 176 rfl rfl
theorem w177 : (Jvm.Cond.soleField "ResidualTrees$Group" "rows") ∈ TB := tb_1 177 rfl rfl
theorem w178 : (Jvm.Cond.laysFinal "ResidualTrees$Group" "ResidualTrees$Group" "sum" "LResidualTrees$Whole;") ∈ TB := tb_1 178 rfl rfl
theorem w179 : (Jvm.Cond.soleField "ResidualTrees$Group" "sum") ∈ TB := tb_1 179 rfl rfl
theorem w180 : (Jvm.Cond.superclass "ResidualTrees$Group" "java/lang/Object") ∈ TB := tb_1 180 rfl rfl
theorem w181 : (Jvm.Cond.classLink "ResidualTrees$Grower" (32 : Nat) "ResidualTrees$Whole") ∈ TB := tb_1 181 rfl rfl
theorem w182 : (Jvm.Cond.methodLink "ResidualTrees$Grower" (34 : Nat) ({ cls := "ResidualTrees$Whole", name := "<init>", desc := "(I)V" } : Jvm.MethodName)) ∈ TB := tb_1 182 rfl rfl
theorem w183 : (Jvm.Cond.classLink "ResidualTrees$Grower" (47 : Nat) "ResidualTrees$Split") ∈ TB := tb_1 183 rfl rfl
theorem w184 : (Jvm.Cond.instantiable "ResidualTrees$Split" (7 : Nat)) ∈ TB := tb_1 184 rfl rfl
theorem w186 : (Jvm.Cond.instanceMethod ({ cls := "ResidualTrees$Split", name := "<init>", desc := "()V" } : Jvm.MethodName)) ∈ TB := tb_1 186 rfl rfl
theorem w187 : (Jvm.Cond.code ({ cls := "ResidualTrees$Split", name := "<init>", desc := "()V" } : Jvm.MethodName) prog_8_method_1_code (1 : Nat) (Option.none : Option Jvm.ClassFile.FieldType)) ∈ TB := tb_1 187 rfl rfl
theorem w188 : (Jvm.Cond.methodLink "ResidualTrees$Split" (3 : Nat) ({ cls := "java/lang/Object", name := "<init>", desc := "()V" } : Jvm.MethodName)) ∈ TB := tb_1 188 rfl rfl
theorem w189 : (Jvm.Cond.classLink "ResidualTrees$Split" (9 : Nat) "ResidualTrees$Whole") ∈ TB := tb_1 189 rfl rfl
theorem w190 : (Jvm.Cond.methodLink "ResidualTrees$Split" (11 : Nat) ({ cls := "ResidualTrees$Whole", name := "<init>", desc := "(I)V" } : Jvm.MethodName)) ∈ TB := tb_1 190 rfl rfl
theorem w191 : (Jvm.Cond.fieldLink "ResidualTrees$Grower" (104 : Nat) "ResidualTrees$Split" "column" "I") ∈ TB := tb_1 191 rfl rfl
theorem w192 : (Jvm.Cond.fieldLink "ResidualTrees$Grower" (108 : Nat) "ResidualTrees$Split" "mark" "I") ∈ TB := tb_1 192 rfl rfl
theorem w193 : (Jvm.Cond.fieldLink "ResidualTrees$Grower" (112 : Nat) "ResidualTrees$Split" "ofKinds" "Z") ∈ TB := tb_1 193 rfl rfl
theorem w194 : (Jvm.Cond.fieldLink "ResidualTrees$Grower" (117 : Nat) "ResidualTrees$Split" "missingLeft" "Z") ∈ TB := tb_1 194 rfl rfl
theorem w195 : (Jvm.Cond.fieldLink "ResidualTrees$Grower" (121 : Nat) "ResidualTrees$Split" "leftRows" "J") ∈ TB := tb_1 195 rfl rfl
theorem w196 : (Jvm.Cond.fieldLink "ResidualTrees$Split" (14 : Nat) "ResidualTrees$Split" "worth" "LResidualTrees$Whole;") ∈ TB := tb_1 196 rfl rfl
theorem w197 : (Jvm.Cond.fieldLink "ResidualTrees$Grower" (159 : Nat) "ResidualTrees$Split" "worth" "LResidualTrees$Whole;") ∈ TB := tb_1 197 rfl rfl
theorem w198 : (Jvm.Cond.fieldLink "ResidualTrees$Grower" (177 : Nat) "ResidualTrees$Split" "worthUnder" "I") ∈ TB := tb_1 198 rfl rfl
theorem w199 : (Jvm.Cond.lays "ResidualTrees$Split" "ResidualTrees$Split" "column" "I") ∈ TB := tb_1 199 rfl rfl
theorem w200 : (Jvm.Cond.soleField "ResidualTrees$Split" "column") ∈ TB := tb_1 200 rfl rfl
theorem w201 : (Jvm.Cond.lays "ResidualTrees$Split" "ResidualTrees$Split" "mark" "I") ∈ TB := tb_1 201 rfl rfl
theorem w202 : (Jvm.Cond.soleField "ResidualTrees$Split" "mark") ∈ TB := tb_1 202 rfl rfl
theorem w203 : (Jvm.Cond.lays "ResidualTrees$Split" "ResidualTrees$Split" "ofKinds" "Z") ∈ TB := tb_1 203 rfl rfl
theorem w204 : (Jvm.Cond.soleField "ResidualTrees$Split" "ofKinds") ∈ TB := tb_1 204 rfl rfl
theorem w205 : (Jvm.Cond.lays "ResidualTrees$Split" "ResidualTrees$Split" "missingLeft" "Z") ∈ TB := tb_1 205 rfl rfl
theorem w206 : (Jvm.Cond.soleField "ResidualTrees$Split" "missingLeft") ∈ TB := tb_1 206 rfl rfl
theorem w207 : (Jvm.Cond.lays "ResidualTrees$Split" "ResidualTrees$Split" "leftRows" "J") ∈ TB := tb_1 207 rfl rfl
theorem w208 : (Jvm.Cond.soleField "ResidualTrees$Split" "leftRows") ∈ TB := tb_1 208 rfl rfl
theorem w209 : (Jvm.Cond.laysFinal "ResidualTrees$Split" "ResidualTrees$Split" "worth" "LResidualTrees$Whole;") ∈ TB := tb_1 209 rfl rfl
theorem w210 : (Jvm.Cond.soleField "ResidualTrees$Split" "worth") ∈ TB := tb_1 210 rfl rfl
theorem w211 : (Jvm.Cond.lays "ResidualTrees$Split" "ResidualTrees$Split" "worthUnder" "I") ∈ TB := tb_1 211 rfl rfl
theorem w212 : (Jvm.Cond.soleField "ResidualTrees$Split" "worthUnder") ∈ TB := tb_1 212 rfl rfl
theorem w213 : (Jvm.Cond.superclass "ResidualTrees$Split" "java/lang/Object") ∈ TB := tb_1 213 rfl rfl
theorem w214 : (Jvm.Cond.fieldLink "ResidualTrees$Grower" (57 : Nat) "ResidualTrees$Grower" "table" "LResidualTrees$Table;") ∈ TB := tb_1 214 rfl rfl
theorem w215 : (Jvm.Cond.fieldLink "ResidualTrees$Grower" (61 : Nat) "ResidualTrees$Grower" "plan" "LResidualTrees$Plan;") ∈ TB := tb_1 215 rfl rfl
theorem w216 : (Jvm.Cond.fieldLink "ResidualTrees$Grower" (65 : Nat) "ResidualTrees$Grower" "residuals" "[LResidualTrees$Whole;") ∈ TB := tb_1 216 rfl rfl
theorem w217 : (Jvm.Cond.fieldLink "ResidualTrees$Grower" (11 : Nat) "ResidualTrees$Grower" "groups" "[LResidualTrees$Group;") ∈ TB := tb_1 217 rfl rfl
theorem w218 : (Jvm.Cond.fieldLink "ResidualTrees$Grower" (17 : Nat) "ResidualTrees$Grower" "order" "[I") ∈ TB := tb_1 218 rfl rfl
theorem w219 : (Jvm.Cond.fieldLink "ResidualTrees$Grower" (22 : Nat) "ResidualTrees$Grower" "missing" "LResidualTrees$Group;") ∈ TB := tb_1 219 rfl rfl
theorem w220 : (Jvm.Cond.fieldLink "ResidualTrees$Grower" (26 : Nat) "ResidualTrees$Grower" "below" "LResidualTrees$Group;") ∈ TB := tb_1 220 rfl rfl
theorem w221 : (Jvm.Cond.fieldLink "ResidualTrees$Grower" (29 : Nat) "ResidualTrees$Grower" "side" "LResidualTrees$Group;") ∈ TB := tb_1 221 rfl rfl
theorem w222 : (Jvm.Cond.fieldLink "ResidualTrees$Grower" (37 : Nat) "ResidualTrees$Grower" "otherSide" "LResidualTrees$Whole;") ∈ TB := tb_1 222 rfl rfl
theorem w223 : (Jvm.Cond.fieldLink "ResidualTrees$Grower" (41 : Nat) "ResidualTrees$Grower" "scaled" "LResidualTrees$Whole;") ∈ TB := tb_1 223 rfl rfl
theorem w224 : (Jvm.Cond.fieldLink "ResidualTrees$Grower" (44 : Nat) "ResidualTrees$Grower" "otherScaled" "LResidualTrees$Whole;") ∈ TB := tb_1 224 rfl rfl
theorem w225 : (Jvm.Cond.fieldLink "ResidualTrees$Grower" (50 : Nat) "ResidualTrees$Grower" "best" "LResidualTrees$Split;") ∈ TB := tb_1 225 rfl rfl
theorem w226 : (Jvm.Cond.fieldLink "ResidualTrees$Grower" (54 : Nat) "ResidualTrees$Grower" "tried" "LResidualTrees$Split;") ∈ TB := tb_1 226 rfl rfl
theorem w227 : (Jvm.Cond.laysFinal "ResidualTrees$Grower" "ResidualTrees$Grower" "table" "LResidualTrees$Table;") ∈ TB := tb_1 227 rfl rfl
theorem w228 : (Jvm.Cond.soleField "ResidualTrees$Grower" "table") ∈ TB := tb_1 228 rfl rfl
theorem w229 : (Jvm.Cond.laysFinal "ResidualTrees$Grower" "ResidualTrees$Grower" "plan" "LResidualTrees$Plan;") ∈ TB := tb_1 229 rfl rfl
theorem w230 : (Jvm.Cond.soleField "ResidualTrees$Grower" "plan") ∈ TB := tb_1 230 rfl rfl
theorem w231 : (Jvm.Cond.laysFinal "ResidualTrees$Grower" "ResidualTrees$Grower" "residuals" "[LResidualTrees$Whole;") ∈ TB := tb_1 231 rfl rfl
theorem w232 : (Jvm.Cond.soleField "ResidualTrees$Grower" "residuals") ∈ TB := tb_1 232 rfl rfl
theorem w233 : (Jvm.Cond.laysFinal "ResidualTrees$Grower" "ResidualTrees$Grower" "groups" "[LResidualTrees$Group;") ∈ TB := tb_1 233 rfl rfl
theorem w234 : (Jvm.Cond.soleField "ResidualTrees$Grower" "groups") ∈ TB := tb_1 234 rfl rfl
theorem w235 : (Jvm.Cond.laysFinal "ResidualTrees$Grower" "ResidualTrees$Grower" "order" "[I") ∈ TB := tb_1 235 rfl rfl
theorem w236 : (Jvm.Cond.soleField "ResidualTrees$Grower" "order") ∈ TB := tb_1 236 rfl rfl
theorem w237 : (Jvm.Cond.laysFinal "ResidualTrees$Grower" "ResidualTrees$Grower" "missing" "LResidualTrees$Group;") ∈ TB := tb_1 237 rfl rfl
theorem w238 : (Jvm.Cond.soleField "ResidualTrees$Grower" "missing") ∈ TB := tb_1 238 rfl rfl
theorem w239 : (Jvm.Cond.laysFinal "ResidualTrees$Grower" "ResidualTrees$Grower" "below" "LResidualTrees$Group;") ∈ TB := tb_1 239 rfl rfl
theorem w240 : (Jvm.Cond.soleField "ResidualTrees$Grower" "below") ∈ TB := tb_2 0 rfl rfl
theorem w241 : (Jvm.Cond.laysFinal "ResidualTrees$Grower" "ResidualTrees$Grower" "side" "LResidualTrees$Group;") ∈ TB := tb_2 1 rfl rfl
theorem w242 : (Jvm.Cond.soleField "ResidualTrees$Grower" "side") ∈ TB := tb_2 2 rfl rfl
theorem w243 : (Jvm.Cond.laysFinal "ResidualTrees$Grower" "ResidualTrees$Grower" "otherSide" "LResidualTrees$Whole;") ∈ TB := tb_2 3 rfl rfl
theorem w244 : (Jvm.Cond.soleField "ResidualTrees$Grower" "otherSide") ∈ TB := tb_2 4 rfl rfl
theorem w245 : (Jvm.Cond.laysFinal "ResidualTrees$Grower" "ResidualTrees$Grower" "scaled" "LResidualTrees$Whole;") ∈ TB := tb_2 5 rfl rfl
theorem w246 : (Jvm.Cond.soleField "ResidualTrees$Grower" "scaled") ∈ TB := tb_2 6 rfl rfl
theorem w247 : (Jvm.Cond.laysFinal "ResidualTrees$Grower" "ResidualTrees$Grower" "otherScaled" "LResidualTrees$Whole;") ∈ TB := tb_2 7 rfl rfl
theorem w248 : (Jvm.Cond.soleField "ResidualTrees$Grower" "otherScaled") ∈ TB := tb_2 8 rfl rfl
theorem w249 : (Jvm.Cond.lays "ResidualTrees$Grower" "ResidualTrees$Grower" "best" "LResidualTrees$Split;") ∈ TB := tb_2 9 rfl rfl
theorem w250 : (Jvm.Cond.soleField "ResidualTrees$Grower" "best") ∈ TB := tb_2 10 rfl rfl
theorem w251 : (Jvm.Cond.lays "ResidualTrees$Grower" "ResidualTrees$Grower" "tried" "LResidualTrees$Split;") ∈ TB := tb_2 11 rfl rfl
theorem w252 : (Jvm.Cond.soleField "ResidualTrees$Grower" "tried") ∈ TB := tb_2 12 rfl rfl
theorem w253 : (Jvm.Cond.superclass "ResidualTrees$Grower" "java/lang/Object") ∈ TB := tb_2 13 rfl rfl
theorem w254 : (Jvm.Cond.classLink "ResidualTrees" (40 : Nat) "java/util/ArrayList") ∈ TB := tb_2 14 rfl rfl
theorem w255 : (Jvm.Cond.instantiable "java/util/ArrayList" (3 : Nat)) ∈ TB := tb_2 15 rfl rfl
theorem w256 : (Jvm.Cond.methodLink "ResidualTrees" (42 : Nat) ({ cls := "java/util/ArrayList", name := "<init>", desc := "()V" } : Jvm.MethodName)) ∈ TB := tb_2 16 rfl rfl
theorem w257 : (Jvm.Cond.instanceMethod ({ cls := "java/util/ArrayList", name := "<init>", desc := "()V" } : Jvm.MethodName)) ∈ TB := tb_2 17 rfl rfl
theorem w258 : (Jvm.Cond.code ({ cls := "java/util/ArrayList", name := "<init>", desc := "()V" } : Jvm.MethodName) prog_28_method_2_code (1 : Nat) (Option.none : Option Jvm.ClassFile.FieldType)) ∈ TB := tb_2 18 rfl rfl
theorem w259 : (Jvm.Cond.methodLink "java/util/ArrayList" (1 : Nat) ({ cls := "java/util/AbstractList", name := "<init>", desc := "()V" } : Jvm.MethodName)) ∈ TB := tb_2 19 rfl rfl
theorem w260 : (Jvm.Cond.instanceMethod ({ cls := "java/util/AbstractList", name := "<init>", desc := "()V" } : Jvm.MethodName)) ∈ TB := tb_2 20 rfl rfl
theorem w261 : (Jvm.Cond.code ({ cls := "java/util/AbstractList", name := "<init>", desc := "()V" } : Jvm.MethodName) prog_27_method_1_code (1 : Nat) (Option.none : Option Jvm.ClassFile.FieldType)) ∈ TB := tb_2 21 rfl rfl
theorem w262 : (Jvm.Cond.methodLink "java/util/AbstractList" (1 : Nat) ({ cls := "java/util/AbstractCollection", name := "<init>", desc := "()V" } : Jvm.MethodName)) ∈ TB := tb_2 22 rfl rfl
theorem w263 : (Jvm.Cond.instanceMethod ({ cls := "java/util/AbstractCollection", name := "<init>", desc := "()V" } : Jvm.MethodName)) ∈ TB := tb_2 23 rfl rfl
theorem w264 : (Jvm.Cond.code ({ cls := "java/util/AbstractCollection", name := "<init>", desc := "()V" } : Jvm.MethodName) prog_26_method_1_code (1 : Nat) (Option.none : Option Jvm.ClassFile.FieldType)) ∈ TB := tb_2 24 rfl rfl
theorem w265 : (Jvm.Cond.methodLink "java/util/AbstractCollection" (1 : Nat) ({ cls := "java/lang/Object", name := "<init>", desc := "()V" } : Jvm.MethodName)) ∈ TB := tb_2 25 rfl rfl
theorem w266 : (Jvm.Cond.fieldLink "java/util/ArrayList" (39 : Nat) "java/util/ArrayList" "DEFAULTCAPACITY_EMPTY_ELEMENTDATA" "[Ljava/lang/Object;") ∈ TB := tb_2 26 rfl rfl
theorem w268 : (Jvm.Cond.fieldLink "java/util/ArrayList" (9 : Nat) "java/util/ArrayList" "elementData" "[Ljava/lang/Object;") ∈ TB := tb_2 28 rfl rfl
theorem w269 : (Jvm.Cond.fieldLink "java/util/ArrayList" (48 : Nat) "java/util/ArrayList" "size" "I") ∈ TB := tb_2 29 rfl rfl
theorem w270 : (Jvm.Cond.fieldLink "java/util/AbstractList" (7 : Nat) "java/util/AbstractList" "modCount" "I") ∈ TB := tb_2 30 rfl rfl
theorem w271 : (Jvm.Cond.fieldLink "java/util/ArrayList" (63 : Nat) "java/util/ArrayList" "modCount" "I") ∈ TB := tb_2 31 rfl rfl
theorem w272 : (Jvm.Cond.sameField "java/util/ArrayList" "java/util/AbstractList" "modCount" "I") ∈ TB := tb_2 32 rfl rfl
theorem w273 : (Jvm.Cond.lays "java/util/ArrayList" "java/util/ArrayList" "elementData" "[Ljava/lang/Object;") ∈ TB := tb_2 33 rfl rfl
theorem w274 : (Jvm.Cond.soleField "java/util/ArrayList" "elementData") ∈ TB := tb_2 34 rfl rfl
theorem w275 : (Jvm.Cond.lays "java/util/ArrayList" "java/util/ArrayList" "size" "I") ∈ TB := tb_2 35 rfl rfl
theorem w276 : (Jvm.Cond.soleField "java/util/ArrayList" "size") ∈ TB := tb_2 36 rfl rfl
theorem w277 : (Jvm.Cond.lays "java/util/ArrayList" "java/util/AbstractList" "modCount" "I") ∈ TB := tb_2 37 rfl rfl
theorem w278 : (Jvm.Cond.soleField "java/util/AbstractList" "modCount") ∈ TB := tb_2 38 rfl rfl
theorem w279 : (Jvm.Cond.superclass "java/util/ArrayList" "java/util/AbstractList") ∈ TB := tb_2 39 rfl rfl
theorem w280 : (Jvm.Cond.classLink "ResidualTrees" (47 : Nat) "ResidualTrees$Out") ∈ TB := tb_2 40 rfl rfl
theorem w281 : (Jvm.Cond.instantiable "ResidualTrees$Out" (4 : Nat)) ∈ TB := tb_2 41 rfl rfl
theorem w283 : (Jvm.Cond.instanceMethod ({ cls := "ResidualTrees$Out", name := "<init>", desc := "()V" } : Jvm.MethodName)) ∈ TB := tb_2 43 rfl rfl
theorem w284 : (Jvm.Cond.code ({ cls := "ResidualTrees$Out", name := "<init>", desc := "()V" } : Jvm.MethodName) prog_6_method_1_code (1 : Nat) (Option.none : Option Jvm.ClassFile.FieldType)) ∈ TB := tb_2 44 rfl rfl
theorem w285 : (Jvm.Cond.methodLink "ResidualTrees$Out" (3 : Nat) ({ cls := "java/lang/Object", name := "<init>", desc := "()V" } : Jvm.MethodName)) ∈ TB := tb_2 45 rfl rfl
theorem w286 : (Jvm.Cond.classLink "ResidualTrees$Out" (15 : Nat) "ResidualTrees$Whole") ∈ TB := tb_2 46 rfl rfl
theorem w287 : (Jvm.Cond.methodLink "ResidualTrees$Out" (17 : Nat) ({ cls := "ResidualTrees$Whole", name := "<init>", desc := "(I)V" } : Jvm.MethodName)) ∈ TB := tb_2 47 rfl rfl
theorem w288 : (Jvm.Cond.fieldLink "ResidualTrees$Out" (9 : Nat) "ResidualTrees$Out" "bytes" "[B") ∈ TB := tb_2 48 rfl rfl
theorem w289 : (Jvm.Cond.fieldLink "ResidualTrees" (321 : Nat) "ResidualTrees$Out" "bytes" "[B") ∈ TB := tb_2 49 rfl rfl
theorem w290 : (Jvm.Cond.fieldLink "ResidualTrees$Out" (32 : Nat) "ResidualTrees$Out" "length" "I") ∈ TB := tb_2 50 rfl rfl
theorem w291 : (Jvm.Cond.fieldLink "ResidualTrees" (253 : Nat) "ResidualTrees$Out" "length" "I") ∈ TB := tb_2 51 rfl rfl
theorem w292 : (Jvm.Cond.fieldLink "ResidualTrees$Out" (20 : Nat) "ResidualTrees$Out" "upper" "[LResidualTrees$Whole;") ∈ TB := tb_2 52 rfl rfl
theorem w293 : (Jvm.Cond.fieldLink "ResidualTrees" (269 : Nat) "ResidualTrees$Out" "upper" "[LResidualTrees$Whole;") ∈ TB := tb_2 53 rfl rfl
theorem w294 : (Jvm.Cond.fieldLink "ResidualTrees$Out" (24 : Nat) "ResidualTrees$Out" "lower" "LResidualTrees$Whole;") ∈ TB := tb_2 54 rfl rfl
theorem w295 : (Jvm.Cond.fieldLink "ResidualTrees" (262 : Nat) "ResidualTrees$Out" "lower" "LResidualTrees$Whole;") ∈ TB := tb_2 55 rfl rfl
theorem w296 : (Jvm.Cond.laysFinal "ResidualTrees$Out" "ResidualTrees$Out" "bytes" "[B") ∈ TB := tb_2 56 rfl rfl
theorem w297 : (Jvm.Cond.soleField "ResidualTrees$Out" "bytes") ∈ TB := tb_2 57 rfl rfl
theorem w298 : (Jvm.Cond.lays "ResidualTrees$Out" "ResidualTrees$Out" "length" "I") ∈ TB := tb_2 58 rfl rfl
theorem w299 : (Jvm.Cond.soleField "ResidualTrees$Out" "length") ∈ TB := tb_2 59 rfl rfl
theorem w300 : (Jvm.Cond.laysFinal "ResidualTrees$Out" "ResidualTrees$Out" "upper" "[LResidualTrees$Whole;") ∈ TB := tb_2 60 rfl rfl
theorem w301 : (Jvm.Cond.soleField "ResidualTrees$Out" "upper") ∈ TB := tb_2 61 rfl rfl
theorem w302 : (Jvm.Cond.laysFinal "ResidualTrees$Out" "ResidualTrees$Out" "lower" "LResidualTrees$Whole;") ∈ TB := tb_2 62 rfl rfl
theorem w303 : (Jvm.Cond.soleField "ResidualTrees$Out" "lower") ∈ TB := tb_2 63 rfl rfl
theorem w304 : (Jvm.Cond.superclass "ResidualTrees$Out" "java/lang/Object") ∈ TB := tb_2 64 rfl rfl
theorem w305 : (Jvm.Cond.arrayClass Jvm.ClassFile.FieldType.byte) ∈ TB := tb_2 65 rfl rfl
theorem w306 : (Jvm.Cond.methodLink "ResidualTrees" (79 : Nat) ({ cls := "ResidualTrees", name := "startOver", desc := "(I)V" } : Jvm.MethodName)) ∈ TB := tb_2 66 rfl rfl
theorem w308 : (Jvm.Cond.instanceMethod ({ cls := "ResidualTrees", name := "startOver", desc := "(I)V" } : Jvm.MethodName)) ∈ TB := tb_2 68 rfl rfl
theorem w309 : (Jvm.Cond.code ({ cls := "ResidualTrees", name := "startOver", desc := "(I)V" } : Jvm.MethodName) prog_1_method_26_code (2 : Nat) (Option.none : Option Jvm.ClassFile.FieldType)) ∈ TB := tb_2 69 rfl rfl
theorem w310 : (Jvm.Cond.methodLink "ResidualTrees" (325 : Nat) ({ cls := "ResidualTrees$Table", name := "clear", desc := "(I)V" } : Jvm.MethodName)) ∈ TB := tb_2 70 rfl rfl
theorem w311 : (Jvm.Cond.instanceMethod ({ cls := "ResidualTrees$Table", name := "clear", desc := "(I)V" } : Jvm.MethodName)) ∈ TB := tb_2 71 rfl rfl
theorem w312 : (Jvm.Cond.selects "ResidualTrees$Table" ({ cls := "ResidualTrees$Table", name := "clear", desc := "(I)V" } : Jvm.MethodName) ({ cls := "ResidualTrees$Table", name := "clear", desc := "(I)V" } : Jvm.MethodName)) ∈ TB := tb_2 72 rfl rfl
theorem w313 : (Jvm.Cond.code ({ cls := "ResidualTrees$Table", name := "clear", desc := "(I)V" } : Jvm.MethodName) prog_9_method_2_code (6 : Nat) (Option.none : Option Jvm.ClassFile.FieldType)) ∈ TB := tb_2 73 rfl rfl
theorem w314 : (Jvm.Cond.methodLink "ResidualTrees$Table" (29 : Nat) ({ cls := "ResidualTrees$Column", name := "become", desc := "(Z)Z" } : Jvm.MethodName)) ∈ TB := tb_2 74 rfl rfl
theorem w315 : (Jvm.Cond.instanceMethod ({ cls := "ResidualTrees$Column", name := "become", desc := "(Z)Z" } : Jvm.MethodName)) ∈ TB := tb_2 75 rfl rfl
theorem w316 : (Jvm.Cond.selects "ResidualTrees$Column" ({ cls := "ResidualTrees$Column", name := "become", desc := "(Z)Z" } : Jvm.MethodName) ({ cls := "ResidualTrees$Column", name := "become", desc := "(Z)Z" } : Jvm.MethodName)) ∈ TB := tb_2 76 rfl rfl
theorem w317 : (Jvm.Cond.code ({ cls := "ResidualTrees$Column", name := "become", desc := "(Z)Z" } : Jvm.MethodName) prog_2_method_5_code (3 : Nat) (Option.some Jvm.ClassFile.FieldType.boolean)) ∈ TB := tb_2 77 rfl rfl
theorem w318 : (Jvm.Cond.constant "ResidualTrees$Table" (36 : Nat) (-2147483648 : Int32)) ∈ TB := tb_2 78 rfl rfl
theorem w319 : (Jvm.Cond.methodLink "ResidualTrees" (328 : Nat) ({ cls := "ResidualTrees$Plan", name := "clear", desc := "()V" } : Jvm.MethodName)) ∈ TB := tb_2 79 rfl rfl
theorem w320 : (Jvm.Cond.instanceMethod ({ cls := "ResidualTrees$Plan", name := "clear", desc := "()V" } : Jvm.MethodName)) ∈ TB := tb_2 80 rfl rfl
theorem w321 : (Jvm.Cond.selects "ResidualTrees$Plan" ({ cls := "ResidualTrees$Plan", name := "clear", desc := "()V" } : Jvm.MethodName) ({ cls := "ResidualTrees$Plan", name := "clear", desc := "()V" } : Jvm.MethodName)) ∈ TB := tb_2 81 rfl rfl
theorem w322 : (Jvm.Cond.code ({ cls := "ResidualTrees$Plan", name := "clear", desc := "()V" } : Jvm.MethodName) prog_7_method_2_code (1 : Nat) (Option.none : Option Jvm.ClassFile.FieldType)) ∈ TB := tb_2 82 rfl rfl
theorem w323 : (Jvm.Cond.constantLong "ResidualTrees$Plan" (25 : Nat) (-1 : Int64)) ∈ TB := tb_2 83 rfl rfl
theorem w324 : (Jvm.Cond.fieldLink "ResidualTrees" (12 : Nat) "ResidualTrees" "table" "LResidualTrees$Table;") ∈ TB := tb_2 84 rfl rfl
theorem w325 : (Jvm.Cond.fieldLink "ResidualTrees" (19 : Nat) "ResidualTrees" "plan" "LResidualTrees$Plan;") ∈ TB := tb_2 85 rfl rfl
theorem w326 : (Jvm.Cond.fieldLink "ResidualTrees" (27 : Nat) "ResidualTrees" "residuals" "[LResidualTrees$Whole;") ∈ TB := tb_2 86 rfl rfl
theorem w327 : (Jvm.Cond.fieldLink "ResidualTrees" (36 : Nat) "ResidualTrees" "grower" "LResidualTrees$Grower;") ∈ TB := tb_2 87 rfl rfl
theorem w328 : (Jvm.Cond.fieldLink "ResidualTrees" (43 : Nat) "ResidualTrees" "forest" "Ljava/util/ArrayList;") ∈ TB := tb_2 88 rfl rfl
theorem w329 : (Jvm.Cond.fieldLink "ResidualTrees" (192 : Nat) "ResidualTrees" "treeCount" "I") ∈ TB := tb_2 89 rfl rfl
theorem w330 : (Jvm.Cond.fieldLink "ResidualTrees" (50 : Nat) "ResidualTrees" "out" "LResidualTrees$Out;") ∈ TB := tb_2 90 rfl rfl
theorem w331 : (Jvm.Cond.fieldLink "ResidualTrees" (54 : Nat) "ResidualTrees" "sorted" "[I") ∈ TB := tb_2 91 rfl rfl
theorem w332 : (Jvm.Cond.fieldLink "ResidualTrees" (63 : Nat) "ResidualTrees" "leaf" "LResidualTrees$Whole;") ∈ TB := tb_2 92 rfl rfl
theorem w333 : (Jvm.Cond.fieldLink "ResidualTrees" (67 : Nat) "ResidualTrees" "common" "LResidualTrees$Whole;") ∈ TB := tb_2 93 rfl rfl
theorem w334 : (Jvm.Cond.fieldLink "ResidualTrees" (70 : Nat) "ResidualTrees" "square" "LResidualTrees$Whole;") ∈ TB := tb_2 94 rfl rfl
theorem w335 : (Jvm.Cond.fieldLink "ResidualTrees" (73 : Nat) "ResidualTrees" "squares" "LResidualTrees$Whole;") ∈ TB := tb_2 95 rfl rfl
theorem w336 : (Jvm.Cond.fieldLink "ResidualTrees" (76 : Nat) "ResidualTrees" "fewest" "LResidualTrees$Whole;") ∈ TB := tb_2 96 rfl rfl
theorem w337 : (Jvm.Cond.laysFinal "ResidualTrees" "ResidualTrees" "table" "LResidualTrees$Table;") ∈ TB := tb_2 97 rfl rfl
theorem w338 : (Jvm.Cond.soleField "ResidualTrees" "table") ∈ TB := tb_2 98 rfl rfl
theorem w339 : (Jvm.Cond.laysFinal "ResidualTrees" "ResidualTrees" "plan" "LResidualTrees$Plan;") ∈ TB := tb_2 99 rfl rfl
theorem w340 : (Jvm.Cond.soleField "ResidualTrees" "plan") ∈ TB := tb_2 100 rfl rfl
theorem w341 : (Jvm.Cond.laysFinal "ResidualTrees" "ResidualTrees" "residuals" "[LResidualTrees$Whole;") ∈ TB := tb_2 101 rfl rfl
theorem w342 : (Jvm.Cond.soleField "ResidualTrees" "residuals") ∈ TB := tb_2 102 rfl rfl
theorem w343 : (Jvm.Cond.laysFinal "ResidualTrees" "ResidualTrees" "grower" "LResidualTrees$Grower;") ∈ TB := tb_2 103 rfl rfl
theorem w344 : (Jvm.Cond.soleField "ResidualTrees" "grower") ∈ TB := tb_2 104 rfl rfl
theorem w345 : (Jvm.Cond.laysFinal "ResidualTrees" "ResidualTrees" "forest" "Ljava/util/ArrayList;") ∈ TB := tb_2 105 rfl rfl
theorem w346 : (Jvm.Cond.soleField "ResidualTrees" "forest") ∈ TB := tb_2 106 rfl rfl
theorem w347 : (Jvm.Cond.lays "ResidualTrees" "ResidualTrees" "treeCount" "I") ∈ TB := tb_2 107 rfl rfl
theorem w348 : (Jvm.Cond.soleField "ResidualTrees" "treeCount") ∈ TB := tb_2 108 rfl rfl
theorem w349 : (Jvm.Cond.laysFinal "ResidualTrees" "ResidualTrees" "out" "LResidualTrees$Out;") ∈ TB := tb_2 109 rfl rfl
theorem w350 : (Jvm.Cond.soleField "ResidualTrees" "out") ∈ TB := tb_2 110 rfl rfl
theorem w351 : (Jvm.Cond.laysFinal "ResidualTrees" "ResidualTrees" "sorted" "[I") ∈ TB := tb_2 111 rfl rfl
theorem w352 : (Jvm.Cond.soleField "ResidualTrees" "sorted") ∈ TB := tb_2 112 rfl rfl
theorem w353 : (Jvm.Cond.laysFinal "ResidualTrees" "ResidualTrees" "leaf" "LResidualTrees$Whole;") ∈ TB := tb_2 113 rfl rfl
theorem w354 : (Jvm.Cond.soleField "ResidualTrees" "leaf") ∈ TB := tb_2 114 rfl rfl
theorem w355 : (Jvm.Cond.laysFinal "ResidualTrees" "ResidualTrees" "common" "LResidualTrees$Whole;") ∈ TB := tb_2 115 rfl rfl
theorem w356 : (Jvm.Cond.soleField "ResidualTrees" "common") ∈ TB := tb_2 116 rfl rfl
theorem w357 : (Jvm.Cond.laysFinal "ResidualTrees" "ResidualTrees" "square" "LResidualTrees$Whole;") ∈ TB := tb_2 117 rfl rfl
theorem w358 : (Jvm.Cond.soleField "ResidualTrees" "square") ∈ TB := tb_2 118 rfl rfl
theorem w359 : (Jvm.Cond.laysFinal "ResidualTrees" "ResidualTrees" "squares" "LResidualTrees$Whole;") ∈ TB := tb_2 119 rfl rfl
theorem w360 : (Jvm.Cond.soleField "ResidualTrees" "squares") ∈ TB := tb_2 120 rfl rfl
theorem w361 : (Jvm.Cond.laysFinal "ResidualTrees" "ResidualTrees" "fewest" "LResidualTrees$Whole;") ∈ TB := tb_2 121 rfl rfl
theorem w362 : (Jvm.Cond.soleField "ResidualTrees" "fewest") ∈ TB := tb_2 122 rfl rfl
theorem w363 : (Jvm.Cond.superclass "ResidualTrees" "java/lang/Object") ∈ TB := tb_2 123 rfl rfl
theorem w364 : (Jvm.Cond.methodLink "ResidualTreesLaw" (135 : Nat) ({ cls := "ResidualTrees", name := "sample", desc := "(JI)I" } : Jvm.MethodName)) ∈ TB := tb_2 124 rfl rfl
theorem w365 : (Jvm.Cond.instanceMethod ({ cls := "ResidualTrees", name := "sample", desc := "(JI)I" } : Jvm.MethodName)) ∈ TB := tb_2 125 rfl rfl
theorem w366 : (Jvm.Cond.selects "ResidualTrees" ({ cls := "ResidualTrees", name := "sample", desc := "(JI)I" } : Jvm.MethodName) ({ cls := "ResidualTrees", name := "sample", desc := "(JI)I" } : Jvm.MethodName)) ∈ TB := tb_2 126 rfl rfl
theorem w367 : (Jvm.Cond.code ({ cls := "ResidualTrees", name := "sample", desc := "(JI)I" } : Jvm.MethodName) prog_1_method_12_code (4 : Nat) (Option.some Jvm.ClassFile.FieldType.int)) ∈ TB := tb_2 127 rfl rfl
theorem w368 : (Jvm.Cond.methodLink "ResidualTrees" (178 : Nat) ({ cls := "ResidualTrees$Table", name := "rowBits", desc := "()J" } : Jvm.MethodName)) ∈ TB := tb_2 128 rfl rfl
theorem w369 : (Jvm.Cond.instanceMethod ({ cls := "ResidualTrees$Table", name := "rowBits", desc := "()J" } : Jvm.MethodName)) ∈ TB := tb_2 129 rfl rfl
theorem w370 : (Jvm.Cond.selects "ResidualTrees$Table" ({ cls := "ResidualTrees$Table", name := "rowBits", desc := "()J" } : Jvm.MethodName) ({ cls := "ResidualTrees$Table", name := "rowBits", desc := "()J" } : Jvm.MethodName)) ∈ TB := tb_2 130 rfl rfl
theorem w371 : (Jvm.Cond.code ({ cls := "ResidualTrees$Table", name := "rowBits", desc := "()J" } : Jvm.MethodName) prog_9_method_5_code (1 : Nat) (Option.some Jvm.ClassFile.FieldType.long)) ∈ TB := tb_2 131 rfl rfl
theorem w372 : (Jvm.Cond.methodLink "ResidualTrees" (182 : Nat) ({ cls := "java/lang/Long", name := "bitCount", desc := "(J)I" } : Jvm.MethodName)) ∈ TB := tb_2 132 rfl rfl
theorem w373 : (Jvm.Cond.static ({ cls := "java/lang/Long", name := "bitCount", desc := "(J)I" } : Jvm.MethodName)) ∈ TB := tb_2 133 rfl rfl
theorem w374 : (Jvm.Cond.code ({ cls := "java/lang/Long", name := "bitCount", desc := "(J)I" } : Jvm.MethodName) prog_21_method_50_code (2 : Nat) (Option.some Jvm.ClassFile.FieldType.int)) ∈ TB := tb_2 134 rfl rfl
theorem w375 : (Jvm.Cond.constantLong "java/lang/Long" (314 : Nat) (6148914691236517205 : Int64)) ∈ TB := tb_2 135 rfl rfl
theorem w376 : (Jvm.Cond.constantLong "java/lang/Long" (316 : Nat) (3689348814741910323 : Int64)) ∈ TB := tb_2 136 rfl rfl
theorem w377 : (Jvm.Cond.constantLong "java/lang/Long" (318 : Nat) (1085102592571150095 : Int64)) ∈ TB := tb_2 137 rfl rfl
theorem w378 : (Jvm.Cond.methodLink "ResidualTreesLaw" (173 : Nat) ({ cls := "ResidualTrees", name := "best", desc := "(J)I" } : Jvm.MethodName)) ∈ TB := tb_2 138 rfl rfl
theorem w379 : (Jvm.Cond.instanceMethod ({ cls := "ResidualTrees", name := "best", desc := "(J)I" } : Jvm.MethodName)) ∈ TB := tb_2 139 rfl rfl
theorem w380 : (Jvm.Cond.selects "ResidualTrees" ({ cls := "ResidualTrees", name := "best", desc := "(J)I" } : Jvm.MethodName) ({ cls := "ResidualTrees", name := "best", desc := "(J)I" } : Jvm.MethodName)) ∈ TB := tb_2 140 rfl rfl
theorem w381 : (Jvm.Cond.code ({ cls := "ResidualTrees", name := "best", desc := "(J)I" } : Jvm.MethodName) prog_1_method_24_code (9 : Nat) (Option.some Jvm.ClassFile.FieldType.int)) ∈ TB := tb_2 141 rfl rfl
theorem w382 : (Jvm.Cond.methodLink "ResidualTrees" (195 : Nat) ({ cls := "ResidualTrees", name := "leaveAll", desc := "(I)V" } : Jvm.MethodName)) ∈ TB := tb_2 142 rfl rfl
theorem w384 : (Jvm.Cond.instanceMethod ({ cls := "ResidualTrees", name := "leaveAll", desc := "(I)V" } : Jvm.MethodName)) ∈ TB := tb_2 144 rfl rfl
theorem w385 : (Jvm.Cond.code ({ cls := "ResidualTrees", name := "leaveAll", desc := "(I)V" } : Jvm.MethodName) prog_1_method_37_code (3 : Nat) (Option.none : Option Jvm.ClassFile.FieldType)) ∈ TB := tb_2 145 rfl rfl
theorem w386 : (Jvm.Cond.methodLink "ResidualTrees" (293 : Nat) ({ cls := "ResidualTrees", name := "leave", desc := "(IILResidualTrees$Whole;)V" } : Jvm.MethodName)) ∈ TB := tb_2 146 rfl rfl
theorem w388 : (Jvm.Cond.instanceMethod ({ cls := "ResidualTrees", name := "leave", desc := "(IILResidualTrees$Whole;)V" } : Jvm.MethodName)) ∈ TB := tb_2 148 rfl rfl
theorem w389 : (Jvm.Cond.code ({ cls := "ResidualTrees", name := "leave", desc := "(IILResidualTrees$Whole;)V" } : Jvm.MethodName) prog_1_method_35_code (5 : Nat) (Option.none : Option Jvm.ClassFile.FieldType)) ∈ TB := tb_2 149 rfl rfl
theorem w390 : (Jvm.Cond.methodLink "ResidualTrees" (343 : Nat) ({ cls := "ResidualTrees$Whole", name := "set", desc := "(I)V" } : Jvm.MethodName)) ∈ TB := tb_2 150 rfl rfl
theorem w391 : (Jvm.Cond.instanceMethod ({ cls := "ResidualTrees$Whole", name := "set", desc := "(I)V" } : Jvm.MethodName)) ∈ TB := tb_2 151 rfl rfl
theorem w392 : (Jvm.Cond.selects "ResidualTrees$Whole" ({ cls := "ResidualTrees$Whole", name := "set", desc := "(I)V" } : Jvm.MethodName) ({ cls := "ResidualTrees$Whole", name := "set", desc := "(I)V" } : Jvm.MethodName)) ∈ TB := tb_2 152 rfl rfl
theorem w393 : (Jvm.Cond.code ({ cls := "ResidualTrees$Whole", name := "set", desc := "(I)V" } : Jvm.MethodName) prog_11_method_3_code (2 : Nat) (Option.none : Option Jvm.ClassFile.FieldType)) ∈ TB := tb_2 153 rfl rfl
theorem w394 : (Jvm.Cond.methodLink "ResidualTrees$Whole" (17 : Nat) ({ cls := "ResidualTrees$Whole", name := "trim", desc := "(I)V" } : Jvm.MethodName)) ∈ TB := tb_2 154 rfl rfl
theorem w396 : (Jvm.Cond.instanceMethod ({ cls := "ResidualTrees$Whole", name := "trim", desc := "(I)V" } : Jvm.MethodName)) ∈ TB := tb_2 156 rfl rfl
theorem w397 : (Jvm.Cond.code ({ cls := "ResidualTrees$Whole", name := "trim", desc := "(I)V" } : Jvm.MethodName) prog_11_method_7_code (2 : Nat) (Option.none : Option Jvm.ClassFile.FieldType)) ∈ TB := tb_2 157 rfl rfl
theorem w398 : (Jvm.Cond.methodLink "ResidualTrees" (219 : Nat) ({ cls := "java/util/ArrayList", name := "get", desc := "(I)Ljava/lang/Object;" } : Jvm.MethodName)) ∈ TB := tb_2 158 rfl rfl
theorem w399 : (Jvm.Cond.instanceMethod ({ cls := "java/util/ArrayList", name := "get", desc := "(I)Ljava/lang/Object;" } : Jvm.MethodName)) ∈ TB := tb_2 159 rfl rfl
theorem w400 : (Jvm.Cond.selects "java/util/ArrayList" ({ cls := "java/util/ArrayList", name := "get", desc := "(I)Ljava/lang/Object;" } : Jvm.MethodName) ({ cls := "java/util/ArrayList", name := "get", desc := "(I)Ljava/lang/Object;" } : Jvm.MethodName)) ∈ TB := tb_2 160 rfl rfl
theorem w401 : (Jvm.Cond.code ({ cls := "java/util/ArrayList", name := "get", desc := "(I)Ljava/lang/Object;" } : Jvm.MethodName) prog_28_method_20_code (2 : Nat) (Option.some (Jvm.ClassFile.FieldType.object "java/lang/Object"))) ∈ TB := tb_2 161 rfl rfl
theorem w402 : (Jvm.Cond.methodLink "java/util/ArrayList" (118 : Nat) ({ cls := "java/util/Objects", name := "checkIndex", desc := "(II)I" } : Jvm.MethodName)) ∈ TB := tb_2 162 rfl rfl
theorem w403 : (Jvm.Cond.static ({ cls := "java/util/Objects", name := "checkIndex", desc := "(II)I" } : Jvm.MethodName)) ∈ TB := tb_2 163 rfl rfl
theorem w404 : (Jvm.Cond.code ({ cls := "java/util/Objects", name := "checkIndex", desc := "(II)I" } : Jvm.MethodName) prog_32_method_17_code (2 : Nat) (Option.some Jvm.ClassFile.FieldType.int)) ∈ TB := tb_2 164 rfl rfl
theorem w405 : (Jvm.Cond.methodLink "java/util/Objects" (105 : Nat) ({ cls := "jdk/internal/util/Preconditions", name := "checkIndex", desc := "(IILjava/util/function/BiFunction;)I" } : Jvm.MethodName)) ∈ TB := tb_2 165 rfl rfl
theorem w406 : (Jvm.Cond.static ({ cls := "jdk/internal/util/Preconditions", name := "checkIndex", desc := "(IILjava/util/function/BiFunction;)I" } : Jvm.MethodName)) ∈ TB := tb_2 166 rfl rfl
theorem w407 : (Jvm.Cond.code ({ cls := "jdk/internal/util/Preconditions", name := "checkIndex", desc := "(IILjava/util/function/BiFunction;)I" } : Jvm.MethodName) prog_36_method_11_code (3 : Nat) (Option.some Jvm.ClassFile.FieldType.int)) ∈ TB := tb_2 167 rfl rfl
theorem w408 : (Jvm.Cond.methodLink "java/util/ArrayList" (123 : Nat) ({ cls := "java/util/ArrayList", name := "elementData", desc := "(I)Ljava/lang/Object;" } : Jvm.MethodName)) ∈ TB := tb_2 168 rfl rfl
theorem w409 : (Jvm.Cond.instanceMethod ({ cls := "java/util/ArrayList", name := "elementData", desc := "(I)Ljava/lang/Object;" } : Jvm.MethodName)) ∈ TB := tb_2 169 rfl rfl
theorem w410 : (Jvm.Cond.selects "java/util/ArrayList" ({ cls := "java/util/ArrayList", name := "elementData", desc := "(I)Ljava/lang/Object;" } : Jvm.MethodName) ({ cls := "java/util/ArrayList", name := "elementData", desc := "(I)Ljava/lang/Object;" } : Jvm.MethodName)) ∈ TB := tb_2 170 rfl rfl
theorem w411 : (Jvm.Cond.code ({ cls := "java/util/ArrayList", name := "elementData", desc := "(I)Ljava/lang/Object;" } : Jvm.MethodName) prog_28_method_18_code (2 : Nat) (Option.some (Jvm.ClassFile.FieldType.object "java/lang/Object"))) ∈ TB := tb_2 171 rfl rfl
theorem w412 : (Jvm.Cond.classLink "ResidualTrees" (207 : Nat) "ResidualTrees$Tree") ∈ TB := tb_2 172 rfl rfl
theorem w413 : (Jvm.Cond.methodLink "ResidualTrees" (310 : Nat) ({ cls := "ResidualTrees", name := "leaveBehind", desc := "(LResidualTrees$Tree;ILResidualTrees$Whole;)V" } : Jvm.MethodName)) ∈ TB := tb_2 173 rfl rfl
theorem w415 : (Jvm.Cond.instanceMethod ({ cls := "ResidualTrees", name := "leaveBehind", desc := "(LResidualTrees$Tree;ILResidualTrees$Whole;)V" } : Jvm.MethodName)) ∈ TB := tb_2 175 rfl rfl
theorem w416 : (Jvm.Cond.code ({ cls := "ResidualTrees", name := "leaveBehind", desc := "(LResidualTrees$Tree;ILResidualTrees$Whole;)V" } : Jvm.MethodName) prog_1_method_36_code (4 : Nat) (Option.none : Option Jvm.ClassFile.FieldType)) ∈ TB := tb_2 176 rfl rfl
theorem w417 : (Jvm.Cond.methodLink "ResidualTrees" (280 : Nat) ({ cls := "ResidualTrees$Whole", name := "times", desc := "(J)V" } : Jvm.MethodName)) ∈ TB := tb_2 177 rfl rfl
theorem w418 : (Jvm.Cond.instanceMethod ({ cls := "ResidualTrees$Whole", name := "times", desc := "(J)V" } : Jvm.MethodName)) ∈ TB := tb_2 178 rfl rfl
theorem w419 : (Jvm.Cond.selects "ResidualTrees$Whole" ({ cls := "ResidualTrees$Whole", name := "times", desc := "(J)V" } : Jvm.MethodName) ({ cls := "ResidualTrees$Whole", name := "times", desc := "(J)V" } : Jvm.MethodName)) ∈ TB := tb_2 179 rfl rfl
theorem w420 : (Jvm.Cond.code ({ cls := "ResidualTrees$Whole", name := "times", desc := "(J)V" } : Jvm.MethodName) prog_11_method_8_code (16 : Nat) (Option.none : Option Jvm.ClassFile.FieldType)) ∈ TB := tb_2 180 rfl rfl
theorem w421 : (Jvm.Cond.constantLong "ResidualTrees$Whole" (37 : Nat) (1000000000 : Int64)) ∈ TB := tb_2 181 rfl rfl
theorem w422 : (Jvm.Cond.methodLink "ResidualTrees" (345 : Nat) ({ cls := "ResidualTrees$Tree", name := "leafOf", desc := "([LResidualTrees$Column;I)LResidualTrees$Node;" } : Jvm.MethodName)) ∈ TB := tb_2 182 rfl rfl
theorem w423 : (Jvm.Cond.instanceMethod ({ cls := "ResidualTrees$Tree", name := "leafOf", desc := "([LResidualTrees$Column;I)LResidualTrees$Node;" } : Jvm.MethodName)) ∈ TB := tb_2 183 rfl rfl
theorem w424 : (Jvm.Cond.selects "ResidualTrees$Tree" ({ cls := "ResidualTrees$Tree", name := "leafOf", desc := "([LResidualTrees$Column;I)LResidualTrees$Node;" } : Jvm.MethodName) ({ cls := "ResidualTrees$Tree", name := "leafOf", desc := "([LResidualTrees$Column;I)LResidualTrees$Node;" } : Jvm.MethodName)) ∈ TB := tb_2 184 rfl rfl
theorem w425 : (Jvm.Cond.code ({ cls := "ResidualTrees$Tree", name := "leafOf", desc := "([LResidualTrees$Column;I)LResidualTrees$Node;" } : Jvm.MethodName) prog_10_method_6_code (6 : Nat) (Option.some (Jvm.ClassFile.FieldType.object "ResidualTrees$Node"))) ∈ TB := tb_2 185 rfl rfl
theorem w426 : (Jvm.Cond.methodLink "ResidualTrees$Tree" (18 : Nat) ({ cls := "java/util/ArrayList", name := "get", desc := "(I)Ljava/lang/Object;" } : Jvm.MethodName)) ∈ TB := tb_2 186 rfl rfl
theorem w427 : (Jvm.Cond.classLink "ResidualTrees$Tree" (22 : Nat) "ResidualTrees$Node") ∈ TB := tb_2 187 rfl rfl
theorem w428 : (Jvm.Cond.methodLink "ResidualTrees$Tree" (99 : Nat) ({ cls := "ResidualTrees$Node", name := "sendsLeft", desc := "(I)Z" } : Jvm.MethodName)) ∈ TB := tb_2 188 rfl rfl
theorem w429 : (Jvm.Cond.instanceMethod ({ cls := "ResidualTrees$Node", name := "sendsLeft", desc := "(I)Z" } : Jvm.MethodName)) ∈ TB := tb_2 189 rfl rfl
theorem w430 : (Jvm.Cond.selects "ResidualTrees$Node" ({ cls := "ResidualTrees$Node", name := "sendsLeft", desc := "(I)Z" } : Jvm.MethodName) ({ cls := "ResidualTrees$Node", name := "sendsLeft", desc := "(I)Z" } : Jvm.MethodName)) ∈ TB := tb_2 190 rfl rfl
theorem w431 : (Jvm.Cond.code ({ cls := "ResidualTrees$Node", name := "sendsLeft", desc := "(I)Z" } : Jvm.MethodName) prog_5_method_3_code (2 : Nat) (Option.some Jvm.ClassFile.FieldType.boolean)) ∈ TB := tb_2 191 rfl rfl
theorem w432 : (Jvm.Cond.constant "ResidualTrees$Node" (40 : Nat) (-2147483648 : Int32)) ∈ TB := tb_2 192 rfl rfl
theorem w434 : (Jvm.Cond.static ({ cls := "ResidualTrees", name := "isKind", desc := "(I)Z" } : Jvm.MethodName)) ∈ TB := tb_2 194 rfl rfl
theorem w435 : (Jvm.Cond.code ({ cls := "ResidualTrees", name := "isKind", desc := "(I)Z" } : Jvm.MethodName) prog_1_method_32_code (1 : Nat) (Option.some Jvm.ClassFile.FieldType.boolean)) ∈ TB := tb_2 195 rfl rfl
theorem w436 : (Jvm.Cond.methodLink "ResidualTrees" (349 : Nat) ({ cls := "ResidualTrees$Tree", name := "setToValue", desc := "(LResidualTrees$Whole;LResidualTrees$Node;)V" } : Jvm.MethodName)) ∈ TB := tb_2 196 rfl rfl
theorem w437 : (Jvm.Cond.instanceMethod ({ cls := "ResidualTrees$Tree", name := "setToValue", desc := "(LResidualTrees$Whole;LResidualTrees$Node;)V" } : Jvm.MethodName)) ∈ TB := tb_2 197 rfl rfl
theorem w438 : (Jvm.Cond.selects "ResidualTrees$Tree" ({ cls := "ResidualTrees$Tree", name := "setToValue", desc := "(LResidualTrees$Whole;LResidualTrees$Node;)V" } : Jvm.MethodName) ({ cls := "ResidualTrees$Tree", name := "setToValue", desc := "(LResidualTrees$Whole;LResidualTrees$Node;)V" } : Jvm.MethodName)) ∈ TB := tb_2 198 rfl rfl
theorem w439 : (Jvm.Cond.code ({ cls := "ResidualTrees$Tree", name := "setToValue", desc := "(LResidualTrees$Whole;LResidualTrees$Node;)V" } : Jvm.MethodName) prog_10_method_5_code (6 : Nat) (Option.none : Option Jvm.ClassFile.FieldType)) ∈ TB := tb_2 199 rfl rfl
theorem w441 : (Jvm.Cond.static ({ cls := "ResidualTrees", name := "greatestDivisor", desc := "(JJ)J" } : Jvm.MethodName)) ∈ TB := tb_2 201 rfl rfl
theorem w442 : (Jvm.Cond.code ({ cls := "ResidualTrees", name := "greatestDivisor", desc := "(JJ)J" } : Jvm.MethodName) prog_1_method_45_code (11 : Nat) (Option.some Jvm.ClassFile.FieldType.long)) ∈ TB := tb_2 202 rfl rfl
theorem w443 : (Jvm.Cond.methodLink "ResidualTrees$Tree" (81 : Nat) ({ cls := "ResidualTrees$Whole", name := "set", desc := "(LResidualTrees$Whole;)V" } : Jvm.MethodName)) ∈ TB := tb_2 203 rfl rfl
theorem w444 : (Jvm.Cond.instanceMethod ({ cls := "ResidualTrees$Whole", name := "set", desc := "(LResidualTrees$Whole;)V" } : Jvm.MethodName)) ∈ TB := tb_2 204 rfl rfl
theorem w445 : (Jvm.Cond.selects "ResidualTrees$Whole" ({ cls := "ResidualTrees$Whole", name := "set", desc := "(LResidualTrees$Whole;)V" } : Jvm.MethodName) ({ cls := "ResidualTrees$Whole", name := "set", desc := "(LResidualTrees$Whole;)V" } : Jvm.MethodName)) ∈ TB := tb_2 205 rfl rfl
theorem w446 : (Jvm.Cond.code ({ cls := "ResidualTrees$Whole", name := "set", desc := "(LResidualTrees$Whole;)V" } : Jvm.MethodName) prog_11_method_4_code (2 : Nat) (Option.none : Option Jvm.ClassFile.FieldType)) ∈ TB := tb_2 206 rfl rfl
theorem w447 : (Jvm.Cond.methodLink "ResidualTrees$Whole" (25 : Nat) ({ cls := "java/lang/Math", name := "min", desc := "(II)I" } : Jvm.MethodName)) ∈ TB := tb_2 207 rfl rfl
theorem w448 : (Jvm.Cond.static ({ cls := "java/lang/Math", name := "min", desc := "(II)I" } : Jvm.MethodName)) ∈ TB := tb_2 208 rfl rfl
theorem w449 : (Jvm.Cond.code ({ cls := "java/lang/Math", name := "min", desc := "(II)I" } : Jvm.MethodName) prog_22_method_69_code (2 : Nat) (Option.some Jvm.ClassFile.FieldType.int)) ∈ TB := tb_2 209 rfl rfl
theorem w450 : (Jvm.Cond.methodLink "ResidualTrees$Whole" (31 : Nat) ({ cls := "java/lang/System", name := "arraycopy", desc := "(Ljava/lang/Object;ILjava/lang/Object;II)V" } : Jvm.MethodName)) ∈ TB := tb_2 210 rfl rfl
theorem w451 : (Jvm.Cond.static ({ cls := "java/lang/System", name := "arraycopy", desc := "(Ljava/lang/Object;ILjava/lang/Object;II)V" } : Jvm.MethodName)) ∈ TB := tb_2 211 rfl rfl
theorem w452 : (Jvm.Cond.native ({ cls := "java/lang/System", name := "arraycopy", desc := "(Ljava/lang/Object;ILjava/lang/Object;II)V" } : Jvm.MethodName)) ∈ TB := tb_2 212 rfl rfl
theorem w453 : (Jvm.Cond.methodLink "ResidualTrees$Tree" (85 : Nat) ({ cls := "ResidualTrees$Whole", name := "times", desc := "(J)V" } : Jvm.MethodName)) ∈ TB := tb_2 213 rfl rfl
theorem w454 : (Jvm.Cond.methodLink "ResidualTrees$Tree" (89 : Nat) ({ cls := "ResidualTrees$Whole", name := "divide", desc := "(I)V" } : Jvm.MethodName)) ∈ TB := tb_2 214 rfl rfl
theorem w455 : (Jvm.Cond.instanceMethod ({ cls := "ResidualTrees$Whole", name := "divide", desc := "(I)V" } : Jvm.MethodName)) ∈ TB := tb_2 215 rfl rfl
theorem w456 : (Jvm.Cond.selects "ResidualTrees$Whole" ({ cls := "ResidualTrees$Whole", name := "divide", desc := "(I)V" } : Jvm.MethodName) ({ cls := "ResidualTrees$Whole", name := "divide", desc := "(I)V" } : Jvm.MethodName)) ∈ TB := tb_2 216 rfl rfl
theorem w457 : (Jvm.Cond.code ({ cls := "ResidualTrees$Whole", name := "divide", desc := "(I)V" } : Jvm.MethodName) prog_11_method_13_code (7 : Nat) (Option.none : Option Jvm.ClassFile.FieldType)) ∈ TB := tb_2 217 rfl rfl
theorem w458 : (Jvm.Cond.methodLink "ResidualTrees" (353 : Nat) ({ cls := "ResidualTrees$Whole", name := "plus", desc := "(LResidualTrees$Whole;Z)V" } : Jvm.MethodName)) ∈ TB := tb_2 218 rfl rfl
theorem w459 : (Jvm.Cond.instanceMethod ({ cls := "ResidualTrees$Whole", name := "plus", desc := "(LResidualTrees$Whole;Z)V" } : Jvm.MethodName)) ∈ TB := tb_2 219 rfl rfl
theorem w460 : (Jvm.Cond.selects "ResidualTrees$Whole" ({ cls := "ResidualTrees$Whole", name := "plus", desc := "(LResidualTrees$Whole;Z)V" } : Jvm.MethodName) ({ cls := "ResidualTrees$Whole", name := "plus", desc := "(LResidualTrees$Whole;Z)V" } : Jvm.MethodName)) ∈ TB := tb_2 220 rfl rfl
theorem w461 : (Jvm.Cond.code ({ cls := "ResidualTrees$Whole", name := "plus", desc := "(LResidualTrees$Whole;Z)V" } : Jvm.MethodName) prog_11_method_10_code (8 : Nat) (Option.none : Option Jvm.ClassFile.FieldType)) ∈ TB := tb_2 221 rfl rfl
theorem w462 : (Jvm.Cond.constant "ResidualTrees$Whole" (45 : Nat) (1000000000 : Int32)) ∈ TB := tb_2 222 rfl rfl
theorem w463 : (Jvm.Cond.methodLink "ResidualTrees$Whole" (46 : Nat) ({ cls := "ResidualTrees$Whole", name := "complement", desc := "(I)V" } : Jvm.MethodName)) ∈ TB := tb_2 223 rfl rfl
theorem w465 : (Jvm.Cond.instanceMethod ({ cls := "ResidualTrees$Whole", name := "complement", desc := "(I)V" } : Jvm.MethodName)) ∈ TB := tb_2 225 rfl rfl
theorem w466 : (Jvm.Cond.code ({ cls := "ResidualTrees$Whole", name := "complement", desc := "(I)V" } : Jvm.MethodName) prog_11_method_11_code (5 : Nat) (Option.none : Option Jvm.ClassFile.FieldType)) ∈ TB := tb_2 226 rfl rfl
theorem w467 : (Jvm.Cond.methodLink "ResidualTrees" (303 : Nat) ({ cls := "ResidualTrees", name := "sumSquares", desc := "(J)V" } : Jvm.MethodName)) ∈ TB := tb_2 227 rfl rfl
theorem w469 : (Jvm.Cond.instanceMethod ({ cls := "ResidualTrees", name := "sumSquares", desc := "(J)V" } : Jvm.MethodName)) ∈ TB := tb_2 229 rfl rfl
theorem w470 : (Jvm.Cond.code ({ cls := "ResidualTrees", name := "sumSquares", desc := "(J)V" } : Jvm.MethodName) prog_1_method_41_code (4 : Nat) (Option.none : Option Jvm.ClassFile.FieldType)) ∈ TB := tb_2 230 rfl rfl
theorem w471 : (Jvm.Cond.methodLink "ResidualTrees" (306 : Nat) ({ cls := "ResidualTrees$Whole", name := "setProduct", desc := "(LResidualTrees$Whole;LResidualTrees$Whole;)V" } : Jvm.MethodName)) ∈ TB := tb_2 231 rfl rfl
theorem w472 : (Jvm.Cond.instanceMethod ({ cls := "ResidualTrees$Whole", name := "setProduct", desc := "(LResidualTrees$Whole;LResidualTrees$Whole;)V" } : Jvm.MethodName)) ∈ TB := tb_2 232 rfl rfl
theorem w473 : (Jvm.Cond.selects "ResidualTrees$Whole" ({ cls := "ResidualTrees$Whole", name := "setProduct", desc := "(LResidualTrees$Whole;LResidualTrees$Whole;)V" } : Jvm.MethodName) ({ cls := "ResidualTrees$Whole", name := "setProduct", desc := "(LResidualTrees$Whole;LResidualTrees$Whole;)V" } : Jvm.MethodName)) ∈ TB := tb_2 233 rfl rfl
theorem w474 : (Jvm.Cond.code ({ cls := "ResidualTrees$Whole", name := "setProduct", desc := "(LResidualTrees$Whole;LResidualTrees$Whole;)V" } : Jvm.MethodName) prog_11_method_9_code (12 : Nat) (Option.none : Option Jvm.ClassFile.FieldType)) ∈ TB := tb_2 234 rfl rfl
theorem w475 : (Jvm.Cond.methodLink "ResidualTrees$Whole" (39 : Nat) ({ cls := "java/util/Arrays", name := "fill", desc := "([IIII)V" } : Jvm.MethodName)) ∈ TB := tb_2 235 rfl rfl
theorem w476 : (Jvm.Cond.static ({ cls := "java/util/Arrays", name := "fill", desc := "([IIII)V" } : Jvm.MethodName)) ∈ TB := tb_2 236 rfl rfl
theorem w477 : (Jvm.Cond.code ({ cls := "java/util/Arrays", name := "fill", desc := "([IIII)V" } : Jvm.MethodName) prog_29_method_104_code (5 : Nat) (Option.none : Option Jvm.ClassFile.FieldType)) ∈ TB := tb_2 237 rfl rfl
theorem w478 : (Jvm.Cond.methodLink "java/util/Arrays" (13 : Nat) ({ cls := "java/util/Arrays", name := "rangeCheck", desc := "(III)V" } : Jvm.MethodName)) ∈ TB := tb_2 238 rfl rfl
theorem w479 : (Jvm.Cond.static ({ cls := "java/util/Arrays", name := "rangeCheck", desc := "(III)V" } : Jvm.MethodName)) ∈ TB := tb_2 239 rfl rfl
theorem w480 : (Jvm.Cond.code ({ cls := "java/util/Arrays", name := "rangeCheck", desc := "(III)V" } : Jvm.MethodName) prog_29_method_30_code (3 : Nat) (Option.none : Option Jvm.ClassFile.FieldType)) ∈ TB := tb_3 0 rfl rfl
theorem w481 : (Jvm.Cond.methodLink "ResidualTrees" (275 : Nat) ({ cls := "ResidualTrees$Whole", name := "set", desc := "(LResidualTrees$Whole;)V" } : Jvm.MethodName)) ∈ TB := tb_3 1 rfl rfl
theorem w482 : (Jvm.Cond.methodLink "ResidualTrees" (317 : Nat) ({ cls := "ResidualTrees$Whole", name := "compare", desc := "(LResidualTrees$Whole;)I" } : Jvm.MethodName)) ∈ TB := tb_3 2 rfl rfl
theorem w483 : (Jvm.Cond.instanceMethod ({ cls := "ResidualTrees$Whole", name := "compare", desc := "(LResidualTrees$Whole;)I" } : Jvm.MethodName)) ∈ TB := tb_3 3 rfl rfl
theorem w484 : (Jvm.Cond.selects "ResidualTrees$Whole" ({ cls := "ResidualTrees$Whole", name := "compare", desc := "(LResidualTrees$Whole;)I" } : Jvm.MethodName) ({ cls := "ResidualTrees$Whole", name := "compare", desc := "(LResidualTrees$Whole;)I" } : Jvm.MethodName)) ∈ TB := tb_3 4 rfl rfl
theorem w485 : (Jvm.Cond.code ({ cls := "ResidualTrees$Whole", name := "compare", desc := "(LResidualTrees$Whole;)I" } : Jvm.MethodName) prog_11_method_14_code (4 : Nat) (Option.some Jvm.ClassFile.FieldType.int)) ∈ TB := tb_3 5 rfl rfl
theorem w486 : (Jvm.Cond.methodLink "ResidualTrees$Whole" (49 : Nat) ({ cls := "ResidualTrees$Whole", name := "sign", desc := "()I" } : Jvm.MethodName)) ∈ TB := tb_3 6 rfl rfl
theorem w487 : (Jvm.Cond.instanceMethod ({ cls := "ResidualTrees$Whole", name := "sign", desc := "()I" } : Jvm.MethodName)) ∈ TB := tb_3 7 rfl rfl
theorem w488 : (Jvm.Cond.selects "ResidualTrees$Whole" ({ cls := "ResidualTrees$Whole", name := "sign", desc := "()I" } : Jvm.MethodName) ({ cls := "ResidualTrees$Whole", name := "sign", desc := "()I" } : Jvm.MethodName)) ∈ TB := tb_3 8 rfl rfl
theorem w489 : (Jvm.Cond.code ({ cls := "ResidualTrees$Whole", name := "sign", desc := "()I" } : Jvm.MethodName) prog_11_method_6_code (1 : Nat) (Option.some Jvm.ClassFile.FieldType.int)) ∈ TB := tb_3 9 rfl rfl
theorem w490 : (Jvm.Cond.methodLink "ResidualTrees$Whole" (53 : Nat) ({ cls := "java/lang/Integer", name := "compare", desc := "(II)I" } : Jvm.MethodName)) ∈ TB := tb_3 10 rfl rfl
theorem w491 : (Jvm.Cond.static ({ cls := "java/lang/Integer", name := "compare", desc := "(II)I" } : Jvm.MethodName)) ∈ TB := tb_3 11 rfl rfl
theorem w492 : (Jvm.Cond.code ({ cls := "java/lang/Integer", name := "compare", desc := "(II)I" } : Jvm.MethodName) prog_19_method_40_code (2 : Nat) (Option.some Jvm.ClassFile.FieldType.int)) ∈ TB := tb_3 12 rfl rfl
theorem w493 : (Jvm.Cond.methodLink "ResidualTreesLaw" (178 : Nat) ({ cls := "ResidualTrees", name := "byteAt", desc := "(I)I" } : Jvm.MethodName)) ∈ TB := tb_3 13 rfl rfl
theorem w494 : (Jvm.Cond.instanceMethod ({ cls := "ResidualTrees", name := "byteAt", desc := "(I)I" } : Jvm.MethodName)) ∈ TB := tb_3 14 rfl rfl
theorem w495 : (Jvm.Cond.selects "ResidualTrees" ({ cls := "ResidualTrees", name := "byteAt", desc := "(I)I" } : Jvm.MethodName) ({ cls := "ResidualTrees", name := "byteAt", desc := "(I)I" } : Jvm.MethodName)) ∈ TB := tb_3 15 rfl rfl
theorem w496 : (Jvm.Cond.code ({ cls := "ResidualTrees", name := "byteAt", desc := "(I)I" } : Jvm.MethodName) prog_1_method_25_code (2 : Nat) (Option.some Jvm.ClassFile.FieldType.int)) ∈ TB := tb_3 16 rfl rfl
theorem w497 : (Jvm.Cond.methodLink "ResidualTrees" (82 : Nat) ({ cls := "ResidualTrees", name := "isWithin", desc := "(III)Z" } : Jvm.MethodName)) ∈ TB := tb_3 17 rfl rfl
theorem w498 : (Jvm.Cond.static ({ cls := "ResidualTrees", name := "isWithin", desc := "(III)Z" } : Jvm.MethodName)) ∈ TB := tb_3 18 rfl rfl
theorem w499 : (Jvm.Cond.code ({ cls := "ResidualTrees", name := "isWithin", desc := "(III)Z" } : Jvm.MethodName) prog_1_method_29_code (3 : Nat) (Option.some Jvm.ClassFile.FieldType.boolean)) ∈ TB := tb_3 19 rfl rfl
theorem w500 : (Jvm.Cond.methodLink "ResidualTreesLaw" (89 : Nat) ({ cls := "ResidualTreesLaw", name := "begin", desc := "(LResidualTrees;I)I" } : Jvm.MethodName)) ∈ TB := tb_3 20 rfl rfl
theorem w501 : (Jvm.Cond.static ({ cls := "ResidualTreesLaw", name := "begin", desc := "(LResidualTrees;I)I" } : Jvm.MethodName)) ∈ TB := tb_3 21 rfl rfl
theorem w502 : (Jvm.Cond.codeWith ({ cls := "ResidualTreesLaw", name := "begin", desc := "(LResidualTrees;I)I" } : Jvm.MethodName) method_3_code (3 : Nat) (Option.some Jvm.ClassFile.FieldType.int) [((0 : Nat), (5 : Nat), (8 : Nat), (13 : Nat))]) ∈ TB := tb_3 22 rfl rfl
theorem w503 : (Jvm.Cond.classLink "ResidualTreesLaw" (13 : Nat) "java/lang/IllegalArgumentException") ∈ TB := tb_3 23 rfl rfl
theorem w504 : (Jvm.Cond.methodLink "ResidualTreesLaw" (7 : Nat) ({ cls := "ResidualTrees", name := "begin", desc := "(I)V" } : Jvm.MethodName)) ∈ TB := tb_3 24 rfl rfl
theorem w505 : (Jvm.Cond.instanceMethod ({ cls := "ResidualTrees", name := "begin", desc := "(I)V" } : Jvm.MethodName)) ∈ TB := tb_3 25 rfl rfl
theorem w506 : (Jvm.Cond.selects "ResidualTrees" ({ cls := "ResidualTrees", name := "begin", desc := "(I)V" } : Jvm.MethodName) ({ cls := "ResidualTrees", name := "begin", desc := "(I)V" } : Jvm.MethodName)) ∈ TB := tb_3 26 rfl rfl
theorem w507 : (Jvm.Cond.code ({ cls := "ResidualTrees", name := "begin", desc := "(I)V" } : Jvm.MethodName) prog_1_method_2_code (2 : Nat) (Option.none : Option Jvm.ClassFile.FieldType)) ∈ TB := tb_3 27 rfl rfl
theorem w508 : (Jvm.Cond.methodLink "ResidualTrees" (86 : Nat) ({ cls := "ResidualTrees", name := "demand", desc := "(Z)V" } : Jvm.MethodName)) ∈ TB := tb_3 28 rfl rfl
theorem w509 : (Jvm.Cond.static ({ cls := "ResidualTrees", name := "demand", desc := "(Z)V" } : Jvm.MethodName)) ∈ TB := tb_3 29 rfl rfl
theorem w510 : (Jvm.Cond.code ({ cls := "ResidualTrees", name := "demand", desc := "(Z)V" } : Jvm.MethodName) prog_1_method_27_code (1 : Nat) (Option.none : Option Jvm.ClassFile.FieldType)) ∈ TB := tb_3 30 rfl rfl
theorem w511 : (Jvm.Cond.classLink "ResidualTrees" (247 : Nat) "java/lang/IllegalArgumentException") ∈ TB := tb_3 31 rfl rfl
theorem w512 : (Jvm.Cond.instantiable "java/lang/IllegalArgumentException" (6 : Nat)) ∈ TB := tb_3 32 rfl rfl
theorem w520 : (Jvm.Cond.selects "java/lang/IllegalArgumentException" ({ cls := "java/lang/Throwable", name := "fillInStackTrace", desc := "(I)Ljava/lang/Throwable;" } : Jvm.MethodName) ({ cls := "java/lang/Throwable", name := "fillInStackTrace", desc := "(I)Ljava/lang/Throwable;" } : Jvm.MethodName)) ∈ TB := tb_3 40 rfl rfl
theorem w521 : (Jvm.Cond.selects "java/lang/IllegalArgumentException" ({ cls := "java/lang/Throwable", name := "fillInStackTrace", desc := "()Ljava/lang/Throwable;" } : Jvm.MethodName) ({ cls := "java/lang/Throwable", name := "fillInStackTrace", desc := "()Ljava/lang/Throwable;" } : Jvm.MethodName)) ∈ TB := tb_3 41 rfl rfl
theorem w522 : (Jvm.Cond.lays "java/lang/IllegalArgumentException" "java/lang/Throwable" "cause" "Ljava/lang/Throwable;") ∈ TB := tb_3 42 rfl rfl
theorem w523 : (Jvm.Cond.lays "java/lang/Throwable" "java/lang/Throwable" "cause" "Ljava/lang/Throwable;") ∈ TB := tb_3 43 rfl rfl
theorem w524 : (Jvm.Cond.lays "java/lang/IllegalArgumentException" "java/lang/Throwable" "stackTrace" "[Ljava/lang/StackTraceElement;") ∈ TB := tb_3 44 rfl rfl
theorem w525 : (Jvm.Cond.lays "java/lang/Throwable" "java/lang/Throwable" "stackTrace" "[Ljava/lang/StackTraceElement;") ∈ TB := tb_3 45 rfl rfl
theorem w526 : (Jvm.Cond.lays "java/lang/IllegalArgumentException" "java/lang/Throwable" "suppressedExceptions" "Ljava/util/List;") ∈ TB := tb_3 46 rfl rfl
theorem w527 : (Jvm.Cond.lays "java/lang/Throwable" "java/lang/Throwable" "suppressedExceptions" "Ljava/util/List;") ∈ TB := tb_3 47 rfl rfl
theorem w528 : (Jvm.Cond.lays "java/lang/IllegalArgumentException" "java/lang/Throwable" "detailMessage" "Ljava/lang/String;") ∈ TB := tb_3 48 rfl rfl
theorem w529 : (Jvm.Cond.lays "java/lang/Throwable" "java/lang/Throwable" "detailMessage" "Ljava/lang/String;") ∈ TB := tb_3 49 rfl rfl
theorem w530 : (Jvm.Cond.lays "java/lang/IllegalArgumentException" "java/lang/Throwable" "backtrace" "Ljava/lang/Object;") ∈ TB := tb_3 50 rfl rfl
theorem w531 : (Jvm.Cond.lays "java/lang/Throwable" "java/lang/Throwable" "backtrace" "Ljava/lang/Object;") ∈ TB := tb_3 51 rfl rfl
theorem w532 : (Jvm.Cond.fieldLink "java/lang/Throwable" (198 : Nat) "java/lang/Throwable" "backtrace" "Ljava/lang/Object;") ∈ TB := tb_3 52 rfl rfl
theorem w533 : (Jvm.Cond.superclass "java/lang/Throwable" "java/lang/Object") ∈ TB := tb_3 53 rfl rfl
theorem w534 : (Jvm.Cond.instanceMethod ({ cls := "java/lang/Throwable", name := "<init>", desc := "()V" } : Jvm.MethodName)) ∈ TB := tb_3 54 rfl rfl
theorem w535 : (Jvm.Cond.code ({ cls := "java/lang/Throwable", name := "<init>", desc := "()V" } : Jvm.MethodName) prog_25_method_1_code (1 : Nat) (Option.none : Option Jvm.ClassFile.FieldType)) ∈ TB := tb_3 55 rfl rfl
theorem w536 : (Jvm.Cond.methodLink "java/lang/Throwable" (1 : Nat) ({ cls := "java/lang/Object", name := "<init>", desc := "()V" } : Jvm.MethodName)) ∈ TB := tb_3 56 rfl rfl
theorem w537 : (Jvm.Cond.fieldLink "java/lang/Throwable" (13 : Nat) "java/lang/Throwable" "UNASSIGNED_STACK" "[Ljava/lang/StackTraceElement;") ∈ TB := tb_3 57 rfl rfl
theorem w539 : (Jvm.Cond.fieldLink "java/lang/Throwable" (20 : Nat) "java/lang/Throwable" "SUPPRESSED_SENTINEL" "Ljava/util/List;") ∈ TB := tb_3 59 rfl rfl
theorem w541 : (Jvm.Cond.methodLink "java/lang/Throwable" (27 : Nat) ({ cls := "java/lang/Throwable", name := "fillInStackTrace", desc := "()Ljava/lang/Throwable;" } : Jvm.MethodName)) ∈ TB := tb_3 61 rfl rfl
theorem w542 : (Jvm.Cond.instanceMethod ({ cls := "java/lang/Throwable", name := "fillInStackTrace", desc := "()Ljava/lang/Throwable;" } : Jvm.MethodName)) ∈ TB := tb_3 62 rfl rfl
theorem w543 : (Jvm.Cond.sameMethod "java/lang/Throwable" "java/lang/Throwable" "fillInStackTrace" "()Ljava/lang/Throwable;") ∈ TB := tb_3 63 rfl rfl
theorem w544 : (Jvm.Cond.selects "java/lang/IllegalStateException" ({ cls := "java/lang/Throwable", name := "fillInStackTrace", desc := "()Ljava/lang/Throwable;" } : Jvm.MethodName) ({ cls := "java/lang/Throwable", name := "fillInStackTrace", desc := "()Ljava/lang/Throwable;" } : Jvm.MethodName)) ∈ TB := tb_3 64 rfl rfl
theorem w545 : (Jvm.Cond.codeSync ({ cls := "java/lang/Throwable", name := "fillInStackTrace", desc := "()Ljava/lang/Throwable;" } : Jvm.MethodName) prog_25_method_18_code (1 : Nat) (Option.some (Jvm.ClassFile.FieldType.object "java/lang/Throwable"))) ∈ TB := tb_3 65 rfl rfl
theorem w546 : (Jvm.Cond.methodLink "java/lang/Throwable" (202 : Nat) ({ cls := "java/lang/Throwable", name := "fillInStackTrace", desc := "(I)Ljava/lang/Throwable;" } : Jvm.MethodName)) ∈ TB := tb_3 66 rfl rfl
theorem w548 : (Jvm.Cond.instanceMethod ({ cls := "java/lang/Throwable", name := "fillInStackTrace", desc := "(I)Ljava/lang/Throwable;" } : Jvm.MethodName)) ∈ TB := tb_3 68 rfl rfl
theorem w549 : (Jvm.Cond.instantiable "java/lang/Throwable" (6 : Nat)) ∈ TB := tb_3 69 rfl rfl
theorem w550 : (Jvm.Cond.native ({ cls := "java/lang/Throwable", name := "fillInStackTrace", desc := "(I)Ljava/lang/Throwable;" } : Jvm.MethodName)) ∈ TB := tb_3 70 rfl rfl
theorem w551 : (Jvm.Cond.methodLink "ResidualTrees" (249 : Nat) ({ cls := "java/lang/IllegalArgumentException", name := "<init>", desc := "()V" } : Jvm.MethodName)) ∈ TB := tb_3 71 rfl rfl
theorem w552 : (Jvm.Cond.instanceMethod ({ cls := "java/lang/IllegalArgumentException", name := "<init>", desc := "()V" } : Jvm.MethodName)) ∈ TB := tb_3 72 rfl rfl
theorem w553 : (Jvm.Cond.code ({ cls := "java/lang/IllegalArgumentException", name := "<init>", desc := "()V" } : Jvm.MethodName) prog_17_method_1_code (1 : Nat) (Option.none : Option Jvm.ClassFile.FieldType)) ∈ TB := tb_3 73 rfl rfl
theorem w554 : (Jvm.Cond.methodLink "java/lang/IllegalArgumentException" (1 : Nat) ({ cls := "java/lang/RuntimeException", name := "<init>", desc := "()V" } : Jvm.MethodName)) ∈ TB := tb_3 74 rfl rfl
theorem w555 : (Jvm.Cond.instanceMethod ({ cls := "java/lang/RuntimeException", name := "<init>", desc := "()V" } : Jvm.MethodName)) ∈ TB := tb_3 75 rfl rfl
theorem w556 : (Jvm.Cond.code ({ cls := "java/lang/RuntimeException", name := "<init>", desc := "()V" } : Jvm.MethodName) prog_23_method_1_code (1 : Nat) (Option.none : Option Jvm.ClassFile.FieldType)) ∈ TB := tb_3 76 rfl rfl
theorem w557 : (Jvm.Cond.methodLink "java/lang/RuntimeException" (1 : Nat) ({ cls := "java/lang/Exception", name := "<init>", desc := "()V" } : Jvm.MethodName)) ∈ TB := tb_3 77 rfl rfl
theorem w558 : (Jvm.Cond.instanceMethod ({ cls := "java/lang/Exception", name := "<init>", desc := "()V" } : Jvm.MethodName)) ∈ TB := tb_3 78 rfl rfl
theorem w559 : (Jvm.Cond.code ({ cls := "java/lang/Exception", name := "<init>", desc := "()V" } : Jvm.MethodName) prog_16_method_1_code (1 : Nat) (Option.none : Option Jvm.ClassFile.FieldType)) ∈ TB := tb_3 79 rfl rfl
