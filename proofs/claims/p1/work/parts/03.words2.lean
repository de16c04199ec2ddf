theorem w560 : (Jvm.Cond.methodLink "java/lang/Exception" (1 : Nat) ({ cls := "java/lang/Throwable", name := "<init>", desc := "()V" } : Jvm.MethodName)) ∈ TB := tb_3 80 rfl rfl
theorem w561 : (Jvm.Cond.fieldLink "java/lang/Throwable" (198 : Nat) "java/lang/Throwable" "backtrace" "Ljava/lang/Object;") ∈ TB := tb_3 81 rfl rfl
theorem w562 : (Jvm.Cond.fieldLink "java/lang/Throwable" (7 : Nat) "java/lang/Throwable" "cause" "Ljava/lang/Throwable;") ∈ TB := tb_3 82 rfl rfl
theorem w563 : (Jvm.Cond.fieldLink "java/lang/Throwable" (17 : Nat) "java/lang/Throwable" "stackTrace" "[Ljava/lang/StackTraceElement;") ∈ TB := tb_3 83 rfl rfl
theorem w564 : (Jvm.Cond.fieldLink "java/lang/Throwable" (24 : Nat) "java/lang/Throwable" "suppressedExceptions" "Ljava/util/List;") ∈ TB := tb_3 84 rfl rfl
theorem w565 : (Jvm.Cond.soleField "java/lang/Throwable" "backtrace") ∈ TB := tb_3 85 rfl rfl
theorem w566 : (Jvm.Cond.soleField "java/lang/Throwable" "detailMessage") ∈ TB := tb_3 86 rfl rfl
theorem w567 : (Jvm.Cond.soleField "java/lang/Throwable" "cause") ∈ TB := tb_3 87 rfl rfl
theorem w568 : (Jvm.Cond.soleField "java/lang/Throwable" "stackTrace") ∈ TB := tb_3 88 rfl rfl
theorem w569 : (Jvm.Cond.lays "java/lang/IllegalArgumentException" "java/lang/Throwable" "depth" "I") ∈ TB := tb_3 89 rfl rfl
theorem w570 : (Jvm.Cond.soleField "java/lang/Throwable" "depth") ∈ TB := tb_3 90 rfl rfl
theorem w571 : (Jvm.Cond.soleField "java/lang/Throwable" "suppressedExceptions") ∈ TB := tb_3 91 rfl rfl
theorem w572 : (Jvm.Cond.superclass "java/lang/IllegalArgumentException" "java/lang/RuntimeException") ∈ TB := tb_3 92 rfl rfl
theorem w573 : (Jvm.Cond.methodLink "ResidualTreesLaw" (99 : Nat) ({ cls := "ResidualTreesLaw", name := "add", desc := "(LResidualTrees;I[J)I" } : Jvm.MethodName)) ∈ TB := tb_3 93 rfl rfl
theorem w574 : (Jvm.Cond.static ({ cls := "ResidualTreesLaw", name := "add", desc := "(LResidualTrees;I[J)I" } : Jvm.MethodName)) ∈ TB := tb_3 94 rfl rfl
theorem w575 : (Jvm.Cond.codeWith ({ cls := "ResidualTreesLaw", name := "add", desc := "(LResidualTrees;I[J)I" } : Jvm.MethodName) method_4_code (4 : Nat) (Option.some Jvm.ClassFile.FieldType.int) [((0 : Nat), (9 : Nat), (12 : Nat), (13 : Nat)), ((0 : Nat), (9 : Nat), (15 : Nat), (19 : Nat))]) ∈ TB := tb_3 95 rfl rfl
theorem w576 : (Jvm.Cond.classLink "ResidualTreesLaw" (19 : Nat) "java/lang/IllegalStateException") ∈ TB := tb_3 96 rfl rfl
theorem w577 : (Jvm.Cond.methodLink "ResidualTreesLaw" (15 : Nat) ({ cls := "ResidualTrees", name := "add", desc := "(I)I" } : Jvm.MethodName)) ∈ TB := tb_3 97 rfl rfl
theorem w578 : (Jvm.Cond.instanceMethod ({ cls := "ResidualTrees", name := "add", desc := "(I)I" } : Jvm.MethodName)) ∈ TB := tb_3 98 rfl rfl
theorem w579 : (Jvm.Cond.selects "ResidualTrees" ({ cls := "ResidualTrees", name := "add", desc := "(I)I" } : Jvm.MethodName) ({ cls := "ResidualTrees", name := "add", desc := "(I)I" } : Jvm.MethodName)) ∈ TB := tb_3 99 rfl rfl
theorem w580 : (Jvm.Cond.code ({ cls := "ResidualTrees", name := "add", desc := "(I)I" } : Jvm.MethodName) prog_1_method_3_code (2 : Nat) (Option.some Jvm.ClassFile.FieldType.int)) ∈ TB := tb_3 100 rfl rfl
theorem w581 : (Jvm.Cond.methodLink "ResidualTrees" (90 : Nat) ({ cls := "ResidualTrees", name := "isTarget", desc := "(I)Z" } : Jvm.MethodName)) ∈ TB := tb_3 101 rfl rfl
theorem w582 : (Jvm.Cond.static ({ cls := "ResidualTrees", name := "isTarget", desc := "(I)Z" } : Jvm.MethodName)) ∈ TB := tb_3 102 rfl rfl
theorem w583 : (Jvm.Cond.code ({ cls := "ResidualTrees", name := "isTarget", desc := "(I)Z" } : Jvm.MethodName) prog_1_method_30_code (1 : Nat) (Option.some Jvm.ClassFile.FieldType.boolean)) ∈ TB := tb_3 103 rfl rfl
theorem w584 : (Jvm.Cond.methodLink "ResidualTrees" (98 : Nat) ({ cls := "ResidualTrees", name := "demandState", desc := "(Z)V" } : Jvm.MethodName)) ∈ TB := tb_3 104 rfl rfl
theorem w585 : (Jvm.Cond.static ({ cls := "ResidualTrees", name := "demandState", desc := "(Z)V" } : Jvm.MethodName)) ∈ TB := tb_3 105 rfl rfl
theorem w586 : (Jvm.Cond.code ({ cls := "ResidualTrees", name := "demandState", desc := "(Z)V" } : Jvm.MethodName) prog_1_method_28_code (1 : Nat) (Option.none : Option Jvm.ClassFile.FieldType)) ∈ TB := tb_3 106 rfl rfl
theorem w587 : (Jvm.Cond.classLink "ResidualTrees" (330 : Nat) "java/lang/IllegalStateException") ∈ TB := tb_3 107 rfl rfl
theorem w588 : (Jvm.Cond.instantiable "java/lang/IllegalStateException" (6 : Nat)) ∈ TB := tb_3 108 rfl rfl
theorem w590 : (Jvm.Cond.selects "java/lang/IllegalStateException" ({ cls := "java/lang/Throwable", name := "fillInStackTrace", desc := "(I)Ljava/lang/Throwable;" } : Jvm.MethodName) ({ cls := "java/lang/Throwable", name := "fillInStackTrace", desc := "(I)Ljava/lang/Throwable;" } : Jvm.MethodName)) ∈ TB := tb_3 110 rfl rfl
theorem w591 : (Jvm.Cond.lays "java/lang/IllegalStateException" "java/lang/Throwable" "cause" "Ljava/lang/Throwable;") ∈ TB := tb_3 111 rfl rfl
theorem w592 : (Jvm.Cond.lays "java/lang/IllegalStateException" "java/lang/Throwable" "stackTrace" "[Ljava/lang/StackTraceElement;") ∈ TB := tb_3 112 rfl rfl
theorem w593 : (Jvm.Cond.lays "java/lang/IllegalStateException" "java/lang/Throwable" "suppressedExceptions" "Ljava/util/List;") ∈ TB := tb_3 113 rfl rfl
theorem w594 : (Jvm.Cond.lays "java/lang/IllegalStateException" "java/lang/Throwable" "detailMessage" "Ljava/lang/String;") ∈ TB := tb_3 114 rfl rfl
theorem w595 : (Jvm.Cond.lays "java/lang/IllegalStateException" "java/lang/Throwable" "backtrace" "Ljava/lang/Object;") ∈ TB := tb_3 115 rfl rfl
theorem w596 : (Jvm.Cond.methodLink "ResidualTrees" (332 : Nat) ({ cls := "java/lang/IllegalStateException", name := "<init>", desc := "()V" } : Jvm.MethodName)) ∈ TB := tb_3 116 rfl rfl
theorem w597 : (Jvm.Cond.instanceMethod ({ cls := "java/lang/IllegalStateException", name := "<init>", desc := "()V" } : Jvm.MethodName)) ∈ TB := tb_3 117 rfl rfl
theorem w598 : (Jvm.Cond.code ({ cls := "java/lang/IllegalStateException", name := "<init>", desc := "()V" } : Jvm.MethodName) prog_18_method_1_code (1 : Nat) (Option.none : Option Jvm.ClassFile.FieldType)) ∈ TB := tb_3 118 rfl rfl
theorem w599 : (Jvm.Cond.methodLink "java/lang/IllegalStateException" (1 : Nat) ({ cls := "java/lang/RuntimeException", name := "<init>", desc := "()V" } : Jvm.MethodName)) ∈ TB := tb_3 119 rfl rfl
theorem w600 : (Jvm.Cond.lays "java/lang/IllegalStateException" "java/lang/Throwable" "depth" "I") ∈ TB := tb_3 120 rfl rfl
theorem w601 : (Jvm.Cond.superclass "java/lang/IllegalStateException" "java/lang/RuntimeException") ∈ TB := tb_3 121 rfl rfl
theorem w602 : (Jvm.Cond.methodLink "ResidualTrees" (101 : Nat) ({ cls := "ResidualTrees$Table", name := "newRow", desc := "(I)I" } : Jvm.MethodName)) ∈ TB := tb_3 122 rfl rfl
theorem w603 : (Jvm.Cond.instanceMethod ({ cls := "ResidualTrees$Table", name := "newRow", desc := "(I)I" } : Jvm.MethodName)) ∈ TB := tb_3 123 rfl rfl
theorem w604 : (Jvm.Cond.selects "ResidualTrees$Table" ({ cls := "ResidualTrees$Table", name := "newRow", desc := "(I)I" } : Jvm.MethodName) ({ cls := "ResidualTrees$Table", name := "newRow", desc := "(I)I" } : Jvm.MethodName)) ∈ TB := tb_3 124 rfl rfl
theorem w605 : (Jvm.Cond.code ({ cls := "ResidualTrees$Table", name := "newRow", desc := "(I)I" } : Jvm.MethodName) prog_9_method_7_code (6 : Nat) (Option.some Jvm.ClassFile.FieldType.int)) ∈ TB := tb_3 125 rfl rfl
theorem w606 : (Jvm.Cond.methodLink "ResidualTreesLaw" (103 : Nat) ({ cls := "ResidualTreesLaw", name := "put", desc := "(LResidualTrees;III[J)I" } : Jvm.MethodName)) ∈ TB := tb_3 126 rfl rfl
theorem w607 : (Jvm.Cond.static ({ cls := "ResidualTreesLaw", name := "put", desc := "(LResidualTrees;III[J)I" } : Jvm.MethodName)) ∈ TB := tb_3 127 rfl rfl
theorem w608 : (Jvm.Cond.codeWith ({ cls := "ResidualTreesLaw", name := "put", desc := "(LResidualTrees;III[J)I" } : Jvm.MethodName) method_5_code (6 : Nat) (Option.some Jvm.ClassFile.FieldType.int) [((0 : Nat), (12 : Nat), (15 : Nat), (13 : Nat))]) ∈ TB := tb_3 128 rfl rfl
theorem w609 : (Jvm.Cond.methodLink "ResidualTreesLaw" (21 : Nat) ({ cls := "ResidualTrees", name := "put", desc := "(III)I" } : Jvm.MethodName)) ∈ TB := tb_3 129 rfl rfl
theorem w610 : (Jvm.Cond.instanceMethod ({ cls := "ResidualTrees", name := "put", desc := "(III)I" } : Jvm.MethodName)) ∈ TB := tb_3 130 rfl rfl
theorem w611 : (Jvm.Cond.selects "ResidualTrees" ({ cls := "ResidualTrees", name := "put", desc := "(III)I" } : Jvm.MethodName) ({ cls := "ResidualTrees", name := "put", desc := "(III)I" } : Jvm.MethodName)) ∈ TB := tb_3 131 rfl rfl
theorem w612 : (Jvm.Cond.code ({ cls := "ResidualTrees", name := "put", desc := "(III)I" } : Jvm.MethodName) prog_1_method_4_code (4 : Nat) (Option.some Jvm.ClassFile.FieldType.int)) ∈ TB := tb_3 132 rfl rfl
theorem w613 : (Jvm.Cond.methodLink "ResidualTrees" (105 : Nat) ({ cls := "ResidualTrees$Table", name := "hasRow", desc := "(I)Z" } : Jvm.MethodName)) ∈ TB := tb_3 133 rfl rfl
theorem w614 : (Jvm.Cond.instanceMethod ({ cls := "ResidualTrees$Table", name := "hasRow", desc := "(I)Z" } : Jvm.MethodName)) ∈ TB := tb_3 134 rfl rfl
theorem w615 : (Jvm.Cond.selects "ResidualTrees$Table" ({ cls := "ResidualTrees$Table", name := "hasRow", desc := "(I)Z" } : Jvm.MethodName) ({ cls := "ResidualTrees$Table", name := "hasRow", desc := "(I)Z" } : Jvm.MethodName)) ∈ TB := tb_3 135 rfl rfl
theorem w616 : (Jvm.Cond.code ({ cls := "ResidualTrees$Table", name := "hasRow", desc := "(I)Z" } : Jvm.MethodName) prog_9_method_3_code (2 : Nat) (Option.some Jvm.ClassFile.FieldType.boolean)) ∈ TB := tb_3 136 rfl rfl
theorem w618 : (Jvm.Cond.methodLink "ResidualTrees" (108 : Nat) ({ cls := "ResidualTrees$Table", name := "hasColumn", desc := "(I)Z" } : Jvm.MethodName)) ∈ TB := tb_3 138 rfl rfl
theorem w619 : (Jvm.Cond.instanceMethod ({ cls := "ResidualTrees$Table", name := "hasColumn", desc := "(I)Z" } : Jvm.MethodName)) ∈ TB := tb_3 139 rfl rfl
theorem w620 : (Jvm.Cond.selects "ResidualTrees$Table" ({ cls := "ResidualTrees$Table", name := "hasColumn", desc := "(I)Z" } : Jvm.MethodName) ({ cls := "ResidualTrees$Table", name := "hasColumn", desc := "(I)Z" } : Jvm.MethodName)) ∈ TB := tb_3 140 rfl rfl
theorem w621 : (Jvm.Cond.code ({ cls := "ResidualTrees$Table", name := "hasColumn", desc := "(I)Z" } : Jvm.MethodName) prog_9_method_4_code (2 : Nat) (Option.some Jvm.ClassFile.FieldType.boolean)) ∈ TB := tb_3 141 rfl rfl
theorem w622 : (Jvm.Cond.methodLink "ResidualTrees" (115 : Nat) ({ cls := "ResidualTrees$Column", name := "takes", desc := "(I)Z" } : Jvm.MethodName)) ∈ TB := tb_3 142 rfl rfl
theorem w623 : (Jvm.Cond.instanceMethod ({ cls := "ResidualTrees$Column", name := "takes", desc := "(I)Z" } : Jvm.MethodName)) ∈ TB := tb_3 143 rfl rfl
theorem w624 : (Jvm.Cond.selects "ResidualTrees$Column" ({ cls := "ResidualTrees$Column", name := "takes", desc := "(I)Z" } : Jvm.MethodName) ({ cls := "ResidualTrees$Column", name := "takes", desc := "(I)Z" } : Jvm.MethodName)) ∈ TB := tb_3 144 rfl rfl
theorem w625 : (Jvm.Cond.code ({ cls := "ResidualTrees$Column", name := "takes", desc := "(I)Z" } : Jvm.MethodName) prog_2_method_2_code (2 : Nat) (Option.some Jvm.ClassFile.FieldType.boolean)) ∈ TB := tb_3 145 rfl rfl
theorem w626 : (Jvm.Cond.constant "ResidualTrees$Column" (18 : Nat) (-2147483648 : Int32)) ∈ TB := tb_3 146 rfl rfl
theorem w629 : (Jvm.Cond.static ({ cls := "ResidualTrees", name := "isNumber", desc := "(I)Z" } : Jvm.MethodName)) ∈ TB := tb_3 149 rfl rfl
theorem w630 : (Jvm.Cond.code ({ cls := "ResidualTrees", name := "isNumber", desc := "(I)Z" } : Jvm.MethodName) prog_1_method_31_code (1 : Nat) (Option.some Jvm.ClassFile.FieldType.boolean)) ∈ TB := tb_3 150 rfl rfl
theorem w631 : (Jvm.Cond.constant "ResidualTrees" (333 : Nat) (-1000000 : Int32)) ∈ TB := tb_3 151 rfl rfl
theorem w632 : (Jvm.Cond.constant "ResidualTrees" (334 : Nat) (1000000 : Int32)) ∈ TB := tb_3 152 rfl rfl
theorem w633 : (Jvm.Cond.methodLink "ResidualTrees" (120 : Nat) ({ cls := "ResidualTrees$Column", name := "exchange", desc := "(II)I" } : Jvm.MethodName)) ∈ TB := tb_3 153 rfl rfl
theorem w634 : (Jvm.Cond.instanceMethod ({ cls := "ResidualTrees$Column", name := "exchange", desc := "(II)I" } : Jvm.MethodName)) ∈ TB := tb_3 154 rfl rfl
theorem w635 : (Jvm.Cond.selects "ResidualTrees$Column" ({ cls := "ResidualTrees$Column", name := "exchange", desc := "(II)I" } : Jvm.MethodName) ({ cls := "ResidualTrees$Column", name := "exchange", desc := "(II)I" } : Jvm.MethodName)) ∈ TB := tb_3 155 rfl rfl
theorem w636 : (Jvm.Cond.code ({ cls := "ResidualTrees$Column", name := "exchange", desc := "(II)I" } : Jvm.MethodName) prog_2_method_3_code (4 : Nat) (Option.some Jvm.ClassFile.FieldType.int)) ∈ TB := tb_3 156 rfl rfl
theorem w637 : (Jvm.Cond.methodLink "ResidualTreesLaw" (107 : Nat) ({ cls := "ResidualTreesLaw", name := "target", desc := "(LResidualTrees;II[J)I" } : Jvm.MethodName)) ∈ TB := tb_3 157 rfl rfl
theorem w638 : (Jvm.Cond.static ({ cls := "ResidualTreesLaw", name := "target", desc := "(LResidualTrees;II[J)I" } : Jvm.MethodName)) ∈ TB := tb_3 158 rfl rfl
theorem w639 : (Jvm.Cond.codeWith ({ cls := "ResidualTreesLaw", name := "target", desc := "(LResidualTrees;II[J)I" } : Jvm.MethodName) method_6_code (5 : Nat) (Option.some Jvm.ClassFile.FieldType.int) [((0 : Nat), (10 : Nat), (13 : Nat), (13 : Nat))]) ∈ TB := tb_3 159 rfl rfl
theorem w640 : (Jvm.Cond.methodLink "ResidualTreesLaw" (25 : Nat) ({ cls := "ResidualTrees", name := "target", desc := "(II)I" } : Jvm.MethodName)) ∈ TB := tb_3 160 rfl rfl
theorem w641 : (Jvm.Cond.instanceMethod ({ cls := "ResidualTrees", name := "target", desc := "(II)I" } : Jvm.MethodName)) ∈ TB := tb_3 161 rfl rfl
theorem w642 : (Jvm.Cond.selects "ResidualTrees" ({ cls := "ResidualTrees", name := "target", desc := "(II)I" } : Jvm.MethodName) ({ cls := "ResidualTrees", name := "target", desc := "(II)I" } : Jvm.MethodName)) ∈ TB := tb_3 162 rfl rfl
theorem w643 : (Jvm.Cond.code ({ cls := "ResidualTrees", name := "target", desc := "(II)I" } : Jvm.MethodName) prog_1_method_5_code (4 : Nat) (Option.some Jvm.ClassFile.FieldType.int)) ∈ TB := tb_3 163 rfl rfl
theorem w644 : (Jvm.Cond.methodLink "ResidualTreesLaw" (111 : Nat) ({ cls := "ResidualTreesLaw", name := "kinds", desc := "(LResidualTrees;IZ[J)I" } : Jvm.MethodName)) ∈ TB := tb_3 164 rfl rfl
theorem w645 : (Jvm.Cond.static ({ cls := "ResidualTreesLaw", name := "kinds", desc := "(LResidualTrees;IZ[J)I" } : Jvm.MethodName)) ∈ TB := tb_3 165 rfl rfl
theorem w646 : (Jvm.Cond.codeWith ({ cls := "ResidualTreesLaw", name := "kinds", desc := "(LResidualTrees;IZ[J)I" } : Jvm.MethodName) method_7_code (5 : Nat) (Option.some Jvm.ClassFile.FieldType.int) [((0 : Nat), (17 : Nat), (20 : Nat), (13 : Nat)), ((0 : Nat), (17 : Nat), (24 : Nat), (19 : Nat))]) ∈ TB := tb_3 166 rfl rfl
theorem w647 : (Jvm.Cond.methodLink "ResidualTreesLaw" (29 : Nat) ({ cls := "ResidualTrees", name := "kinds", desc := "(IZ)Z" } : Jvm.MethodName)) ∈ TB := tb_3 167 rfl rfl
theorem w648 : (Jvm.Cond.instanceMethod ({ cls := "ResidualTrees", name := "kinds", desc := "(IZ)Z" } : Jvm.MethodName)) ∈ TB := tb_3 168 rfl rfl
theorem w649 : (Jvm.Cond.selects "ResidualTrees" ({ cls := "ResidualTrees", name := "kinds", desc := "(IZ)Z" } : Jvm.MethodName) ({ cls := "ResidualTrees", name := "kinds", desc := "(IZ)Z" } : Jvm.MethodName)) ∈ TB := tb_3 169 rfl rfl
theorem w650 : (Jvm.Cond.code ({ cls := "ResidualTrees", name := "kinds", desc := "(IZ)Z" } : Jvm.MethodName) prog_1_method_6_code (3 : Nat) (Option.some Jvm.ClassFile.FieldType.boolean)) ∈ TB := tb_3 170 rfl rfl
theorem w651 : (Jvm.Cond.methodLink "ResidualTrees" (127 : Nat) ({ cls := "ResidualTrees$Column", name := "hasKindsAlone", desc := "(I)Z" } : Jvm.MethodName)) ∈ TB := tb_3 171 rfl rfl
theorem w652 : (Jvm.Cond.instanceMethod ({ cls := "ResidualTrees$Column", name := "hasKindsAlone", desc := "(I)Z" } : Jvm.MethodName)) ∈ TB := tb_3 172 rfl rfl
theorem w653 : (Jvm.Cond.selects "ResidualTrees$Column" ({ cls := "ResidualTrees$Column", name := "hasKindsAlone", desc := "(I)Z" } : Jvm.MethodName) ({ cls := "ResidualTrees$Column", name := "hasKindsAlone", desc := "(I)Z" } : Jvm.MethodName)) ∈ TB := tb_3 173 rfl rfl
theorem w654 : (Jvm.Cond.code ({ cls := "ResidualTrees$Column", name := "hasKindsAlone", desc := "(I)Z" } : Jvm.MethodName) prog_2_method_4_code (4 : Nat) (Option.some Jvm.ClassFile.FieldType.boolean)) ∈ TB := tb_3 174 rfl rfl
theorem w655 : (Jvm.Cond.methodLink "ResidualTrees" (130 : Nat) ({ cls := "ResidualTrees$Column", name := "become", desc := "(Z)Z" } : Jvm.MethodName)) ∈ TB := tb_3 175 rfl rfl
theorem w656 : (Jvm.Cond.methodLink "ResidualTreesLaw" (115 : Nat) ({ cls := "ResidualTreesLaw", name := "cut", desc := "(LResidualTrees;IZI[J)I" } : Jvm.MethodName)) ∈ TB := tb_3 176 rfl rfl
theorem w657 : (Jvm.Cond.static ({ cls := "ResidualTreesLaw", name := "cut", desc := "(LResidualTrees;IZI[J)I" } : Jvm.MethodName)) ∈ TB := tb_3 177 rfl rfl
theorem w658 : (Jvm.Cond.codeWith ({ cls := "ResidualTreesLaw", name := "cut", desc := "(LResidualTrees;IZI[J)I" } : Jvm.MethodName) method_8_code (6 : Nat) (Option.some Jvm.ClassFile.FieldType.int) [((0 : Nat), (12 : Nat), (15 : Nat), (13 : Nat)), ((0 : Nat), (12 : Nat), (19 : Nat), (19 : Nat))]) ∈ TB := tb_3 178 rfl rfl
theorem w659 : (Jvm.Cond.methodLink "ResidualTreesLaw" (33 : Nat) ({ cls := "ResidualTrees", name := "cut", desc := "(IZI)I" } : Jvm.MethodName)) ∈ TB := tb_3 179 rfl rfl
theorem w660 : (Jvm.Cond.instanceMethod ({ cls := "ResidualTrees", name := "cut", desc := "(IZI)I" } : Jvm.MethodName)) ∈ TB := tb_3 180 rfl rfl
theorem w661 : (Jvm.Cond.selects "ResidualTrees" ({ cls := "ResidualTrees", name := "cut", desc := "(IZI)I" } : Jvm.MethodName) ({ cls := "ResidualTrees", name := "cut", desc := "(IZI)I" } : Jvm.MethodName)) ∈ TB := tb_3 181 rfl rfl
theorem w662 : (Jvm.Cond.code ({ cls := "ResidualTrees", name := "cut", desc := "(IZI)I" } : Jvm.MethodName) prog_1_method_7_code (5 : Nat) (Option.some Jvm.ClassFile.FieldType.int)) ∈ TB := tb_3 182 rfl rfl
theorem w663 : (Jvm.Cond.methodLink "ResidualTrees" (138 : Nat) ({ cls := "ResidualTrees$Column", name := "sortInto", desc := "([II)I" } : Jvm.MethodName)) ∈ TB := tb_3 183 rfl rfl
theorem w664 : (Jvm.Cond.instanceMethod ({ cls := "ResidualTrees$Column", name := "sortInto", desc := "([II)I" } : Jvm.MethodName)) ∈ TB := tb_3 184 rfl rfl
theorem w665 : (Jvm.Cond.selects "ResidualTrees$Column" ({ cls := "ResidualTrees$Column", name := "sortInto", desc := "([II)I" } : Jvm.MethodName) ({ cls := "ResidualTrees$Column", name := "sortInto", desc := "([II)I" } : Jvm.MethodName)) ∈ TB := tb_3 185 rfl rfl
theorem w666 : (Jvm.Cond.code ({ cls := "ResidualTrees$Column", name := "sortInto", desc := "([II)I" } : Jvm.MethodName) prog_2_method_7_code (6 : Nat) (Option.some Jvm.ClassFile.FieldType.int)) ∈ TB := tb_3 186 rfl rfl
theorem w667 : (Jvm.Cond.methodLink "ResidualTrees" (142 : Nat) ({ cls := "ResidualTrees$Column", name := "cutEdges", desc := "(ZI[II)I" } : Jvm.MethodName)) ∈ TB := tb_3 187 rfl rfl
theorem w668 : (Jvm.Cond.instanceMethod ({ cls := "ResidualTrees$Column", name := "cutEdges", desc := "(ZI[II)I" } : Jvm.MethodName)) ∈ TB := tb_3 188 rfl rfl
theorem w669 : (Jvm.Cond.selects "ResidualTrees$Column" ({ cls := "ResidualTrees$Column", name := "cutEdges", desc := "(ZI[II)I" } : Jvm.MethodName) ({ cls := "ResidualTrees$Column", name := "cutEdges", desc := "(ZI[II)I" } : Jvm.MethodName)) ∈ TB := tb_3 189 rfl rfl
theorem w670 : (Jvm.Cond.code ({ cls := "ResidualTrees$Column", name := "cutEdges", desc := "(ZI[II)I" } : Jvm.MethodName) prog_2_method_8_code (10 : Nat) (Option.some Jvm.ClassFile.FieldType.int)) ∈ TB := tb_3 190 rfl rfl
theorem w671 : (Jvm.Cond.methodLink "ResidualTreesLaw" (119 : Nat) ({ cls := "ResidualTreesLaw", name := "edge", desc := "(LResidualTrees;II[J)I" } : Jvm.MethodName)) ∈ TB := tb_3 191 rfl rfl
theorem w672 : (Jvm.Cond.static ({ cls := "ResidualTreesLaw", name := "edge", desc := "(LResidualTrees;II[J)I" } : Jvm.MethodName)) ∈ TB := tb_3 192 rfl rfl
theorem w673 : (Jvm.Cond.codeWith ({ cls := "ResidualTreesLaw", name := "edge", desc := "(LResidualTrees;II[J)I" } : Jvm.MethodName) method_9_code (5 : Nat) (Option.some Jvm.ClassFile.FieldType.int) [((0 : Nat), (10 : Nat), (13 : Nat), (13 : Nat))]) ∈ TB := tb_3 193 rfl rfl
theorem w674 : (Jvm.Cond.methodLink "ResidualTreesLaw" (37 : Nat) ({ cls := "ResidualTrees", name := "edge", desc := "(II)I" } : Jvm.MethodName)) ∈ TB := tb_3 194 rfl rfl
theorem w675 : (Jvm.Cond.instanceMethod ({ cls := "ResidualTrees", name := "edge", desc := "(II)I" } : Jvm.MethodName)) ∈ TB := tb_3 195 rfl rfl
theorem w676 : (Jvm.Cond.selects "ResidualTrees" ({ cls := "ResidualTrees", name := "edge", desc := "(II)I" } : Jvm.MethodName) ({ cls := "ResidualTrees", name := "edge", desc := "(II)I" } : Jvm.MethodName)) ∈ TB := tb_3 196 rfl rfl
theorem w677 : (Jvm.Cond.code ({ cls := "ResidualTrees", name := "edge", desc := "(II)I" } : Jvm.MethodName) prog_1_method_8_code (3 : Nat) (Option.some Jvm.ClassFile.FieldType.int)) ∈ TB := tb_3 197 rfl rfl
theorem w678 : (Jvm.Cond.methodLink "ResidualTreesLaw" (122 : Nat) ({ cls := "ResidualTreesLaw", name := "bin", desc := "(LResidualTrees;II[J)I" } : Jvm.MethodName)) ∈ TB := tb_3 198 rfl rfl
theorem w679 : (Jvm.Cond.static ({ cls := "ResidualTreesLaw", name := "bin", desc := "(LResidualTrees;II[J)I" } : Jvm.MethodName)) ∈ TB := tb_3 199 rfl rfl
theorem w680 : (Jvm.Cond.codeWith ({ cls := "ResidualTreesLaw", name := "bin", desc := "(LResidualTrees;II[J)I" } : Jvm.MethodName) method_10_code (5 : Nat) (Option.some Jvm.ClassFile.FieldType.int) [((0 : Nat), (10 : Nat), (13 : Nat), (13 : Nat))]) ∈ TB := tb_3 200 rfl rfl
theorem w681 : (Jvm.Cond.methodLink "ResidualTreesLaw" (40 : Nat) ({ cls := "ResidualTrees", name := "bin", desc := "(II)I" } : Jvm.MethodName)) ∈ TB := tb_3 201 rfl rfl
theorem w682 : (Jvm.Cond.instanceMethod ({ cls := "ResidualTrees", name := "bin", desc := "(II)I" } : Jvm.MethodName)) ∈ TB := tb_3 202 rfl rfl
theorem w683 : (Jvm.Cond.selects "ResidualTrees" ({ cls := "ResidualTrees", name := "bin", desc := "(II)I" } : Jvm.MethodName) ({ cls := "ResidualTrees", name := "bin", desc := "(II)I" } : Jvm.MethodName)) ∈ TB := tb_3 203 rfl rfl
theorem w684 : (Jvm.Cond.code ({ cls := "ResidualTrees", name := "bin", desc := "(II)I" } : Jvm.MethodName) prog_1_method_9_code (3 : Nat) (Option.some Jvm.ClassFile.FieldType.int)) ∈ TB := tb_3 204 rfl rfl
theorem w685 : (Jvm.Cond.constant "ResidualTrees" (152 : Nat) (-2147483648 : Int32)) ∈ TB := tb_3 205 rfl rfl
theorem w686 : (Jvm.Cond.methodLink "ResidualTrees" (153 : Nat) ({ cls := "ResidualTrees$Column", name := "binOf", desc := "(I)I" } : Jvm.MethodName)) ∈ TB := tb_3 206 rfl rfl
theorem w687 : (Jvm.Cond.instanceMethod ({ cls := "ResidualTrees$Column", name := "binOf", desc := "(I)I" } : Jvm.MethodName)) ∈ TB := tb_3 207 rfl rfl
theorem w688 : (Jvm.Cond.selects "ResidualTrees$Column" ({ cls := "ResidualTrees$Column", name := "binOf", desc := "(I)I" } : Jvm.MethodName) ({ cls := "ResidualTrees$Column", name := "binOf", desc := "(I)I" } : Jvm.MethodName)) ∈ TB := tb_3 208 rfl rfl
theorem w689 : (Jvm.Cond.code ({ cls := "ResidualTrees$Column", name := "binOf", desc := "(I)I" } : Jvm.MethodName) prog_2_method_6_code (3 : Nat) (Option.some Jvm.ClassFile.FieldType.int)) ∈ TB := tb_3 209 rfl rfl
theorem w690 : (Jvm.Cond.methodLink "ResidualTreesLaw" (125 : Nat) ({ cls := "ResidualTreesLaw", name := "shape", desc := "(LResidualTrees;III)I" } : Jvm.MethodName)) ∈ TB := tb_3 210 rfl rfl
theorem w691 : (Jvm.Cond.static ({ cls := "ResidualTreesLaw", name := "shape", desc := "(LResidualTrees;III)I" } : Jvm.MethodName)) ∈ TB := tb_3 211 rfl rfl
theorem w692 : (Jvm.Cond.codeWith ({ cls := "ResidualTreesLaw", name := "shape", desc := "(LResidualTrees;III)I" } : Jvm.MethodName) method_11_code (5 : Nat) (Option.some Jvm.ClassFile.FieldType.int) [((0 : Nat), (7 : Nat), (10 : Nat), (13 : Nat))]) ∈ TB := tb_3 212 rfl rfl
theorem w693 : (Jvm.Cond.methodLink "ResidualTreesLaw" (43 : Nat) ({ cls := "ResidualTrees", name := "shape", desc := "(III)V" } : Jvm.MethodName)) ∈ TB := tb_3 213 rfl rfl
theorem w694 : (Jvm.Cond.instanceMethod ({ cls := "ResidualTrees", name := "shape", desc := "(III)V" } : Jvm.MethodName)) ∈ TB := tb_3 214 rfl rfl
theorem w695 : (Jvm.Cond.selects "ResidualTrees" ({ cls := "ResidualTrees", name := "shape", desc := "(III)V" } : Jvm.MethodName) ({ cls := "ResidualTrees", name := "shape", desc := "(III)V" } : Jvm.MethodName)) ∈ TB := tb_3 215 rfl rfl
theorem w696 : (Jvm.Cond.code ({ cls := "ResidualTrees", name := "shape", desc := "(III)V" } : Jvm.MethodName) prog_1_method_10_code (4 : Nat) (Option.none : Option Jvm.ClassFile.FieldType)) ∈ TB := tb_3 216 rfl rfl
theorem w697 : (Jvm.Cond.methodLink "ResidualTreesLaw" (129 : Nat) ({ cls := "ResidualTreesLaw", name := "rate", desc := "(LResidualTrees;II)I" } : Jvm.MethodName)) ∈ TB := tb_3 217 rfl rfl
theorem w698 : (Jvm.Cond.static ({ cls := "ResidualTreesLaw", name := "rate", desc := "(LResidualTrees;II)I" } : Jvm.MethodName)) ∈ TB := tb_3 218 rfl rfl
theorem w699 : (Jvm.Cond.codeWith ({ cls := "ResidualTreesLaw", name := "rate", desc := "(LResidualTrees;II)I" } : Jvm.MethodName) method_12_code (4 : Nat) (Option.some Jvm.ClassFile.FieldType.int) [((0 : Nat), (6 : Nat), (9 : Nat), (13 : Nat))]) ∈ TB := tb_3 219 rfl rfl
theorem w700 : (Jvm.Cond.methodLink "ResidualTreesLaw" (47 : Nat) ({ cls := "ResidualTrees", name := "rate", desc := "(II)V" } : Jvm.MethodName)) ∈ TB := tb_3 220 rfl rfl
theorem w701 : (Jvm.Cond.instanceMethod ({ cls := "ResidualTrees", name := "rate", desc := "(II)V" } : Jvm.MethodName)) ∈ TB := tb_3 221 rfl rfl
theorem w702 : (Jvm.Cond.selects "ResidualTrees" ({ cls := "ResidualTrees", name := "rate", desc := "(II)V" } : Jvm.MethodName) ({ cls := "ResidualTrees", name := "rate", desc := "(II)V" } : Jvm.MethodName)) ∈ TB := tb_3 222 rfl rfl
theorem w703 : (Jvm.Cond.code ({ cls := "ResidualTrees", name := "rate", desc := "(II)V" } : Jvm.MethodName) prog_1_method_11_code (3 : Nat) (Option.none : Option Jvm.ClassFile.FieldType)) ∈ TB := tb_3 223 rfl rfl
theorem w704 : (Jvm.Cond.methodLink "ResidualTreesLaw" (139 : Nat) ({ cls := "ResidualTreesLaw", name := "train", desc := "(LResidualTrees;I[J)I" } : Jvm.MethodName)) ∈ TB := tb_3 224 rfl rfl
theorem w705 : (Jvm.Cond.static ({ cls := "ResidualTreesLaw", name := "train", desc := "(LResidualTrees;I[J)I" } : Jvm.MethodName)) ∈ TB := tb_3 225 rfl rfl
theorem w706 : (Jvm.Cond.codeWith ({ cls := "ResidualTreesLaw", name := "train", desc := "(LResidualTrees;I[J)I" } : Jvm.MethodName) method_13_code (4 : Nat) (Option.some Jvm.ClassFile.FieldType.int) [((0 : Nat), (9 : Nat), (12 : Nat), (13 : Nat)), ((0 : Nat), (9 : Nat), (15 : Nat), (19 : Nat))]) ∈ TB := tb_3 226 rfl rfl
theorem w707 : (Jvm.Cond.methodLink "ResidualTreesLaw" (51 : Nat) ({ cls := "ResidualTrees", name := "train", desc := "(I)I" } : Jvm.MethodName)) ∈ TB := tb_3 227 rfl rfl
theorem w708 : (Jvm.Cond.instanceMethod ({ cls := "ResidualTrees", name := "train", desc := "(I)I" } : Jvm.MethodName)) ∈ TB := tb_3 228 rfl rfl
theorem w709 : (Jvm.Cond.selects "ResidualTrees" ({ cls := "ResidualTrees", name := "train", desc := "(I)I" } : Jvm.MethodName) ({ cls := "ResidualTrees", name := "train", desc := "(I)I" } : Jvm.MethodName)) ∈ TB := tb_3 229 rfl rfl
theorem w710 : (Jvm.Cond.code ({ cls := "ResidualTrees", name := "train", desc := "(I)I" } : Jvm.MethodName) prog_1_method_13_code (7 : Nat) (Option.some Jvm.ClassFile.FieldType.int)) ∈ TB := tb_3 230 rfl rfl
theorem w711 : (Jvm.Cond.methodLink "ResidualTrees" (188 : Nat) ({ cls := "ResidualTrees$Table", name := "columnBits", desc := "()I" } : Jvm.MethodName)) ∈ TB := tb_3 231 rfl rfl
theorem w712 : (Jvm.Cond.instanceMethod ({ cls := "ResidualTrees$Table", name := "columnBits", desc := "()I" } : Jvm.MethodName)) ∈ TB := tb_3 232 rfl rfl
theorem w713 : (Jvm.Cond.selects "ResidualTrees$Table" ({ cls := "ResidualTrees$Table", name := "columnBits", desc := "()I" } : Jvm.MethodName) ({ cls := "ResidualTrees$Table", name := "columnBits", desc := "()I" } : Jvm.MethodName)) ∈ TB := tb_3 233 rfl rfl
theorem w714 : (Jvm.Cond.code ({ cls := "ResidualTrees$Table", name := "columnBits", desc := "()I" } : Jvm.MethodName) prog_9_method_6_code (1 : Nat) (Option.some Jvm.ClassFile.FieldType.int)) ∈ TB := tb_3 234 rfl rfl
theorem w715 : (Jvm.Cond.methodLink "ResidualTrees" (198 : Nat) ({ cls := "ResidualTrees", name := "freshTree", desc := "()LResidualTrees$Tree;" } : Jvm.MethodName)) ∈ TB := tb_3 235 rfl rfl
theorem w717 : (Jvm.Cond.instanceMethod ({ cls := "ResidualTrees", name := "freshTree", desc := "()LResidualTrees$Tree;" } : Jvm.MethodName)) ∈ TB := tb_3 237 rfl rfl
theorem w718 : (Jvm.Cond.code ({ cls := "ResidualTrees", name := "freshTree", desc := "()LResidualTrees$Tree;" } : Jvm.MethodName) prog_1_method_34_code (2 : Nat) (Option.some (Jvm.ClassFile.FieldType.object "ResidualTrees$Tree"))) ∈ TB := tb_3 238 rfl rfl
theorem w719 : (Jvm.Cond.methodLink "ResidualTrees" (335 : Nat) ({ cls := "java/util/ArrayList", name := "size", desc := "()I" } : Jvm.MethodName)) ∈ TB := tb_3 239 rfl rfl
theorem w720 : (Jvm.Cond.instanceMethod ({ cls := "java/util/ArrayList", name := "size", desc := "()I" } : Jvm.MethodName)) ∈ TB := tb_4 0 rfl rfl
theorem w721 : (Jvm.Cond.selects "java/util/ArrayList" ({ cls := "java/util/ArrayList", name := "size", desc := "()I" } : Jvm.MethodName) ({ cls := "java/util/ArrayList", name := "size", desc := "()I" } : Jvm.MethodName)) ∈ TB := tb_4 1 rfl rfl
theorem w722 : (Jvm.Cond.code ({ cls := "java/util/ArrayList", name := "size", desc := "()I" } : Jvm.MethodName) prog_28_method_8_code (1 : Nat) (Option.some Jvm.ClassFile.FieldType.int)) ∈ TB := tb_4 2 rfl rfl
theorem w723 : (Jvm.Cond.instantiable "ResidualTrees$Tree" (6 : Nat)) ∈ TB := tb_4 3 rfl rfl
theorem w725 : (Jvm.Cond.instanceMethod ({ cls := "ResidualTrees$Tree", name := "<init>", desc := "()V" } : Jvm.MethodName)) ∈ TB := tb_4 5 rfl rfl
theorem w726 : (Jvm.Cond.code ({ cls := "ResidualTrees$Tree", name := "<init>", desc := "()V" } : Jvm.MethodName) prog_10_method_1_code (1 : Nat) (Option.none : Option Jvm.ClassFile.FieldType)) ∈ TB := tb_4 6 rfl rfl
theorem w727 : (Jvm.Cond.methodLink "ResidualTrees$Tree" (3 : Nat) ({ cls := "java/lang/Object", name := "<init>", desc := "()V" } : Jvm.MethodName)) ∈ TB := tb_4 7 rfl rfl
theorem w728 : (Jvm.Cond.classLink "ResidualTrees$Tree" (9 : Nat) "java/util/ArrayList") ∈ TB := tb_4 8 rfl rfl
theorem w729 : (Jvm.Cond.methodLink "ResidualTrees$Tree" (11 : Nat) ({ cls := "java/util/ArrayList", name := "<init>", desc := "()V" } : Jvm.MethodName)) ∈ TB := tb_4 9 rfl rfl
theorem w730 : (Jvm.Cond.fieldLink "ResidualTrees$Tree" (12 : Nat) "ResidualTrees$Tree" "nodes" "Ljava/util/ArrayList;") ∈ TB := tb_4 10 rfl rfl
theorem w731 : (Jvm.Cond.fieldLink "ResidualTrees$Tree" (24 : Nat) "ResidualTrees$Tree" "nodeCount" "I") ∈ TB := tb_4 11 rfl rfl
theorem w732 : (Jvm.Cond.fieldLink "ResidualTrees" (256 : Nat) "ResidualTrees$Tree" "nodeCount" "I") ∈ TB := tb_4 12 rfl rfl
theorem w733 : (Jvm.Cond.fieldLink "ResidualTrees$Tree" (51 : Nat) "ResidualTrees$Tree" "weight" "I") ∈ TB := tb_4 13 rfl rfl
theorem w734 : (Jvm.Cond.fieldLink "ResidualTrees" (285 : Nat) "ResidualTrees$Tree" "weight" "I") ∈ TB := tb_4 14 rfl rfl
theorem w735 : (Jvm.Cond.fieldLink "ResidualTrees$Tree" (55 : Nat) "ResidualTrees$Tree" "rateUpper" "I") ∈ TB := tb_4 15 rfl rfl
theorem w736 : (Jvm.Cond.fieldLink "ResidualTrees" (279 : Nat) "ResidualTrees$Tree" "rateUpper" "I") ∈ TB := tb_4 16 rfl rfl
theorem w737 : (Jvm.Cond.fieldLink "ResidualTrees$Tree" (59 : Nat) "ResidualTrees$Tree" "rateLower" "I") ∈ TB := tb_4 17 rfl rfl
theorem w738 : (Jvm.Cond.fieldLink "ResidualTrees" (284 : Nat) "ResidualTrees$Tree" "rateLower" "I") ∈ TB := tb_4 18 rfl rfl
theorem w739 : (Jvm.Cond.fieldLink "ResidualTrees$Tree" (60 : Nat) "ResidualTrees$Tree" "scale" "J") ∈ TB := tb_4 19 rfl rfl
theorem w740 : (Jvm.Cond.fieldLink "ResidualTrees" (314 : Nat) "ResidualTrees$Tree" "scale" "J") ∈ TB := tb_4 20 rfl rfl
theorem w741 : (Jvm.Cond.laysFinal "ResidualTrees$Tree" "ResidualTrees$Tree" "nodes" "Ljava/util/ArrayList;") ∈ TB := tb_4 21 rfl rfl
theorem w742 : (Jvm.Cond.soleField "ResidualTrees$Tree" "nodes") ∈ TB := tb_4 22 rfl rfl
theorem w743 : (Jvm.Cond.lays "ResidualTrees$Tree" "ResidualTrees$Tree" "nodeCount" "I") ∈ TB := tb_4 23 rfl rfl
theorem w744 : (Jvm.Cond.soleField "ResidualTrees$Tree" "nodeCount") ∈ TB := tb_4 24 rfl rfl
theorem w745 : (Jvm.Cond.lays "ResidualTrees$Tree" "ResidualTrees$Tree" "weight" "I") ∈ TB := tb_4 25 rfl rfl
theorem w746 : (Jvm.Cond.soleField "ResidualTrees$Tree" "weight") ∈ TB := tb_4 26 rfl rfl
theorem w747 : (Jvm.Cond.lays "ResidualTrees$Tree" "ResidualTrees$Tree" "rateUpper" "I") ∈ TB := tb_4 27 rfl rfl
theorem w748 : (Jvm.Cond.soleField "ResidualTrees$Tree" "rateUpper") ∈ TB := tb_4 28 rfl rfl
theorem w749 : (Jvm.Cond.lays "ResidualTrees$Tree" "ResidualTrees$Tree" "rateLower" "I") ∈ TB := tb_4 29 rfl rfl
theorem w750 : (Jvm.Cond.soleField "ResidualTrees$Tree" "rateLower") ∈ TB := tb_4 30 rfl rfl
theorem w751 : (Jvm.Cond.lays "ResidualTrees$Tree" "ResidualTrees$Tree" "scale" "J") ∈ TB := tb_4 31 rfl rfl
theorem w752 : (Jvm.Cond.soleField "ResidualTrees$Tree" "scale") ∈ TB := tb_4 32 rfl rfl
theorem w753 : (Jvm.Cond.superclass "ResidualTrees$Tree" "java/lang/Object") ∈ TB := tb_4 33 rfl rfl
theorem w754 : (Jvm.Cond.methodLink "ResidualTrees" (339 : Nat) ({ cls := "java/util/ArrayList", name := "add", desc := "(Ljava/lang/Object;)Z" } : Jvm.MethodName)) ∈ TB := tb_4 34 rfl rfl
theorem w755 : (Jvm.Cond.instanceMethod ({ cls := "java/util/ArrayList", name := "add", desc := "(Ljava/lang/Object;)Z" } : Jvm.MethodName)) ∈ TB := tb_4 35 rfl rfl
theorem w756 : (Jvm.Cond.selects "java/util/ArrayList" ({ cls := "java/util/ArrayList", name := "add", desc := "(Ljava/lang/Object;)Z" } : Jvm.MethodName) ({ cls := "java/util/ArrayList", name := "add", desc := "(Ljava/lang/Object;)Z" } : Jvm.MethodName)) ∈ TB := tb_4 36 rfl rfl
theorem w757 : (Jvm.Cond.code ({ cls := "java/util/ArrayList", name := "add", desc := "(Ljava/lang/Object;)Z" } : Jvm.MethodName) prog_28_method_25_code (2 : Nat) (Option.some Jvm.ClassFile.FieldType.boolean)) ∈ TB := tb_4 37 rfl rfl
theorem w758 : (Jvm.Cond.methodLink "java/util/ArrayList" (131 : Nat) ({ cls := "java/util/ArrayList", name := "add", desc := "(Ljava/lang/Object;[Ljava/lang/Object;I)V" } : Jvm.MethodName)) ∈ TB := tb_4 38 rfl rfl
theorem w760 : (Jvm.Cond.instanceMethod ({ cls := "java/util/ArrayList", name := "add", desc := "(Ljava/lang/Object;[Ljava/lang/Object;I)V" } : Jvm.MethodName)) ∈ TB := tb_4 40 rfl rfl
theorem w761 : (Jvm.Cond.code ({ cls := "java/util/ArrayList", name := "add", desc := "(Ljava/lang/Object;[Ljava/lang/Object;I)V" } : Jvm.MethodName) prog_28_method_24_code (4 : Nat) (Option.none : Option Jvm.ClassFile.FieldType)) ∈ TB := tb_4 41 rfl rfl
theorem w762 : (Jvm.Cond.methodLink "java/util/ArrayList" (129 : Nat) ({ cls := "java/util/ArrayList", name := "grow", desc := "()[Ljava/lang/Object;" } : Jvm.MethodName)) ∈ TB := tb_4 42 rfl rfl
theorem w764 : (Jvm.Cond.instanceMethod ({ cls := "java/util/ArrayList", name := "grow", desc := "()[Ljava/lang/Object;" } : Jvm.MethodName)) ∈ TB := tb_4 44 rfl rfl
theorem w765 : (Jvm.Cond.code ({ cls := "java/util/ArrayList", name := "grow", desc := "()[Ljava/lang/Object;" } : Jvm.MethodName) prog_28_method_7_code (1 : Nat) (Option.some (Jvm.ClassFile.FieldType.array (Jvm.ClassFile.FieldType.object "java/lang/Object")))) ∈ TB := tb_4 45 rfl rfl
theorem w766 : (Jvm.Cond.methodLink "java/util/ArrayList" (69 : Nat) ({ cls := "java/util/ArrayList", name := "grow", desc := "(I)[Ljava/lang/Object;" } : Jvm.MethodName)) ∈ TB := tb_4 46 rfl rfl
theorem w768 : (Jvm.Cond.instanceMethod ({ cls := "java/util/ArrayList", name := "grow", desc := "(I)[Ljava/lang/Object;" } : Jvm.MethodName)) ∈ TB := tb_4 48 rfl rfl
theorem w769 : (Jvm.Cond.code ({ cls := "java/util/ArrayList", name := "grow", desc := "(I)[Ljava/lang/Object;" } : Jvm.MethodName) prog_28_method_6_code (4 : Nat) (Option.some (Jvm.ClassFile.FieldType.array (Jvm.ClassFile.FieldType.object "java/lang/Object")))) ∈ TB := tb_4 49 rfl rfl
theorem w770 : (Jvm.Cond.methodLink "java/util/ArrayList" (73 : Nat) ({ cls := "jdk/internal/util/ArraysSupport", name := "newLength", desc := "(III)I" } : Jvm.MethodName)) ∈ TB := tb_4 50 rfl rfl
theorem w771 : (Jvm.Cond.static ({ cls := "jdk/internal/util/ArraysSupport", name := "newLength", desc := "(III)I" } : Jvm.MethodName)) ∈ TB := tb_4 51 rfl rfl
theorem w772 : (Jvm.Cond.code ({ cls := "jdk/internal/util/ArraysSupport", name := "newLength", desc := "(III)I" } : Jvm.MethodName) prog_35_method_27_code (4 : Nat) (Option.some Jvm.ClassFile.FieldType.int)) ∈ TB := tb_4 52 rfl rfl
theorem w773 : (Jvm.Cond.methodLink "jdk/internal/util/ArraysSupport" (194 : Nat) ({ cls := "java/lang/Math", name := "max", desc := "(II)I" } : Jvm.MethodName)) ∈ TB := tb_4 53 rfl rfl
theorem w774 : (Jvm.Cond.static ({ cls := "java/lang/Math", name := "max", desc := "(II)I" } : Jvm.MethodName)) ∈ TB := tb_4 54 rfl rfl
theorem w775 : (Jvm.Cond.code ({ cls := "java/lang/Math", name := "max", desc := "(II)I" } : Jvm.MethodName) prog_22_method_65_code (2 : Nat) (Option.some Jvm.ClassFile.FieldType.int)) ∈ TB := tb_4 55 rfl rfl
theorem w776 : (Jvm.Cond.constant "jdk/internal/util/ArraysSupport" (200 : Nat) (2147483639 : Int32)) ∈ TB := tb_4 56 rfl rfl
theorem w777 : (Jvm.Cond.methodLink "jdk/internal/util/ArraysSupport" (201 : Nat) ({ cls := "jdk/internal/util/ArraysSupport", name := "hugeLength", desc := "(II)I" } : Jvm.MethodName)) ∈ TB := tb_4 57 rfl rfl
theorem w778 : (Jvm.Cond.static ({ cls := "jdk/internal/util/ArraysSupport", name := "hugeLength", desc := "(II)I" } : Jvm.MethodName)) ∈ TB := tb_4 58 rfl rfl
theorem w779 : (Jvm.Cond.code ({ cls := "jdk/internal/util/ArraysSupport", name := "hugeLength", desc := "(II)I" } : Jvm.MethodName) prog_35_method_28_code (3 : Nat) (Option.some Jvm.ClassFile.FieldType.int)) ∈ TB := tb_4 59 rfl rfl
theorem w780 : (Jvm.Cond.methodLink "java/util/ArrayList" (66 : Nat) ({ cls := "java/util/Arrays", name := "copyOf", desc := "([Ljava/lang/Object;I)[Ljava/lang/Object;" } : Jvm.MethodName)) ∈ TB := tb_4 60 rfl rfl
theorem w781 : (Jvm.Cond.static ({ cls := "java/util/Arrays", name := "copyOf", desc := "([Ljava/lang/Object;I)[Ljava/lang/Object;" } : Jvm.MethodName)) ∈ TB := tb_4 61 rfl rfl
theorem w782 : (Jvm.Cond.code ({ cls := "java/util/Arrays", name := "copyOf", desc := "([Ljava/lang/Object;I)[Ljava/lang/Object;" } : Jvm.MethodName) prog_29_method_119_code (2 : Nat) (Option.some (Jvm.ClassFile.FieldType.array (Jvm.ClassFile.FieldType.object "java/lang/Object")))) ∈ TB := tb_4 62 rfl rfl
theorem w783 : (Jvm.Cond.methodLink "java/util/Arrays" (86 : Nat) ({ cls := "java/lang/Object", name := "getClass", desc := "()Ljava/lang/Class;" } : Jvm.MethodName)) ∈ TB := tb_4 63 rfl rfl
theorem w784 : (Jvm.Cond.instanceMethod ({ cls := "java/lang/Object", name := "getClass", desc := "()Ljava/lang/Class;" } : Jvm.MethodName)) ∈ TB := tb_4 64 rfl rfl
theorem w785 : (Jvm.Cond.sameMethod "java/lang/Object" "java/lang/Object" "getClass" "()Ljava/lang/Class;") ∈ TB := tb_4 65 rfl rfl
theorem w786 : (Jvm.Cond.selects "ResidualTrees" ({ cls := "java/lang/Object", name := "getClass", desc := "()Ljava/lang/Class;" } : Jvm.MethodName) ({ cls := "java/lang/Object", name := "getClass", desc := "()Ljava/lang/Class;" } : Jvm.MethodName)) ∈ TB := tb_4 66 rfl rfl
theorem w787 : (Jvm.Cond.selects "ResidualTrees$Column" ({ cls := "java/lang/Object", name := "getClass", desc := "()Ljava/lang/Class;" } : Jvm.MethodName) ({ cls := "java/lang/Object", name := "getClass", desc := "()Ljava/lang/Class;" } : Jvm.MethodName)) ∈ TB := tb_4 67 rfl rfl
theorem w788 : (Jvm.Cond.selects "ResidualTrees$Group" ({ cls := "java/lang/Object", name := "getClass", desc := "()Ljava/lang/Class;" } : Jvm.MethodName) ({ cls := "java/lang/Object", name := "getClass", desc := "()Ljava/lang/Class;" } : Jvm.MethodName)) ∈ TB := tb_4 68 rfl rfl
theorem w789 : (Jvm.Cond.selects "ResidualTrees$Grower" ({ cls := "java/lang/Object", name := "getClass", desc := "()Ljava/lang/Class;" } : Jvm.MethodName) ({ cls := "java/lang/Object", name := "getClass", desc := "()Ljava/lang/Class;" } : Jvm.MethodName)) ∈ TB := tb_4 69 rfl rfl
theorem w790 : (Jvm.Cond.selects "ResidualTrees$Node" ({ cls := "java/lang/Object", name := "getClass", desc := "()Ljava/lang/Class;" } : Jvm.MethodName) ({ cls := "java/lang/Object", name := "getClass", desc := "()Ljava/lang/Class;" } : Jvm.MethodName)) ∈ TB := tb_4 70 rfl rfl
theorem w791 : (Jvm.Cond.selects "ResidualTrees$Out" ({ cls := "java/lang/Object", name := "getClass", desc := "()Ljava/lang/Class;" } : Jvm.MethodName) ({ cls := "java/lang/Object", name := "getClass", desc := "()Ljava/lang/Class;" } : Jvm.MethodName)) ∈ TB := tb_4 71 rfl rfl
theorem w792 : (Jvm.Cond.selects "ResidualTrees$Plan" ({ cls := "java/lang/Object", name := "getClass", desc := "()Ljava/lang/Class;" } : Jvm.MethodName) ({ cls := "java/lang/Object", name := "getClass", desc := "()Ljava/lang/Class;" } : Jvm.MethodName)) ∈ TB := tb_4 72 rfl rfl
theorem w793 : (Jvm.Cond.selects "ResidualTrees$Split" ({ cls := "java/lang/Object", name := "getClass", desc := "()Ljava/lang/Class;" } : Jvm.MethodName) ({ cls := "java/lang/Object", name := "getClass", desc := "()Ljava/lang/Class;" } : Jvm.MethodName)) ∈ TB := tb_4 73 rfl rfl
theorem w794 : (Jvm.Cond.selects "ResidualTrees$Table" ({ cls := "java/lang/Object", name := "getClass", desc := "()Ljava/lang/Class;" } : Jvm.MethodName) ({ cls := "java/lang/Object", name := "getClass", desc := "()Ljava/lang/Class;" } : Jvm.MethodName)) ∈ TB := tb_4 74 rfl rfl
theorem w795 : (Jvm.Cond.selects "ResidualTrees$Tree" ({ cls := "java/lang/Object", name := "getClass", desc := "()Ljava/lang/Class;" } : Jvm.MethodName) ({ cls := "java/lang/Object", name := "getClass", desc := "()Ljava/lang/Class;" } : Jvm.MethodName)) ∈ TB := tb_4 75 rfl rfl
theorem w796 : (Jvm.Cond.selects "ResidualTrees$Whole" ({ cls := "java/lang/Object", name := "getClass", desc := "()Ljava/lang/Class;" } : Jvm.MethodName) ({ cls := "java/lang/Object", name := "getClass", desc := "()Ljava/lang/Class;" } : Jvm.MethodName)) ∈ TB := tb_4 76 rfl rfl
theorem w797 : (Jvm.Cond.selects "ResidualTreesModel" ({ cls := "java/lang/Object", name := "getClass", desc := "()Ljava/lang/Class;" } : Jvm.MethodName) ({ cls := "java/lang/Object", name := "getClass", desc := "()Ljava/lang/Class;" } : Jvm.MethodName)) ∈ TB := tb_4 77 rfl rfl
theorem w798 : (Jvm.Cond.selects "java/lang/IllegalArgumentException" ({ cls := "java/lang/Object", name := "getClass", desc := "()Ljava/lang/Class;" } : Jvm.MethodName) ({ cls := "java/lang/Object", name := "getClass", desc := "()Ljava/lang/Class;" } : Jvm.MethodName)) ∈ TB := tb_4 78 rfl rfl
theorem w799 : (Jvm.Cond.selects "java/lang/IllegalStateException" ({ cls := "java/lang/Object", name := "getClass", desc := "()Ljava/lang/Class;" } : Jvm.MethodName) ({ cls := "java/lang/Object", name := "getClass", desc := "()Ljava/lang/Class;" } : Jvm.MethodName)) ∈ TB := tb_4 79 rfl rfl
theorem w800 : (Jvm.Cond.selects "java/util/ArrayList" ({ cls := "java/lang/Object", name := "getClass", desc := "()Ljava/lang/Class;" } : Jvm.MethodName) ({ cls := "java/lang/Object", name := "getClass", desc := "()Ljava/lang/Class;" } : Jvm.MethodName)) ∈ TB := tb_4 80 rfl rfl
theorem w801 : (Jvm.Cond.native ({ cls := "java/lang/Object", name := "getClass", desc := "()Ljava/lang/Class;" } : Jvm.MethodName)) ∈ TB := tb_4 81 rfl rfl
theorem w802 : (Jvm.Cond.methodLink "java/util/Arrays" (300 : Nat) ({ cls := "java/util/Arrays", name := "copyOf", desc := "([Ljava/lang/Object;ILjava/lang/Class;)[Ljava/lang/Object;" } : Jvm.MethodName)) ∈ TB := tb_4 82 rfl rfl
theorem w803 : (Jvm.Cond.static ({ cls := "java/util/Arrays", name := "copyOf", desc := "([Ljava/lang/Object;ILjava/lang/Class;)[Ljava/lang/Object;" } : Jvm.MethodName)) ∈ TB := tb_4 83 rfl rfl
theorem w804 : (Jvm.Cond.code ({ cls := "java/util/Arrays", name := "copyOf", desc := "([Ljava/lang/Object;ILjava/lang/Class;)[Ljava/lang/Object;" } : Jvm.MethodName) prog_29_method_120_code (4 : Nat) (Option.some (Jvm.ClassFile.FieldType.array (Jvm.ClassFile.FieldType.object "java/lang/Object")))) ∈ TB := tb_4 84 rfl rfl
theorem w805 : (Jvm.Cond.classLink "java/util/Arrays" (110 : Nat) "[Ljava/lang/Object;") ∈ TB := tb_4 85 rfl rfl
theorem w807 : (Jvm.Cond.classLink "java/util/Arrays" (2 : Nat) "java/lang/Object") ∈ TB := tb_4 87 rfl rfl
theorem w808 : (Jvm.Cond.methodLink "java/util/Arrays" (304 : Nat) ({ cls := "java/lang/Math", name := "min", desc := "(II)I" } : Jvm.MethodName)) ∈ TB := tb_4 88 rfl rfl
theorem w809 : (Jvm.Cond.methodLink "java/util/Arrays" (150 : Nat) ({ cls := "java/lang/System", name := "arraycopy", desc := "(Ljava/lang/Object;ILjava/lang/Object;II)V" } : Jvm.MethodName)) ∈ TB := tb_4 89 rfl rfl
theorem w810 : (Jvm.Cond.methodLink "java/util/ArrayList" (79 : Nat) ({ cls := "java/lang/Math", name := "max", desc := "(II)I" } : Jvm.MethodName)) ∈ TB := tb_4 90 rfl rfl
theorem w811 : (Jvm.Cond.classLink "java/util/ArrayList" (7 : Nat) "java/lang/Object") ∈ TB := tb_4 91 rfl rfl
theorem w814 : (Jvm.Cond.instanceMethod ({ cls := "ResidualTrees$Grower", name := "grow", desc := "(LResidualTrees$Tree;JI)I" } : Jvm.MethodName)) ∈ TB := tb_4 94 rfl rfl
theorem w815 : (Jvm.Cond.code ({ cls := "ResidualTrees$Grower", name := "grow", desc := "(LResidualTrees$Tree;JI)I" } : Jvm.MethodName) prog_4_method_2_code (9 : Nat) (Option.some Jvm.ClassFile.FieldType.int)) ∈ TB := tb_4 95 rfl rfl
theorem w816 : (Jvm.Cond.methodLink "ResidualTrees$Grower" (69 : Nat) ({ cls := "java/lang/Long", name := "bitCount", desc := "(J)I" } : Jvm.MethodName)) ∈ TB := tb_4 96 rfl rfl
theorem w817 : (Jvm.Cond.methodLink "ResidualTrees$Grower" (75 : Nat) ({ cls := "ResidualTrees$Tree", name := "newLeaf", desc := "(II)I" } : Jvm.MethodName)) ∈ TB := tb_4 97 rfl rfl
theorem w818 : (Jvm.Cond.instanceMethod ({ cls := "ResidualTrees$Tree", name := "newLeaf", desc := "(II)I" } : Jvm.MethodName)) ∈ TB := tb_4 98 rfl rfl
theorem w819 : (Jvm.Cond.selects "ResidualTrees$Tree" ({ cls := "ResidualTrees$Tree", name := "newLeaf", desc := "(II)I" } : Jvm.MethodName) ({ cls := "ResidualTrees$Tree", name := "newLeaf", desc := "(II)I" } : Jvm.MethodName)) ∈ TB := tb_4 99 rfl rfl
theorem w820 : (Jvm.Cond.code ({ cls := "ResidualTrees$Tree", name := "newLeaf", desc := "(II)I" } : Jvm.MethodName) prog_10_method_3_code (4 : Nat) (Option.some Jvm.ClassFile.FieldType.int)) ∈ TB := tb_4 100 rfl rfl
theorem w821 : (Jvm.Cond.methodLink "ResidualTrees$Tree" (28 : Nat) ({ cls := "java/util/ArrayList", name := "size", desc := "()I" } : Jvm.MethodName)) ∈ TB := tb_4 101 rfl rfl
theorem w822 : (Jvm.Cond.instantiable "ResidualTrees$Node" (9 : Nat)) ∈ TB := tb_4 102 rfl rfl
theorem w824 : (Jvm.Cond.instanceMethod ({ cls := "ResidualTrees$Node", name := "<init>", desc := "()V" } : Jvm.MethodName)) ∈ TB := tb_4 104 rfl rfl
theorem w825 : (Jvm.Cond.code ({ cls := "ResidualTrees$Node", name := "<init>", desc := "()V" } : Jvm.MethodName) prog_5_method_1_code (1 : Nat) (Option.none : Option Jvm.ClassFile.FieldType)) ∈ TB := tb_4 105 rfl rfl
theorem w826 : (Jvm.Cond.methodLink "ResidualTrees$Node" (3 : Nat) ({ cls := "java/lang/Object", name := "<init>", desc := "()V" } : Jvm.MethodName)) ∈ TB := tb_4 106 rfl rfl
theorem w827 : (Jvm.Cond.classLink "ResidualTrees$Node" (9 : Nat) "ResidualTrees$Whole") ∈ TB := tb_4 107 rfl rfl
theorem w828 : (Jvm.Cond.methodLink "ResidualTrees$Node" (11 : Nat) ({ cls := "ResidualTrees$Whole", name := "<init>", desc := "(I)V" } : Jvm.MethodName)) ∈ TB := tb_4 108 rfl rfl
theorem w829 : (Jvm.Cond.fieldLink "ResidualTrees$Node" (20 : Nat) "ResidualTrees$Node" "column" "I") ∈ TB := tb_4 109 rfl rfl
theorem w830 : (Jvm.Cond.fieldLink "ResidualTrees$Grower" (107 : Nat) "ResidualTrees$Node" "column" "I") ∈ TB := tb_4 110 rfl rfl
theorem w831 : (Jvm.Cond.fieldLink "ResidualTrees$Tree" (64 : Nat) "ResidualTrees$Node" "column" "I") ∈ TB := tb_4 111 rfl rfl
theorem w832 : (Jvm.Cond.fieldLink "ResidualTrees" (227 : Nat) "ResidualTrees$Node" "column" "I") ∈ TB := tb_4 112 rfl rfl
theorem w833 : (Jvm.Cond.fieldLink "ResidualTrees$Node" (24 : Nat) "ResidualTrees$Node" "mark" "I") ∈ TB := tb_4 113 rfl rfl
theorem w834 : (Jvm.Cond.fieldLink "ResidualTrees$Grower" (111 : Nat) "ResidualTrees$Node" "mark" "I") ∈ TB := tb_4 114 rfl rfl
theorem w835 : (Jvm.Cond.fieldLink "ResidualTrees" (232 : Nat) "ResidualTrees$Node" "mark" "I") ∈ TB := tb_4 115 rfl rfl
theorem w836 : (Jvm.Cond.fieldLink "ResidualTrees$Node" (27 : Nat) "ResidualTrees$Node" "ofKinds" "Z") ∈ TB := tb_4 116 rfl rfl
theorem w837 : (Jvm.Cond.fieldLink "ResidualTrees$Grower" (116 : Nat) "ResidualTrees$Node" "ofKinds" "Z") ∈ TB := tb_4 117 rfl rfl
theorem w838 : (Jvm.Cond.fieldLink "ResidualTrees" (246 : Nat) "ResidualTrees$Node" "ofKinds" "Z") ∈ TB := tb_4 118 rfl rfl
theorem w839 : (Jvm.Cond.fieldLink "ResidualTrees$Node" (31 : Nat) "ResidualTrees$Node" "missingLeft" "Z") ∈ TB := tb_4 119 rfl rfl
theorem w840 : (Jvm.Cond.fieldLink "ResidualTrees$Grower" (120 : Nat) "ResidualTrees$Node" "missingLeft" "Z") ∈ TB := tb_4 120 rfl rfl
theorem w841 : (Jvm.Cond.fieldLink "ResidualTrees" (235 : Nat) "ResidualTrees$Node" "missingLeft" "Z") ∈ TB := tb_4 121 rfl rfl
theorem w842 : (Jvm.Cond.fieldLink "ResidualTrees$Node" (34 : Nat) "ResidualTrees$Node" "left" "I") ∈ TB := tb_4 122 rfl rfl
theorem w843 : (Jvm.Cond.fieldLink "ResidualTrees$Grower" (129 : Nat) "ResidualTrees$Node" "left" "I") ∈ TB := tb_4 123 rfl rfl
theorem w844 : (Jvm.Cond.fieldLink "ResidualTrees$Tree" (103 : Nat) "ResidualTrees$Node" "left" "I") ∈ TB := tb_4 124 rfl rfl
theorem w845 : (Jvm.Cond.fieldLink "ResidualTrees" (238 : Nat) "ResidualTrees$Node" "left" "I") ∈ TB := tb_4 125 rfl rfl
theorem w846 : (Jvm.Cond.fieldLink "ResidualTrees$Node" (37 : Nat) "ResidualTrees$Node" "right" "I") ∈ TB := tb_4 126 rfl rfl
theorem w847 : (Jvm.Cond.fieldLink "ResidualTrees$Grower" (134 : Nat) "ResidualTrees$Node" "right" "I") ∈ TB := tb_4 127 rfl rfl
theorem w848 : (Jvm.Cond.fieldLink "ResidualTrees$Tree" (106 : Nat) "ResidualTrees$Node" "right" "I") ∈ TB := tb_4 128 rfl rfl
theorem w849 : (Jvm.Cond.fieldLink "ResidualTrees" (241 : Nat) "ResidualTrees$Node" "right" "I") ∈ TB := tb_4 129 rfl rfl
theorem w850 : (Jvm.Cond.fieldLink "ResidualTrees$Tree" (40 : Nat) "ResidualTrees$Node" "rows" "I") ∈ TB := tb_4 130 rfl rfl
theorem w851 : (Jvm.Cond.fieldLink "ResidualTrees$Grower" (165 : Nat) "ResidualTrees$Node" "rows" "I") ∈ TB := tb_4 131 rfl rfl
theorem w852 : (Jvm.Cond.fieldLink "ResidualTrees" (244 : Nat) "ResidualTrees$Node" "rows" "I") ∈ TB := tb_4 132 rfl rfl
theorem w853 : (Jvm.Cond.fieldLink "ResidualTrees$Tree" (43 : Nat) "ResidualTrees$Node" "depth" "I") ∈ TB := tb_4 133 rfl rfl
theorem w854 : (Jvm.Cond.fieldLink "ResidualTrees" (245 : Nat) "ResidualTrees$Node" "depth" "I") ∈ TB := tb_4 134 rfl rfl
theorem w855 : (Jvm.Cond.fieldLink "ResidualTrees$Node" (14 : Nat) "ResidualTrees$Node" "sum" "LResidualTrees$Whole;") ∈ TB := tb_4 135 rfl rfl
theorem w856 : (Jvm.Cond.fieldLink "ResidualTrees$Grower" (85 : Nat) "ResidualTrees$Node" "sum" "LResidualTrees$Whole;") ∈ TB := tb_4 136 rfl rfl
theorem w857 : (Jvm.Cond.fieldLink "ResidualTrees$Tree" (67 : Nat) "ResidualTrees$Node" "sum" "LResidualTrees$Whole;") ∈ TB := tb_4 137 rfl rfl
theorem w858 : (Jvm.Cond.fieldLink "ResidualTrees" (272 : Nat) "ResidualTrees$Node" "sum" "LResidualTrees$Whole;") ∈ TB := tb_4 138 rfl rfl
theorem w859 : (Jvm.Cond.lays "ResidualTrees$Node" "ResidualTrees$Node" "column" "I") ∈ TB := tb_4 139 rfl rfl
theorem w860 : (Jvm.Cond.soleField "ResidualTrees$Node" "column") ∈ TB := tb_4 140 rfl rfl
theorem w861 : (Jvm.Cond.lays "ResidualTrees$Node" "ResidualTrees$Node" "mark" "I") ∈ TB := tb_4 141 rfl rfl
theorem w862 : (Jvm.Cond.soleField "ResidualTrees$Node" "mark") ∈ TB := tb_4 142 rfl rfl
theorem w863 : (Jvm.Cond.lays "ResidualTrees$Node" "ResidualTrees$Node" "ofKinds" "Z") ∈ TB := tb_4 143 rfl rfl
theorem w864 : (Jvm.Cond.soleField "ResidualTrees$Node" "ofKinds") ∈ TB := tb_4 144 rfl rfl
theorem w865 : (Jvm.Cond.lays "ResidualTrees$Node" "ResidualTrees$Node" "missingLeft" "Z") ∈ TB := tb_4 145 rfl rfl
theorem w866 : (Jvm.Cond.soleField "ResidualTrees$Node" "missingLeft") ∈ TB := tb_4 146 rfl rfl
theorem w867 : (Jvm.Cond.lays "ResidualTrees$Node" "ResidualTrees$Node" "left" "I") ∈ TB := tb_4 147 rfl rfl
theorem w868 : (Jvm.Cond.soleField "ResidualTrees$Node" "left") ∈ TB := tb_4 148 rfl rfl
theorem w869 : (Jvm.Cond.lays "ResidualTrees$Node" "ResidualTrees$Node" "right" "I") ∈ TB := tb_4 149 rfl rfl
theorem w870 : (Jvm.Cond.soleField "ResidualTrees$Node" "right") ∈ TB := tb_4 150 rfl rfl
theorem w871 : (Jvm.Cond.lays "ResidualTrees$Node" "ResidualTrees$Node" "rows" "I") ∈ TB := tb_4 151 rfl rfl
theorem w872 : (Jvm.Cond.soleField "ResidualTrees$Node" "rows") ∈ TB := tb_4 152 rfl rfl
theorem w873 : (Jvm.Cond.lays "ResidualTrees$Node" "ResidualTrees$Node" "depth" "I") ∈ TB := tb_4 153 rfl rfl
theorem w874 : (Jvm.Cond.soleField "ResidualTrees$Node" "depth") ∈ TB := tb_4 154 rfl rfl
theorem w875 : (Jvm.Cond.laysFinal "ResidualTrees$Node" "ResidualTrees$Node" "sum" "LResidualTrees$Whole;") ∈ TB := tb_4 155 rfl rfl
theorem w876 : (Jvm.Cond.soleField "ResidualTrees$Node" "sum") ∈ TB := tb_4 156 rfl rfl
theorem w877 : (Jvm.Cond.superclass "ResidualTrees$Node" "java/lang/Object") ∈ TB := tb_4 157 rfl rfl
theorem w878 : (Jvm.Cond.methodLink "ResidualTrees$Tree" (33 : Nat) ({ cls := "java/util/ArrayList", name := "add", desc := "(Ljava/lang/Object;)Z" } : Jvm.MethodName)) ∈ TB := tb_4 158 rfl rfl
theorem w879 : (Jvm.Cond.methodLink "ResidualTrees$Tree" (37 : Nat) ({ cls := "ResidualTrees$Node", name := "becomeLeaf", desc := "()V" } : Jvm.MethodName)) ∈ TB := tb_4 159 rfl rfl
theorem w880 : (Jvm.Cond.instanceMethod ({ cls := "ResidualTrees$Node", name := "becomeLeaf", desc := "()V" } : Jvm.MethodName)) ∈ TB := tb_4 160 rfl rfl
theorem w881 : (Jvm.Cond.selects "ResidualTrees$Node" ({ cls := "ResidualTrees$Node", name := "becomeLeaf", desc := "()V" } : Jvm.MethodName) ({ cls := "ResidualTrees$Node", name := "becomeLeaf", desc := "()V" } : Jvm.MethodName)) ∈ TB := tb_4 161 rfl rfl
theorem w882 : (Jvm.Cond.code ({ cls := "ResidualTrees$Node", name := "becomeLeaf", desc := "()V" } : Jvm.MethodName) prog_5_method_2_code (1 : Nat) (Option.none : Option Jvm.ClassFile.FieldType)) ∈ TB := tb_4 162 rfl rfl
theorem w883 : (Jvm.Cond.methodLink "ResidualTrees$Grower" (81 : Nat) ({ cls := "ResidualTrees$Tree", name := "at", desc := "(I)LResidualTrees$Node;" } : Jvm.MethodName)) ∈ TB := tb_4 163 rfl rfl
theorem w884 : (Jvm.Cond.instanceMethod ({ cls := "ResidualTrees$Tree", name := "at", desc := "(I)LResidualTrees$Node;" } : Jvm.MethodName)) ∈ TB := tb_4 164 rfl rfl
theorem w885 : (Jvm.Cond.selects "ResidualTrees$Tree" ({ cls := "ResidualTrees$Tree", name := "at", desc := "(I)LResidualTrees$Node;" } : Jvm.MethodName) ({ cls := "ResidualTrees$Tree", name := "at", desc := "(I)LResidualTrees$Node;" } : Jvm.MethodName)) ∈ TB := tb_4 165 rfl rfl
theorem w886 : (Jvm.Cond.code ({ cls := "ResidualTrees$Tree", name := "at", desc := "(I)LResidualTrees$Node;" } : Jvm.MethodName) prog_10_method_2_code (2 : Nat) (Option.some (Jvm.ClassFile.FieldType.object "ResidualTrees$Node"))) ∈ TB := tb_4 166 rfl rfl
theorem w887 : (Jvm.Cond.methodLink "ResidualTrees$Grower" (90 : Nat) ({ cls := "ResidualTrees$Grower", name := "sumUp", desc := "(JLResidualTrees$Whole;)V" } : Jvm.MethodName)) ∈ TB := tb_4 167 rfl rfl
theorem w889 : (Jvm.Cond.instanceMethod ({ cls := "ResidualTrees$Grower", name := "sumUp", desc := "(JLResidualTrees$Whole;)V" } : Jvm.MethodName)) ∈ TB := tb_4 169 rfl rfl
theorem w890 : (Jvm.Cond.code ({ cls := "ResidualTrees$Grower", name := "sumUp", desc := "(JLResidualTrees$Whole;)V" } : Jvm.MethodName) prog_4_method_3_code (5 : Nat) (Option.none : Option Jvm.ClassFile.FieldType)) ∈ TB := tb_4 170 rfl rfl
theorem w891 : (Jvm.Cond.methodLink "ResidualTrees$Grower" (137 : Nat) ({ cls := "ResidualTrees$Whole", name := "set", desc := "(I)V" } : Jvm.MethodName)) ∈ TB := tb_4 171 rfl rfl
theorem w892 : (Jvm.Cond.methodLink "ResidualTrees$Grower" (145 : Nat) ({ cls := "ResidualTrees$Whole", name := "plus", desc := "(LResidualTrees$Whole;Z)V" } : Jvm.MethodName)) ∈ TB := tb_4 172 rfl rfl
theorem w893 : (Jvm.Cond.methodLink "ResidualTrees$Grower" (100 : Nat) ({ cls := "ResidualTrees$Grower", name := "findSplit", desc := "(LResidualTrees$Node;J)Z" } : Jvm.MethodName)) ∈ TB := tb_4 173 rfl rfl
theorem w895 : (Jvm.Cond.instanceMethod ({ cls := "ResidualTrees$Grower", name := "findSplit", desc := "(LResidualTrees$Node;J)Z" } : Jvm.MethodName)) ∈ TB := tb_4 175 rfl rfl
theorem w896 : (Jvm.Cond.code ({ cls := "ResidualTrees$Grower", name := "findSplit", desc := "(LResidualTrees$Node;J)Z" } : Jvm.MethodName) prog_4_method_4_code (5 : Nat) (Option.some Jvm.ClassFile.FieldType.boolean)) ∈ TB := tb_4 176 rfl rfl
theorem w897 : (Jvm.Cond.methodLink "ResidualTrees$Grower" (155 : Nat) ({ cls := "ResidualTrees$Grower", name := "tryColumn", desc := "(ILResidualTrees$Node;J)V" } : Jvm.MethodName)) ∈ TB := tb_4 177 rfl rfl
theorem w899 : (Jvm.Cond.instanceMethod ({ cls := "ResidualTrees$Grower", name := "tryColumn", desc := "(ILResidualTrees$Node;J)V" } : Jvm.MethodName)) ∈ TB := tb_4 179 rfl rfl
theorem w900 : (Jvm.Cond.code ({ cls := "ResidualTrees$Grower", name := "tryColumn", desc := "(ILResidualTrees$Node;J)V" } : Jvm.MethodName) prog_4_method_5_code (11 : Nat) (Option.none : Option Jvm.ClassFile.FieldType)) ∈ TB := tb_4 180 rfl rfl
theorem w901 : (Jvm.Cond.methodLink "ResidualTrees$Grower" (188 : Nat) ({ cls := "ResidualTrees$Grower", name := "gather", desc := "(LResidualTrees$Column;J)V" } : Jvm.MethodName)) ∈ TB := tb_4 181 rfl rfl
theorem w903 : (Jvm.Cond.instanceMethod ({ cls := "ResidualTrees$Grower", name := "gather", desc := "(LResidualTrees$Column;J)V" } : Jvm.MethodName)) ∈ TB := tb_4 183 rfl rfl
theorem w904 : (Jvm.Cond.code ({ cls := "ResidualTrees$Grower", name := "gather", desc := "(LResidualTrees$Column;J)V" } : Jvm.MethodName) prog_4_method_6_code (8 : Nat) (Option.none : Option Jvm.ClassFile.FieldType)) ∈ TB := tb_4 184 rfl rfl
theorem w905 : (Jvm.Cond.methodLink "ResidualTrees$Grower" (206 : Nat) ({ cls := "ResidualTrees$Group", name := "clear", desc := "()V" } : Jvm.MethodName)) ∈ TB := tb_4 185 rfl rfl
theorem w906 : (Jvm.Cond.instanceMethod ({ cls := "ResidualTrees$Group", name := "clear", desc := "()V" } : Jvm.MethodName)) ∈ TB := tb_4 186 rfl rfl
theorem w907 : (Jvm.Cond.selects "ResidualTrees$Group" ({ cls := "ResidualTrees$Group", name := "clear", desc := "()V" } : Jvm.MethodName) ({ cls := "ResidualTrees$Group", name := "clear", desc := "()V" } : Jvm.MethodName)) ∈ TB := tb_4 187 rfl rfl
theorem w908 : (Jvm.Cond.code ({ cls := "ResidualTrees$Group", name := "clear", desc := "()V" } : Jvm.MethodName) prog_3_method_2_code (1 : Nat) (Option.none : Option Jvm.ClassFile.FieldType)) ∈ TB := tb_4 188 rfl rfl
theorem w909 : (Jvm.Cond.methodLink "ResidualTrees$Group" (24 : Nat) ({ cls := "ResidualTrees$Whole", name := "set", desc := "(I)V" } : Jvm.MethodName)) ∈ TB := tb_4 189 rfl rfl
theorem w910 : (Jvm.Cond.constant "ResidualTrees$Grower" (229 : Nat) (-2147483648 : Int32)) ∈ TB := tb_4 190 rfl rfl
theorem w911 : (Jvm.Cond.methodLink "ResidualTrees$Grower" (230 : Nat) ({ cls := "ResidualTrees$Column", name := "binOf", desc := "(I)I" } : Jvm.MethodName)) ∈ TB := tb_4 191 rfl rfl
theorem w912 : (Jvm.Cond.methodLink "ResidualTrees$Grower" (212 : Nat) ({ cls := "ResidualTrees$Group", name := "takeIn", desc := "(JLResidualTrees$Whole;)V" } : Jvm.MethodName)) ∈ TB := tb_4 192 rfl rfl
theorem w913 : (Jvm.Cond.instanceMethod ({ cls := "ResidualTrees$Group", name := "takeIn", desc := "(JLResidualTrees$Whole;)V" } : Jvm.MethodName)) ∈ TB := tb_4 193 rfl rfl
theorem w914 : (Jvm.Cond.selects "ResidualTrees$Group" ({ cls := "ResidualTrees$Group", name := "takeIn", desc := "(JLResidualTrees$Whole;)V" } : Jvm.MethodName) ({ cls := "ResidualTrees$Group", name := "takeIn", desc := "(JLResidualTrees$Whole;)V" } : Jvm.MethodName)) ∈ TB := tb_4 194 rfl rfl
theorem w915 : (Jvm.Cond.code ({ cls := "ResidualTrees$Group", name := "takeIn", desc := "(JLResidualTrees$Whole;)V" } : Jvm.MethodName) prog_3_method_3_code (4 : Nat) (Option.none : Option Jvm.ClassFile.FieldType)) ∈ TB := tb_4 195 rfl rfl
theorem w916 : (Jvm.Cond.methodLink "ResidualTrees$Group" (27 : Nat) ({ cls := "ResidualTrees$Whole", name := "plus", desc := "(LResidualTrees$Whole;Z)V" } : Jvm.MethodName)) ∈ TB := tb_4 196 rfl rfl
theorem w917 : (Jvm.Cond.methodLink "ResidualTrees$Grower" (195 : Nat) ({ cls := "ResidualTrees$Grower", name := "orderKinds", desc := "()I" } : Jvm.MethodName)) ∈ TB := tb_4 197 rfl rfl
theorem w919 : (Jvm.Cond.instanceMethod ({ cls := "ResidualTrees$Grower", name := "orderKinds", desc := "()I" } : Jvm.MethodName)) ∈ TB := tb_4 199 rfl rfl
theorem w920 : (Jvm.Cond.code ({ cls := "ResidualTrees$Grower", name := "orderKinds", desc := "()I" } : Jvm.MethodName) prog_4_method_8_code (4 : Nat) (Option.some Jvm.ClassFile.FieldType.int)) ∈ TB := tb_4 200 rfl rfl
theorem w921 : (Jvm.Cond.methodLink "ResidualTrees$Grower" (233 : Nat) ({ cls := "ResidualTrees$Grower", name := "isBefore", desc := "(LResidualTrees$Group;LResidualTrees$Group;)Z" } : Jvm.MethodName)) ∈ TB := tb_4 201 rfl rfl
theorem w923 : (Jvm.Cond.instanceMethod ({ cls := "ResidualTrees$Grower", name := "isBefore", desc := "(LResidualTrees$Group;LResidualTrees$Group;)Z" } : Jvm.MethodName)) ∈ TB := tb_4 203 rfl rfl
theorem w924 : (Jvm.Cond.code ({ cls := "ResidualTrees$Grower", name := "isBefore", desc := "(LResidualTrees$Group;LResidualTrees$Group;)Z" } : Jvm.MethodName) prog_4_method_9_code (3 : Nat) (Option.some Jvm.ClassFile.FieldType.boolean)) ∈ TB := tb_4 204 rfl rfl
theorem w925 : (Jvm.Cond.methodLink "ResidualTrees$Grower" (162 : Nat) ({ cls := "ResidualTrees$Whole", name := "set", desc := "(LResidualTrees$Whole;)V" } : Jvm.MethodName)) ∈ TB := tb_4 205 rfl rfl
theorem w926 : (Jvm.Cond.methodLink "ResidualTrees$Grower" (169 : Nat) ({ cls := "ResidualTrees$Whole", name := "times", desc := "(J)V" } : Jvm.MethodName)) ∈ TB := tb_4 206 rfl rfl
theorem w927 : (Jvm.Cond.methodLink "ResidualTrees$Grower" (180 : Nat) ({ cls := "ResidualTrees$Whole", name := "compare", desc := "(LResidualTrees$Whole;)I" } : Jvm.MethodName)) ∈ TB := tb_4 207 rfl rfl
theorem w928 : (Jvm.Cond.methodLink "ResidualTrees$Grower" (202 : Nat) ({ cls := "ResidualTrees$Grower", name := "orderBins", desc := "(I)I" } : Jvm.MethodName)) ∈ TB := tb_4 208 rfl rfl
theorem w930 : (Jvm.Cond.instanceMethod ({ cls := "ResidualTrees$Grower", name := "orderBins", desc := "(I)I" } : Jvm.MethodName)) ∈ TB := tb_4 210 rfl rfl
theorem w931 : (Jvm.Cond.code ({ cls := "ResidualTrees$Grower", name := "orderBins", desc := "(I)I" } : Jvm.MethodName) prog_4_method_7_code (3 : Nat) (Option.some Jvm.ClassFile.FieldType.int)) ∈ TB := tb_4 211 rfl rfl
theorem w932 : (Jvm.Cond.methodLink "ResidualTrees$Grower" (218 : Nat) ({ cls := "ResidualTrees$Group", name := "become", desc := "(LResidualTrees$Group;)V" } : Jvm.MethodName)) ∈ TB := tb_4 212 rfl rfl
theorem w933 : (Jvm.Cond.instanceMethod ({ cls := "ResidualTrees$Group", name := "become", desc := "(LResidualTrees$Group;)V" } : Jvm.MethodName)) ∈ TB := tb_4 213 rfl rfl
theorem w934 : (Jvm.Cond.selects "ResidualTrees$Group" ({ cls := "ResidualTrees$Group", name := "become", desc := "(LResidualTrees$Group;)V" } : Jvm.MethodName) ({ cls := "ResidualTrees$Group", name := "become", desc := "(LResidualTrees$Group;)V" } : Jvm.MethodName)) ∈ TB := tb_4 214 rfl rfl
theorem w935 : (Jvm.Cond.code ({ cls := "ResidualTrees$Group", name := "become", desc := "(LResidualTrees$Group;)V" } : Jvm.MethodName) prog_3_method_4_code (2 : Nat) (Option.none : Option Jvm.ClassFile.FieldType)) ∈ TB := tb_4 215 rfl rfl
theorem w936 : (Jvm.Cond.methodLink "ResidualTrees$Group" (31 : Nat) ({ cls := "ResidualTrees$Whole", name := "set", desc := "(LResidualTrees$Whole;)V" } : Jvm.MethodName)) ∈ TB := tb_4 216 rfl rfl
theorem w937 : (Jvm.Cond.methodLink "ResidualTrees$Grower" (222 : Nat) ({ cls := "ResidualTrees$Grower", name := "consider", desc := "(LResidualTrees$Node;IILResidualTrees$Group;Z)V" } : Jvm.MethodName)) ∈ TB := tb_4 217 rfl rfl
theorem w939 : (Jvm.Cond.instanceMethod ({ cls := "ResidualTrees$Grower", name := "consider", desc := "(LResidualTrees$Node;IILResidualTrees$Group;Z)V" } : Jvm.MethodName)) ∈ TB := tb_4 219 rfl rfl
theorem w940 : (Jvm.Cond.code ({ cls := "ResidualTrees$Grower", name := "consider", desc := "(LResidualTrees$Node;IILResidualTrees$Group;Z)V" } : Jvm.MethodName) prog_4_method_10_code (11 : Nat) (Option.none : Option Jvm.ClassFile.FieldType)) ∈ TB := tb_4 220 rfl rfl
theorem w942 : (Jvm.Cond.static ({ cls := "ResidualTrees", name := "setToSides", desc := "(LResidualTrees$Whole;LResidualTrees$Whole;ILResidualTrees$Whole;ILResidualTrees$Whole;)V" } : Jvm.MethodName)) ∈ TB := tb_4 222 rfl rfl
theorem w943 : (Jvm.Cond.code ({ cls := "ResidualTrees", name := "setToSides", desc := "(LResidualTrees$Whole;LResidualTrees$Whole;ILResidualTrees$Whole;ILResidualTrees$Whole;)V" } : Jvm.MethodName) prog_1_method_40_code (6 : Nat) (Option.none : Option Jvm.ClassFile.FieldType)) ∈ TB := tb_4 223 rfl rfl
theorem w944 : (Jvm.Cond.methodLink "ResidualTrees$Grower" (244 : Nat) ({ cls := "ResidualTrees$Grower", name := "isBetter", desc := "()Z" } : Jvm.MethodName)) ∈ TB := tb_4 224 rfl rfl
theorem w946 : (Jvm.Cond.instanceMethod ({ cls := "ResidualTrees$Grower", name := "isBetter", desc := "()Z" } : Jvm.MethodName)) ∈ TB := tb_4 226 rfl rfl
theorem w947 : (Jvm.Cond.code ({ cls := "ResidualTrees$Grower", name := "isBetter", desc := "()Z" } : Jvm.MethodName) prog_4_method_11_code (1 : Nat) (Option.some Jvm.ClassFile.FieldType.boolean)) ∈ TB := tb_4 227 rfl rfl
theorem w948 : (Jvm.Cond.methodLink "ResidualTrees$Grower" (173 : Nat) ({ cls := "ResidualTrees$Whole", name := "setProduct", desc := "(LResidualTrees$Whole;LResidualTrees$Whole;)V" } : Jvm.MethodName)) ∈ TB := tb_4 228 rfl rfl
theorem w949 : (Jvm.Cond.methodLink "ResidualTrees$Grower" (125 : Nat) ({ cls := "ResidualTrees$Grower", name := "grow", desc := "(LResidualTrees$Tree;JI)I" } : Jvm.MethodName)) ∈ TB := tb_4 229 rfl rfl
theorem w950 : (Jvm.Cond.constantLong "ResidualTrees$Grower" (132 : Nat) (-1 : Int64)) ∈ TB := tb_4 230 rfl rfl
theorem w951 : (Jvm.Cond.methodLink "ResidualTrees" (206 : Nat) ({ cls := "ResidualTrees$Tree", name := "settle", desc := "(LResidualTrees$Plan;)V" } : Jvm.MethodName)) ∈ TB := tb_4 231 rfl rfl
theorem w952 : (Jvm.Cond.instanceMethod ({ cls := "ResidualTrees$Tree", name := "settle", desc := "(LResidualTrees$Plan;)V" } : Jvm.MethodName)) ∈ TB := tb_4 232 rfl rfl
theorem w953 : (Jvm.Cond.selects "ResidualTrees$Tree" ({ cls := "ResidualTrees$Tree", name := "settle", desc := "(LResidualTrees$Plan;)V" } : Jvm.MethodName) ({ cls := "ResidualTrees$Tree", name := "settle", desc := "(LResidualTrees$Plan;)V" } : Jvm.MethodName)) ∈ TB := tb_4 233 rfl rfl
theorem w954 : (Jvm.Cond.code ({ cls := "ResidualTrees$Tree", name := "settle", desc := "(LResidualTrees$Plan;)V" } : Jvm.MethodName) prog_10_method_4_code (7 : Nat) (Option.none : Option Jvm.ClassFile.FieldType)) ∈ TB := tb_4 234 rfl rfl
theorem w955 : (Jvm.Cond.methodLink "ResidualTrees$Tree" (71 : Nat) ({ cls := "ResidualTrees$Whole", name := "rest", desc := "(I)I" } : Jvm.MethodName)) ∈ TB := tb_4 235 rfl rfl
theorem w956 : (Jvm.Cond.instanceMethod ({ cls := "ResidualTrees$Whole", name := "rest", desc := "(I)I" } : Jvm.MethodName)) ∈ TB := tb_4 236 rfl rfl
theorem w957 : (Jvm.Cond.selects "ResidualTrees$Whole" ({ cls := "ResidualTrees$Whole", name := "rest", desc := "(I)I" } : Jvm.MethodName) ({ cls := "ResidualTrees$Whole", name := "rest", desc := "(I)I" } : Jvm.MethodName)) ∈ TB := tb_4 237 rfl rfl
theorem w958 : (Jvm.Cond.code ({ cls := "ResidualTrees$Whole", name := "rest", desc := "(I)I" } : Jvm.MethodName) prog_11_method_12_code (5 : Nat) (Option.some Jvm.ClassFile.FieldType.int)) ∈ TB := tb_4 238 rfl rfl
theorem w959 : (Jvm.Cond.methodLink "ResidualTrees" (212 : Nat) ({ cls := "ResidualTrees", name := "commonBits", desc := "()I" } : Jvm.MethodName)) ∈ TB := tb_4 239 rfl rfl
theorem w961 : (Jvm.Cond.instanceMethod ({ cls := "ResidualTrees", name := "commonBits", desc := "()I" } : Jvm.MethodName)) ∈ TB := tb_5 1 rfl rfl
theorem w962 : (Jvm.Cond.code ({ cls := "ResidualTrees", name := "commonBits", desc := "()I" } : Jvm.MethodName) prog_1_method_42_code (1 : Nat) (Option.some Jvm.ClassFile.FieldType.int)) ∈ TB := tb_5 2 rfl rfl
theorem w963 : (Jvm.Cond.methodLink "ResidualTrees" (265 : Nat) ({ cls := "ResidualTrees", name := "setToScales", desc := "(LResidualTrees$Whole;I)V" } : Jvm.MethodName)) ∈ TB := tb_5 3 rfl rfl
theorem w965 : (Jvm.Cond.instanceMethod ({ cls := "ResidualTrees", name := "setToScales", desc := "(LResidualTrees$Whole;I)V" } : Jvm.MethodName)) ∈ TB := tb_5 5 rfl rfl
theorem w966 : (Jvm.Cond.code ({ cls := "ResidualTrees", name := "setToScales", desc := "(LResidualTrees$Whole;I)V" } : Jvm.MethodName) prog_1_method_38_code (4 : Nat) (Option.none : Option Jvm.ClassFile.FieldType)) ∈ TB := tb_5 6 rfl rfl
theorem w967 : (Jvm.Cond.methodLink "ResidualTrees" (361 : Nat) ({ cls := "ResidualTrees", name := "reduce", desc := "([LResidualTrees$Whole;ILResidualTrees$Whole;)V" } : Jvm.MethodName)) ∈ TB := tb_5 7 rfl rfl
theorem w968 : (Jvm.Cond.static ({ cls := "ResidualTrees", name := "reduce", desc := "([LResidualTrees$Whole;ILResidualTrees$Whole;)V" } : Jvm.MethodName)) ∈ TB := tb_5 8 rfl rfl
theorem w969 : (Jvm.Cond.code ({ cls := "ResidualTrees", name := "reduce", desc := "([LResidualTrees$Whole;ILResidualTrees$Whole;)V" } : Jvm.MethodName) prog_1_method_43_code (9 : Nat) (Option.none : Option Jvm.ClassFile.FieldType)) ∈ TB := tb_5 9 rfl rfl
theorem w970 : (Jvm.Cond.fieldLink "ResidualTrees" (368 : Nat) "ResidualTrees" "PRIMES" "[I") ∈ TB := tb_5 10 rfl rfl
theorem w972 : (Jvm.Cond.methodLink "ResidualTrees" (371 : Nat) ({ cls := "ResidualTrees$Whole", name := "mostBits", desc := "()I" } : Jvm.MethodName)) ∈ TB := tb_5 12 rfl rfl
theorem w973 : (Jvm.Cond.instanceMethod ({ cls := "ResidualTrees$Whole", name := "mostBits", desc := "()I" } : Jvm.MethodName)) ∈ TB := tb_5 13 rfl rfl
theorem w974 : (Jvm.Cond.selects "ResidualTrees$Whole" ({ cls := "ResidualTrees$Whole", name := "mostBits", desc := "()I" } : Jvm.MethodName) ({ cls := "ResidualTrees$Whole", name := "mostBits", desc := "()I" } : Jvm.MethodName)) ∈ TB := tb_5 14 rfl rfl
theorem w975 : (Jvm.Cond.code ({ cls := "ResidualTrees$Whole", name := "mostBits", desc := "()I" } : Jvm.MethodName) prog_11_method_2_code (1 : Nat) (Option.some Jvm.ClassFile.FieldType.int)) ∈ TB := tb_5 15 rfl rfl
theorem w976 : (Jvm.Cond.methodLink "ResidualTrees" (374 : Nat) ({ cls := "ResidualTrees", name := "divides", desc := "(I[LResidualTrees$Whole;ILResidualTrees$Whole;)Z" } : Jvm.MethodName)) ∈ TB := tb_5 16 rfl rfl
theorem w977 : (Jvm.Cond.static ({ cls := "ResidualTrees", name := "divides", desc := "(I[LResidualTrees$Whole;ILResidualTrees$Whole;)Z" } : Jvm.MethodName)) ∈ TB := tb_5 17 rfl rfl
theorem w978 : (Jvm.Cond.code ({ cls := "ResidualTrees", name := "divides", desc := "(I[LResidualTrees$Whole;ILResidualTrees$Whole;)Z" } : Jvm.MethodName) prog_1_method_44_code (6 : Nat) (Option.some Jvm.ClassFile.FieldType.boolean)) ∈ TB := tb_5 18 rfl rfl
theorem w979 : (Jvm.Cond.methodLink "ResidualTrees" (381 : Nat) ({ cls := "ResidualTrees$Whole", name := "rest", desc := "(I)I" } : Jvm.MethodName)) ∈ TB := tb_5 19 rfl rfl
theorem w980 : (Jvm.Cond.methodLink "ResidualTrees" (378 : Nat) ({ cls := "ResidualTrees$Whole", name := "divide", desc := "(I)V" } : Jvm.MethodName)) ∈ TB := tb_5 20 rfl rfl
theorem w981 : (Jvm.Cond.methodLink "ResidualTrees" (365 : Nat) ({ cls := "ResidualTrees$Whole", name := "halveAway", desc := "()I" } : Jvm.MethodName)) ∈ TB := tb_5 21 rfl rfl
theorem w982 : (Jvm.Cond.instanceMethod ({ cls := "ResidualTrees$Whole", name := "halveAway", desc := "()I" } : Jvm.MethodName)) ∈ TB := tb_5 22 rfl rfl
theorem w983 : (Jvm.Cond.selects "ResidualTrees$Whole" ({ cls := "ResidualTrees$Whole", name := "halveAway", desc := "()I" } : Jvm.MethodName) ({ cls := "ResidualTrees$Whole", name := "halveAway", desc := "()I" } : Jvm.MethodName)) ∈ TB := tb_5 23 rfl rfl
theorem w984 : (Jvm.Cond.code ({ cls := "ResidualTrees$Whole", name := "halveAway", desc := "()I" } : Jvm.MethodName) prog_11_method_15_code (2 : Nat) (Option.some Jvm.ClassFile.FieldType.int)) ∈ TB := tb_5 24 rfl rfl
theorem w985 : (Jvm.Cond.methodLink "ResidualTrees$Whole" (58 : Nat) ({ cls := "ResidualTrees$Whole", name := "mostBits", desc := "()I" } : Jvm.MethodName)) ∈ TB := tb_5 25 rfl rfl
theorem w986 : (Jvm.Cond.methodLink "ResidualTrees$Whole" (61 : Nat) ({ cls := "ResidualTrees$Whole", name := "divide", desc := "(I)V" } : Jvm.MethodName)) ∈ TB := tb_5 26 rfl rfl
theorem w987 : (Jvm.Cond.methodLink "ResidualTreesLaw" (142 : Nat) ({ cls := "ResidualTreesLaw", name := "drop", desc := "(LResidualTrees;I[J)I" } : Jvm.MethodName)) ∈ TB := tb_5 27 rfl rfl
theorem w988 : (Jvm.Cond.static ({ cls := "ResidualTreesLaw", name := "drop", desc := "(LResidualTrees;I[J)I" } : Jvm.MethodName)) ∈ TB := tb_5 28 rfl rfl
theorem w989 : (Jvm.Cond.codeWith ({ cls := "ResidualTreesLaw", name := "drop", desc := "(LResidualTrees;I[J)I" } : Jvm.MethodName) method_14_code (4 : Nat) (Option.some Jvm.ClassFile.FieldType.int) [((0 : Nat), (9 : Nat), (12 : Nat), (13 : Nat))]) ∈ TB := tb_5 29 rfl rfl
theorem w990 : (Jvm.Cond.methodLink "ResidualTreesLaw" (54 : Nat) ({ cls := "ResidualTrees", name := "drop", desc := "(I)I" } : Jvm.MethodName)) ∈ TB := tb_5 30 rfl rfl
theorem w991 : (Jvm.Cond.instanceMethod ({ cls := "ResidualTrees", name := "drop", desc := "(I)I" } : Jvm.MethodName)) ∈ TB := tb_5 31 rfl rfl
theorem w992 : (Jvm.Cond.selects "ResidualTrees" ({ cls := "ResidualTrees", name := "drop", desc := "(I)I" } : Jvm.MethodName) ({ cls := "ResidualTrees", name := "drop", desc := "(I)I" } : Jvm.MethodName)) ∈ TB := tb_5 32 rfl rfl
theorem w993 : (Jvm.Cond.code ({ cls := "ResidualTrees", name := "drop", desc := "(I)I" } : Jvm.MethodName) prog_1_method_14_code (3 : Nat) (Option.some Jvm.ClassFile.FieldType.int)) ∈ TB := tb_5 33 rfl rfl
theorem w994 : (Jvm.Cond.methodLink "ResidualTreesLaw" (145 : Nat) ({ cls := "ResidualTreesLaw", name := "node", desc := "(LResidualTrees;III[J)I" } : Jvm.MethodName)) ∈ TB := tb_5 34 rfl rfl
theorem w995 : (Jvm.Cond.static ({ cls := "ResidualTreesLaw", name := "node", desc := "(LResidualTrees;III[J)I" } : Jvm.MethodName)) ∈ TB := tb_5 35 rfl rfl
theorem w996 : (Jvm.Cond.codeWith ({ cls := "ResidualTreesLaw", name := "node", desc := "(LResidualTrees;III[J)I" } : Jvm.MethodName) method_15_code (6 : Nat) (Option.some Jvm.ClassFile.FieldType.int) [((0 : Nat), (12 : Nat), (15 : Nat), (13 : Nat))]) ∈ TB := tb_5 36 rfl rfl
theorem w997 : (Jvm.Cond.methodLink "ResidualTreesLaw" (57 : Nat) ({ cls := "ResidualTrees", name := "node", desc := "(III)I" } : Jvm.MethodName)) ∈ TB := tb_5 37 rfl rfl
theorem w998 : (Jvm.Cond.instanceMethod ({ cls := "ResidualTrees", name := "node", desc := "(III)I" } : Jvm.MethodName)) ∈ TB := tb_5 38 rfl rfl
theorem w999 : (Jvm.Cond.selects "ResidualTrees" ({ cls := "ResidualTrees", name := "node", desc := "(III)I" } : Jvm.MethodName) ({ cls := "ResidualTrees", name := "node", desc := "(III)I" } : Jvm.MethodName)) ∈ TB := tb_5 39 rfl rfl
theorem w1000 : (Jvm.Cond.code ({ cls := "ResidualTrees", name := "node", desc := "(III)I" } : Jvm.MethodName) prog_1_method_15_code (5 : Nat) (Option.some Jvm.ClassFile.FieldType.int)) ∈ TB := tb_5 40 rfl rfl
theorem w1001 : (Jvm.Cond.methodLink "ResidualTrees" (215 : Nat) ({ cls := "ResidualTrees", name := "hasNode", desc := "(II)Z" } : Jvm.MethodName)) ∈ TB := tb_5 41 rfl rfl
theorem w1003 : (Jvm.Cond.instanceMethod ({ cls := "ResidualTrees", name := "hasNode", desc := "(II)Z" } : Jvm.MethodName)) ∈ TB := tb_5 43 rfl rfl
theorem w1004 : (Jvm.Cond.code ({ cls := "ResidualTrees", name := "hasNode", desc := "(II)Z" } : Jvm.MethodName) prog_1_method_33_code (3 : Nat) (Option.some Jvm.ClassFile.FieldType.boolean)) ∈ TB := tb_5 44 rfl rfl
theorem w1005 : (Jvm.Cond.methodLink "ResidualTrees" (223 : Nat) ({ cls := "ResidualTrees$Tree", name := "at", desc := "(I)LResidualTrees$Node;" } : Jvm.MethodName)) ∈ TB := tb_5 45 rfl rfl
theorem w1006 : (Jvm.Cond.methodLink "ResidualTreesLaw" (148 : Nat) ({ cls := "ResidualTreesLaw", name := "count", desc := "(LResidualTrees;I[J)I" } : Jvm.MethodName)) ∈ TB := tb_5 46 rfl rfl
theorem w1007 : (Jvm.Cond.static ({ cls := "ResidualTreesLaw", name := "count", desc := "(LResidualTrees;I[J)I" } : Jvm.MethodName)) ∈ TB := tb_5 47 rfl rfl
theorem w1008 : (Jvm.Cond.codeWith ({ cls := "ResidualTreesLaw", name := "count", desc := "(LResidualTrees;I[J)I" } : Jvm.MethodName) method_16_code (4 : Nat) (Option.some Jvm.ClassFile.FieldType.int) [((0 : Nat), (9 : Nat), (12 : Nat), (13 : Nat))]) ∈ TB := tb_5 48 rfl rfl
theorem w1009 : (Jvm.Cond.methodLink "ResidualTreesLaw" (60 : Nat) ({ cls := "ResidualTrees", name := "count", desc := "(I)I" } : Jvm.MethodName)) ∈ TB := tb_5 49 rfl rfl
theorem w1010 : (Jvm.Cond.instanceMethod ({ cls := "ResidualTrees", name := "count", desc := "(I)I" } : Jvm.MethodName)) ∈ TB := tb_5 50 rfl rfl
theorem w1011 : (Jvm.Cond.selects "ResidualTrees" ({ cls := "ResidualTrees", name := "count", desc := "(I)I" } : Jvm.MethodName) ({ cls := "ResidualTrees", name := "count", desc := "(I)I" } : Jvm.MethodName)) ∈ TB := tb_5 51 rfl rfl
theorem w1012 : (Jvm.Cond.code ({ cls := "ResidualTrees", name := "count", desc := "(I)I" } : Jvm.MethodName) prog_1_method_16_code (2 : Nat) (Option.some Jvm.ClassFile.FieldType.int)) ∈ TB := tb_5 52 rfl rfl
theorem w1013 : (Jvm.Cond.methodLink "ResidualTreesLaw" (151 : Nat) ({ cls := "ResidualTreesLaw", name := "nodes", desc := "(LResidualTrees;I[J)I" } : Jvm.MethodName)) ∈ TB := tb_5 53 rfl rfl
theorem w1014 : (Jvm.Cond.static ({ cls := "ResidualTreesLaw", name := "nodes", desc := "(LResidualTrees;I[J)I" } : Jvm.MethodName)) ∈ TB := tb_5 54 rfl rfl
theorem w1015 : (Jvm.Cond.codeWith ({ cls := "ResidualTreesLaw", name := "nodes", desc := "(LResidualTrees;I[J)I" } : Jvm.MethodName) method_17_code (4 : Nat) (Option.some Jvm.ClassFile.FieldType.int) [((0 : Nat), (9 : Nat), (12 : Nat), (13 : Nat))]) ∈ TB := tb_5 55 rfl rfl
theorem w1016 : (Jvm.Cond.methodLink "ResidualTreesLaw" (63 : Nat) ({ cls := "ResidualTrees", name := "nodes", desc := "(I)I" } : Jvm.MethodName)) ∈ TB := tb_5 56 rfl rfl
theorem w1017 : (Jvm.Cond.instanceMethod ({ cls := "ResidualTrees", name := "nodes", desc := "(I)I" } : Jvm.MethodName)) ∈ TB := tb_5 57 rfl rfl
theorem w1018 : (Jvm.Cond.selects "ResidualTrees" ({ cls := "ResidualTrees", name := "nodes", desc := "(I)I" } : Jvm.MethodName) ({ cls := "ResidualTrees", name := "nodes", desc := "(I)I" } : Jvm.MethodName)) ∈ TB := tb_5 58 rfl rfl
theorem w1019 : (Jvm.Cond.code ({ cls := "ResidualTrees", name := "nodes", desc := "(I)I" } : Jvm.MethodName) prog_1_method_17_code (2 : Nat) (Option.some Jvm.ClassFile.FieldType.int)) ∈ TB := tb_5 59 rfl rfl
theorem w1020 : (Jvm.Cond.methodLink "ResidualTreesLaw" (154 : Nat) ({ cls := "ResidualTreesLaw", name := "uses", desc := "(LResidualTrees;I[J)I" } : Jvm.MethodName)) ∈ TB := tb_5 60 rfl rfl
theorem w1021 : (Jvm.Cond.static ({ cls := "ResidualTreesLaw", name := "uses", desc := "(LResidualTrees;I[J)I" } : Jvm.MethodName)) ∈ TB := tb_5 61 rfl rfl
theorem w1022 : (Jvm.Cond.codeWith ({ cls := "ResidualTreesLaw", name := "uses", desc := "(LResidualTrees;I[J)I" } : Jvm.MethodName) method_18_code (4 : Nat) (Option.some Jvm.ClassFile.FieldType.int) [((0 : Nat), (9 : Nat), (12 : Nat), (13 : Nat))]) ∈ TB := tb_5 62 rfl rfl
theorem w1023 : (Jvm.Cond.methodLink "ResidualTreesLaw" (66 : Nat) ({ cls := "ResidualTrees", name := "uses", desc := "(I)I" } : Jvm.MethodName)) ∈ TB := tb_5 63 rfl rfl
theorem w1024 : (Jvm.Cond.instanceMethod ({ cls := "ResidualTrees", name := "uses", desc := "(I)I" } : Jvm.MethodName)) ∈ TB := tb_5 64 rfl rfl
theorem w1025 : (Jvm.Cond.selects "ResidualTrees" ({ cls := "ResidualTrees", name := "uses", desc := "(I)I" } : Jvm.MethodName) ({ cls := "ResidualTrees", name := "uses", desc := "(I)I" } : Jvm.MethodName)) ∈ TB := tb_5 65 rfl rfl
theorem w1026 : (Jvm.Cond.code ({ cls := "ResidualTrees", name := "uses", desc := "(I)I" } : Jvm.MethodName) prog_1_method_18_code (4 : Nat) (Option.some Jvm.ClassFile.FieldType.int)) ∈ TB := tb_5 66 rfl rfl
theorem w1027 : (Jvm.Cond.methodLink "ResidualTrees" (259 : Nat) ({ cls := "ResidualTrees$Tree", name := "splitsOf", desc := "(I)I" } : Jvm.MethodName)) ∈ TB := tb_5 67 rfl rfl
theorem w1028 : (Jvm.Cond.instanceMethod ({ cls := "ResidualTrees$Tree", name := "splitsOf", desc := "(I)I" } : Jvm.MethodName)) ∈ TB := tb_5 68 rfl rfl
theorem w1029 : (Jvm.Cond.selects "ResidualTrees$Tree" ({ cls := "ResidualTrees$Tree", name := "splitsOf", desc := "(I)I" } : Jvm.MethodName) ({ cls := "ResidualTrees$Tree", name := "splitsOf", desc := "(I)I" } : Jvm.MethodName)) ∈ TB := tb_5 69 rfl rfl
theorem w1030 : (Jvm.Cond.code ({ cls := "ResidualTrees$Tree", name := "splitsOf", desc := "(I)I" } : Jvm.MethodName) prog_10_method_7_code (4 : Nat) (Option.some Jvm.ClassFile.FieldType.int)) ∈ TB := tb_5 70 rfl rfl
theorem w1031 : (Jvm.Cond.methodLink "ResidualTreesLaw" (157 : Nat) ({ cls := "ResidualTreesLaw", name := "tell", desc := "(LResidualTrees;II[J)I" } : Jvm.MethodName)) ∈ TB := tb_5 71 rfl rfl
theorem w1032 : (Jvm.Cond.static ({ cls := "ResidualTreesLaw", name := "tell", desc := "(LResidualTrees;II[J)I" } : Jvm.MethodName)) ∈ TB := tb_5 72 rfl rfl
theorem w1033 : (Jvm.Cond.codeWith ({ cls := "ResidualTreesLaw", name := "tell", desc := "(LResidualTrees;II[J)I" } : Jvm.MethodName) method_19_code (5 : Nat) (Option.some Jvm.ClassFile.FieldType.int) [((0 : Nat), (10 : Nat), (13 : Nat), (13 : Nat))]) ∈ TB := tb_5 73 rfl rfl
theorem w1034 : (Jvm.Cond.methodLink "ResidualTreesLaw" (69 : Nat) ({ cls := "ResidualTrees", name := "tell", desc := "(II)I" } : Jvm.MethodName)) ∈ TB := tb_5 74 rfl rfl
theorem w1035 : (Jvm.Cond.instanceMethod ({ cls := "ResidualTrees", name := "tell", desc := "(II)I" } : Jvm.MethodName)) ∈ TB := tb_5 75 rfl rfl
theorem w1036 : (Jvm.Cond.selects "ResidualTrees" ({ cls := "ResidualTrees", name := "tell", desc := "(II)I" } : Jvm.MethodName) ({ cls := "ResidualTrees", name := "tell", desc := "(II)I" } : Jvm.MethodName)) ∈ TB := tb_5 76 rfl rfl
theorem w1037 : (Jvm.Cond.code ({ cls := "ResidualTrees", name := "tell", desc := "(II)I" } : Jvm.MethodName) prog_1_method_19_code (5 : Nat) (Option.some Jvm.ClassFile.FieldType.int)) ∈ TB := tb_5 77 rfl rfl
theorem w1038 : (Jvm.Cond.methodLink "ResidualTrees" (286 : Nat) ({ cls := "ResidualTrees", name := "setToGain", desc := "(LResidualTrees$Tree;LResidualTrees$Node;)V" } : Jvm.MethodName)) ∈ TB := tb_5 78 rfl rfl
theorem w1040 : (Jvm.Cond.instanceMethod ({ cls := "ResidualTrees", name := "setToGain", desc := "(LResidualTrees$Tree;LResidualTrees$Node;)V" } : Jvm.MethodName)) ∈ TB := tb_5 80 rfl rfl
theorem w1041 : (Jvm.Cond.code ({ cls := "ResidualTrees", name := "setToGain", desc := "(LResidualTrees$Tree;LResidualTrees$Node;)V" } : Jvm.MethodName) prog_1_method_39_code (8 : Nat) (Option.none : Option Jvm.ClassFile.FieldType)) ∈ TB := tb_5 81 rfl rfl
theorem w1042 : (Jvm.Cond.methodLink "ResidualTrees" (357 : Nat) ({ cls := "ResidualTrees", name := "setToSides", desc := "(LResidualTrees$Whole;LResidualTrees$Whole;ILResidualTrees$Whole;ILResidualTrees$Whole;)V" } : Jvm.MethodName)) ∈ TB := tb_5 82 rfl rfl
theorem w1043 : (Jvm.Cond.methodLink "ResidualTrees" (290 : Nat) ({ cls := "ResidualTrees$Out", name := "write", desc := "()I" } : Jvm.MethodName)) ∈ TB := tb_5 83 rfl rfl
theorem w1044 : (Jvm.Cond.instanceMethod ({ cls := "ResidualTrees$Out", name := "write", desc := "()I" } : Jvm.MethodName)) ∈ TB := tb_5 84 rfl rfl
theorem w1045 : (Jvm.Cond.selects "ResidualTrees$Out" ({ cls := "ResidualTrees$Out", name := "write", desc := "()I" } : Jvm.MethodName) ({ cls := "ResidualTrees$Out", name := "write", desc := "()I" } : Jvm.MethodName)) ∈ TB := tb_5 85 rfl rfl
theorem w1046 : (Jvm.Cond.code ({ cls := "ResidualTrees$Out", name := "write", desc := "()I" } : Jvm.MethodName) prog_6_method_2_code (1 : Nat) (Option.some Jvm.ClassFile.FieldType.int)) ∈ TB := tb_5 86 rfl rfl
theorem w1048 : (Jvm.Cond.methodLink "ResidualTrees$Out" (36 : Nat) ({ cls := "ResidualTrees$Whole", name := "sign", desc := "()I" } : Jvm.MethodName)) ∈ TB := tb_5 88 rfl rfl
theorem w1049 : (Jvm.Cond.methodLink "ResidualTrees$Out" (40 : Nat) ({ cls := "ResidualTrees$Out", name := "append", desc := "(I)V" } : Jvm.MethodName)) ∈ TB := tb_5 89 rfl rfl
theorem w1051 : (Jvm.Cond.instanceMethod ({ cls := "ResidualTrees$Out", name := "append", desc := "(I)V" } : Jvm.MethodName)) ∈ TB := tb_5 91 rfl rfl
theorem w1052 : (Jvm.Cond.code ({ cls := "ResidualTrees$Out", name := "append", desc := "(I)V" } : Jvm.MethodName) prog_6_method_4_code (2 : Nat) (Option.none : Option Jvm.ClassFile.FieldType)) ∈ TB := tb_5 92 rfl rfl
theorem w1053 : (Jvm.Cond.methodLink "ResidualTrees$Out" (43 : Nat) ({ cls := "ResidualTrees$Out", name := "appendDigits", desc := "(LResidualTrees$Whole;)V" } : Jvm.MethodName)) ∈ TB := tb_5 93 rfl rfl
theorem w1055 : (Jvm.Cond.instanceMethod ({ cls := "ResidualTrees$Out", name := "appendDigits", desc := "(LResidualTrees$Whole;)V" } : Jvm.MethodName)) ∈ TB := tb_5 95 rfl rfl
theorem w1056 : (Jvm.Cond.code ({ cls := "ResidualTrees$Out", name := "appendDigits", desc := "(LResidualTrees$Whole;)V" } : Jvm.MethodName) prog_6_method_3_code (6 : Nat) (Option.none : Option Jvm.ClassFile.FieldType)) ∈ TB := tb_5 96 rfl rfl
theorem w1057 : (Jvm.Cond.constant "ResidualTrees$Out" (52 : Nat) (100000000 : Int32)) ∈ TB := tb_5 97 rfl rfl
theorem w1058 : (Jvm.Cond.methodLink "ResidualTreesLaw" (160 : Nat) ({ cls := "ResidualTreesLaw", name := "residual", desc := "(LResidualTrees;II[J)I" } : Jvm.MethodName)) ∈ TB := tb_5 98 rfl rfl
theorem w1059 : (Jvm.Cond.static ({ cls := "ResidualTreesLaw", name := "residual", desc := "(LResidualTrees;II[J)I" } : Jvm.MethodName)) ∈ TB := tb_5 99 rfl rfl
theorem w1060 : (Jvm.Cond.codeWith ({ cls := "ResidualTreesLaw", name := "residual", desc := "(LResidualTrees;II[J)I" } : Jvm.MethodName) method_20_code (5 : Nat) (Option.some Jvm.ClassFile.FieldType.int) [((0 : Nat), (10 : Nat), (13 : Nat), (13 : Nat))]) ∈ TB := tb_5 100 rfl rfl
theorem w1061 : (Jvm.Cond.methodLink "ResidualTreesLaw" (72 : Nat) ({ cls := "ResidualTrees", name := "residual", desc := "(II)I" } : Jvm.MethodName)) ∈ TB := tb_5 101 rfl rfl
theorem w1062 : (Jvm.Cond.instanceMethod ({ cls := "ResidualTrees", name := "residual", desc := "(II)I" } : Jvm.MethodName)) ∈ TB := tb_5 102 rfl rfl
theorem w1063 : (Jvm.Cond.selects "ResidualTrees" ({ cls := "ResidualTrees", name := "residual", desc := "(II)I" } : Jvm.MethodName) ({ cls := "ResidualTrees", name := "residual", desc := "(II)I" } : Jvm.MethodName)) ∈ TB := tb_5 103 rfl rfl
theorem w1064 : (Jvm.Cond.code ({ cls := "ResidualTrees", name := "residual", desc := "(II)I" } : Jvm.MethodName) prog_1_method_20_code (3 : Nat) (Option.some Jvm.ClassFile.FieldType.int)) ∈ TB := tb_5 104 rfl rfl
theorem w1065 : (Jvm.Cond.methodLink "ResidualTreesLaw" (163 : Nat) ({ cls := "ResidualTreesLaw", name := "ask", desc := "(LResidualTrees;II[J)I" } : Jvm.MethodName)) ∈ TB := tb_5 105 rfl rfl
theorem w1066 : (Jvm.Cond.static ({ cls := "ResidualTreesLaw", name := "ask", desc := "(LResidualTrees;II[J)I" } : Jvm.MethodName)) ∈ TB := tb_5 106 rfl rfl
theorem w1067 : (Jvm.Cond.codeWith ({ cls := "ResidualTreesLaw", name := "ask", desc := "(LResidualTrees;II[J)I" } : Jvm.MethodName) method_21_code (5 : Nat) (Option.some Jvm.ClassFile.FieldType.int) [((0 : Nat), (10 : Nat), (13 : Nat), (13 : Nat))]) ∈ TB := tb_5 107 rfl rfl
theorem w1068 : (Jvm.Cond.methodLink "ResidualTreesLaw" (75 : Nat) ({ cls := "ResidualTrees", name := "ask", desc := "(II)I" } : Jvm.MethodName)) ∈ TB := tb_5 108 rfl rfl
theorem w1069 : (Jvm.Cond.instanceMethod ({ cls := "ResidualTrees", name := "ask", desc := "(II)I" } : Jvm.MethodName)) ∈ TB := tb_5 109 rfl rfl
theorem w1070 : (Jvm.Cond.selects "ResidualTrees" ({ cls := "ResidualTrees", name := "ask", desc := "(II)I" } : Jvm.MethodName) ({ cls := "ResidualTrees", name := "ask", desc := "(II)I" } : Jvm.MethodName)) ∈ TB := tb_5 110 rfl rfl
theorem w1071 : (Jvm.Cond.code ({ cls := "ResidualTrees", name := "ask", desc := "(II)I" } : Jvm.MethodName) prog_1_method_21_code (3 : Nat) (Option.some Jvm.ClassFile.FieldType.int)) ∈ TB := tb_5 111 rfl rfl
theorem w1072 : (Jvm.Cond.methodLink "ResidualTrees" (297 : Nat) ({ cls := "ResidualTrees", name := "isNumber", desc := "(I)Z" } : Jvm.MethodName)) ∈ TB := tb_5 112 rfl rfl
theorem w1073 : (Jvm.Cond.methodLink "ResidualTreesLaw" (166 : Nat) ({ cls := "ResidualTreesLaw", name := "predict", desc := "(LResidualTrees;I[J)I" } : Jvm.MethodName)) ∈ TB := tb_5 113 rfl rfl
theorem w1074 : (Jvm.Cond.static ({ cls := "ResidualTreesLaw", name := "predict", desc := "(LResidualTrees;I[J)I" } : Jvm.MethodName)) ∈ TB := tb_5 114 rfl rfl
theorem w1075 : (Jvm.Cond.codeWith ({ cls := "ResidualTreesLaw", name := "predict", desc := "(LResidualTrees;I[J)I" } : Jvm.MethodName) method_22_code (4 : Nat) (Option.some Jvm.ClassFile.FieldType.int) [((0 : Nat), (9 : Nat), (12 : Nat), (13 : Nat))]) ∈ TB := tb_5 115 rfl rfl
theorem w1076 : (Jvm.Cond.methodLink "ResidualTreesLaw" (78 : Nat) ({ cls := "ResidualTrees", name := "predict", desc := "(I)I" } : Jvm.MethodName)) ∈ TB := tb_5 116 rfl rfl
theorem w1077 : (Jvm.Cond.instanceMethod ({ cls := "ResidualTrees", name := "predict", desc := "(I)I" } : Jvm.MethodName)) ∈ TB := tb_5 117 rfl rfl
theorem w1078 : (Jvm.Cond.selects "ResidualTrees" ({ cls := "ResidualTrees", name := "predict", desc := "(I)I" } : Jvm.MethodName) ({ cls := "ResidualTrees", name := "predict", desc := "(I)I" } : Jvm.MethodName)) ∈ TB := tb_5 118 rfl rfl
theorem w1079 : (Jvm.Cond.code ({ cls := "ResidualTrees", name := "predict", desc := "(I)I" } : Jvm.MethodName) prog_1_method_22_code (2 : Nat) (Option.some Jvm.ClassFile.FieldType.int)) ∈ TB := tb_5 119 rfl rfl
theorem w1080 : (Jvm.Cond.methodLink "ResidualTrees" (300 : Nat) ({ cls := "ResidualTrees$Whole", name := "turn", desc := "()V" } : Jvm.MethodName)) ∈ TB := tb_5 120 rfl rfl
theorem w1081 : (Jvm.Cond.instanceMethod ({ cls := "ResidualTrees$Whole", name := "turn", desc := "()V" } : Jvm.MethodName)) ∈ TB := tb_5 121 rfl rfl
theorem w1082 : (Jvm.Cond.selects "ResidualTrees$Whole" ({ cls := "ResidualTrees$Whole", name := "turn", desc := "()V" } : Jvm.MethodName) ({ cls := "ResidualTrees$Whole", name := "turn", desc := "()V" } : Jvm.MethodName)) ∈ TB := tb_5 122 rfl rfl
theorem w1083 : (Jvm.Cond.code ({ cls := "ResidualTrees$Whole", name := "turn", desc := "()V" } : Jvm.MethodName) prog_11_method_5_code (1 : Nat) (Option.none : Option Jvm.ClassFile.FieldType)) ∈ TB := tb_5 123 rfl rfl
theorem w1084 : (Jvm.Cond.methodLink "ResidualTreesLaw" (169 : Nat) ({ cls := "ResidualTreesLaw", name := "error", desc := "(LResidualTrees;JI[J)I" } : Jvm.MethodName)) ∈ TB := tb_5 124 rfl rfl
theorem w1085 : (Jvm.Cond.static ({ cls := "ResidualTreesLaw", name := "error", desc := "(LResidualTrees;JI[J)I" } : Jvm.MethodName)) ∈ TB := tb_5 125 rfl rfl
theorem w1086 : (Jvm.Cond.codeWith ({ cls := "ResidualTreesLaw", name := "error", desc := "(LResidualTrees;JI[J)I" } : Jvm.MethodName) method_23_code (6 : Nat) (Option.some Jvm.ClassFile.FieldType.int) [((0 : Nat), (11 : Nat), (14 : Nat), (13 : Nat))]) ∈ TB := tb_5 126 rfl rfl
theorem w1087 : (Jvm.Cond.methodLink "ResidualTreesLaw" (81 : Nat) ({ cls := "ResidualTrees", name := "error", desc := "(JI)I" } : Jvm.MethodName)) ∈ TB := tb_5 127 rfl rfl
theorem w1088 : (Jvm.Cond.instanceMethod ({ cls := "ResidualTrees", name := "error", desc := "(JI)I" } : Jvm.MethodName)) ∈ TB := tb_5 128 rfl rfl
theorem w1089 : (Jvm.Cond.selects "ResidualTrees" ({ cls := "ResidualTrees", name := "error", desc := "(JI)I" } : Jvm.MethodName) ({ cls := "ResidualTrees", name := "error", desc := "(JI)I" } : Jvm.MethodName)) ∈ TB := tb_5 129 rfl rfl
theorem w1090 : (Jvm.Cond.code ({ cls := "ResidualTrees", name := "error", desc := "(JI)I" } : Jvm.MethodName) prog_1_method_23_code (4 : Nat) (Option.some Jvm.ClassFile.FieldType.int)) ∈ TB := tb_5 130 rfl rfl
theorem w1091 : (Jvm.Cond.classLink "ResidualTreesLaw" (86 : Nat) "ResidualTreesModel") ∈ TB := tb_5 131 rfl rfl
theorem w1092 : (Jvm.Cond.instantiable "ResidualTreesModel" (60 : Nat)) ∈ TB := tb_5 132 rfl rfl
theorem w1093 : (Jvm.Cond.methodLink "ResidualTreesLaw" (88 : Nat) ({ cls := "ResidualTreesModel", name := "<init>", desc := "()V" } : Jvm.MethodName)) ∈ TB := tb_5 133 rfl rfl
theorem w1094 : (Jvm.Cond.instanceMethod ({ cls := "ResidualTreesModel", name := "<init>", desc := "()V" } : Jvm.MethodName)) ∈ TB := tb_5 134 rfl rfl
theorem w1095 : (Jvm.Cond.code ({ cls := "ResidualTreesModel", name := "<init>", desc := "()V" } : Jvm.MethodName) prog_13_method_1_code (1 : Nat) (Option.none : Option Jvm.ClassFile.FieldType)) ∈ TB := tb_5 135 rfl rfl
theorem w1096 : (Jvm.Cond.methodLink "ResidualTreesModel" (1 : Nat) ({ cls := "java/lang/Object", name := "<init>", desc := "()V" } : Jvm.MethodName)) ∈ TB := tb_5 136 rfl rfl
theorem w1097 : (Jvm.Cond.constant "ResidualTreesModel" (59 : Nat) (65472 : Int32)) ∈ TB := tb_5 137 rfl rfl
theorem w1098 : (Jvm.Cond.methodLink "ResidualTreesModel" (140 : Nat) ({ cls := "ResidualTreesModel", name := "clear", desc := "(I)V" } : Jvm.MethodName)) ∈ TB := tb_5 138 rfl rfl
theorem w1100 : (Jvm.Cond.instanceMethod ({ cls := "ResidualTreesModel", name := "clear", desc := "(I)V" } : Jvm.MethodName)) ∈ TB := tb_5 140 rfl rfl
theorem w1101 : (Jvm.Cond.code ({ cls := "ResidualTreesModel", name := "clear", desc := "(I)V" } : Jvm.MethodName) prog_13_method_26_code (3 : Nat) (Option.none : Option Jvm.ClassFile.FieldType)) ∈ TB := tb_5 141 rfl rfl
theorem w1102 : (Jvm.Cond.constantLong "ResidualTreesModel" (217 : Nat) (-1 : Int64)) ∈ TB := tb_5 142 rfl rfl
theorem w1103 : (Jvm.Cond.constant "ResidualTreesModel" (226 : Nat) (-2147483648 : Int32)) ∈ TB := tb_5 143 rfl rfl
theorem w1104 : (Jvm.Cond.fieldLink "ResidualTreesModel" (7 : Nat) "ResidualTreesModel" "prime" "[I") ∈ TB := tb_5 144 rfl rfl
theorem w1105 : (Jvm.Cond.fieldLink "ResidualTreesModel" (144 : Nat) "ResidualTreesModel" "fault" "I") ∈ TB := tb_5 145 rfl rfl
theorem w1106 : (Jvm.Cond.fieldLink "ResidualTreesModel" (190 : Nat) "ResidualTreesModel" "columns" "I") ∈ TB := tb_5 146 rfl rfl
theorem w1107 : (Jvm.Cond.fieldLink "ResidualTreesModel" (193 : Nat) "ResidualTreesModel" "rows" "I") ∈ TB := tb_5 147 rfl rfl
theorem w1108 : (Jvm.Cond.fieldLink "ResidualTreesModel" (13 : Nat) "ResidualTreesModel" "targets" "[I") ∈ TB := tb_5 148 rfl rfl
theorem w1109 : (Jvm.Cond.fieldLink "ResidualTreesModel" (16 : Nat) "ResidualTreesModel" "values" "[I") ∈ TB := tb_5 149 rfl rfl
theorem w1110 : (Jvm.Cond.fieldLink "ResidualTreesModel" (19 : Nat) "ResidualTreesModel" "isKinds" "[Z") ∈ TB := tb_5 150 rfl rfl
theorem w1111 : (Jvm.Cond.fieldLink "ResidualTreesModel" (23 : Nat) "ResidualTreesModel" "edges" "[I") ∈ TB := tb_5 151 rfl rfl
theorem w1112 : (Jvm.Cond.fieldLink "ResidualTreesModel" (26 : Nat) "ResidualTreesModel" "edgeMany" "[I") ∈ TB := tb_5 152 rfl rfl
theorem w1113 : (Jvm.Cond.fieldLink "ResidualTreesModel" (29 : Nat) "ResidualTreesModel" "question" "[I") ∈ TB := tb_5 153 rfl rfl
theorem w1114 : (Jvm.Cond.fieldLink "ResidualTreesModel" (202 : Nat) "ResidualTreesModel" "depth" "I") ∈ TB := tb_5 154 rfl rfl
theorem w1115 : (Jvm.Cond.fieldLink "ResidualTreesModel" (205 : Nat) "ResidualTreesModel" "least" "I") ∈ TB := tb_5 155 rfl rfl
theorem w1116 : (Jvm.Cond.fieldLink "ResidualTreesModel" (208 : Nat) "ResidualTreesModel" "weight" "I") ∈ TB := tb_5 156 rfl rfl
theorem w1117 : (Jvm.Cond.fieldLink "ResidualTreesModel" (211 : Nat) "ResidualTreesModel" "up" "I") ∈ TB := tb_5 157 rfl rfl
theorem w1118 : (Jvm.Cond.fieldLink "ResidualTreesModel" (214 : Nat) "ResidualTreesModel" "low" "I") ∈ TB := tb_5 158 rfl rfl
theorem w1119 : (Jvm.Cond.fieldLink "ResidualTreesModel" (219 : Nat) "ResidualTreesModel" "sampleBits" "J") ∈ TB := tb_5 159 rfl rfl
