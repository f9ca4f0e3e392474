theorem tw_0 : (Jvm.Cond.initialized "ScanCoderLaw") ∈ gw_tbl := gw_mem (i := 0) (by decide +kernel) rfl
theorem tw_1 : (Jvm.Cond.initialized "ScanCoder") ∈ gw_tbl := gw_mem (i := 1) (by decide +kernel) rfl
theorem tw_2 : (Jvm.Cond.initialized "ScanCoder$Picture") ∈ gw_tbl := gw_mem (i := 2) (by decide +kernel) rfl
theorem tw_3 : (Jvm.Cond.initialized "java/lang/Math") ∈ gw_tbl := gw_mem (i := 3) (by decide +kernel) rfl
theorem tw_4 : (Jvm.Cond.initialized "java/util/Arrays") ∈ gw_tbl := gw_mem (i := 4) (by decide +kernel) rfl
theorem tw_5 : (Jvm.Cond.initialized "ScanCoder$Course") ∈ gw_tbl := gw_mem (i := 5) (by decide +kernel) rfl
theorem tw_6 : (Jvm.Cond.initialized "java/lang/Integer") ∈ gw_tbl := gw_mem (i := 6) (by decide +kernel) rfl
theorem tw_7 : (Jvm.Cond.initialized "ScanCoder$Draft") ∈ gw_tbl := gw_mem (i := 7) (by decide +kernel) rfl
theorem tw_8 : (Jvm.Cond.initialized "ScanCoder$Table") ∈ gw_tbl := gw_mem (i := 8) (by decide +kernel) rfl
theorem tw_9 : (Jvm.Cond.initialized "ScanCoder$Store") ∈ gw_tbl := gw_mem (i := 9) (by decide +kernel) rfl
theorem tw_10 : (Jvm.Cond.initialized "ScanCoder$Sink") ∈ gw_tbl := gw_mem (i := 10) (by decide +kernel) rfl
theorem tw_11 : (Jvm.Cond.initialized "ScanCoder$Counter") ∈ gw_tbl := gw_mem (i := 11) (by decide +kernel) rfl
theorem tw_12 : (Jvm.Cond.initialized "ScanCoder$BitWriter") ∈ gw_tbl := gw_mem (i := 12) (by decide +kernel) rfl
theorem tw_13 : (Jvm.Cond.initialized "ScanCoder$Encoder") ∈ gw_tbl := gw_mem (i := 13) (by decide +kernel) rfl
theorem tw_14 : (Jvm.Cond.initialized "ScanCoder$Decoder") ∈ gw_tbl := gw_mem (i := 14) (by decide +kernel) rfl
theorem tw_15 : (Jvm.Cond.initialized "ScanCoder$BitReader") ∈ gw_tbl := gw_mem (i := 15) (by decide +kernel) rfl
theorem tw_16 : (Jvm.Cond.initialized "ScanCoderModel") ∈ gw_tbl := gw_mem (i := 16) (by decide +kernel) rfl
theorem tw_17 : (Jvm.Cond.initialized "java/lang/System") ∈ gw_tbl := gw_mem (i := 17) (by decide +kernel) rfl
theorem tw_18 : (Jvm.Cond.classLink "ScanCoderLaw" (7 : Nat) "ScanCoder") ∈ gw_tbl := gw_mem (i := 18) (by decide +kernel) rfl
theorem tw_19 : (Jvm.Cond.instantiable "ScanCoder" (9 : Nat)) ∈ gw_tbl := gw_mem (i := 19) (by decide +kernel) rfl
theorem tw_20 : (Jvm.Cond.methodLink "ScanCoderLaw" (9 : Nat) ({ cls := "ScanCoder", name := "<init>", desc := "()V" } : Jvm.MethodName)) ∈ gw_tbl := gw_mem (i := 20) (by decide +kernel) rfl
theorem tw_21 : (Jvm.Cond.instanceMethod ({ cls := "ScanCoder", name := "<init>", desc := "()V" } : Jvm.MethodName)) ∈ gw_tbl := gw_mem (i := 21) (by decide +kernel) rfl
theorem tw_22 : (Jvm.Cond.code ({ cls := "ScanCoder", name := "<init>", desc := "()V" } : Jvm.MethodName) prog_1_method_1_code (2 : Nat) (Option.none : Option Jvm.ClassFile.FieldType)) ∈ gw_tbl := gw_mem (i := 22) (by decide +kernel) rfl
theorem tw_23 : (Jvm.Cond.methodLink "ScanCoder" (1 : Nat) ({ cls := "java/lang/Object", name := "<init>", desc := "()V" } : Jvm.MethodName)) ∈ gw_tbl := gw_mem (i := 23) (by decide +kernel) rfl
theorem tw_24 : (Jvm.Cond.instanceMethod ({ cls := "java/lang/Object", name := "<init>", desc := "()V" } : Jvm.MethodName)) ∈ gw_tbl := gw_mem (i := 24) (by decide +kernel) rfl
theorem tw_25 : (Jvm.Cond.code ({ cls := "java/lang/Object", name := "<init>", desc := "()V" } : Jvm.MethodName) object_method_1_code (1 : Nat) (Option.none : Option Jvm.ClassFile.FieldType)) ∈ gw_tbl := gw_mem (i := 25) (by decide +kernel) rfl
theorem tw_26 : (Jvm.Cond.classLink "ScanCoder" (7 : Nat) "ScanCoder$Picture") ∈ gw_tbl := gw_mem (i := 26) (by decide +kernel) rfl
theorem tw_27 : (Jvm.Cond.instantiable "ScanCoder$Picture" (12 : Nat)) ∈ gw_tbl := gw_mem (i := 27) (by decide +kernel) rfl
theorem tw_28 : (Jvm.Cond.methodLink "ScanCoder" (9 : Nat) ({ cls := "ScanCoder$Picture", name := "<init>", desc := "()V" } : Jvm.MethodName)) ∈ gw_tbl := gw_mem (i := 28) (by decide +kernel) rfl
theorem tw_29 : (Jvm.Cond.instanceMethod ({ cls := "ScanCoder$Picture", name := "<init>", desc := "()V" } : Jvm.MethodName)) ∈ gw_tbl := gw_mem (i := 29) (by decide +kernel) rfl
theorem tw_30 : (Jvm.Cond.code ({ cls := "ScanCoder$Picture", name := "<init>", desc := "()V" } : Jvm.MethodName) prog_9_method_1_code (1 : Nat) (Option.none : Option Jvm.ClassFile.FieldType)) ∈ gw_tbl := gw_mem (i := 30) (by decide +kernel) rfl
theorem tw_31 : (Jvm.Cond.methodLink "ScanCoder$Picture" (3 : Nat) ({ cls := "java/lang/Object", name := "<init>", desc := "()V" } : Jvm.MethodName)) ∈ gw_tbl := gw_mem (i := 31) (by decide +kernel) rfl
theorem tw_32 : (Jvm.Cond.methodLink "ScanCoder$Picture" (37 : Nat) ({ cls := "ScanCoder$Picture", name := "become", desc := "(IIII)V" } : Jvm.MethodName)) ∈ gw_tbl := gw_mem (i := 32) (by decide +kernel) rfl
theorem tw_33 : (Jvm.Cond.instanceMethod ({ cls := "ScanCoder$Picture", name := "become", desc := "(IIII)V" } : Jvm.MethodName)) ∈ gw_tbl := gw_mem (i := 33) (by decide +kernel) rfl
theorem tw_34 : (Jvm.Cond.selects "ScanCoder$Picture" ({ cls := "ScanCoder$Picture", name := "become", desc := "(IIII)V" } : Jvm.MethodName) ({ cls := "ScanCoder$Picture", name := "become", desc := "(IIII)V" } : Jvm.MethodName)) ∈ gw_tbl := gw_mem (i := 34) (by decide +kernel) rfl
theorem tw_35 : (Jvm.Cond.code ({ cls := "ScanCoder$Picture", name := "become", desc := "(IIII)V" } : Jvm.MethodName) prog_9_method_7_code (8 : Nat) (Option.none : Option Jvm.ClassFile.FieldType)) ∈ gw_tbl := gw_mem (i := 35) (by decide +kernel) rfl
theorem tw_36 : (Jvm.Cond.methodLink "ScanCoder$Picture" (41 : Nat) ({ cls := "ScanCoder$Picture", name := "greatest", desc := "(II)I" } : Jvm.MethodName)) ∈ gw_tbl := gw_mem (i := 36) (by decide +kernel) rfl
theorem tw_37 : (Jvm.Cond.static ({ cls := "ScanCoder$Picture", name := "greatest", desc := "(II)I" } : Jvm.MethodName)) ∈ gw_tbl := gw_mem (i := 37) (by decide +kernel) rfl
theorem tw_38 : (Jvm.Cond.code ({ cls := "ScanCoder$Picture", name := "greatest", desc := "(II)I" } : Jvm.MethodName) prog_9_method_5_code (4 : Nat) (Option.some Jvm.ClassFile.FieldType.int)) ∈ gw_tbl := gw_mem (i := 38) (by decide +kernel) rfl
theorem tw_39 : (Jvm.Cond.methodLink "ScanCoder$Picture" (48 : Nat) ({ cls := "ScanCoder$Picture", name := "factor", desc := "(II)I" } : Jvm.MethodName)) ∈ gw_tbl := gw_mem (i := 39) (by decide +kernel) rfl
theorem tw_40 : (Jvm.Cond.static ({ cls := "ScanCoder$Picture", name := "factor", desc := "(II)I" } : Jvm.MethodName)) ∈ gw_tbl := gw_mem (i := 40) (by decide +kernel) rfl
theorem tw_41 : (Jvm.Cond.code ({ cls := "ScanCoder$Picture", name := "factor", desc := "(II)I" } : Jvm.MethodName) prog_9_method_4_code (2 : Nat) (Option.some Jvm.ClassFile.FieldType.int)) ∈ gw_tbl := gw_mem (i := 41) (by decide +kernel) rfl
theorem tw_42 : (Jvm.Cond.methodLink "ScanCoder$Picture" (51 : Nat) ({ cls := "java/lang/Math", name := "max", desc := "(II)I" } : Jvm.MethodName)) ∈ gw_tbl := gw_mem (i := 42) (by decide +kernel) rfl
theorem tw_43 : (Jvm.Cond.static ({ cls := "java/lang/Math", name := "max", desc := "(II)I" } : Jvm.MethodName)) ∈ gw_tbl := gw_mem (i := 43) (by decide +kernel) rfl
theorem tw_44 : (Jvm.Cond.code ({ cls := "java/lang/Math", name := "max", desc := "(II)I" } : Jvm.MethodName) prog_17_method_65_code (2 : Nat) (Option.some Jvm.ClassFile.FieldType.int)) ∈ gw_tbl := gw_mem (i := 44) (by decide +kernel) rfl
theorem tw_45 : (Jvm.Cond.methodLink "ScanCoder$Picture" (45 : Nat) ({ cls := "ScanCoder$Picture", name := "divideUp", desc := "(II)I" } : Jvm.MethodName)) ∈ gw_tbl := gw_mem (i := 45) (by decide +kernel) rfl
theorem tw_46 : (Jvm.Cond.static ({ cls := "ScanCoder$Picture", name := "divideUp", desc := "(II)I" } : Jvm.MethodName)) ∈ gw_tbl := gw_mem (i := 46) (by decide +kernel) rfl
theorem tw_47 : (Jvm.Cond.code ({ cls := "ScanCoder$Picture", name := "divideUp", desc := "(II)I" } : Jvm.MethodName) prog_9_method_6_code (2 : Nat) (Option.some Jvm.ClassFile.FieldType.int)) ∈ gw_tbl := gw_mem (i := 47) (by decide +kernel) rfl
theorem tw_48 : (Jvm.Cond.methodLink "ScanCoder$Picture" (69 : Nat) ({ cls := "ScanCoder$Picture", name := "clear", desc := "()V" } : Jvm.MethodName)) ∈ gw_tbl := gw_mem (i := 48) (by decide +kernel) rfl
theorem tw_50 : (Jvm.Cond.instanceMethod ({ cls := "ScanCoder$Picture", name := "clear", desc := "()V" } : Jvm.MethodName)) ∈ gw_tbl := gw_mem (i := 50) (by decide +kernel) rfl
theorem tw_51 : (Jvm.Cond.code ({ cls := "ScanCoder$Picture", name := "clear", desc := "()V" } : Jvm.MethodName) prog_9_method_8_code (3 : Nat) (Option.none : Option Jvm.ClassFile.FieldType)) ∈ gw_tbl := gw_mem (i := 51) (by decide +kernel) rfl
theorem tw_52 : (Jvm.Cond.methodLink "ScanCoder$Picture" (72 : Nat) ({ cls := "java/lang/Math", name := "min", desc := "(II)I" } : Jvm.MethodName)) ∈ gw_tbl := gw_mem (i := 52) (by decide +kernel) rfl
theorem tw_53 : (Jvm.Cond.static ({ cls := "java/lang/Math", name := "min", desc := "(II)I" } : Jvm.MethodName)) ∈ gw_tbl := gw_mem (i := 53) (by decide +kernel) rfl
theorem tw_54 : (Jvm.Cond.code ({ cls := "java/lang/Math", name := "min", desc := "(II)I" } : Jvm.MethodName) prog_17_method_69_code (2 : Nat) (Option.some Jvm.ClassFile.FieldType.int)) ∈ gw_tbl := gw_mem (i := 54) (by decide +kernel) rfl
theorem tw_55 : (Jvm.Cond.methodLink "ScanCoder$Picture" (75 : Nat) ({ cls := "java/util/Arrays", name := "fill", desc := "([SS)V" } : Jvm.MethodName)) ∈ gw_tbl := gw_mem (i := 55) (by decide +kernel) rfl
theorem tw_56 : (Jvm.Cond.static ({ cls := "java/util/Arrays", name := "fill", desc := "([SS)V" } : Jvm.MethodName)) ∈ gw_tbl := gw_mem (i := 56) (by decide +kernel) rfl
theorem tw_57 : (Jvm.Cond.code ({ cls := "java/util/Arrays", name := "fill", desc := "([SS)V" } : Jvm.MethodName) prog_19_method_105_code (4 : Nat) (Option.none : Option Jvm.ClassFile.FieldType)) ∈ gw_tbl := gw_mem (i := 57) (by decide +kernel) rfl
theorem tw_58 : (Jvm.Cond.fieldLink "ScanCoder$Picture" (9 : Nat) "ScanCoder$Picture" "h" "[I") ∈ gw_tbl := gw_mem (i := 58) (by decide +kernel) rfl
theorem tw_59 : (Jvm.Cond.fieldLink "ScanCoder$Course" (107 : Nat) "ScanCoder$Picture" "h" "[I") ∈ gw_tbl := gw_mem (i := 59) (by decide +kernel) rfl
theorem tw_60 : (Jvm.Cond.fieldLink "ScanCoder$Picture" (15 : Nat) "ScanCoder$Picture" "v" "[I") ∈ gw_tbl := gw_mem (i := 60) (by decide +kernel) rfl
theorem tw_61 : (Jvm.Cond.fieldLink "ScanCoder$Course" (110 : Nat) "ScanCoder$Picture" "v" "[I") ∈ gw_tbl := gw_mem (i := 61) (by decide +kernel) rfl
theorem tw_62 : (Jvm.Cond.fieldLink "ScanCoder$Picture" (18 : Nat) "ScanCoder$Picture" "across" "[I") ∈ gw_tbl := gw_mem (i := 62) (by decide +kernel) rfl
theorem tw_63 : (Jvm.Cond.fieldLink "ScanCoder$Course" (113 : Nat) "ScanCoder$Picture" "across" "[I") ∈ gw_tbl := gw_mem (i := 63) (by decide +kernel) rfl
theorem tw_64 : (Jvm.Cond.fieldLink "ScanCoder$Picture" (21 : Nat) "ScanCoder$Picture" "down" "[I") ∈ gw_tbl := gw_mem (i := 64) (by decide +kernel) rfl
theorem tw_65 : (Jvm.Cond.fieldLink "ScanCoder$Picture" (24 : Nat) "ScanCoder$Picture" "ownAcross" "[I") ∈ gw_tbl := gw_mem (i := 65) (by decide +kernel) rfl
theorem tw_66 : (Jvm.Cond.fieldLink "ScanCoder$Course" (81 : Nat) "ScanCoder$Picture" "ownAcross" "[I") ∈ gw_tbl := gw_mem (i := 66) (by decide +kernel) rfl
theorem tw_67 : (Jvm.Cond.fieldLink "ScanCoder$Picture" (27 : Nat) "ScanCoder$Picture" "ownDown" "[I") ∈ gw_tbl := gw_mem (i := 67) (by decide +kernel) rfl
theorem tw_68 : (Jvm.Cond.fieldLink "ScanCoder$Course" (84 : Nat) "ScanCoder$Picture" "ownDown" "[I") ∈ gw_tbl := gw_mem (i := 68) (by decide +kernel) rfl
theorem tw_69 : (Jvm.Cond.fieldLink "ScanCoder$Picture" (30 : Nat) "ScanCoder$Picture" "start" "[I") ∈ gw_tbl := gw_mem (i := 69) (by decide +kernel) rfl
theorem tw_70 : (Jvm.Cond.fieldLink "ScanCoder$Course" (49 : Nat) "ScanCoder$Picture" "many" "I") ∈ gw_tbl := gw_mem (i := 70) (by decide +kernel) rfl
theorem tw_71 : (Jvm.Cond.fieldLink "ScanCoder" (126 : Nat) "ScanCoder$Picture" "many" "I") ∈ gw_tbl := gw_mem (i := 71) (by decide +kernel) rfl
theorem tw_72 : (Jvm.Cond.fieldLink "ScanCoder$Picture" (56 : Nat) "ScanCoder$Picture" "many" "I") ∈ gw_tbl := gw_mem (i := 72) (by decide +kernel) rfl
theorem tw_73 : (Jvm.Cond.fieldLink "ScanCoder$Picture" (60 : Nat) "ScanCoder$Picture" "unitsAcross" "I") ∈ gw_tbl := gw_mem (i := 73) (by decide +kernel) rfl
theorem tw_74 : (Jvm.Cond.fieldLink "ScanCoder$Course" (97 : Nat) "ScanCoder$Picture" "unitsAcross" "I") ∈ gw_tbl := gw_mem (i := 74) (by decide +kernel) rfl
theorem tw_75 : (Jvm.Cond.fieldLink "ScanCoder$Picture" (63 : Nat) "ScanCoder$Picture" "unitsDown" "I") ∈ gw_tbl := gw_mem (i := 75) (by decide +kernel) rfl
theorem tw_76 : (Jvm.Cond.fieldLink "ScanCoder$Course" (100 : Nat) "ScanCoder$Picture" "unitsDown" "I") ∈ gw_tbl := gw_mem (i := 76) (by decide +kernel) rfl
theorem tw_77 : (Jvm.Cond.fieldLink "ScanCoder$Picture" (66 : Nat) "ScanCoder$Picture" "blocks" "I") ∈ gw_tbl := gw_mem (i := 77) (by decide +kernel) rfl
theorem tw_78 : (Jvm.Cond.fieldLink "ScanCoder" (187 : Nat) "ScanCoder$Picture" "blocks" "I") ∈ gw_tbl := gw_mem (i := 78) (by decide +kernel) rfl
theorem tw_79 : (Jvm.Cond.fieldLink "ScanCoder$Picture" (33 : Nat) "ScanCoder$Picture" "coefficients" "[S") ∈ gw_tbl := gw_mem (i := 79) (by decide +kernel) rfl
theorem tw_80 : (Jvm.Cond.fieldLink "ScanCoder$Encoder" (82 : Nat) "ScanCoder$Picture" "coefficients" "[S") ∈ gw_tbl := gw_mem (i := 80) (by decide +kernel) rfl
theorem tw_81 : (Jvm.Cond.fieldLink "ScanCoder$Decoder" (111 : Nat) "ScanCoder$Picture" "coefficients" "[S") ∈ gw_tbl := gw_mem (i := 81) (by decide +kernel) rfl
theorem tw_82 : (Jvm.Cond.fieldLink "ScanCoder" (148 : Nat) "ScanCoder$Picture" "coefficients" "[S") ∈ gw_tbl := gw_mem (i := 82) (by decide +kernel) rfl
theorem tw_108 : (Jvm.Cond.arrayClass Jvm.ClassFile.FieldType.int) ∈ gw_tbl := gw_mem (i := 108) (by decide +kernel) rfl
theorem tw_109 : (Jvm.Cond.arrayClass Jvm.ClassFile.FieldType.short) ∈ gw_tbl := gw_mem (i := 109) (by decide +kernel) rfl
theorem tw_110 : (Jvm.Cond.classLink "ScanCoder" (16 : Nat) "ScanCoder$Course") ∈ gw_tbl := gw_mem (i := 110) (by decide +kernel) rfl
theorem tw_111 : (Jvm.Cond.instantiable "ScanCoder$Course" (13 : Nat)) ∈ gw_tbl := gw_mem (i := 111) (by decide +kernel) rfl
theorem tw_112 : (Jvm.Cond.methodLink "ScanCoder" (18 : Nat) ({ cls := "ScanCoder$Course", name := "<init>", desc := "(LScanCoder$Picture;)V" } : Jvm.MethodName)) ∈ gw_tbl := gw_mem (i := 112) (by decide +kernel) rfl
theorem tw_113 : (Jvm.Cond.instanceMethod ({ cls := "ScanCoder$Course", name := "<init>", desc := "(LScanCoder$Picture;)V" } : Jvm.MethodName)) ∈ gw_tbl := gw_mem (i := 113) (by decide +kernel) rfl
theorem tw_114 : (Jvm.Cond.code ({ cls := "ScanCoder$Course", name := "<init>", desc := "(LScanCoder$Picture;)V" } : Jvm.MethodName) prog_5_method_1_code (2 : Nat) (Option.none : Option Jvm.ClassFile.FieldType)) ∈ gw_tbl := gw_mem (i := 114) (by decide +kernel) rfl
theorem tw_115 : (Jvm.Cond.methodLink "ScanCoder$Course" (3 : Nat) ({ cls := "java/lang/Object", name := "<init>", desc := "()V" } : Jvm.MethodName)) ∈ gw_tbl := gw_mem (i := 115) (by decide +kernel) rfl
theorem tw_116 : (Jvm.Cond.methodLink "ScanCoder$Course" (28 : Nat) ({ cls := "ScanCoder$Course", name := "startAnew", desc := "()V" } : Jvm.MethodName)) ∈ gw_tbl := gw_mem (i := 116) (by decide +kernel) rfl
theorem tw_117 : (Jvm.Cond.instanceMethod ({ cls := "ScanCoder$Course", name := "startAnew", desc := "()V" } : Jvm.MethodName)) ∈ gw_tbl := gw_mem (i := 117) (by decide +kernel) rfl
theorem tw_118 : (Jvm.Cond.selects "ScanCoder$Course" ({ cls := "ScanCoder$Course", name := "startAnew", desc := "()V" } : Jvm.MethodName) ({ cls := "ScanCoder$Course", name := "startAnew", desc := "()V" } : Jvm.MethodName)) ∈ gw_tbl := gw_mem (i := 118) (by decide +kernel) rfl
theorem tw_119 : (Jvm.Cond.code ({ cls := "ScanCoder$Course", name := "startAnew", desc := "()V" } : Jvm.MethodName) prog_5_method_2_code (1 : Nat) (Option.none : Option Jvm.ClassFile.FieldType)) ∈ gw_tbl := gw_mem (i := 119) (by decide +kernel) rfl
theorem tw_120 : (Jvm.Cond.methodLink "ScanCoder$Course" (31 : Nat) ({ cls := "java/util/Arrays", name := "fill", desc := "([II)V" } : Jvm.MethodName)) ∈ gw_tbl := gw_mem (i := 120) (by decide +kernel) rfl
theorem tw_121 : (Jvm.Cond.static ({ cls := "java/util/Arrays", name := "fill", desc := "([II)V" } : Jvm.MethodName)) ∈ gw_tbl := gw_mem (i := 121) (by decide +kernel) rfl
theorem tw_122 : (Jvm.Cond.code ({ cls := "java/util/Arrays", name := "fill", desc := "([II)V" } : Jvm.MethodName) prog_19_method_103_code (4 : Nat) (Option.none : Option Jvm.ClassFile.FieldType)) ∈ gw_tbl := gw_mem (i := 122) (by decide +kernel) rfl
theorem tw_123 : (Jvm.Cond.methodLink "ScanCoder$Course" (41 : Nat) ({ cls := "ScanCoder$Course", name := "choose", desc := "(IIII)V" } : Jvm.MethodName)) ∈ gw_tbl := gw_mem (i := 123) (by decide +kernel) rfl
theorem tw_124 : (Jvm.Cond.instanceMethod ({ cls := "ScanCoder$Course", name := "choose", desc := "(IIII)V" } : Jvm.MethodName)) ∈ gw_tbl := gw_mem (i := 124) (by decide +kernel) rfl
theorem tw_125 : (Jvm.Cond.selects "ScanCoder$Course" ({ cls := "ScanCoder$Course", name := "choose", desc := "(IIII)V" } : Jvm.MethodName) ({ cls := "ScanCoder$Course", name := "choose", desc := "(IIII)V" } : Jvm.MethodName)) ∈ gw_tbl := gw_mem (i := 125) (by decide +kernel) rfl
theorem tw_126 : (Jvm.Cond.code ({ cls := "ScanCoder$Course", name := "choose", desc := "(IIII)V" } : Jvm.MethodName) prog_5_method_5_code (5 : Nat) (Option.none : Option Jvm.ClassFile.FieldType)) ∈ gw_tbl := gw_mem (i := 126) (by decide +kernel) rfl
theorem tw_127 : (Jvm.Cond.methodLink "ScanCoder$Course" (45 : Nat) ({ cls := "ScanCoder$Course", name := "lay", desc := "(I)V" } : Jvm.MethodName)) ∈ gw_tbl := gw_mem (i := 127) (by decide +kernel) rfl
theorem tw_128 : (Jvm.Cond.instanceMethod ({ cls := "ScanCoder$Course", name := "lay", desc := "(I)V" } : Jvm.MethodName)) ∈ gw_tbl := gw_mem (i := 128) (by decide +kernel) rfl
theorem tw_129 : (Jvm.Cond.selects "ScanCoder$Course" ({ cls := "ScanCoder$Course", name := "lay", desc := "(I)V" } : Jvm.MethodName) ({ cls := "ScanCoder$Course", name := "lay", desc := "(I)V" } : Jvm.MethodName)) ∈ gw_tbl := gw_mem (i := 129) (by decide +kernel) rfl
theorem tw_130 : (Jvm.Cond.code ({ cls := "ScanCoder$Course", name := "lay", desc := "(I)V" } : Jvm.MethodName) prog_5_method_6_code (2 : Nat) (Option.none : Option Jvm.ClassFile.FieldType)) ∈ gw_tbl := gw_mem (i := 130) (by decide +kernel) rfl
theorem tw_131 : (Jvm.Cond.methodLink "ScanCoder$Course" (54 : Nat) ({ cls := "java/lang/Integer", name := "bitCount", desc := "(I)I" } : Jvm.MethodName)) ∈ gw_tbl := gw_mem (i := 131) (by decide +kernel) rfl
theorem tw_132 : (Jvm.Cond.static ({ cls := "java/lang/Integer", name := "bitCount", desc := "(I)I" } : Jvm.MethodName)) ∈ gw_tbl := gw_mem (i := 132) (by decide +kernel) rfl
theorem tw_133 : (Jvm.Cond.code ({ cls := "java/lang/Integer", name := "bitCount", desc := "(I)I" } : Jvm.MethodName) prog_16_method_49_code (1 : Nat) (Option.some Jvm.ClassFile.FieldType.int)) ∈ gw_tbl := gw_mem (i := 133) (by decide +kernel) rfl
theorem tw_134 : (Jvm.Cond.constant "java/lang/Integer" (265 : Nat) (1431655765 : Int32)) ∈ gw_tbl := gw_mem (i := 134) (by decide +kernel) rfl
theorem tw_135 : (Jvm.Cond.constant "java/lang/Integer" (266 : Nat) (858993459 : Int32)) ∈ gw_tbl := gw_mem (i := 135) (by decide +kernel) rfl
theorem tw_136 : (Jvm.Cond.constant "java/lang/Integer" (267 : Nat) (252645135 : Int32)) ∈ gw_tbl := gw_mem (i := 136) (by decide +kernel) rfl
theorem tw_137 : (Jvm.Cond.methodLink "ScanCoder$Course" (75 : Nat) ({ cls := "ScanCoder$Course", name := "layOne", desc := "(I)V" } : Jvm.MethodName)) ∈ gw_tbl := gw_mem (i := 137) (by decide +kernel) rfl
theorem tw_139 : (Jvm.Cond.instanceMethod ({ cls := "ScanCoder$Course", name := "layOne", desc := "(I)V" } : Jvm.MethodName)) ∈ gw_tbl := gw_mem (i := 139) (by decide +kernel) rfl
theorem tw_140 : (Jvm.Cond.code ({ cls := "ScanCoder$Course", name := "layOne", desc := "(I)V" } : Jvm.MethodName) prog_5_method_7_code (3 : Nat) (Option.none : Option Jvm.ClassFile.FieldType)) ∈ gw_tbl := gw_mem (i := 140) (by decide +kernel) rfl
theorem tw_141 : (Jvm.Cond.methodLink "ScanCoder$Course" (87 : Nat) ({ cls := "ScanCoder$Course", name := "layRows", desc := "(IIIII)V" } : Jvm.MethodName)) ∈ gw_tbl := gw_mem (i := 141) (by decide +kernel) rfl
theorem tw_143 : (Jvm.Cond.instanceMethod ({ cls := "ScanCoder$Course", name := "layRows", desc := "(IIIII)V" } : Jvm.MethodName)) ∈ gw_tbl := gw_mem (i := 143) (by decide +kernel) rfl
theorem tw_144 : (Jvm.Cond.code ({ cls := "ScanCoder$Course", name := "layRows", desc := "(IIIII)V" } : Jvm.MethodName) prog_5_method_10_code (9 : Nat) (Option.none : Option Jvm.ClassFile.FieldType)) ∈ gw_tbl := gw_mem (i := 144) (by decide +kernel) rfl
theorem tw_145 : (Jvm.Cond.methodLink "ScanCoder$Course" (116 : Nat) ({ cls := "ScanCoder$Picture", name := "placeOf", desc := "(III)I" } : Jvm.MethodName)) ∈ gw_tbl := gw_mem (i := 145) (by decide +kernel) rfl
theorem tw_146 : (Jvm.Cond.instanceMethod ({ cls := "ScanCoder$Picture", name := "placeOf", desc := "(III)I" } : Jvm.MethodName)) ∈ gw_tbl := gw_mem (i := 146) (by decide +kernel) rfl
theorem tw_147 : (Jvm.Cond.selects "ScanCoder$Picture" ({ cls := "ScanCoder$Picture", name := "placeOf", desc := "(III)I" } : Jvm.MethodName) ({ cls := "ScanCoder$Picture", name := "placeOf", desc := "(III)I" } : Jvm.MethodName)) ∈ gw_tbl := gw_mem (i := 147) (by decide +kernel) rfl
theorem tw_148 : (Jvm.Cond.code ({ cls := "ScanCoder$Picture", name := "placeOf", desc := "(III)I" } : Jvm.MethodName) prog_9_method_9_code (4 : Nat) (Option.some Jvm.ClassFile.FieldType.int)) ∈ gw_tbl := gw_mem (i := 148) (by decide +kernel) rfl
theorem tw_149 : (Jvm.Cond.methodLink "ScanCoder$Course" (78 : Nat) ({ cls := "ScanCoder$Course", name := "laySeveral", desc := "(I)V" } : Jvm.MethodName)) ∈ gw_tbl := gw_mem (i := 149) (by decide +kernel) rfl
theorem tw_151 : (Jvm.Cond.instanceMethod ({ cls := "ScanCoder$Course", name := "laySeveral", desc := "(I)V" } : Jvm.MethodName)) ∈ gw_tbl := gw_mem (i := 151) (by decide +kernel) rfl
theorem tw_152 : (Jvm.Cond.code ({ cls := "ScanCoder$Course", name := "laySeveral", desc := "(I)V" } : Jvm.MethodName) prog_5_method_8_code (4 : Nat) (Option.none : Option Jvm.ClassFile.FieldType)) ∈ gw_tbl := gw_mem (i := 152) (by decide +kernel) rfl
theorem tw_153 : (Jvm.Cond.methodLink "ScanCoder$Course" (103 : Nat) ({ cls := "ScanCoder$Course", name := "layUnit", desc := "(III)V" } : Jvm.MethodName)) ∈ gw_tbl := gw_mem (i := 153) (by decide +kernel) rfl
theorem tw_155 : (Jvm.Cond.instanceMethod ({ cls := "ScanCoder$Course", name := "layUnit", desc := "(III)V" } : Jvm.MethodName)) ∈ gw_tbl := gw_mem (i := 155) (by decide +kernel) rfl
theorem tw_156 : (Jvm.Cond.code ({ cls := "ScanCoder$Course", name := "layUnit", desc := "(III)V" } : Jvm.MethodName) prog_5_method_9_code (7 : Nat) (Option.none : Option Jvm.ClassFile.FieldType)) ∈ gw_tbl := gw_mem (i := 156) (by decide +kernel) rfl
theorem tw_157 : (Jvm.Cond.fieldLink "ScanCoder$Course" (24 : Nat) "ScanCoder$Course" "picture" "LScanCoder$Picture;") ∈ gw_tbl := gw_mem (i := 157) (by decide +kernel) rfl
theorem tw_158 : (Jvm.Cond.fieldLink "ScanCoder$Course" (9 : Nat) "ScanCoder$Course" "owners" "[I") ∈ gw_tbl := gw_mem (i := 158) (by decide +kernel) rfl
theorem tw_159 : (Jvm.Cond.fieldLink "ScanCoder$Encoder" (60 : Nat) "ScanCoder$Course" "owners" "[I") ∈ gw_tbl := gw_mem (i := 159) (by decide +kernel) rfl
theorem tw_160 : (Jvm.Cond.fieldLink "ScanCoder$Decoder" (70 : Nat) "ScanCoder$Course" "owners" "[I") ∈ gw_tbl := gw_mem (i := 160) (by decide +kernel) rfl
theorem tw_161 : (Jvm.Cond.fieldLink "ScanCoder$Course" (15 : Nat) "ScanCoder$Course" "places" "[I") ∈ gw_tbl := gw_mem (i := 161) (by decide +kernel) rfl
theorem tw_162 : (Jvm.Cond.fieldLink "ScanCoder$Encoder" (63 : Nat) "ScanCoder$Course" "places" "[I") ∈ gw_tbl := gw_mem (i := 162) (by decide +kernel) rfl
theorem tw_163 : (Jvm.Cond.fieldLink "ScanCoder$Decoder" (73 : Nat) "ScanCoder$Course" "places" "[I") ∈ gw_tbl := gw_mem (i := 163) (by decide +kernel) rfl
theorem tw_164 : (Jvm.Cond.fieldLink "ScanCoder$Course" (18 : Nat) "ScanCoder$Course" "directTables" "[I") ∈ gw_tbl := gw_mem (i := 164) (by decide +kernel) rfl
theorem tw_165 : (Jvm.Cond.fieldLink "ScanCoder$Encoder" (122 : Nat) "ScanCoder$Course" "directTables" "[I") ∈ gw_tbl := gw_mem (i := 165) (by decide +kernel) rfl
theorem tw_166 : (Jvm.Cond.fieldLink "ScanCoder$Decoder" (117 : Nat) "ScanCoder$Course" "directTables" "[I") ∈ gw_tbl := gw_mem (i := 166) (by decide +kernel) rfl
theorem tw_167 : (Jvm.Cond.fieldLink "ScanCoder" (130 : Nat) "ScanCoder$Course" "directTables" "[I") ∈ gw_tbl := gw_mem (i := 167) (by decide +kernel) rfl
theorem tw_168 : (Jvm.Cond.fieldLink "ScanCoder$Course" (21 : Nat) "ScanCoder$Course" "otherTables" "[I") ∈ gw_tbl := gw_mem (i := 168) (by decide +kernel) rfl
theorem tw_169 : (Jvm.Cond.fieldLink "ScanCoder$Encoder" (66 : Nat) "ScanCoder$Course" "otherTables" "[I") ∈ gw_tbl := gw_mem (i := 169) (by decide +kernel) rfl
theorem tw_170 : (Jvm.Cond.fieldLink "ScanCoder$Decoder" (76 : Nat) "ScanCoder$Course" "otherTables" "[I") ∈ gw_tbl := gw_mem (i := 170) (by decide +kernel) rfl
theorem tw_171 : (Jvm.Cond.fieldLink "ScanCoder" (134 : Nat) "ScanCoder$Course" "otherTables" "[I") ∈ gw_tbl := gw_mem (i := 171) (by decide +kernel) rfl
theorem tw_172 : (Jvm.Cond.fieldLink "ScanCoder$Encoder" (72 : Nat) "ScanCoder$Course" "kind" "I") ∈ gw_tbl := gw_mem (i := 172) (by decide +kernel) rfl
theorem tw_173 : (Jvm.Cond.fieldLink "ScanCoder$Decoder" (79 : Nat) "ScanCoder$Course" "kind" "I") ∈ gw_tbl := gw_mem (i := 173) (by decide +kernel) rfl
theorem tw_174 : (Jvm.Cond.fieldLink "ScanCoder$Course" (60 : Nat) "ScanCoder$Course" "kind" "I") ∈ gw_tbl := gw_mem (i := 174) (by decide +kernel) rfl
theorem tw_175 : (Jvm.Cond.fieldLink "ScanCoder$Encoder" (95 : Nat) "ScanCoder$Course" "first" "I") ∈ gw_tbl := gw_mem (i := 175) (by decide +kernel) rfl
theorem tw_176 : (Jvm.Cond.fieldLink "ScanCoder$Decoder" (93 : Nat) "ScanCoder$Course" "first" "I") ∈ gw_tbl := gw_mem (i := 176) (by decide +kernel) rfl
theorem tw_177 : (Jvm.Cond.fieldLink "ScanCoder$Course" (63 : Nat) "ScanCoder$Course" "first" "I") ∈ gw_tbl := gw_mem (i := 177) (by decide +kernel) rfl
theorem tw_178 : (Jvm.Cond.fieldLink "ScanCoder$Course" (66 : Nat) "ScanCoder$Course" "last" "I") ∈ gw_tbl := gw_mem (i := 178) (by decide +kernel) rfl
theorem tw_179 : (Jvm.Cond.fieldLink "ScanCoder$Encoder" (128 : Nat) "ScanCoder$Course" "last" "I") ∈ gw_tbl := gw_mem (i := 179) (by decide +kernel) rfl
theorem tw_180 : (Jvm.Cond.fieldLink "ScanCoder$Decoder" (147 : Nat) "ScanCoder$Course" "last" "I") ∈ gw_tbl := gw_mem (i := 180) (by decide +kernel) rfl
theorem tw_181 : (Jvm.Cond.fieldLink "ScanCoder$Encoder" (88 : Nat) "ScanCoder$Course" "bits" "I") ∈ gw_tbl := gw_mem (i := 181) (by decide +kernel) rfl
theorem tw_182 : (Jvm.Cond.fieldLink "ScanCoder$Course" (69 : Nat) "ScanCoder$Course" "bits" "I") ∈ gw_tbl := gw_mem (i := 182) (by decide +kernel) rfl
theorem tw_183 : (Jvm.Cond.fieldLink "ScanCoder$Decoder" (127 : Nat) "ScanCoder$Course" "bits" "I") ∈ gw_tbl := gw_mem (i := 183) (by decide +kernel) rfl
theorem tw_184 : (Jvm.Cond.fieldLink "ScanCoder$Course" (37 : Nat) "ScanCoder$Course" "interval" "I") ∈ gw_tbl := gw_mem (i := 184) (by decide +kernel) rfl
theorem tw_185 : (Jvm.Cond.fieldLink "ScanCoder" (138 : Nat) "ScanCoder$Course" "interval" "I") ∈ gw_tbl := gw_mem (i := 185) (by decide +kernel) rfl
theorem tw_186 : (Jvm.Cond.fieldLink "ScanCoder$Encoder" (34 : Nat) "ScanCoder$Course" "units" "I") ∈ gw_tbl := gw_mem (i := 186) (by decide +kernel) rfl
theorem tw_187 : (Jvm.Cond.fieldLink "ScanCoder$Decoder" (43 : Nat) "ScanCoder$Course" "units" "I") ∈ gw_tbl := gw_mem (i := 187) (by decide +kernel) rfl
theorem tw_188 : (Jvm.Cond.fieldLink "ScanCoder$Course" (91 : Nat) "ScanCoder$Course" "units" "I") ∈ gw_tbl := gw_mem (i := 188) (by decide +kernel) rfl
theorem tw_189 : (Jvm.Cond.fieldLink "ScanCoder" (190 : Nat) "ScanCoder$Course" "units" "I") ∈ gw_tbl := gw_mem (i := 189) (by decide +kernel) rfl
theorem tw_190 : (Jvm.Cond.fieldLink "ScanCoder$Encoder" (57 : Nat) "ScanCoder$Course" "blocksOfUnit" "I") ∈ gw_tbl := gw_mem (i := 190) (by decide +kernel) rfl
theorem tw_191 : (Jvm.Cond.fieldLink "ScanCoder$Decoder" (67 : Nat) "ScanCoder$Course" "blocksOfUnit" "I") ∈ gw_tbl := gw_mem (i := 191) (by decide +kernel) rfl
theorem tw_192 : (Jvm.Cond.fieldLink "ScanCoder$Course" (94 : Nat) "ScanCoder$Course" "blocksOfUnit" "I") ∈ gw_tbl := gw_mem (i := 192) (by decide +kernel) rfl
theorem tw_193 : (Jvm.Cond.fieldLink "ScanCoder$Course" (72 : Nat) "ScanCoder$Course" "laid" "I") ∈ gw_tbl := gw_mem (i := 193) (by decide +kernel) rfl
theorem tw_221 : (Jvm.Cond.classLink "ScanCoder" (25 : Nat) "ScanCoder$Draft") ∈ gw_tbl := gw_mem (i := 221) (by decide +kernel) rfl
theorem tw_222 : (Jvm.Cond.instantiable "ScanCoder$Draft" (4 : Nat)) ∈ gw_tbl := gw_mem (i := 222) (by decide +kernel) rfl
theorem tw_224 : (Jvm.Cond.instanceMethod ({ cls := "ScanCoder$Draft", name := "<init>", desc := "()V" } : Jvm.MethodName)) ∈ gw_tbl := gw_mem (i := 224) (by decide +kernel) rfl
theorem tw_225 : (Jvm.Cond.code ({ cls := "ScanCoder$Draft", name := "<init>", desc := "()V" } : Jvm.MethodName) prog_7_method_1_code (1 : Nat) (Option.none : Option Jvm.ClassFile.FieldType)) ∈ gw_tbl := gw_mem (i := 225) (by decide +kernel) rfl
theorem tw_226 : (Jvm.Cond.methodLink "ScanCoder$Draft" (3 : Nat) ({ cls := "java/lang/Object", name := "<init>", desc := "()V" } : Jvm.MethodName)) ∈ gw_tbl := gw_mem (i := 226) (by decide +kernel) rfl
theorem tw_227 : (Jvm.Cond.fieldLink "ScanCoder$Draft" (9 : Nat) "ScanCoder$Draft" "counts" "[I") ∈ gw_tbl := gw_mem (i := 227) (by decide +kernel) rfl
theorem tw_228 : (Jvm.Cond.fieldLink "ScanCoder$Table" (44 : Nat) "ScanCoder$Draft" "counts" "[I") ∈ gw_tbl := gw_mem (i := 228) (by decide +kernel) rfl
theorem tw_229 : (Jvm.Cond.fieldLink "ScanCoder$Draft" (15 : Nat) "ScanCoder$Draft" "symbols" "[I") ∈ gw_tbl := gw_mem (i := 229) (by decide +kernel) rfl
theorem tw_230 : (Jvm.Cond.fieldLink "ScanCoder$Table" (37 : Nat) "ScanCoder$Draft" "symbols" "[I") ∈ gw_tbl := gw_mem (i := 230) (by decide +kernel) rfl
theorem tw_231 : (Jvm.Cond.fieldLink "ScanCoder$Draft" (18 : Nat) "ScanCoder$Draft" "seen" "[B") ∈ gw_tbl := gw_mem (i := 231) (by decide +kernel) rfl
theorem tw_232 : (Jvm.Cond.fieldLink "ScanCoder$Table" (30 : Nat) "ScanCoder$Draft" "size" "I") ∈ gw_tbl := gw_mem (i := 232) (by decide +kernel) rfl
theorem tw_233 : (Jvm.Cond.fieldLink "ScanCoder$Draft" (24 : Nat) "ScanCoder$Draft" "size" "I") ∈ gw_tbl := gw_mem (i := 233) (by decide +kernel) rfl
theorem tw_243 : (Jvm.Cond.arrayClass Jvm.ClassFile.FieldType.byte) ∈ gw_tbl := gw_mem (i := 243) (by decide +kernel) rfl
theorem tw_244 : (Jvm.Cond.classLink "ScanCoder" (32 : Nat) "ScanCoder$Table") ∈ gw_tbl := gw_mem (i := 244) (by decide +kernel) rfl
theorem tw_246 : (Jvm.Cond.instantiable "ScanCoder$Table" (6 : Nat)) ∈ gw_tbl := gw_mem (i := 246) (by decide +kernel) rfl
theorem tw_248 : (Jvm.Cond.instanceMethod ({ cls := "ScanCoder$Table", name := "<init>", desc := "()V" } : Jvm.MethodName)) ∈ gw_tbl := gw_mem (i := 248) (by decide +kernel) rfl
theorem tw_249 : (Jvm.Cond.code ({ cls := "ScanCoder$Table", name := "<init>", desc := "()V" } : Jvm.MethodName) prog_12_method_1_code (1 : Nat) (Option.none : Option Jvm.ClassFile.FieldType)) ∈ gw_tbl := gw_mem (i := 249) (by decide +kernel) rfl
theorem tw_250 : (Jvm.Cond.methodLink "ScanCoder$Table" (3 : Nat) ({ cls := "java/lang/Object", name := "<init>", desc := "()V" } : Jvm.MethodName)) ∈ gw_tbl := gw_mem (i := 250) (by decide +kernel) rfl
theorem tw_251 : (Jvm.Cond.fieldLink "ScanCoder$Table" (9 : Nat) "ScanCoder$Table" "wordsWithOne" "[I") ∈ gw_tbl := gw_mem (i := 251) (by decide +kernel) rfl
theorem tw_252 : (Jvm.Cond.fieldLink "ScanCoder$BitWriter" (36 : Nat) "ScanCoder$Table" "wordsWithOne" "[I") ∈ gw_tbl := gw_mem (i := 252) (by decide +kernel) rfl
theorem tw_253 : (Jvm.Cond.fieldLink "ScanCoder$Table" (15 : Nat) "ScanCoder$Table" "symbols" "[I") ∈ gw_tbl := gw_mem (i := 253) (by decide +kernel) rfl
theorem tw_254 : (Jvm.Cond.fieldLink "ScanCoder$Table" (18 : Nat) "ScanCoder$Table" "firstWord" "[I") ∈ gw_tbl := gw_mem (i := 254) (by decide +kernel) rfl
theorem tw_255 : (Jvm.Cond.fieldLink "ScanCoder$Table" (21 : Nat) "ScanCoder$Table" "firstIndex" "[I") ∈ gw_tbl := gw_mem (i := 255) (by decide +kernel) rfl
theorem tw_256 : (Jvm.Cond.fieldLink "ScanCoder$Table" (47 : Nat) "ScanCoder$Table" "end" "I") ∈ gw_tbl := gw_mem (i := 256) (by decide +kernel) rfl
theorem tw_257 : (Jvm.Cond.fieldLink "ScanCoder$Table" (36 : Nat) "ScanCoder$Table" "size" "I") ∈ gw_tbl := gw_mem (i := 257) (by decide +kernel) rfl
theorem tw_258 : (Jvm.Cond.fieldLink "ScanCoder" (204 : Nat) "ScanCoder$Table" "size" "I") ∈ gw_tbl := gw_mem (i := 258) (by decide +kernel) rfl
theorem tw_272 : (Jvm.Cond.classLink "ScanCoder" (39 : Nat) "ScanCoder$Store") ∈ gw_tbl := gw_mem (i := 272) (by decide +kernel) rfl
theorem tw_273 : (Jvm.Cond.instantiable "ScanCoder$Store" (2 : Nat)) ∈ gw_tbl := gw_mem (i := 273) (by decide +kernel) rfl
theorem tw_275 : (Jvm.Cond.instanceMethod ({ cls := "ScanCoder$Store", name := "<init>", desc := "()V" } : Jvm.MethodName)) ∈ gw_tbl := gw_mem (i := 275) (by decide +kernel) rfl
theorem tw_276 : (Jvm.Cond.code ({ cls := "ScanCoder$Store", name := "<init>", desc := "()V" } : Jvm.MethodName) prog_11_method_1_code (1 : Nat) (Option.none : Option Jvm.ClassFile.FieldType)) ∈ gw_tbl := gw_mem (i := 276) (by decide +kernel) rfl
theorem tw_277 : (Jvm.Cond.methodLink "ScanCoder$Store" (3 : Nat) ({ cls := "java/lang/Object", name := "<init>", desc := "()V" } : Jvm.MethodName)) ∈ gw_tbl := gw_mem (i := 277) (by decide +kernel) rfl
theorem tw_278 : (Jvm.Cond.fieldLink "ScanCoder$Store" (9 : Nat) "ScanCoder$Store" "bytes" "[B") ∈ gw_tbl := gw_mem (i := 278) (by decide +kernel) rfl
theorem tw_279 : (Jvm.Cond.fieldLink "ScanCoder$BitReader" (36 : Nat) "ScanCoder$Store" "bytes" "[B") ∈ gw_tbl := gw_mem (i := 279) (by decide +kernel) rfl
theorem tw_280 : (Jvm.Cond.fieldLink "ScanCoder$BitWriter" (54 : Nat) "ScanCoder$Store" "bytes" "[B") ∈ gw_tbl := gw_mem (i := 280) (by decide +kernel) rfl
theorem tw_281 : (Jvm.Cond.fieldLink "ScanCoder$Store" (15 : Nat) "ScanCoder$Store" "length" "I") ∈ gw_tbl := gw_mem (i := 281) (by decide +kernel) rfl
theorem tw_282 : (Jvm.Cond.fieldLink "ScanCoder$BitReader" (31 : Nat) "ScanCoder$Store" "length" "I") ∈ gw_tbl := gw_mem (i := 282) (by decide +kernel) rfl
theorem tw_283 : (Jvm.Cond.fieldLink "ScanCoder" (169 : Nat) "ScanCoder$Store" "length" "I") ∈ gw_tbl := gw_mem (i := 283) (by decide +kernel) rfl
theorem tw_289 : (Jvm.Cond.classLink "ScanCoder" (46 : Nat) "ScanCoder$Counter") ∈ gw_tbl := gw_mem (i := 289) (by decide +kernel) rfl
theorem tw_290 : (Jvm.Cond.instantiable "ScanCoder$Counter" (2 : Nat)) ∈ gw_tbl := gw_mem (i := 290) (by decide +kernel) rfl
theorem tw_292 : (Jvm.Cond.instanceMethod ({ cls := "ScanCoder$Counter", name := "<init>", desc := "()V" } : Jvm.MethodName)) ∈ gw_tbl := gw_mem (i := 292) (by decide +kernel) rfl
theorem tw_293 : (Jvm.Cond.code ({ cls := "ScanCoder$Counter", name := "<init>", desc := "()V" } : Jvm.MethodName) prog_4_method_1_code (1 : Nat) (Option.none : Option Jvm.ClassFile.FieldType)) ∈ gw_tbl := gw_mem (i := 293) (by decide +kernel) rfl
theorem tw_295 : (Jvm.Cond.instanceMethod ({ cls := "ScanCoder$Sink", name := "<init>", desc := "()V" } : Jvm.MethodName)) ∈ gw_tbl := gw_mem (i := 295) (by decide +kernel) rfl
theorem tw_296 : (Jvm.Cond.code ({ cls := "ScanCoder$Sink", name := "<init>", desc := "()V" } : Jvm.MethodName) prog_10_method_1_code (1 : Nat) (Option.none : Option Jvm.ClassFile.FieldType)) ∈ gw_tbl := gw_mem (i := 296) (by decide +kernel) rfl
theorem tw_297 : (Jvm.Cond.methodLink "ScanCoder$Sink" (1 : Nat) ({ cls := "java/lang/Object", name := "<init>", desc := "()V" } : Jvm.MethodName)) ∈ gw_tbl := gw_mem (i := 297) (by decide +kernel) rfl
theorem tw_298 : (Jvm.Cond.fieldLink "ScanCoder$Counter" (9 : Nat) "ScanCoder$Counter" "times" "[I") ∈ gw_tbl := gw_mem (i := 298) (by decide +kernel) rfl
theorem tw_299 : (Jvm.Cond.fieldLink "ScanCoder" (179 : Nat) "ScanCoder$Counter" "times" "[I") ∈ gw_tbl := gw_mem (i := 299) (by decide +kernel) rfl
theorem tw_300 : (Jvm.Cond.fieldLink "ScanCoder$Counter" (21 : Nat) "ScanCoder$Counter" "total" "I") ∈ gw_tbl := gw_mem (i := 300) (by decide +kernel) rfl
theorem tw_301 : (Jvm.Cond.fieldLink "ScanCoder" (176 : Nat) "ScanCoder$Counter" "total" "I") ∈ gw_tbl := gw_mem (i := 301) (by decide +kernel) rfl
theorem tw_307 : (Jvm.Cond.classLink "ScanCoder" (53 : Nat) "ScanCoder$BitWriter") ∈ gw_tbl := gw_mem (i := 307) (by decide +kernel) rfl
theorem tw_308 : (Jvm.Cond.instantiable "ScanCoder$BitWriter" (7 : Nat)) ∈ gw_tbl := gw_mem (i := 308) (by decide +kernel) rfl
theorem tw_309 : (Jvm.Cond.methodLink "ScanCoder" (55 : Nat) ({ cls := "ScanCoder$BitWriter", name := "<init>", desc := "([LScanCoder$Table;LScanCoder$Store;)V" } : Jvm.MethodName)) ∈ gw_tbl := gw_mem (i := 309) (by decide +kernel) rfl
theorem tw_310 : (Jvm.Cond.instanceMethod ({ cls := "ScanCoder$BitWriter", name := "<init>", desc := "([LScanCoder$Table;LScanCoder$Store;)V" } : Jvm.MethodName)) ∈ gw_tbl := gw_mem (i := 310) (by decide +kernel) rfl
theorem tw_311 : (Jvm.Cond.code ({ cls := "ScanCoder$BitWriter", name := "<init>", desc := "([LScanCoder$Table;LScanCoder$Store;)V" } : Jvm.MethodName) prog_3_method_1_code (3 : Nat) (Option.none : Option Jvm.ClassFile.FieldType)) ∈ gw_tbl := gw_mem (i := 311) (by decide +kernel) rfl
theorem tw_313 : (Jvm.Cond.fieldLink "ScanCoder$BitWriter" (9 : Nat) "ScanCoder$BitWriter" "tables" "[LScanCoder$Table;") ∈ gw_tbl := gw_mem (i := 313) (by decide +kernel) rfl
theorem tw_314 : (Jvm.Cond.fieldLink "ScanCoder$BitWriter" (15 : Nat) "ScanCoder$BitWriter" "store" "LScanCoder$Store;") ∈ gw_tbl := gw_mem (i := 314) (by decide +kernel) rfl
theorem tw_315 : (Jvm.Cond.fieldLink "ScanCoder$BitWriter" (19 : Nat) "ScanCoder$BitWriter" "keeps" "Z") ∈ gw_tbl := gw_mem (i := 315) (by decide +kernel) rfl
