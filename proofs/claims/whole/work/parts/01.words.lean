theorem tm_1 {w : Cond} (h : w ∈ tables_1_1) : w ∈ tables_1 := by simp only [tables_1, List.mem_append]; simp [h]
theorem tm_2 {w : Cond} (h : w ∈ tables_1_2) : w ∈ tables_1 := by simp only [tables_1, List.mem_append]; simp [h]
theorem tm_3 {w : Cond} (h : w ∈ tables_1_3) : w ∈ tables_1 := by simp only [tables_1, List.mem_append]; simp [h]
theorem tm_4 {w : Cond} (h : w ∈ tables_1_4) : w ∈ tables_1 := by simp only [tables_1, List.mem_append]; simp [h]
theorem tm_5 {w : Cond} (h : w ∈ tables_1_5) : w ∈ tables_1 := by simp only [tables_1, List.mem_append]; simp [h]
theorem tm_6 {w : Cond} (h : w ∈ tables_1_6) : w ∈ tables_1 := by simp only [tables_1, List.mem_append]; simp [h]
theorem tm_7 {w : Cond} (h : w ∈ tables_1_7) : w ∈ tables_1 := by simp only [tables_1, List.mem_append]; simp [h]
theorem tm_8 {w : Cond} (h : w ∈ tables_1_8) : w ∈ tables_1 := by simp only [tables_1, List.mem_append]; simp [h]
set_option maxRecDepth 20000 in
theorem w_0 : (Jvm.Cond.initialized "DialSquareLaw") ∈ tables_1 := tm_1 (List.mem_of_getElem? (i := 0) rfl)
set_option maxRecDepth 20000 in
theorem w_1 : (Jvm.Cond.initialized "DialSquare") ∈ tables_1 := tm_1 (List.mem_of_getElem? (i := 1) rfl)
set_option maxRecDepth 20000 in
theorem w_2 : (Jvm.Cond.initialized "DialSquare$RuleText") ∈ tables_1 := tm_1 (List.mem_of_getElem? (i := 2) rfl)
set_option maxRecDepth 20000 in
theorem w_3 : (Jvm.Cond.initialized "DialSquare$Host") ∈ tables_1 := tm_1 (List.mem_of_getElem? (i := 3) rfl)
set_option maxRecDepth 20000 in
theorem w_4 : (Jvm.Cond.initialized "DialSquare$Dial") ∈ tables_1 := tm_1 (List.mem_of_getElem? (i := 4) rfl)
set_option maxRecDepth 20000 in
theorem w_5 : (Jvm.Cond.initialized "DialSquare$Noon") ∈ tables_1 := tm_1 (List.mem_of_getElem? (i := 5) rfl)
set_option maxRecDepth 20000 in
theorem w_6 : (Jvm.Cond.initialized "DialSquare$Tall") ∈ tables_1 := tm_1 (List.mem_of_getElem? (i := 6) rfl)
set_option maxRecDepth 20000 in
theorem w_7 : (Jvm.Cond.initialized "DialSquare$Guild") ∈ tables_1 := tm_1 (List.mem_of_getElem? (i := 7) rfl)
set_option maxRecDepth 20000 in
theorem w_8 : (Jvm.Cond.initialized "DialSquare$Low") ∈ tables_1 := tm_1 (List.mem_of_getElem? (i := 8) rfl)
set_option maxRecDepth 20000 in
theorem w_9 : (Jvm.Cond.initialized "DialSquare$Slit") ∈ tables_1 := tm_1 (List.mem_of_getElem? (i := 9) rfl)
set_option maxRecDepth 20000 in
theorem w_10 : (Jvm.Cond.initialized "DialSquare$Rules") ∈ tables_1 := tm_1 (List.mem_of_getElem? (i := 10) rfl)
set_option maxRecDepth 20000 in
theorem w_11 : (Jvm.Cond.initialized "DialSquare$Square") ∈ tables_1 := tm_1 (List.mem_of_getElem? (i := 11) rfl)
set_option maxRecDepth 20000 in
theorem w_12 : (Jvm.Cond.initialized "java/util/Arrays") ∈ tables_1 := tm_1 (List.mem_of_getElem? (i := 12) rfl)
set_option maxRecDepth 20000 in
theorem w_13 : (Jvm.Cond.initialized "DialSquare$Plans") ∈ tables_1 := tm_1 (List.mem_of_getElem? (i := 13) rfl)
set_option maxRecDepth 20000 in
theorem w_14 : (Jvm.Cond.initialized "DialSquareModel") ∈ tables_1 := tm_1 (List.mem_of_getElem? (i := 14) rfl)
set_option maxRecDepth 20000 in
theorem w_15 : (Jvm.Cond.initialized "java/lang/Math") ∈ tables_1 := tm_1 (List.mem_of_getElem? (i := 15) rfl)
set_option maxRecDepth 20000 in
theorem w_16 : (Jvm.Cond.initialized "java/lang/String") ∈ tables_1 := tm_1 (List.mem_of_getElem? (i := 16) rfl)
set_option maxRecDepth 20000 in
theorem w_17 : (Jvm.Cond.initialized "java/lang/StringLatin1") ∈ tables_1 := tm_1 (List.mem_of_getElem? (i := 17) rfl)
set_option maxRecDepth 20000 in
theorem w_18 : (Jvm.Cond.initialized "jdk/internal/util/Preconditions") ∈ tables_1 := tm_1 (List.mem_of_getElem? (i := 18) rfl)
set_option maxRecDepth 20000 in
theorem w_19 : (Jvm.Cond.initialized "java/lang/StringUTF16") ∈ tables_1 := tm_1 (List.mem_of_getElem? (i := 19) rfl)
set_option maxRecDepth 20000 in
theorem w_20 : (Jvm.Cond.initialized "java/lang/System") ∈ tables_1 := tm_1 (List.mem_of_getElem? (i := 20) rfl)
set_option maxRecDepth 20000 in
theorem w_21 : (Jvm.Cond.initialized "java/lang/Integer") ∈ tables_1 := tm_1 (List.mem_of_getElem? (i := 21) rfl)
set_option maxRecDepth 20000 in
theorem w_22 : (Jvm.Cond.classLink "DialSquareLaw" (7 : Nat) "DialSquare") ∈ tables_1 := tm_1 (List.mem_of_getElem? (i := 22) rfl)
set_option maxRecDepth 20000 in
theorem w_23 : (Jvm.Cond.instantiable "DialSquare" (8 : Nat)) ∈ tables_1 := tm_1 (List.mem_of_getElem? (i := 23) rfl)
set_option maxRecDepth 20000 in
theorem w_24 : (Jvm.Cond.methodLink "DialSquareLaw" (9 : Nat) ({ cls := "DialSquare", name := "<init>", desc := "()V" } : Jvm.MethodName)) ∈ tables_1 := tm_1 (List.mem_of_getElem? (i := 24) rfl)
set_option maxRecDepth 20000 in
theorem w_25 : (Jvm.Cond.instanceMethod ({ cls := "DialSquare", name := "<init>", desc := "()V" } : Jvm.MethodName)) ∈ tables_1 := tm_1 (List.mem_of_getElem? (i := 25) rfl)
set_option maxRecDepth 20000 in
theorem w_26 : (Jvm.Cond.code ({ cls := "DialSquare", name := "<init>", desc := "()V" } : Jvm.MethodName) prog_1_method_1_code (3 : Nat) (Option.none : Option Jvm.ClassFile.FieldType)) ∈ tables_1 := tm_1 (List.mem_of_getElem? (i := 26) rfl)
set_option maxRecDepth 20000 in
theorem w_27 : (Jvm.Cond.methodLink "DialSquare" (3 : Nat) ({ cls := "java/lang/Object", name := "<init>", desc := "()V" } : Jvm.MethodName)) ∈ tables_1 := tm_1 (List.mem_of_getElem? (i := 27) rfl)
set_option maxRecDepth 20000 in
theorem w_28 : (Jvm.Cond.instanceMethod ({ cls := "java/lang/Object", name := "<init>", desc := "()V" } : Jvm.MethodName)) ∈ tables_1 := tm_1 (List.mem_of_getElem? (i := 28) rfl)
set_option maxRecDepth 20000 in
theorem w_29 : (Jvm.Cond.code ({ cls := "java/lang/Object", name := "<init>", desc := "()V" } : Jvm.MethodName) object_method_1_code (1 : Nat) (Option.none : Option Jvm.ClassFile.FieldType)) ∈ tables_1 := tm_1 (List.mem_of_getElem? (i := 29) rfl)
set_option maxRecDepth 20000 in
theorem w_30 : (Jvm.Cond.classLink "DialSquare" (13 : Nat) "DialSquare$RuleText") ∈ tables_1 := tm_1 (List.mem_of_getElem? (i := 30) rfl)
set_option maxRecDepth 20000 in
theorem w_31 : (Jvm.Cond.instantiable "DialSquare$RuleText" (11 : Nat)) ∈ tables_1 := tm_1 (List.mem_of_getElem? (i := 31) rfl)
set_option maxRecDepth 20000 in
theorem w_32 : (Jvm.Cond.methodLinkNest "DialSquare" (15 : Nat) ({ cls := "DialSquare$RuleText", name := "<init>", desc := "()V" } : Jvm.MethodName) "DialSquare") ∈ tables_1 := tm_1 (List.mem_of_getElem? (i := 32) rfl)
set_option maxRecDepth 20000 in
theorem w_33 : (Jvm.Cond.instanceMethod ({ cls := "DialSquare$RuleText", name := "<init>", desc := "()V" } : Jvm.MethodName)) ∈ tables_1 := tm_1 (List.mem_of_getElem? (i := 33) rfl)
set_option maxRecDepth 20000 in
theorem w_34 : (Jvm.Cond.code ({ cls := "DialSquare$RuleText", name := "<init>", desc := "()V" } : Jvm.MethodName) prog_8_method_1_code (1 : Nat) (Option.none : Option Jvm.ClassFile.FieldType)) ∈ tables_1 := tm_1 (List.mem_of_getElem? (i := 34) rfl)
set_option maxRecDepth 20000 in
theorem w_35 : (Jvm.Cond.methodLink "DialSquare$RuleText" (3 : Nat) ({ cls := "java/lang/Object", name := "<init>", desc := "()V" } : Jvm.MethodName)) ∈ tables_1 := tm_1 (List.mem_of_getElem? (i := 35) rfl)
set_option maxRecDepth 20000 in
theorem w_36 : (Jvm.Cond.fieldLink "DialSquare$RuleText" (34 : Nat) "DialSquare$RuleText" "length" "I") ∈ tables_1 := tm_1 (List.mem_of_getElem? (i := 36) rfl)
set_option maxRecDepth 20000 in
theorem w_37 : (Jvm.Cond.fieldLink "DialSquare" (151 : Nat) "DialSquare$RuleText" "length" "I") ∈ tables_1 := tm_1 (List.mem_of_getElem? (i := 37) rfl)
set_option maxRecDepth 20000 in
theorem w_38 : (Jvm.Cond.fieldLink "DialSquare$RuleText" (9 : Nat) "DialSquare$RuleText" "tape" "[B") ∈ tables_1 := tm_1 (List.mem_of_getElem? (i := 38) rfl)
set_option maxRecDepth 20000 in
theorem w_39 : (Jvm.Cond.fieldLink "DialSquare$RuleText" (15 : Nat) "DialSquare$RuleText" "words" "[I") ∈ tables_1 := tm_1 (List.mem_of_getElem? (i := 39) rfl)
set_option maxRecDepth 20000 in
theorem w_40 : (Jvm.Cond.fieldLink "DialSquare$RuleText" (19 : Nat) "DialSquare$RuleText" "places" "[I") ∈ tables_1 := tm_1 (List.mem_of_getElem? (i := 40) rfl)
set_option maxRecDepth 20000 in
theorem w_41 : (Jvm.Cond.fieldLink "DialSquare$RuleText" (41 : Nat) "DialSquare$RuleText" "at" "I") ∈ tables_1 := tm_1 (List.mem_of_getElem? (i := 41) rfl)
set_option maxRecDepth 20000 in
theorem w_42 : (Jvm.Cond.fieldLink "DialSquare$RuleText" (22 : Nat) "DialSquare$RuleText" "kinds" "[I") ∈ tables_1 := tm_1 (List.mem_of_getElem? (i := 42) rfl)
set_option maxRecDepth 20000 in
theorem w_43 : (Jvm.Cond.fieldLink "DialSquare$RuleText" (25 : Nat) "DialSquare$RuleText" "wills" "[I") ∈ tables_1 := tm_1 (List.mem_of_getElem? (i := 43) rfl)
set_option maxRecDepth 20000 in
theorem w_44 : (Jvm.Cond.fieldLink "DialSquare$RuleText" (28 : Nat) "DialSquare$RuleText" "starts" "[I") ∈ tables_1 := tm_1 (List.mem_of_getElem? (i := 44) rfl)
set_option maxRecDepth 20000 in
theorem w_45 : (Jvm.Cond.fieldLink "DialSquare$RuleText" (31 : Nat) "DialSquare$RuleText" "code" "[I") ∈ tables_1 := tm_1 (List.mem_of_getElem? (i := 45) rfl)
set_option maxRecDepth 20000 in
theorem w_46 : (Jvm.Cond.fieldLink "DialSquare$RuleText" (44 : Nat) "DialSquare$RuleText" "count" "I") ∈ tables_1 := tm_1 (List.mem_of_getElem? (i := 46) rfl)
set_option maxRecDepth 20000 in
theorem w_47 : (Jvm.Cond.fieldLink "DialSquare$RuleText" (47 : Nat) "DialSquare$RuleText" "size" "I") ∈ tables_1 := tm_1 (List.mem_of_getElem? (i := 47) rfl)
set_option maxRecDepth 20000 in
theorem w_48 : (Jvm.Cond.lays "DialSquare$RuleText" "DialSquare$RuleText" "length" "I") ∈ tables_1 := tm_1 (List.mem_of_getElem? (i := 48) rfl)
set_option maxRecDepth 20000 in
theorem w_50 : (Jvm.Cond.laysFinal "DialSquare$RuleText" "DialSquare$RuleText" "tape" "[B") ∈ tables_1 := tm_1 (List.mem_of_getElem? (i := 50) rfl)
set_option maxRecDepth 20000 in
theorem w_52 : (Jvm.Cond.laysFinal "DialSquare$RuleText" "DialSquare$RuleText" "words" "[I") ∈ tables_1 := tm_1 (List.mem_of_getElem? (i := 52) rfl)
set_option maxRecDepth 20000 in
theorem w_54 : (Jvm.Cond.laysFinal "DialSquare$RuleText" "DialSquare$RuleText" "places" "[I") ∈ tables_1 := tm_1 (List.mem_of_getElem? (i := 54) rfl)
set_option maxRecDepth 20000 in
theorem w_56 : (Jvm.Cond.lays "DialSquare$RuleText" "DialSquare$RuleText" "at" "I") ∈ tables_1 := tm_1 (List.mem_of_getElem? (i := 56) rfl)
set_option maxRecDepth 20000 in
theorem w_58 : (Jvm.Cond.laysFinal "DialSquare$RuleText" "DialSquare$RuleText" "kinds" "[I") ∈ tables_1 := tm_1 (List.mem_of_getElem? (i := 58) rfl)
set_option maxRecDepth 20000 in
theorem w_60 : (Jvm.Cond.laysFinal "DialSquare$RuleText" "DialSquare$RuleText" "wills" "[I") ∈ tables_1 := tm_1 (List.mem_of_getElem? (i := 60) rfl)
set_option maxRecDepth 20000 in
theorem w_62 : (Jvm.Cond.laysFinal "DialSquare$RuleText" "DialSquare$RuleText" "starts" "[I") ∈ tables_1 := tm_1 (List.mem_of_getElem? (i := 62) rfl)
set_option maxRecDepth 20000 in
theorem w_64 : (Jvm.Cond.laysFinal "DialSquare$RuleText" "DialSquare$RuleText" "code" "[I") ∈ tables_1 := tm_1 (List.mem_of_getElem? (i := 64) rfl)
set_option maxRecDepth 20000 in
theorem w_66 : (Jvm.Cond.lays "DialSquare$RuleText" "DialSquare$RuleText" "count" "I") ∈ tables_1 := tm_1 (List.mem_of_getElem? (i := 66) rfl)
set_option maxRecDepth 20000 in
theorem w_68 : (Jvm.Cond.lays "DialSquare$RuleText" "DialSquare$RuleText" "size" "I") ∈ tables_1 := tm_1 (List.mem_of_getElem? (i := 68) rfl)
set_option maxRecDepth 20000 in
theorem w_70 : (Jvm.Cond.superclass "DialSquare$RuleText" "java/lang/Object") ∈ tables_1 := tm_1 (List.mem_of_getElem? (i := 70) rfl)
set_option maxRecDepth 20000 in
theorem w_71 : (Jvm.Cond.arrayClass Jvm.ClassFile.FieldType.int) ∈ tables_1 := tm_1 (List.mem_of_getElem? (i := 71) rfl)
set_option maxRecDepth 20000 in
theorem w_72 : (Jvm.Cond.arrayClass Jvm.ClassFile.FieldType.byte) ∈ tables_1 := tm_1 (List.mem_of_getElem? (i := 72) rfl)
set_option maxRecDepth 20000 in
theorem w_73 : (Jvm.Cond.classLink "DialSquare" (20 : Nat) "DialSquare$Host") ∈ tables_1 := tm_1 (List.mem_of_getElem? (i := 73) rfl)
set_option maxRecDepth 20000 in
theorem w_74 : (Jvm.Cond.instantiable "DialSquare$Host" (11 : Nat)) ∈ tables_1 := tm_1 (List.mem_of_getElem? (i := 74) rfl)
set_option maxRecDepth 20000 in
theorem w_75 : (Jvm.Cond.methodLinkNest "DialSquare" (22 : Nat) ({ cls := "DialSquare$Host", name := "<init>", desc := "()V" } : Jvm.MethodName) "DialSquare") ∈ tables_1 := tm_1 (List.mem_of_getElem? (i := 75) rfl)
set_option maxRecDepth 20000 in
theorem w_76 : (Jvm.Cond.instanceMethod ({ cls := "DialSquare$Host", name := "<init>", desc := "()V" } : Jvm.MethodName)) ∈ tables_1 := tm_1 (List.mem_of_getElem? (i := 76) rfl)
set_option maxRecDepth 20000 in
theorem w_77 : (Jvm.Cond.code ({ cls := "DialSquare$Host", name := "<init>", desc := "()V" } : Jvm.MethodName) prog_4_method_1_code (1 : Nat) (Option.none : Option Jvm.ClassFile.FieldType)) ∈ tables_1 := tm_1 (List.mem_of_getElem? (i := 77) rfl)
set_option maxRecDepth 20000 in
theorem w_78 : (Jvm.Cond.methodLink "DialSquare$Host" (3 : Nat) ({ cls := "java/lang/Object", name := "<init>", desc := "()V" } : Jvm.MethodName)) ∈ tables_1 := tm_1 (List.mem_of_getElem? (i := 78) rfl)
set_option maxRecDepth 20000 in
theorem w_79 : (Jvm.Cond.classLink "DialSquare$Host" (18 : Nat) "[[I") ∈ tables_1 := tm_1 (List.mem_of_getElem? (i := 79) rfl)
set_option maxRecDepth 20000 in
theorem w_80 : (Jvm.Cond.arrayOver (Jvm.ClassFile.FieldType.array Jvm.ClassFile.FieldType.int)) ∈ tables_1 := tm_1 (List.mem_of_getElem? (i := 80) rfl)
set_option maxRecDepth 20000 in
theorem w_81 : (Jvm.Cond.fieldLink "DialSquare$Host" (9 : Nat) "DialSquare$Host" "sorts" "[I") ∈ tables_1 := tm_1 (List.mem_of_getElem? (i := 81) rfl)
set_option maxRecDepth 20000 in
theorem w_82 : (Jvm.Cond.fieldLink "DialSquare" (286 : Nat) "DialSquare$Host" "sorts" "[I") ∈ tables_1 := tm_1 (List.mem_of_getElem? (i := 82) rfl)
set_option maxRecDepth 20000 in
theorem w_83 : (Jvm.Cond.fieldLink "DialSquare$Host" (15 : Nat) "DialSquare$Host" "lengths" "[I") ∈ tables_1 := tm_1 (List.mem_of_getElem? (i := 83) rfl)
set_option maxRecDepth 20000 in
theorem w_84 : (Jvm.Cond.fieldLink "DialSquare$Host" (20 : Nat) "DialSquare$Host" "items" "[[I") ∈ tables_1 := tm_1 (List.mem_of_getElem? (i := 84) rfl)
set_option maxRecDepth 20000 in
theorem w_85 : (Jvm.Cond.fieldLink "DialSquare" (292 : Nat) "DialSquare$Host" "items" "[[I") ∈ tables_1 := tm_1 (List.mem_of_getElem? (i := 85) rfl)
set_option maxRecDepth 20000 in
theorem w_86 : (Jvm.Cond.fieldLink "DialSquare$Host" (23 : Nat) "DialSquare$Host" "held" "[I") ∈ tables_1 := tm_1 (List.mem_of_getElem? (i := 86) rfl)
set_option maxRecDepth 20000 in
theorem w_87 : (Jvm.Cond.fieldLink "DialSquare" (311 : Nat) "DialSquare$Host" "held" "[I") ∈ tables_1 := tm_1 (List.mem_of_getElem? (i := 87) rfl)
set_option maxRecDepth 20000 in
theorem w_88 : (Jvm.Cond.fieldLink "DialSquare$Host" (26 : Nat) "DialSquare$Host" "things" "[I") ∈ tables_1 := tm_1 (List.mem_of_getElem? (i := 88) rfl)
set_option maxRecDepth 20000 in
theorem w_89 : (Jvm.Cond.fieldLink "DialSquare" (314 : Nat) "DialSquare$Host" "things" "[I") ∈ tables_1 := tm_1 (List.mem_of_getElem? (i := 89) rfl)
set_option maxRecDepth 20000 in
theorem w_90 : (Jvm.Cond.fieldLink "DialSquare$Host" (29 : Nat) "DialSquare$Host" "sizes" "[I") ∈ tables_1 := tm_1 (List.mem_of_getElem? (i := 90) rfl)
set_option maxRecDepth 20000 in
theorem w_91 : (Jvm.Cond.fieldLink "DialSquare" (317 : Nat) "DialSquare$Host" "sizes" "[I") ∈ tables_1 := tm_1 (List.mem_of_getElem? (i := 91) rfl)
set_option maxRecDepth 20000 in
theorem w_92 : (Jvm.Cond.fieldLink "DialSquare$Host" (32 : Nat) "DialSquare$Host" "bodies" "[I") ∈ tables_1 := tm_1 (List.mem_of_getElem? (i := 92) rfl)
set_option maxRecDepth 20000 in
theorem w_93 : (Jvm.Cond.fieldLink "DialSquare" (359 : Nat) "DialSquare$Host" "bodies" "[I") ∈ tables_1 := tm_1 (List.mem_of_getElem? (i := 93) rfl)
set_option maxRecDepth 20000 in
theorem w_94 : (Jvm.Cond.fieldLink "DialSquare$Host" (41 : Nat) "DialSquare$Host" "traced" "I") ∈ tables_1 := tm_1 (List.mem_of_getElem? (i := 94) rfl)
set_option maxRecDepth 20000 in
theorem w_95 : (Jvm.Cond.fieldLink "DialSquare" (356 : Nat) "DialSquare$Host" "traced" "I") ∈ tables_1 := tm_1 (List.mem_of_getElem? (i := 95) rfl)
set_option maxRecDepth 20000 in
theorem w_96 : (Jvm.Cond.fieldLink "DialSquare$Dial" (13 : Nat) "DialSquare$Host" "number" "I") ∈ tables_1 := tm_1 (List.mem_of_getElem? (i := 96) rfl)
set_option maxRecDepth 20000 in
theorem w_97 : (Jvm.Cond.fieldLink "DialSquare$Slit" (27 : Nat) "DialSquare$Host" "number" "I") ∈ tables_1 := tm_1 (List.mem_of_getElem? (i := 97) rfl)
set_option maxRecDepth 20000 in
theorem w_98 : (Jvm.Cond.fieldLink "DialSquare" (329 : Nat) "DialSquare$Host" "number" "I") ∈ tables_1 := tm_1 (List.mem_of_getElem? (i := 98) rfl)
set_option maxRecDepth 20000 in
theorem w_99 : (Jvm.Cond.fieldLink "DialSquare$Dial" (23 : Nat) "DialSquare$Host" "spot" "I") ∈ tables_1 := tm_1 (List.mem_of_getElem? (i := 99) rfl)
set_option maxRecDepth 20000 in
theorem w_100 : (Jvm.Cond.fieldLink "DialSquare$Guild" (27 : Nat) "DialSquare$Host" "spot" "I") ∈ tables_1 := tm_1 (List.mem_of_getElem? (i := 100) rfl)
set_option maxRecDepth 20000 in
theorem w_101 : (Jvm.Cond.fieldLink "DialSquare" (332 : Nat) "DialSquare$Host" "spot" "I") ∈ tables_1 := tm_1 (List.mem_of_getElem? (i := 101) rfl)
set_option maxRecDepth 20000 in
theorem w_102 : (Jvm.Cond.fieldLink "DialSquare$Host" (45 : Nat) "DialSquare$Host" "parted" "Z") ∈ tables_1 := tm_1 (List.mem_of_getElem? (i := 102) rfl)
set_option maxRecDepth 20000 in
theorem w_103 : (Jvm.Cond.fieldLink "DialSquare$Dial" (26 : Nat) "DialSquare$Host" "parted" "Z") ∈ tables_1 := tm_1 (List.mem_of_getElem? (i := 103) rfl)
set_option maxRecDepth 20000 in
theorem w_104 : (Jvm.Cond.fieldLink "DialSquare" (352 : Nat) "DialSquare$Host" "parted" "Z") ∈ tables_1 := tm_1 (List.mem_of_getElem? (i := 104) rfl)
set_option maxRecDepth 20000 in
theorem w_105 : (Jvm.Cond.laysFinal "DialSquare$Host" "DialSquare$Host" "sorts" "[I") ∈ tables_1 := tm_1 (List.mem_of_getElem? (i := 105) rfl)
set_option maxRecDepth 20000 in
theorem w_107 : (Jvm.Cond.laysFinal "DialSquare$Host" "DialSquare$Host" "lengths" "[I") ∈ tables_1 := tm_1 (List.mem_of_getElem? (i := 107) rfl)
set_option maxRecDepth 20000 in
theorem w_109 : (Jvm.Cond.laysFinal "DialSquare$Host" "DialSquare$Host" "items" "[[I") ∈ tables_1 := tm_1 (List.mem_of_getElem? (i := 109) rfl)
set_option maxRecDepth 20000 in
theorem w_111 : (Jvm.Cond.laysFinal "DialSquare$Host" "DialSquare$Host" "held" "[I") ∈ tables_1 := tm_1 (List.mem_of_getElem? (i := 111) rfl)
set_option maxRecDepth 20000 in
theorem w_113 : (Jvm.Cond.laysFinal "DialSquare$Host" "DialSquare$Host" "things" "[I") ∈ tables_1 := tm_1 (List.mem_of_getElem? (i := 113) rfl)
set_option maxRecDepth 20000 in
theorem w_115 : (Jvm.Cond.laysFinal "DialSquare$Host" "DialSquare$Host" "sizes" "[I") ∈ tables_1 := tm_1 (List.mem_of_getElem? (i := 115) rfl)
set_option maxRecDepth 20000 in
theorem w_117 : (Jvm.Cond.laysFinal "DialSquare$Host" "DialSquare$Host" "bodies" "[I") ∈ tables_1 := tm_1 (List.mem_of_getElem? (i := 117) rfl)
set_option maxRecDepth 20000 in
theorem w_119 : (Jvm.Cond.lays "DialSquare$Host" "DialSquare$Host" "traced" "I") ∈ tables_1 := tm_1 (List.mem_of_getElem? (i := 119) rfl)
set_option maxRecDepth 20000 in
theorem w_121 : (Jvm.Cond.lays "DialSquare$Host" "DialSquare$Host" "number" "I") ∈ tables_1 := tm_1 (List.mem_of_getElem? (i := 121) rfl)
set_option maxRecDepth 20000 in
theorem w_123 : (Jvm.Cond.lays "DialSquare$Host" "DialSquare$Host" "spot" "I") ∈ tables_1 := tm_1 (List.mem_of_getElem? (i := 123) rfl)
set_option maxRecDepth 20000 in
theorem w_125 : (Jvm.Cond.lays "DialSquare$Host" "DialSquare$Host" "parted" "Z") ∈ tables_1 := tm_1 (List.mem_of_getElem? (i := 125) rfl)
set_option maxRecDepth 20000 in
theorem w_127 : (Jvm.Cond.superclass "DialSquare$Host" "java/lang/Object") ∈ tables_1 := tm_1 (List.mem_of_getElem? (i := 127) rfl)
set_option maxRecDepth 20000 in
theorem w_128 : (Jvm.Cond.classLink "DialSquare" (27 : Nat) "DialSquare$Dial") ∈ tables_1 := tm_1 (List.mem_of_getElem? (i := 128) rfl)
set_option maxRecDepth 20000 in
theorem w_129 : (Jvm.Cond.arrayOver (Jvm.ClassFile.FieldType.object "DialSquare$Dial")) ∈ tables_1 := tm_1 (List.mem_of_getElem? (i := 129) rfl)
set_option maxRecDepth 20000 in
theorem w_130 : (Jvm.Cond.instantiable "DialSquare$Dial" (0 : Nat)) ∈ tables_1 := tm_1 (List.mem_of_getElem? (i := 130) rfl)
set_option maxRecDepth 20000 in
theorem w_131 : (Jvm.Cond.methodLinkNest "DialSquare" (29 : Nat) ({ cls := "DialSquare$Dial", name := "<init>", desc := "()V" } : Jvm.MethodName) "DialSquare") ∈ tables_1 := tm_1 (List.mem_of_getElem? (i := 131) rfl)
set_option maxRecDepth 20000 in
theorem w_132 : (Jvm.Cond.instanceMethod ({ cls := "DialSquare$Dial", name := "<init>", desc := "()V" } : Jvm.MethodName)) ∈ tables_1 := tm_1 (List.mem_of_getElem? (i := 132) rfl)
set_option maxRecDepth 20000 in
theorem w_133 : (Jvm.Cond.code ({ cls := "DialSquare$Dial", name := "<init>", desc := "()V" } : Jvm.MethodName) prog_2_method_1_code (1 : Nat) (Option.none : Option Jvm.ClassFile.FieldType)) ∈ tables_1 := tm_1 (List.mem_of_getElem? (i := 133) rfl)
set_option maxRecDepth 20000 in
theorem w_134 : (Jvm.Cond.methodLink "DialSquare$Dial" (1 : Nat) ({ cls := "java/lang/Object", name := "<init>", desc := "()V" } : Jvm.MethodName)) ∈ tables_1 := tm_1 (List.mem_of_getElem? (i := 134) rfl)
set_option maxRecDepth 20000 in
theorem w_135 : (Jvm.Cond.superclass "DialSquare$Dial" "java/lang/Object") ∈ tables_1 := tm_1 (List.mem_of_getElem? (i := 135) rfl)
set_option maxRecDepth 20000 in
theorem w_136 : (Jvm.Cond.classLink "DialSquare" (30 : Nat) "DialSquare$Noon") ∈ tables_1 := tm_1 (List.mem_of_getElem? (i := 136) rfl)
set_option maxRecDepth 20000 in
theorem w_137 : (Jvm.Cond.instantiable "DialSquare$Noon" (0 : Nat)) ∈ tables_1 := tm_1 (List.mem_of_getElem? (i := 137) rfl)
set_option maxRecDepth 20000 in
theorem w_138 : (Jvm.Cond.methodLinkNest "DialSquare" (32 : Nat) ({ cls := "DialSquare$Noon", name := "<init>", desc := "()V" } : Jvm.MethodName) "DialSquare") ∈ tables_1 := tm_1 (List.mem_of_getElem? (i := 138) rfl)
set_option maxRecDepth 20000 in
theorem w_139 : (Jvm.Cond.instanceMethod ({ cls := "DialSquare$Noon", name := "<init>", desc := "()V" } : Jvm.MethodName)) ∈ tables_1 := tm_1 (List.mem_of_getElem? (i := 139) rfl)
set_option maxRecDepth 20000 in
theorem w_140 : (Jvm.Cond.code ({ cls := "DialSquare$Noon", name := "<init>", desc := "()V" } : Jvm.MethodName) prog_6_method_1_code (1 : Nat) (Option.none : Option Jvm.ClassFile.FieldType)) ∈ tables_1 := tm_1 (List.mem_of_getElem? (i := 140) rfl)
set_option maxRecDepth 20000 in
theorem w_141 : (Jvm.Cond.methodLinkNest "DialSquare$Noon" (1 : Nat) ({ cls := "DialSquare$Dial", name := "<init>", desc := "()V" } : Jvm.MethodName) "DialSquare") ∈ tables_1 := tm_1 (List.mem_of_getElem? (i := 141) rfl)
set_option maxRecDepth 20000 in
theorem w_142 : (Jvm.Cond.superclass "DialSquare$Noon" "DialSquare$Dial") ∈ tables_1 := tm_1 (List.mem_of_getElem? (i := 142) rfl)
set_option maxRecDepth 20000 in
theorem w_143 : (Jvm.Cond.classLink "DialSquare" (33 : Nat) "DialSquare$Tall") ∈ tables_1 := tm_1 (List.mem_of_getElem? (i := 143) rfl)
set_option maxRecDepth 20000 in
theorem w_144 : (Jvm.Cond.instantiable "DialSquare$Tall" (0 : Nat)) ∈ tables_1 := tm_1 (List.mem_of_getElem? (i := 144) rfl)
set_option maxRecDepth 20000 in
theorem w_145 : (Jvm.Cond.methodLinkNest "DialSquare" (35 : Nat) ({ cls := "DialSquare$Tall", name := "<init>", desc := "()V" } : Jvm.MethodName) "DialSquare") ∈ tables_1 := tm_1 (List.mem_of_getElem? (i := 145) rfl)
set_option maxRecDepth 20000 in
theorem w_146 : (Jvm.Cond.instanceMethod ({ cls := "DialSquare$Tall", name := "<init>", desc := "()V" } : Jvm.MethodName)) ∈ tables_1 := tm_1 (List.mem_of_getElem? (i := 146) rfl)
set_option maxRecDepth 20000 in
theorem w_147 : (Jvm.Cond.code ({ cls := "DialSquare$Tall", name := "<init>", desc := "()V" } : Jvm.MethodName) prog_12_method_1_code (1 : Nat) (Option.none : Option Jvm.ClassFile.FieldType)) ∈ tables_1 := tm_1 (List.mem_of_getElem? (i := 147) rfl)
set_option maxRecDepth 20000 in
theorem w_148 : (Jvm.Cond.methodLinkNest "DialSquare$Tall" (1 : Nat) ({ cls := "DialSquare$Dial", name := "<init>", desc := "()V" } : Jvm.MethodName) "DialSquare") ∈ tables_1 := tm_1 (List.mem_of_getElem? (i := 148) rfl)
set_option maxRecDepth 20000 in
theorem w_149 : (Jvm.Cond.superclass "DialSquare$Tall" "DialSquare$Dial") ∈ tables_1 := tm_1 (List.mem_of_getElem? (i := 149) rfl)
set_option maxRecDepth 20000 in
theorem w_150 : (Jvm.Cond.classLink "DialSquare" (36 : Nat) "DialSquare$Guild") ∈ tables_1 := tm_1 (List.mem_of_getElem? (i := 150) rfl)
set_option maxRecDepth 20000 in
theorem w_151 : (Jvm.Cond.instantiable "DialSquare$Guild" (0 : Nat)) ∈ tables_1 := tm_1 (List.mem_of_getElem? (i := 151) rfl)
set_option maxRecDepth 20000 in
theorem w_152 : (Jvm.Cond.methodLinkNest "DialSquare" (38 : Nat) ({ cls := "DialSquare$Guild", name := "<init>", desc := "()V" } : Jvm.MethodName) "DialSquare") ∈ tables_1 := tm_1 (List.mem_of_getElem? (i := 152) rfl)
set_option maxRecDepth 20000 in
theorem w_153 : (Jvm.Cond.instanceMethod ({ cls := "DialSquare$Guild", name := "<init>", desc := "()V" } : Jvm.MethodName)) ∈ tables_1 := tm_1 (List.mem_of_getElem? (i := 153) rfl)
set_option maxRecDepth 20000 in
theorem w_154 : (Jvm.Cond.code ({ cls := "DialSquare$Guild", name := "<init>", desc := "()V" } : Jvm.MethodName) prog_3_method_1_code (1 : Nat) (Option.none : Option Jvm.ClassFile.FieldType)) ∈ tables_1 := tm_1 (List.mem_of_getElem? (i := 154) rfl)
set_option maxRecDepth 20000 in
theorem w_155 : (Jvm.Cond.methodLinkNest "DialSquare$Guild" (1 : Nat) ({ cls := "DialSquare$Tall", name := "<init>", desc := "()V" } : Jvm.MethodName) "DialSquare") ∈ tables_1 := tm_1 (List.mem_of_getElem? (i := 155) rfl)
set_option maxRecDepth 20000 in
theorem w_156 : (Jvm.Cond.superclass "DialSquare$Guild" "DialSquare$Tall") ∈ tables_1 := tm_1 (List.mem_of_getElem? (i := 156) rfl)
set_option maxRecDepth 20000 in
theorem w_157 : (Jvm.Cond.classLink "DialSquare" (39 : Nat) "DialSquare$Low") ∈ tables_1 := tm_1 (List.mem_of_getElem? (i := 157) rfl)
set_option maxRecDepth 20000 in
theorem w_158 : (Jvm.Cond.instantiable "DialSquare$Low" (0 : Nat)) ∈ tables_1 := tm_1 (List.mem_of_getElem? (i := 158) rfl)
set_option maxRecDepth 20000 in
theorem w_159 : (Jvm.Cond.methodLinkNest "DialSquare" (41 : Nat) ({ cls := "DialSquare$Low", name := "<init>", desc := "()V" } : Jvm.MethodName) "DialSquare") ∈ tables_1 := tm_1 (List.mem_of_getElem? (i := 159) rfl)
set_option maxRecDepth 20000 in
theorem w_160 : (Jvm.Cond.instanceMethod ({ cls := "DialSquare$Low", name := "<init>", desc := "()V" } : Jvm.MethodName)) ∈ tables_1 := tm_1 (List.mem_of_getElem? (i := 160) rfl)
set_option maxRecDepth 20000 in
theorem w_161 : (Jvm.Cond.code ({ cls := "DialSquare$Low", name := "<init>", desc := "()V" } : Jvm.MethodName) prog_5_method_1_code (1 : Nat) (Option.none : Option Jvm.ClassFile.FieldType)) ∈ tables_1 := tm_1 (List.mem_of_getElem? (i := 161) rfl)
set_option maxRecDepth 20000 in
theorem w_162 : (Jvm.Cond.methodLinkNest "DialSquare$Low" (1 : Nat) ({ cls := "DialSquare$Dial", name := "<init>", desc := "()V" } : Jvm.MethodName) "DialSquare") ∈ tables_1 := tm_1 (List.mem_of_getElem? (i := 162) rfl)
set_option maxRecDepth 20000 in
theorem w_163 : (Jvm.Cond.superclass "DialSquare$Low" "DialSquare$Dial") ∈ tables_1 := tm_1 (List.mem_of_getElem? (i := 163) rfl)
set_option maxRecDepth 20000 in
theorem w_164 : (Jvm.Cond.classLink "DialSquare" (42 : Nat) "DialSquare$Slit") ∈ tables_1 := tm_1 (List.mem_of_getElem? (i := 164) rfl)
set_option maxRecDepth 20000 in
theorem w_165 : (Jvm.Cond.instantiable "DialSquare$Slit" (0 : Nat)) ∈ tables_1 := tm_1 (List.mem_of_getElem? (i := 165) rfl)
set_option maxRecDepth 20000 in
theorem w_166 : (Jvm.Cond.methodLinkNest "DialSquare" (44 : Nat) ({ cls := "DialSquare$Slit", name := "<init>", desc := "()V" } : Jvm.MethodName) "DialSquare") ∈ tables_1 := tm_1 (List.mem_of_getElem? (i := 166) rfl)
set_option maxRecDepth 20000 in
theorem w_167 : (Jvm.Cond.instanceMethod ({ cls := "DialSquare$Slit", name := "<init>", desc := "()V" } : Jvm.MethodName)) ∈ tables_1 := tm_1 (List.mem_of_getElem? (i := 167) rfl)
set_option maxRecDepth 20000 in
theorem w_168 : (Jvm.Cond.code ({ cls := "DialSquare$Slit", name := "<init>", desc := "()V" } : Jvm.MethodName) prog_10_method_1_code (1 : Nat) (Option.none : Option Jvm.ClassFile.FieldType)) ∈ tables_1 := tm_1 (List.mem_of_getElem? (i := 168) rfl)
set_option maxRecDepth 20000 in
theorem w_169 : (Jvm.Cond.methodLinkNest "DialSquare$Slit" (1 : Nat) ({ cls := "DialSquare$Low", name := "<init>", desc := "()V" } : Jvm.MethodName) "DialSquare") ∈ tables_1 := tm_1 (List.mem_of_getElem? (i := 169) rfl)
set_option maxRecDepth 20000 in
theorem w_170 : (Jvm.Cond.superclass "DialSquare$Slit" "DialSquare$Low") ∈ tables_1 := tm_1 (List.mem_of_getElem? (i := 170) rfl)
set_option maxRecDepth 20000 in
theorem w_171 : (Jvm.Cond.classLink "DialSquare" (45 : Nat) "DialSquare$Rules") ∈ tables_1 := tm_1 (List.mem_of_getElem? (i := 171) rfl)
set_option maxRecDepth 20000 in
theorem w_172 : (Jvm.Cond.instantiable "DialSquare$Rules" (6 : Nat)) ∈ tables_1 := tm_1 (List.mem_of_getElem? (i := 172) rfl)
set_option maxRecDepth 20000 in
theorem w_173 : (Jvm.Cond.methodLink "DialSquare" (47 : Nat) ({ cls := "DialSquare$Rules", name := "<init>", desc := "(I[I[I[I[I)V" } : Jvm.MethodName)) ∈ tables_1 := tm_1 (List.mem_of_getElem? (i := 173) rfl)
set_option maxRecDepth 20000 in
theorem w_174 : (Jvm.Cond.instanceMethod ({ cls := "DialSquare$Rules", name := "<init>", desc := "(I[I[I[I[I)V" } : Jvm.MethodName)) ∈ tables_1 := tm_1 (List.mem_of_getElem? (i := 174) rfl)
set_option maxRecDepth 20000 in
theorem w_175 : (Jvm.Cond.code ({ cls := "DialSquare$Rules", name := "<init>", desc := "(I[I[I[I[I)V" } : Jvm.MethodName) prog_9_method_1_code (6 : Nat) (Option.none : Option Jvm.ClassFile.FieldType)) ∈ tables_1 := tm_1 (List.mem_of_getElem? (i := 175) rfl)
set_option maxRecDepth 20000 in
theorem w_176 : (Jvm.Cond.methodLink "DialSquare$Rules" (3 : Nat) ({ cls := "java/lang/Object", name := "<init>", desc := "()V" } : Jvm.MethodName)) ∈ tables_1 := tm_1 (List.mem_of_getElem? (i := 176) rfl)
set_option maxRecDepth 20000 in
theorem w_177 : (Jvm.Cond.fieldLink "DialSquare$Rules" (15 : Nat) "DialSquare$Rules" "count" "I") ∈ tables_1 := tm_1 (List.mem_of_getElem? (i := 177) rfl)
set_option maxRecDepth 20000 in
theorem w_178 : (Jvm.Cond.fieldLink "DialSquare" (172 : Nat) "DialSquare$Rules" "count" "I") ∈ tables_1 := tm_1 (List.mem_of_getElem? (i := 178) rfl)
set_option maxRecDepth 20000 in
theorem w_179 : (Jvm.Cond.fieldLink "DialSquare$Rules" (19 : Nat) "DialSquare$Rules" "kinds" "[I") ∈ tables_1 := tm_1 (List.mem_of_getElem? (i := 179) rfl)
set_option maxRecDepth 20000 in
theorem w_180 : (Jvm.Cond.fieldLink "DialSquare$Rules" (22 : Nat) "DialSquare$Rules" "wills" "[I") ∈ tables_1 := tm_1 (List.mem_of_getElem? (i := 180) rfl)
set_option maxRecDepth 20000 in
theorem w_181 : (Jvm.Cond.fieldLink "DialSquare$Rules" (25 : Nat) "DialSquare$Rules" "starts" "[I") ∈ tables_1 := tm_1 (List.mem_of_getElem? (i := 181) rfl)
set_option maxRecDepth 20000 in
theorem w_182 : (Jvm.Cond.fieldLink "DialSquare$Rules" (28 : Nat) "DialSquare$Rules" "code" "[I") ∈ tables_1 := tm_1 (List.mem_of_getElem? (i := 182) rfl)
set_option maxRecDepth 20000 in
theorem w_183 : (Jvm.Cond.fieldLink "DialSquare$Rules" (9 : Nat) "DialSquare$Rules" "stack" "[I") ∈ tables_1 := tm_1 (List.mem_of_getElem? (i := 183) rfl)
set_option maxRecDepth 20000 in
theorem w_184 : (Jvm.Cond.laysFinal "DialSquare$Rules" "DialSquare$Rules" "count" "I") ∈ tables_1 := tm_1 (List.mem_of_getElem? (i := 184) rfl)
set_option maxRecDepth 20000 in
theorem w_186 : (Jvm.Cond.laysFinal "DialSquare$Rules" "DialSquare$Rules" "kinds" "[I") ∈ tables_1 := tm_1 (List.mem_of_getElem? (i := 186) rfl)
set_option maxRecDepth 20000 in
theorem w_188 : (Jvm.Cond.laysFinal "DialSquare$Rules" "DialSquare$Rules" "wills" "[I") ∈ tables_1 := tm_1 (List.mem_of_getElem? (i := 188) rfl)
set_option maxRecDepth 20000 in
theorem w_190 : (Jvm.Cond.laysFinal "DialSquare$Rules" "DialSquare$Rules" "starts" "[I") ∈ tables_1 := tm_1 (List.mem_of_getElem? (i := 190) rfl)
set_option maxRecDepth 20000 in
theorem w_192 : (Jvm.Cond.laysFinal "DialSquare$Rules" "DialSquare$Rules" "code" "[I") ∈ tables_1 := tm_1 (List.mem_of_getElem? (i := 192) rfl)
set_option maxRecDepth 20000 in
theorem w_194 : (Jvm.Cond.laysFinal "DialSquare$Rules" "DialSquare$Rules" "stack" "[I") ∈ tables_1 := tm_1 (List.mem_of_getElem? (i := 194) rfl)
set_option maxRecDepth 20000 in
theorem w_196 : (Jvm.Cond.superclass "DialSquare$Rules" "java/lang/Object") ∈ tables_1 := tm_1 (List.mem_of_getElem? (i := 196) rfl)
set_option maxRecDepth 20000 in
theorem w_197 : (Jvm.Cond.classLink "DialSquare" (50 : Nat) "DialSquare$Square") ∈ tables_1 := tm_1 (List.mem_of_getElem? (i := 197) rfl)
set_option maxRecDepth 20000 in
theorem w_198 : (Jvm.Cond.instantiable "DialSquare$Square" (14 : Nat)) ∈ tables_1 := tm_1 (List.mem_of_getElem? (i := 198) rfl)
set_option maxRecDepth 20000 in
theorem w_199 : (Jvm.Cond.methodLink "DialSquare" (52 : Nat) ({ cls := "DialSquare$Square", name := "<init>", desc := "([LDialSquare$Dial;LDialSquare$Rules;)V" } : Jvm.MethodName)) ∈ tables_1 := tm_1 (List.mem_of_getElem? (i := 199) rfl)
set_option maxRecDepth 20000 in
theorem w_200 : (Jvm.Cond.instanceMethod ({ cls := "DialSquare$Square", name := "<init>", desc := "([LDialSquare$Dial;LDialSquare$Rules;)V" } : Jvm.MethodName)) ∈ tables_1 := tm_1 (List.mem_of_getElem? (i := 200) rfl)
set_option maxRecDepth 20000 in
theorem w_201 : (Jvm.Cond.code ({ cls := "DialSquare$Square", name := "<init>", desc := "([LDialSquare$Dial;LDialSquare$Rules;)V" } : Jvm.MethodName) prog_11_method_1_code (3 : Nat) (Option.none : Option Jvm.ClassFile.FieldType)) ∈ tables_1 := tm_1 (List.mem_of_getElem? (i := 201) rfl)
set_option maxRecDepth 20000 in
theorem w_202 : (Jvm.Cond.methodLink "DialSquare$Square" (3 : Nat) ({ cls := "java/lang/Object", name := "<init>", desc := "()V" } : Jvm.MethodName)) ∈ tables_1 := tm_1 (List.mem_of_getElem? (i := 202) rfl)
set_option maxRecDepth 20000 in
theorem w_203 : (Jvm.Cond.classLink "DialSquare$Square" (9 : Nat) "[[I") ∈ tables_1 := tm_1 (List.mem_of_getElem? (i := 203) rfl)
set_option maxRecDepth 20000 in
theorem w_204 : (Jvm.Cond.methodLink "DialSquare$Square" (47 : Nat) ({ cls := "java/util/Arrays", name := "fill", desc := "([II)V" } : Jvm.MethodName)) ∈ tables_1 := tm_1 (List.mem_of_getElem? (i := 204) rfl)
set_option maxRecDepth 20000 in
theorem w_205 : (Jvm.Cond.static ({ cls := "java/util/Arrays", name := "fill", desc := "([II)V" } : Jvm.MethodName)) ∈ tables_1 := tm_1 (List.mem_of_getElem? (i := 205) rfl)
set_option maxRecDepth 20000 in
theorem w_206 : (Jvm.Cond.code ({ cls := "java/util/Arrays", name := "fill", desc := "([II)V" } : Jvm.MethodName) prog_22_method_103_code (4 : Nat) (Option.none : Option Jvm.ClassFile.FieldType)) ∈ tables_1 := tm_1 (List.mem_of_getElem? (i := 206) rfl)
set_option maxRecDepth 20000 in
theorem w_207 : (Jvm.Cond.fieldLink "DialSquare$Square" (11 : Nat) "DialSquare$Square" "dials" "[[I") ∈ tables_1 := tm_1 (List.mem_of_getElem? (i := 207) rfl)
set_option maxRecDepth 20000 in
theorem w_208 : (Jvm.Cond.fieldLink "DialSquare" (93 : Nat) "DialSquare$Square" "dials" "[[I") ∈ tables_1 := tm_1 (List.mem_of_getElem? (i := 208) rfl)
set_option maxRecDepth 20000 in
theorem w_209 : (Jvm.Cond.fieldLink "DialSquare$Square" (16 : Nat) "DialSquare$Square" "spots" "[[I") ∈ tables_1 := tm_1 (List.mem_of_getElem? (i := 209) rfl)
set_option maxRecDepth 20000 in
theorem w_210 : (Jvm.Cond.fieldLink "DialSquare" (119 : Nat) "DialSquare$Square" "spots" "[[I") ∈ tables_1 := tm_1 (List.mem_of_getElem? (i := 210) rfl)
set_option maxRecDepth 20000 in
theorem w_211 : (Jvm.Cond.fieldLink "DialSquare$Square" (19 : Nat) "DialSquare$Square" "skies" "[I") ∈ tables_1 := tm_1 (List.mem_of_getElem? (i := 211) rfl)
set_option maxRecDepth 20000 in
theorem w_212 : (Jvm.Cond.fieldLink "DialSquare" (116 : Nat) "DialSquare$Square" "skies" "[I") ∈ tables_1 := tm_1 (List.mem_of_getElem? (i := 212) rfl)
set_option maxRecDepth 20000 in
theorem w_213 : (Jvm.Cond.fieldLink "DialSquare$Square" (23 : Nat) "DialSquare$Square" "reports" "[[I") ∈ tables_1 := tm_1 (List.mem_of_getElem? (i := 213) rfl)
set_option maxRecDepth 20000 in
theorem w_214 : (Jvm.Cond.fieldLink "DialSquare" (82 : Nat) "DialSquare$Square" "count" "I") ∈ tables_1 := tm_1 (List.mem_of_getElem? (i := 214) rfl)
set_option maxRecDepth 20000 in
theorem w_215 : (Jvm.Cond.fieldLink "DialSquare$Square" (59 : Nat) "DialSquare$Square" "count" "I") ∈ tables_1 := tm_1 (List.mem_of_getElem? (i := 215) rfl)
set_option maxRecDepth 20000 in
theorem w_216 : (Jvm.Cond.fieldLink "DialSquare$Plans" (73 : Nat) "DialSquare$Square" "count" "I") ∈ tables_1 := tm_1 (List.mem_of_getElem? (i := 216) rfl)
set_option maxRecDepth 20000 in
theorem w_217 : (Jvm.Cond.fieldLink "DialSquare$Square" (62 : Nat) "DialSquare$Square" "chime" "I") ∈ tables_1 := tm_1 (List.mem_of_getElem? (i := 217) rfl)
set_option maxRecDepth 20000 in
theorem w_218 : (Jvm.Cond.fieldLink "DialSquare" (128 : Nat) "DialSquare$Square" "chime" "I") ∈ tables_1 := tm_1 (List.mem_of_getElem? (i := 218) rfl)
set_option maxRecDepth 20000 in
theorem w_219 : (Jvm.Cond.fieldLink "DialSquare$Square" (26 : Nat) "DialSquare$Square" "end" "I") ∈ tables_1 := tm_1 (List.mem_of_getElem? (i := 219) rfl)
set_option maxRecDepth 20000 in
theorem w_220 : (Jvm.Cond.fieldLink "DialSquare" (131 : Nat) "DialSquare$Square" "end" "I") ∈ tables_1 := tm_1 (List.mem_of_getElem? (i := 220) rfl)
set_option maxRecDepth 20000 in
theorem w_221 : (Jvm.Cond.fieldLink "DialSquare$Square" (65 : Nat) "DialSquare$Square" "score" "I") ∈ tables_1 := tm_1 (List.mem_of_getElem? (i := 221) rfl)
set_option maxRecDepth 20000 in
theorem w_222 : (Jvm.Cond.fieldLink "DialSquare" (134 : Nat) "DialSquare$Square" "score" "I") ∈ tables_1 := tm_1 (List.mem_of_getElem? (i := 222) rfl)
set_option maxRecDepth 20000 in
theorem w_223 : (Jvm.Cond.fieldLink "DialSquare$Square" (68 : Nat) "DialSquare$Square" "reportCount" "I") ∈ tables_1 := tm_1 (List.mem_of_getElem? (i := 223) rfl)
set_option maxRecDepth 20000 in
theorem w_224 : (Jvm.Cond.fieldLink "DialSquare" (240 : Nat) "DialSquare$Square" "reportCount" "I") ∈ tables_1 := tm_1 (List.mem_of_getElem? (i := 224) rfl)
set_option maxRecDepth 20000 in
theorem w_225 : (Jvm.Cond.fieldLink "DialSquare$Square" (30 : Nat) "DialSquare$Square" "z" "I") ∈ tables_1 := tm_1 (List.mem_of_getElem? (i := 225) rfl)
set_option maxRecDepth 20000 in
theorem w_226 : (Jvm.Cond.fieldLink "DialSquare" (260 : Nat) "DialSquare$Square" "z" "I") ∈ tables_1 := tm_1 (List.mem_of_getElem? (i := 226) rfl)
set_option maxRecDepth 20000 in
theorem w_227 : (Jvm.Cond.fieldLink "DialSquare$Square" (43 : Nat) "DialSquare$Square" "rules" "LDialSquare$Rules;") ∈ tables_1 := tm_1 (List.mem_of_getElem? (i := 227) rfl)
set_option maxRecDepth 20000 in
theorem w_228 : (Jvm.Cond.fieldLink "DialSquare" (168 : Nat) "DialSquare$Square" "rules" "LDialSquare$Rules;") ∈ tables_1 := tm_1 (List.mem_of_getElem? (i := 228) rfl)
set_option maxRecDepth 20000 in
theorem w_229 : (Jvm.Cond.fieldLink "DialSquare$Square" (33 : Nat) "DialSquare$Square" "shades" "[I") ∈ tables_1 := tm_1 (List.mem_of_getElem? (i := 229) rfl)
set_option maxRecDepth 20000 in
theorem w_230 : (Jvm.Cond.fieldLink "DialSquare" (125 : Nat) "DialSquare$Square" "shades" "[I") ∈ tables_1 := tm_1 (List.mem_of_getElem? (i := 230) rfl)
set_option maxRecDepth 20000 in
theorem w_231 : (Jvm.Cond.fieldLink "DialSquare$Square" (36 : Nat) "DialSquare$Square" "facts" "[I") ∈ tables_1 := tm_1 (List.mem_of_getElem? (i := 231) rfl)
set_option maxRecDepth 20000 in
theorem w_232 : (Jvm.Cond.fieldLink "DialSquare$Square" (39 : Nat) "DialSquare$Square" "kinds" "[LDialSquare$Dial;") ∈ tables_1 := tm_1 (List.mem_of_getElem? (i := 232) rfl)
set_option maxRecDepth 20000 in
theorem w_233 : (Jvm.Cond.laysFinal "DialSquare$Square" "DialSquare$Square" "dials" "[[I") ∈ tables_1 := tm_1 (List.mem_of_getElem? (i := 233) rfl)
set_option maxRecDepth 20000 in
theorem w_235 : (Jvm.Cond.laysFinal "DialSquare$Square" "DialSquare$Square" "spots" "[[I") ∈ tables_1 := tm_1 (List.mem_of_getElem? (i := 235) rfl)
set_option maxRecDepth 20000 in
theorem w_237 : (Jvm.Cond.laysFinal "DialSquare$Square" "DialSquare$Square" "skies" "[I") ∈ tables_1 := tm_1 (List.mem_of_getElem? (i := 237) rfl)
set_option maxRecDepth 20000 in
theorem w_239 : (Jvm.Cond.laysFinal "DialSquare$Square" "DialSquare$Square" "reports" "[[I") ∈ tables_1 := tm_1 (List.mem_of_getElem? (i := 239) rfl)
set_option maxRecDepth 20000 in
theorem w_241 : (Jvm.Cond.lays "DialSquare$Square" "DialSquare$Square" "count" "I") ∈ tables_1 := tm_2 (List.mem_of_getElem? (i := 1) rfl)
set_option maxRecDepth 20000 in
theorem w_243 : (Jvm.Cond.lays "DialSquare$Square" "DialSquare$Square" "chime" "I") ∈ tables_1 := tm_2 (List.mem_of_getElem? (i := 3) rfl)
set_option maxRecDepth 20000 in
theorem w_245 : (Jvm.Cond.lays "DialSquare$Square" "DialSquare$Square" "end" "I") ∈ tables_1 := tm_2 (List.mem_of_getElem? (i := 5) rfl)
set_option maxRecDepth 20000 in
theorem w_247 : (Jvm.Cond.lays "DialSquare$Square" "DialSquare$Square" "score" "I") ∈ tables_1 := tm_2 (List.mem_of_getElem? (i := 7) rfl)
set_option maxRecDepth 20000 in
theorem w_249 : (Jvm.Cond.lays "DialSquare$Square" "DialSquare$Square" "reportCount" "I") ∈ tables_1 := tm_2 (List.mem_of_getElem? (i := 9) rfl)
set_option maxRecDepth 20000 in
theorem w_251 : (Jvm.Cond.lays "DialSquare$Square" "DialSquare$Square" "z" "I") ∈ tables_1 := tm_2 (List.mem_of_getElem? (i := 11) rfl)
set_option maxRecDepth 20000 in
theorem w_253 : (Jvm.Cond.lays "DialSquare$Square" "DialSquare$Square" "rules" "LDialSquare$Rules;") ∈ tables_1 := tm_2 (List.mem_of_getElem? (i := 13) rfl)
set_option maxRecDepth 20000 in
theorem w_255 : (Jvm.Cond.laysFinal "DialSquare$Square" "DialSquare$Square" "shades" "[I") ∈ tables_1 := tm_2 (List.mem_of_getElem? (i := 15) rfl)
set_option maxRecDepth 20000 in
theorem w_257 : (Jvm.Cond.laysFinal "DialSquare$Square" "DialSquare$Square" "facts" "[I") ∈ tables_1 := tm_2 (List.mem_of_getElem? (i := 17) rfl)
set_option maxRecDepth 20000 in
theorem w_259 : (Jvm.Cond.laysFinal "DialSquare$Square" "DialSquare$Square" "kinds" "[LDialSquare$Dial;") ∈ tables_1 := tm_2 (List.mem_of_getElem? (i := 19) rfl)
set_option maxRecDepth 20000 in
theorem w_261 : (Jvm.Cond.superclass "DialSquare$Square" "java/lang/Object") ∈ tables_1 := tm_2 (List.mem_of_getElem? (i := 21) rfl)
set_option maxRecDepth 20000 in
theorem w_262 : (Jvm.Cond.classLink "DialSquare" (65 : Nat) "DialSquare$Plans") ∈ tables_1 := tm_2 (List.mem_of_getElem? (i := 22) rfl)
set_option maxRecDepth 20000 in
theorem w_263 : (Jvm.Cond.instantiable "DialSquare$Plans" (14 : Nat)) ∈ tables_1 := tm_2 (List.mem_of_getElem? (i := 23) rfl)
set_option maxRecDepth 20000 in
theorem w_264 : (Jvm.Cond.methodLink "DialSquare" (67 : Nat) ({ cls := "DialSquare$Plans", name := "<init>", desc := "(LDialSquare$Square;)V" } : Jvm.MethodName)) ∈ tables_1 := tm_2 (List.mem_of_getElem? (i := 24) rfl)
set_option maxRecDepth 20000 in
theorem w_265 : (Jvm.Cond.instanceMethod ({ cls := "DialSquare$Plans", name := "<init>", desc := "(LDialSquare$Square;)V" } : Jvm.MethodName)) ∈ tables_1 := tm_2 (List.mem_of_getElem? (i := 25) rfl)
set_option maxRecDepth 20000 in
theorem w_266 : (Jvm.Cond.code ({ cls := "DialSquare$Plans", name := "<init>", desc := "(LDialSquare$Square;)V" } : Jvm.MethodName) prog_7_method_1_code (2 : Nat) (Option.none : Option Jvm.ClassFile.FieldType)) ∈ tables_1 := tm_2 (List.mem_of_getElem? (i := 26) rfl)
set_option maxRecDepth 20000 in
theorem w_267 : (Jvm.Cond.methodLink "DialSquare$Plans" (3 : Nat) ({ cls := "java/lang/Object", name := "<init>", desc := "()V" } : Jvm.MethodName)) ∈ tables_1 := tm_2 (List.mem_of_getElem? (i := 27) rfl)
set_option maxRecDepth 20000 in
theorem w_268 : (Jvm.Cond.classLink "DialSquare$Plans" (15 : Nat) "[[I") ∈ tables_1 := tm_2 (List.mem_of_getElem? (i := 28) rfl)
set_option maxRecDepth 20000 in
theorem w_269 : (Jvm.Cond.fieldLink "DialSquare$Plans" (9 : Nat) "DialSquare$Plans" "first" "[I") ∈ tables_1 := tm_2 (List.mem_of_getElem? (i := 29) rfl)
set_option maxRecDepth 20000 in
theorem w_270 : (Jvm.Cond.fieldLink "DialSquare" (218 : Nat) "DialSquare$Plans" "first" "[I") ∈ tables_1 := tm_2 (List.mem_of_getElem? (i := 30) rfl)
set_option maxRecDepth 20000 in
theorem w_271 : (Jvm.Cond.fieldLink "DialSquare$Plans" (43 : Nat) "DialSquare$Plans" "steps" "I") ∈ tables_1 := tm_2 (List.mem_of_getElem? (i := 31) rfl)
set_option maxRecDepth 20000 in
theorem w_272 : (Jvm.Cond.fieldLink "DialSquare" (215 : Nat) "DialSquare$Plans" "steps" "I") ∈ tables_1 := tm_2 (List.mem_of_getElem? (i := 32) rfl)
set_option maxRecDepth 20000 in
theorem w_273 : (Jvm.Cond.fieldLink "DialSquare$Plans" (46 : Nat) "DialSquare$Plans" "most" "I") ∈ tables_1 := tm_2 (List.mem_of_getElem? (i := 33) rfl)
set_option maxRecDepth 20000 in
theorem w_274 : (Jvm.Cond.fieldLink "DialSquare" (212 : Nat) "DialSquare$Plans" "most" "I") ∈ tables_1 := tm_2 (List.mem_of_getElem? (i := 34) rfl)
set_option maxRecDepth 20000 in
theorem w_275 : (Jvm.Cond.fieldLink "DialSquare$Plans" (49 : Nat) "DialSquare$Plans" "many" "I") ∈ tables_1 := tm_2 (List.mem_of_getElem? (i := 35) rfl)
set_option maxRecDepth 20000 in
theorem w_276 : (Jvm.Cond.fieldLink "DialSquare" (221 : Nat) "DialSquare$Plans" "many" "I") ∈ tables_1 := tm_2 (List.mem_of_getElem? (i := 36) rfl)
set_option maxRecDepth 20000 in
theorem w_277 : (Jvm.Cond.fieldLink "DialSquare$Plans" (52 : Nat) "DialSquare$Plans" "fewest" "I") ∈ tables_1 := tm_2 (List.mem_of_getElem? (i := 37) rfl)
set_option maxRecDepth 20000 in
theorem w_278 : (Jvm.Cond.fieldLink "DialSquare" (227 : Nat) "DialSquare$Plans" "fewest" "I") ∈ tables_1 := tm_2 (List.mem_of_getElem? (i := 38) rfl)
set_option maxRecDepth 20000 in
theorem w_279 : (Jvm.Cond.fieldLink "DialSquare$Plans" (55 : Nat) "DialSquare$Plans" "everRight" "I") ∈ tables_1 := tm_2 (List.mem_of_getElem? (i := 39) rfl)
set_option maxRecDepth 20000 in
theorem w_280 : (Jvm.Cond.fieldLink "DialSquare" (230 : Nat) "DialSquare$Plans" "everRight" "I") ∈ tables_1 := tm_2 (List.mem_of_getElem? (i := 40) rfl)
set_option maxRecDepth 20000 in
theorem w_281 : (Jvm.Cond.fieldLink "DialSquare$Plans" (96 : Nat) "DialSquare$Plans" "opening" "I") ∈ tables_1 := tm_2 (List.mem_of_getElem? (i := 41) rfl)
set_option maxRecDepth 20000 in
theorem w_282 : (Jvm.Cond.fieldLink "DialSquare" (237 : Nat) "DialSquare$Plans" "opening" "I") ∈ tables_1 := tm_2 (List.mem_of_getElem? (i := 42) rfl)
set_option maxRecDepth 20000 in
theorem w_283 : (Jvm.Cond.fieldLink "DialSquare$Plans" (17 : Nat) "DialSquare$Plans" "rows" "[[I") ∈ tables_1 := tm_2 (List.mem_of_getElem? (i := 43) rfl)
set_option maxRecDepth 20000 in
theorem w_284 : (Jvm.Cond.fieldLink "DialSquare" (274 : Nat) "DialSquare$Plans" "rows" "[[I") ∈ tables_1 := tm_2 (List.mem_of_getElem? (i := 44) rfl)
set_option maxRecDepth 20000 in
theorem w_285 : (Jvm.Cond.fieldLink "DialSquare$Plans" (99 : Nat) "DialSquare$Plans" "rowCount" "I") ∈ tables_1 := tm_2 (List.mem_of_getElem? (i := 45) rfl)
set_option maxRecDepth 20000 in
theorem w_286 : (Jvm.Cond.fieldLink "DialSquare" (362 : Nat) "DialSquare$Plans" "rowCount" "I") ∈ tables_1 := tm_2 (List.mem_of_getElem? (i := 46) rfl)
set_option maxRecDepth 20000 in
theorem w_287 : (Jvm.Cond.fieldLink "DialSquare$Plans" (26 : Nat) "DialSquare$Plans" "trial" "LDialSquare$Square;") ∈ tables_1 := tm_2 (List.mem_of_getElem? (i := 47) rfl)
set_option maxRecDepth 20000 in
theorem w_288 : (Jvm.Cond.fieldLink "DialSquare$Plans" (20 : Nat) "DialSquare$Plans" "acts" "[I") ∈ tables_1 := tm_2 (List.mem_of_getElem? (i := 48) rfl)
set_option maxRecDepth 20000 in
theorem w_289 : (Jvm.Cond.fieldLink "DialSquare$Plans" (23 : Nat) "DialSquare$Plans" "marks" "[[I") ∈ tables_1 := tm_2 (List.mem_of_getElem? (i := 49) rfl)
set_option maxRecDepth 20000 in
theorem w_290 : (Jvm.Cond.fieldLink "DialSquare$Plans" (40 : Nat) "DialSquare$Plans" "deepest" "I") ∈ tables_1 := tm_2 (List.mem_of_getElem? (i := 50) rfl)
set_option maxRecDepth 20000 in
theorem w_291 : (Jvm.Cond.fieldLink "DialSquare$Plans" (36 : Nat) "DialSquare$Plans" "wanted" "I") ∈ tables_1 := tm_2 (List.mem_of_getElem? (i := 51) rfl)
set_option maxRecDepth 20000 in
theorem w_292 : (Jvm.Cond.laysFinal "DialSquare$Plans" "DialSquare$Plans" "first" "[I") ∈ tables_1 := tm_2 (List.mem_of_getElem? (i := 52) rfl)
set_option maxRecDepth 20000 in
theorem w_294 : (Jvm.Cond.lays "DialSquare$Plans" "DialSquare$Plans" "steps" "I") ∈ tables_1 := tm_2 (List.mem_of_getElem? (i := 54) rfl)
set_option maxRecDepth 20000 in
theorem w_296 : (Jvm.Cond.lays "DialSquare$Plans" "DialSquare$Plans" "most" "I") ∈ tables_1 := tm_2 (List.mem_of_getElem? (i := 56) rfl)
set_option maxRecDepth 20000 in
theorem w_298 : (Jvm.Cond.lays "DialSquare$Plans" "DialSquare$Plans" "many" "I") ∈ tables_1 := tm_2 (List.mem_of_getElem? (i := 58) rfl)
set_option maxRecDepth 20000 in
theorem w_300 : (Jvm.Cond.lays "DialSquare$Plans" "DialSquare$Plans" "fewest" "I") ∈ tables_1 := tm_2 (List.mem_of_getElem? (i := 60) rfl)
set_option maxRecDepth 20000 in
theorem w_302 : (Jvm.Cond.lays "DialSquare$Plans" "DialSquare$Plans" "everRight" "I") ∈ tables_1 := tm_2 (List.mem_of_getElem? (i := 62) rfl)
set_option maxRecDepth 20000 in
theorem w_304 : (Jvm.Cond.lays "DialSquare$Plans" "DialSquare$Plans" "opening" "I") ∈ tables_1 := tm_2 (List.mem_of_getElem? (i := 64) rfl)
set_option maxRecDepth 20000 in
theorem w_306 : (Jvm.Cond.laysFinal "DialSquare$Plans" "DialSquare$Plans" "rows" "[[I") ∈ tables_1 := tm_2 (List.mem_of_getElem? (i := 66) rfl)
set_option maxRecDepth 20000 in
theorem w_308 : (Jvm.Cond.lays "DialSquare$Plans" "DialSquare$Plans" "rowCount" "I") ∈ tables_1 := tm_2 (List.mem_of_getElem? (i := 68) rfl)
set_option maxRecDepth 20000 in
theorem w_310 : (Jvm.Cond.laysFinal "DialSquare$Plans" "DialSquare$Plans" "trial" "LDialSquare$Square;") ∈ tables_1 := tm_2 (List.mem_of_getElem? (i := 70) rfl)
set_option maxRecDepth 20000 in
theorem w_312 : (Jvm.Cond.laysFinal "DialSquare$Plans" "DialSquare$Plans" "acts" "[I") ∈ tables_1 := tm_2 (List.mem_of_getElem? (i := 72) rfl)
set_option maxRecDepth 20000 in
theorem w_314 : (Jvm.Cond.laysFinal "DialSquare$Plans" "DialSquare$Plans" "marks" "[[I") ∈ tables_1 := tm_2 (List.mem_of_getElem? (i := 74) rfl)
set_option maxRecDepth 20000 in
theorem w_316 : (Jvm.Cond.lays "DialSquare$Plans" "DialSquare$Plans" "deepest" "I") ∈ tables_1 := tm_2 (List.mem_of_getElem? (i := 76) rfl)
set_option maxRecDepth 20000 in
theorem w_318 : (Jvm.Cond.lays "DialSquare$Plans" "DialSquare$Plans" "wanted" "I") ∈ tables_1 := tm_2 (List.mem_of_getElem? (i := 78) rfl)
set_option maxRecDepth 20000 in
theorem w_320 : (Jvm.Cond.superclass "DialSquare$Plans" "java/lang/Object") ∈ tables_1 := tm_2 (List.mem_of_getElem? (i := 80) rfl)
set_option maxRecDepth 20000 in
theorem w_321 : (Jvm.Cond.fieldLink "DialSquare" (55 : Nat) "DialSquare" "now" "LDialSquare$Square;") ∈ tables_1 := tm_2 (List.mem_of_getElem? (i := 81) rfl)
set_option maxRecDepth 20000 in
theorem w_322 : (Jvm.Cond.fieldLink "DialSquare" (59 : Nat) "DialSquare" "kept" "LDialSquare$Square;") ∈ tables_1 := tm_2 (List.mem_of_getElem? (i := 82) rfl)
set_option maxRecDepth 20000 in
theorem w_323 : (Jvm.Cond.fieldLink "DialSquare" (62 : Nat) "DialSquare" "trial" "LDialSquare$Square;") ∈ tables_1 := tm_2 (List.mem_of_getElem? (i := 83) rfl)
set_option maxRecDepth 20000 in
theorem w_324 : (Jvm.Cond.fieldLink "DialSquare" (9 : Nat) "DialSquare" "marks" "[I") ∈ tables_1 := tm_2 (List.mem_of_getElem? (i := 84) rfl)
set_option maxRecDepth 20000 in
theorem w_325 : (Jvm.Cond.fieldLink "DialSquare" (70 : Nat) "DialSquare" "plans" "LDialSquare$Plans;") ∈ tables_1 := tm_2 (List.mem_of_getElem? (i := 85) rfl)
set_option maxRecDepth 20000 in
theorem w_326 : (Jvm.Cond.fieldLink "DialSquare" (16 : Nat) "DialSquare" "text" "LDialSquare$RuleText;") ∈ tables_1 := tm_2 (List.mem_of_getElem? (i := 86) rfl)
set_option maxRecDepth 20000 in
theorem w_327 : (Jvm.Cond.fieldLink "DialSquare" (23 : Nat) "DialSquare" "host" "LDialSquare$Host;") ∈ tables_1 := tm_2 (List.mem_of_getElem? (i := 87) rfl)
set_option maxRecDepth 20000 in
theorem w_328 : (Jvm.Cond.fieldLink "DialSquare" (365 : Nat) "DialSquare" "isKept" "Z") ∈ tables_1 := tm_2 (List.mem_of_getElem? (i := 88) rfl)
set_option maxRecDepth 20000 in
theorem w_329 : (Jvm.Cond.laysFinal "DialSquare" "DialSquare" "now" "LDialSquare$Square;") ∈ tables_1 := tm_2 (List.mem_of_getElem? (i := 89) rfl)
set_option maxRecDepth 20000 in
theorem w_331 : (Jvm.Cond.laysFinal "DialSquare" "DialSquare" "kept" "LDialSquare$Square;") ∈ tables_1 := tm_2 (List.mem_of_getElem? (i := 91) rfl)
set_option maxRecDepth 20000 in
theorem w_333 : (Jvm.Cond.laysFinal "DialSquare" "DialSquare" "trial" "LDialSquare$Square;") ∈ tables_1 := tm_2 (List.mem_of_getElem? (i := 93) rfl)
set_option maxRecDepth 20000 in
theorem w_335 : (Jvm.Cond.laysFinal "DialSquare" "DialSquare" "marks" "[I") ∈ tables_1 := tm_2 (List.mem_of_getElem? (i := 95) rfl)
set_option maxRecDepth 20000 in
theorem w_337 : (Jvm.Cond.laysFinal "DialSquare" "DialSquare" "plans" "LDialSquare$Plans;") ∈ tables_1 := tm_2 (List.mem_of_getElem? (i := 97) rfl)
set_option maxRecDepth 20000 in
theorem w_339 : (Jvm.Cond.laysFinal "DialSquare" "DialSquare" "text" "LDialSquare$RuleText;") ∈ tables_1 := tm_2 (List.mem_of_getElem? (i := 99) rfl)
set_option maxRecDepth 20000 in
theorem w_341 : (Jvm.Cond.laysFinal "DialSquare" "DialSquare" "host" "LDialSquare$Host;") ∈ tables_1 := tm_2 (List.mem_of_getElem? (i := 101) rfl)
set_option maxRecDepth 20000 in
theorem w_343 : (Jvm.Cond.lays "DialSquare" "DialSquare" "isKept" "Z") ∈ tables_1 := tm_2 (List.mem_of_getElem? (i := 103) rfl)
set_option maxRecDepth 20000 in
theorem w_345 : (Jvm.Cond.superclass "DialSquare" "java/lang/Object") ∈ tables_1 := tm_2 (List.mem_of_getElem? (i := 105) rfl)
set_option maxRecDepth 20000 in
theorem w_346 : (Jvm.Cond.methodLink "DialSquareLaw" (13 : Nat) ({ cls := "DialSquare", name := "dial", desc := "(IIII)I" } : Jvm.MethodName)) ∈ tables_1 := tm_2 (List.mem_of_getElem? (i := 106) rfl)
set_option maxRecDepth 20000 in
theorem w_347 : (Jvm.Cond.instanceMethod ({ cls := "DialSquare", name := "dial", desc := "(IIII)I" } : Jvm.MethodName)) ∈ tables_1 := tm_2 (List.mem_of_getElem? (i := 107) rfl)
set_option maxRecDepth 20000 in
theorem w_348 : (Jvm.Cond.selects "DialSquare" ({ cls := "DialSquare", name := "dial", desc := "(IIII)I" } : Jvm.MethodName) ({ cls := "DialSquare", name := "dial", desc := "(IIII)I" } : Jvm.MethodName)) ∈ tables_1 := tm_2 (List.mem_of_getElem? (i := 108) rfl)
set_option maxRecDepth 20000 in
theorem w_349 : (Jvm.Cond.code ({ cls := "DialSquare", name := "dial", desc := "(IIII)I" } : Jvm.MethodName) prog_1_method_2_code (5 : Nat) (Option.some Jvm.ClassFile.FieldType.int)) ∈ tables_1 := tm_2 (List.mem_of_getElem? (i := 109) rfl)
set_option maxRecDepth 20000 in
theorem w_350 : (Jvm.Cond.methodLink "DialSquare" (74 : Nat) ({ cls := "DialSquare", name := "isIn", desc := "(III)Z" } : Jvm.MethodName)) ∈ tables_1 := tm_2 (List.mem_of_getElem? (i := 110) rfl)
set_option maxRecDepth 20000 in
theorem w_351 : (Jvm.Cond.static ({ cls := "DialSquare", name := "isIn", desc := "(III)Z" } : Jvm.MethodName)) ∈ tables_1 := tm_2 (List.mem_of_getElem? (i := 111) rfl)
set_option maxRecDepth 20000 in
theorem w_352 : (Jvm.Cond.code ({ cls := "DialSquare", name := "isIn", desc := "(III)Z" } : Jvm.MethodName) prog_1_method_63_code (3 : Nat) (Option.some Jvm.ClassFile.FieldType.boolean)) ∈ tables_1 := tm_2 (List.mem_of_getElem? (i := 112) rfl)
set_option maxRecDepth 20000 in
theorem w_353 : (Jvm.Cond.methodLink "DialSquare" (78 : Nat) ({ cls := "DialSquare", name := "isSpot", desc := "(I)Z" } : Jvm.MethodName)) ∈ tables_1 := tm_2 (List.mem_of_getElem? (i := 113) rfl)
set_option maxRecDepth 20000 in
theorem w_354 : (Jvm.Cond.static ({ cls := "DialSquare", name := "isSpot", desc := "(I)Z" } : Jvm.MethodName)) ∈ tables_1 := tm_2 (List.mem_of_getElem? (i := 114) rfl)
set_option maxRecDepth 20000 in
theorem w_355 : (Jvm.Cond.code ({ cls := "DialSquare", name := "isSpot", desc := "(I)Z" } : Jvm.MethodName) prog_1_method_64_code (1 : Nat) (Option.some Jvm.ClassFile.FieldType.boolean)) ∈ tables_1 := tm_2 (List.mem_of_getElem? (i := 115) rfl)
set_option maxRecDepth 20000 in
theorem w_356 : (Jvm.Cond.methodLink "DialSquare" (86 : Nat) ({ cls := "DialSquare$Square", name := "put", desc := "(IIII)I" } : Jvm.MethodName)) ∈ tables_1 := tm_2 (List.mem_of_getElem? (i := 116) rfl)
set_option maxRecDepth 20000 in
theorem w_357 : (Jvm.Cond.instanceMethod ({ cls := "DialSquare$Square", name := "put", desc := "(IIII)I" } : Jvm.MethodName)) ∈ tables_1 := tm_2 (List.mem_of_getElem? (i := 117) rfl)
set_option maxRecDepth 20000 in
theorem w_358 : (Jvm.Cond.selects "DialSquare$Square" ({ cls := "DialSquare$Square", name := "put", desc := "(IIII)I" } : Jvm.MethodName) ({ cls := "DialSquare$Square", name := "put", desc := "(IIII)I" } : Jvm.MethodName)) ∈ tables_1 := tm_2 (List.mem_of_getElem? (i := 118) rfl)
set_option maxRecDepth 20000 in
theorem w_359 : (Jvm.Cond.code ({ cls := "DialSquare$Square", name := "put", desc := "(IIII)I" } : Jvm.MethodName) prog_11_method_5_code (6 : Nat) (Option.some Jvm.ClassFile.FieldType.int)) ∈ tables_1 := tm_2 (List.mem_of_getElem? (i := 119) rfl)
set_option maxRecDepth 20000 in
theorem w_360 : (Jvm.Cond.methodLink "DialSquareLaw" (18 : Nat) ({ cls := "DialSquare", name := "dialOf", desc := "(II)I" } : Jvm.MethodName)) ∈ tables_1 := tm_2 (List.mem_of_getElem? (i := 120) rfl)
set_option maxRecDepth 20000 in
theorem w_361 : (Jvm.Cond.instanceMethod ({ cls := "DialSquare", name := "dialOf", desc := "(II)I" } : Jvm.MethodName)) ∈ tables_1 := tm_2 (List.mem_of_getElem? (i := 121) rfl)
set_option maxRecDepth 20000 in
theorem w_362 : (Jvm.Cond.selects "DialSquare" ({ cls := "DialSquare", name := "dialOf", desc := "(II)I" } : Jvm.MethodName) ({ cls := "DialSquare", name := "dialOf", desc := "(II)I" } : Jvm.MethodName)) ∈ tables_1 := tm_2 (List.mem_of_getElem? (i := 122) rfl)
set_option maxRecDepth 20000 in
theorem w_363 : (Jvm.Cond.code ({ cls := "DialSquare", name := "dialOf", desc := "(II)I" } : Jvm.MethodName) prog_1_method_3_code (3 : Nat) (Option.some Jvm.ClassFile.FieldType.int)) ∈ tables_1 := tm_2 (List.mem_of_getElem? (i := 123) rfl)
set_option maxRecDepth 20000 in
theorem w_364 : (Jvm.Cond.methodLink "DialSquare" (90 : Nat) ({ cls := "DialSquare$Square", name := "has", desc := "(I)Z" } : Jvm.MethodName)) ∈ tables_1 := tm_2 (List.mem_of_getElem? (i := 124) rfl)
set_option maxRecDepth 20000 in
theorem w_365 : (Jvm.Cond.instanceMethod ({ cls := "DialSquare$Square", name := "has", desc := "(I)Z" } : Jvm.MethodName)) ∈ tables_1 := tm_2 (List.mem_of_getElem? (i := 125) rfl)
set_option maxRecDepth 20000 in
theorem w_366 : (Jvm.Cond.selects "DialSquare$Square" ({ cls := "DialSquare$Square", name := "has", desc := "(I)Z" } : Jvm.MethodName) ({ cls := "DialSquare$Square", name := "has", desc := "(I)Z" } : Jvm.MethodName)) ∈ tables_1 := tm_2 (List.mem_of_getElem? (i := 126) rfl)
set_option maxRecDepth 20000 in
theorem w_367 : (Jvm.Cond.code ({ cls := "DialSquare$Square", name := "has", desc := "(I)Z" } : Jvm.MethodName) prog_11_method_7_code (2 : Nat) (Option.some Jvm.ClassFile.FieldType.boolean)) ∈ tables_1 := tm_2 (List.mem_of_getElem? (i := 127) rfl)
set_option maxRecDepth 20000 in
theorem w_368 : (Jvm.Cond.methodLink "DialSquare" (97 : Nat) ({ cls := "DialSquare$Square", name := "shadesOf", desc := "(I)I" } : Jvm.MethodName)) ∈ tables_1 := tm_2 (List.mem_of_getElem? (i := 128) rfl)
set_option maxRecDepth 20000 in
theorem w_369 : (Jvm.Cond.instanceMethod ({ cls := "DialSquare$Square", name := "shadesOf", desc := "(I)I" } : Jvm.MethodName)) ∈ tables_1 := tm_2 (List.mem_of_getElem? (i := 129) rfl)
set_option maxRecDepth 20000 in
theorem w_370 : (Jvm.Cond.selects "DialSquare$Square" ({ cls := "DialSquare$Square", name := "shadesOf", desc := "(I)I" } : Jvm.MethodName) ({ cls := "DialSquare$Square", name := "shadesOf", desc := "(I)I" } : Jvm.MethodName)) ∈ tables_1 := tm_2 (List.mem_of_getElem? (i := 130) rfl)
set_option maxRecDepth 20000 in
theorem w_371 : (Jvm.Cond.code ({ cls := "DialSquare$Square", name := "shadesOf", desc := "(I)I" } : Jvm.MethodName) prog_11_method_14_code (2 : Nat) (Option.some Jvm.ClassFile.FieldType.int)) ∈ tables_1 := tm_2 (List.mem_of_getElem? (i := 131) rfl)
set_option maxRecDepth 20000 in
theorem w_372 : (Jvm.Cond.methodLink "DialSquare$Square" (75 : Nat) ({ cls := "DialSquare$Square", name := "kindOf", desc := "(I)LDialSquare$Dial;" } : Jvm.MethodName)) ∈ tables_1 := tm_2 (List.mem_of_getElem? (i := 132) rfl)
set_option maxRecDepth 20000 in
theorem w_373 : (Jvm.Cond.instanceMethod ({ cls := "DialSquare$Square", name := "kindOf", desc := "(I)LDialSquare$Dial;" } : Jvm.MethodName)) ∈ tables_1 := tm_2 (List.mem_of_getElem? (i := 133) rfl)
set_option maxRecDepth 20000 in
theorem w_374 : (Jvm.Cond.selects "DialSquare$Square" ({ cls := "DialSquare$Square", name := "kindOf", desc := "(I)LDialSquare$Dial;" } : Jvm.MethodName) ({ cls := "DialSquare$Square", name := "kindOf", desc := "(I)LDialSquare$Dial;" } : Jvm.MethodName)) ∈ tables_1 := tm_2 (List.mem_of_getElem? (i := 134) rfl)
set_option maxRecDepth 20000 in
theorem w_375 : (Jvm.Cond.code ({ cls := "DialSquare$Square", name := "kindOf", desc := "(I)LDialSquare$Dial;" } : Jvm.MethodName) prog_11_method_11_code (2 : Nat) (Option.some (Jvm.ClassFile.FieldType.object "DialSquare$Dial"))) ∈ tables_1 := tm_2 (List.mem_of_getElem? (i := 135) rfl)
set_option maxRecDepth 20000 in
theorem w_376 : (Jvm.Cond.methodLink "DialSquare$Square" (79 : Nat) ({ cls := "DialSquare$Square", name := "skyAt", desc := "(I)I" } : Jvm.MethodName)) ∈ tables_1 := tm_2 (List.mem_of_getElem? (i := 136) rfl)
set_option maxRecDepth 20000 in
theorem w_377 : (Jvm.Cond.instanceMethod ({ cls := "DialSquare$Square", name := "skyAt", desc := "(I)I" } : Jvm.MethodName)) ∈ tables_1 := tm_2 (List.mem_of_getElem? (i := 137) rfl)
set_option maxRecDepth 20000 in
theorem w_378 : (Jvm.Cond.selects "DialSquare$Square" ({ cls := "DialSquare$Square", name := "skyAt", desc := "(I)I" } : Jvm.MethodName) ({ cls := "DialSquare$Square", name := "skyAt", desc := "(I)I" } : Jvm.MethodName)) ∈ tables_1 := tm_2 (List.mem_of_getElem? (i := 138) rfl)
set_option maxRecDepth 20000 in
theorem w_379 : (Jvm.Cond.code ({ cls := "DialSquare$Square", name := "skyAt", desc := "(I)I" } : Jvm.MethodName) prog_11_method_12_code (2 : Nat) (Option.some Jvm.ClassFile.FieldType.int)) ∈ tables_1 := tm_2 (List.mem_of_getElem? (i := 139) rfl)
set_option maxRecDepth 20000 in
theorem w_380 : (Jvm.Cond.methodLink "DialSquare$Square" (83 : Nat) ({ cls := "DialSquare$Dial", name := "shades", desc := "(II)I" } : Jvm.MethodName)) ∈ tables_1 := tm_2 (List.mem_of_getElem? (i := 140) rfl)
set_option maxRecDepth 20000 in
theorem w_381 : (Jvm.Cond.instanceMethod ({ cls := "DialSquare$Dial", name := "shades", desc := "(II)I" } : Jvm.MethodName)) ∈ tables_1 := tm_2 (List.mem_of_getElem? (i := 141) rfl)
set_option maxRecDepth 20000 in
theorem w_382 : (Jvm.Cond.selects "DialSquare$Dial" ({ cls := "DialSquare$Dial", name := "shades", desc := "(II)I" } : Jvm.MethodName) ({ cls := "DialSquare$Dial", name := "shades", desc := "(II)I" } : Jvm.MethodName)) ∈ tables_1 := tm_2 (List.mem_of_getElem? (i := 142) rfl)
set_option maxRecDepth 20000 in
theorem w_383 : (Jvm.Cond.sameMethod "DialSquare$Dial" "DialSquare$Dial" "shades" "(II)I") ∈ tables_1 := tm_2 (List.mem_of_getElem? (i := 143) rfl)
set_option maxRecDepth 20000 in
theorem w_384 : (Jvm.Cond.selects "DialSquare$Guild" ({ cls := "DialSquare$Dial", name := "shades", desc := "(II)I" } : Jvm.MethodName) ({ cls := "DialSquare$Guild", name := "shades", desc := "(II)I" } : Jvm.MethodName)) ∈ tables_1 := tm_2 (List.mem_of_getElem? (i := 144) rfl)
set_option maxRecDepth 20000 in
theorem w_385 : (Jvm.Cond.instanceMethod ({ cls := "DialSquare$Guild", name := "shades", desc := "(II)I" } : Jvm.MethodName)) ∈ tables_1 := tm_2 (List.mem_of_getElem? (i := 145) rfl)
set_option maxRecDepth 20000 in
theorem w_386 : (Jvm.Cond.code ({ cls := "DialSquare$Guild", name := "shades", desc := "(II)I" } : Jvm.MethodName) prog_3_method_2_code (3 : Nat) (Option.some Jvm.ClassFile.FieldType.int)) ∈ tables_1 := tm_2 (List.mem_of_getElem? (i := 146) rfl)
set_option maxRecDepth 20000 in
theorem w_387 : (Jvm.Cond.methodLink "DialSquare$Guild" (7 : Nat) ({ cls := "DialSquare$Tall", name := "shades", desc := "(II)I" } : Jvm.MethodName)) ∈ tables_1 := tm_2 (List.mem_of_getElem? (i := 147) rfl)
set_option maxRecDepth 20000 in
theorem w_388 : (Jvm.Cond.instanceMethod ({ cls := "DialSquare$Tall", name := "shades", desc := "(II)I" } : Jvm.MethodName)) ∈ tables_1 := tm_2 (List.mem_of_getElem? (i := 148) rfl)
set_option maxRecDepth 20000 in
theorem w_389 : (Jvm.Cond.code ({ cls := "DialSquare$Tall", name := "shades", desc := "(II)I" } : Jvm.MethodName) prog_12_method_2_code (3 : Nat) (Option.some Jvm.ClassFile.FieldType.int)) ∈ tables_1 := tm_2 (List.mem_of_getElem? (i := 149) rfl)
set_option maxRecDepth 20000 in
theorem w_390 : (Jvm.Cond.methodLink "DialSquare$Tall" (7 : Nat) ({ cls := "DialSquare$Dial", name := "shades", desc := "(II)I" } : Jvm.MethodName)) ∈ tables_1 := tm_2 (List.mem_of_getElem? (i := 150) rfl)
set_option maxRecDepth 20000 in
theorem w_391 : (Jvm.Cond.selects "DialSquare$Low" ({ cls := "DialSquare$Dial", name := "shades", desc := "(II)I" } : Jvm.MethodName) ({ cls := "DialSquare$Low", name := "shades", desc := "(II)I" } : Jvm.MethodName)) ∈ tables_1 := tm_2 (List.mem_of_getElem? (i := 151) rfl)
set_option maxRecDepth 20000 in
theorem w_392 : (Jvm.Cond.instanceMethod ({ cls := "DialSquare$Low", name := "shades", desc := "(II)I" } : Jvm.MethodName)) ∈ tables_1 := tm_2 (List.mem_of_getElem? (i := 152) rfl)
set_option maxRecDepth 20000 in
theorem w_393 : (Jvm.Cond.code ({ cls := "DialSquare$Low", name := "shades", desc := "(II)I" } : Jvm.MethodName) prog_5_method_2_code (3 : Nat) (Option.some Jvm.ClassFile.FieldType.int)) ∈ tables_1 := tm_2 (List.mem_of_getElem? (i := 153) rfl)
set_option maxRecDepth 20000 in
theorem w_394 : (Jvm.Cond.selects "DialSquare$Noon" ({ cls := "DialSquare$Dial", name := "shades", desc := "(II)I" } : Jvm.MethodName) ({ cls := "DialSquare$Noon", name := "shades", desc := "(II)I" } : Jvm.MethodName)) ∈ tables_1 := tm_2 (List.mem_of_getElem? (i := 154) rfl)
set_option maxRecDepth 20000 in
theorem w_395 : (Jvm.Cond.instanceMethod ({ cls := "DialSquare$Noon", name := "shades", desc := "(II)I" } : Jvm.MethodName)) ∈ tables_1 := tm_2 (List.mem_of_getElem? (i := 155) rfl)
set_option maxRecDepth 20000 in
theorem w_396 : (Jvm.Cond.code ({ cls := "DialSquare$Noon", name := "shades", desc := "(II)I" } : Jvm.MethodName) prog_6_method_2_code (3 : Nat) (Option.some Jvm.ClassFile.FieldType.int)) ∈ tables_1 := tm_2 (List.mem_of_getElem? (i := 156) rfl)
set_option maxRecDepth 20000 in
theorem w_397 : (Jvm.Cond.selects "DialSquare$Slit" ({ cls := "DialSquare$Dial", name := "shades", desc := "(II)I" } : Jvm.MethodName) ({ cls := "DialSquare$Slit", name := "shades", desc := "(II)I" } : Jvm.MethodName)) ∈ tables_1 := tm_2 (List.mem_of_getElem? (i := 157) rfl)
set_option maxRecDepth 20000 in
theorem w_398 : (Jvm.Cond.instanceMethod ({ cls := "DialSquare$Slit", name := "shades", desc := "(II)I" } : Jvm.MethodName)) ∈ tables_1 := tm_2 (List.mem_of_getElem? (i := 158) rfl)
set_option maxRecDepth 20000 in
theorem w_399 : (Jvm.Cond.code ({ cls := "DialSquare$Slit", name := "shades", desc := "(II)I" } : Jvm.MethodName) prog_10_method_2_code (3 : Nat) (Option.some Jvm.ClassFile.FieldType.int)) ∈ tables_1 := tm_2 (List.mem_of_getElem? (i := 159) rfl)
set_option maxRecDepth 20000 in
theorem w_400 : (Jvm.Cond.methodLink "DialSquare$Slit" (7 : Nat) ({ cls := "DialSquare$Low", name := "shades", desc := "(II)I" } : Jvm.MethodName)) ∈ tables_1 := tm_2 (List.mem_of_getElem? (i := 160) rfl)
set_option maxRecDepth 20000 in
theorem w_401 : (Jvm.Cond.selects "DialSquare$Tall" ({ cls := "DialSquare$Dial", name := "shades", desc := "(II)I" } : Jvm.MethodName) ({ cls := "DialSquare$Tall", name := "shades", desc := "(II)I" } : Jvm.MethodName)) ∈ tables_1 := tm_2 (List.mem_of_getElem? (i := 161) rfl)
set_option maxRecDepth 20000 in
theorem w_402 : (Jvm.Cond.code ({ cls := "DialSquare$Dial", name := "shades", desc := "(II)I" } : Jvm.MethodName) prog_2_method_2_code (3 : Nat) (Option.some Jvm.ClassFile.FieldType.int)) ∈ tables_1 := tm_2 (List.mem_of_getElem? (i := 162) rfl)
set_option maxRecDepth 20000 in
theorem w_403 : (Jvm.Cond.methodLink "DialSquare" (101 : Nat) ({ cls := "DialSquare$Square", name := "slipsOf", desc := "(I)I" } : Jvm.MethodName)) ∈ tables_1 := tm_2 (List.mem_of_getElem? (i := 163) rfl)
set_option maxRecDepth 20000 in
theorem w_404 : (Jvm.Cond.instanceMethod ({ cls := "DialSquare$Square", name := "slipsOf", desc := "(I)I" } : Jvm.MethodName)) ∈ tables_1 := tm_2 (List.mem_of_getElem? (i := 164) rfl)
set_option maxRecDepth 20000 in
theorem w_405 : (Jvm.Cond.selects "DialSquare$Square" ({ cls := "DialSquare$Square", name := "slipsOf", desc := "(I)I" } : Jvm.MethodName) ({ cls := "DialSquare$Square", name := "slipsOf", desc := "(I)I" } : Jvm.MethodName)) ∈ tables_1 := tm_2 (List.mem_of_getElem? (i := 165) rfl)
set_option maxRecDepth 20000 in
theorem w_406 : (Jvm.Cond.code ({ cls := "DialSquare$Square", name := "slipsOf", desc := "(I)I" } : Jvm.MethodName) prog_11_method_16_code (2 : Nat) (Option.some Jvm.ClassFile.FieldType.int)) ∈ tables_1 := tm_2 (List.mem_of_getElem? (i := 166) rfl)
set_option maxRecDepth 20000 in
theorem w_407 : (Jvm.Cond.methodLink "DialSquare$Square" (88 : Nat) ({ cls := "DialSquare$Square", name := "measureShades", desc := "()V" } : Jvm.MethodName)) ∈ tables_1 := tm_2 (List.mem_of_getElem? (i := 167) rfl)
set_option maxRecDepth 20000 in
theorem w_408 : (Jvm.Cond.instanceMethod ({ cls := "DialSquare$Square", name := "measureShades", desc := "()V" } : Jvm.MethodName)) ∈ tables_1 := tm_2 (List.mem_of_getElem? (i := 168) rfl)
set_option maxRecDepth 20000 in
theorem w_409 : (Jvm.Cond.selects "DialSquare$Square" ({ cls := "DialSquare$Square", name := "measureShades", desc := "()V" } : Jvm.MethodName) ({ cls := "DialSquare$Square", name := "measureShades", desc := "()V" } : Jvm.MethodName)) ∈ tables_1 := tm_2 (List.mem_of_getElem? (i := 169) rfl)
set_option maxRecDepth 20000 in
theorem w_410 : (Jvm.Cond.code ({ cls := "DialSquare$Square", name := "measureShades", desc := "()V" } : Jvm.MethodName) prog_11_method_15_code (4 : Nat) (Option.none : Option Jvm.ClassFile.FieldType)) ∈ tables_1 := tm_2 (List.mem_of_getElem? (i := 170) rfl)
set_option maxRecDepth 20000 in
theorem w_411 : (Jvm.Cond.methodLink "DialSquare$Square" (91 : Nat) ({ cls := "DialSquare$Dial", name := "slips", desc := "(II)I" } : Jvm.MethodName)) ∈ tables_1 := tm_2 (List.mem_of_getElem? (i := 171) rfl)
set_option maxRecDepth 20000 in
theorem w_412 : (Jvm.Cond.instanceMethod ({ cls := "DialSquare$Dial", name := "slips", desc := "(II)I" } : Jvm.MethodName)) ∈ tables_1 := tm_2 (List.mem_of_getElem? (i := 172) rfl)
set_option maxRecDepth 20000 in
theorem w_413 : (Jvm.Cond.selects "DialSquare$Dial" ({ cls := "DialSquare$Dial", name := "slips", desc := "(II)I" } : Jvm.MethodName) ({ cls := "DialSquare$Dial", name := "slips", desc := "(II)I" } : Jvm.MethodName)) ∈ tables_1 := tm_2 (List.mem_of_getElem? (i := 173) rfl)
set_option maxRecDepth 20000 in
theorem w_414 : (Jvm.Cond.sameMethod "DialSquare$Dial" "DialSquare$Dial" "slips" "(II)I") ∈ tables_1 := tm_2 (List.mem_of_getElem? (i := 174) rfl)
set_option maxRecDepth 20000 in
theorem w_415 : (Jvm.Cond.selects "DialSquare$Guild" ({ cls := "DialSquare$Dial", name := "slips", desc := "(II)I" } : Jvm.MethodName) ({ cls := "DialSquare$Guild", name := "slips", desc := "(II)I" } : Jvm.MethodName)) ∈ tables_1 := tm_2 (List.mem_of_getElem? (i := 175) rfl)
set_option maxRecDepth 20000 in
theorem w_416 : (Jvm.Cond.instanceMethod ({ cls := "DialSquare$Guild", name := "slips", desc := "(II)I" } : Jvm.MethodName)) ∈ tables_1 := tm_2 (List.mem_of_getElem? (i := 176) rfl)
set_option maxRecDepth 20000 in
theorem w_417 : (Jvm.Cond.code ({ cls := "DialSquare$Guild", name := "slips", desc := "(II)I" } : Jvm.MethodName) prog_3_method_3_code (4 : Nat) (Option.some Jvm.ClassFile.FieldType.int)) ∈ tables_1 := tm_2 (List.mem_of_getElem? (i := 177) rfl)
set_option maxRecDepth 20000 in
theorem w_418 : (Jvm.Cond.methodLink "DialSquare$Guild" (11 : Nat) ({ cls := "DialSquare$Tall", name := "slips", desc := "(II)I" } : Jvm.MethodName)) ∈ tables_1 := tm_2 (List.mem_of_getElem? (i := 178) rfl)
set_option maxRecDepth 20000 in
theorem w_419 : (Jvm.Cond.instanceMethod ({ cls := "DialSquare$Tall", name := "slips", desc := "(II)I" } : Jvm.MethodName)) ∈ tables_1 := tm_2 (List.mem_of_getElem? (i := 179) rfl)
set_option maxRecDepth 20000 in
theorem w_420 : (Jvm.Cond.code ({ cls := "DialSquare$Tall", name := "slips", desc := "(II)I" } : Jvm.MethodName) prog_12_method_3_code (3 : Nat) (Option.some Jvm.ClassFile.FieldType.int)) ∈ tables_1 := tm_2 (List.mem_of_getElem? (i := 180) rfl)
set_option maxRecDepth 20000 in
theorem w_421 : (Jvm.Cond.methodLink "DialSquare$Tall" (11 : Nat) ({ cls := "DialSquare$Dial", name := "slips", desc := "(II)I" } : Jvm.MethodName)) ∈ tables_1 := tm_2 (List.mem_of_getElem? (i := 181) rfl)
set_option maxRecDepth 20000 in
theorem w_422 : (Jvm.Cond.selects "DialSquare$Low" ({ cls := "DialSquare$Dial", name := "slips", desc := "(II)I" } : Jvm.MethodName) ({ cls := "DialSquare$Low", name := "slips", desc := "(II)I" } : Jvm.MethodName)) ∈ tables_1 := tm_2 (List.mem_of_getElem? (i := 182) rfl)
set_option maxRecDepth 20000 in
theorem w_423 : (Jvm.Cond.instanceMethod ({ cls := "DialSquare$Low", name := "slips", desc := "(II)I" } : Jvm.MethodName)) ∈ tables_1 := tm_2 (List.mem_of_getElem? (i := 183) rfl)
set_option maxRecDepth 20000 in
theorem w_424 : (Jvm.Cond.code ({ cls := "DialSquare$Low", name := "slips", desc := "(II)I" } : Jvm.MethodName) prog_5_method_3_code (3 : Nat) (Option.some Jvm.ClassFile.FieldType.int)) ∈ tables_1 := tm_2 (List.mem_of_getElem? (i := 184) rfl)
set_option maxRecDepth 20000 in
theorem w_425 : (Jvm.Cond.methodLink "DialSquare$Low" (7 : Nat) ({ cls := "DialSquare$Dial", name := "slips", desc := "(II)I" } : Jvm.MethodName)) ∈ tables_1 := tm_2 (List.mem_of_getElem? (i := 185) rfl)
set_option maxRecDepth 20000 in
theorem w_426 : (Jvm.Cond.selects "DialSquare$Noon" ({ cls := "DialSquare$Dial", name := "slips", desc := "(II)I" } : Jvm.MethodName) ({ cls := "DialSquare$Noon", name := "slips", desc := "(II)I" } : Jvm.MethodName)) ∈ tables_1 := tm_2 (List.mem_of_getElem? (i := 186) rfl)
set_option maxRecDepth 20000 in
theorem w_427 : (Jvm.Cond.instanceMethod ({ cls := "DialSquare$Noon", name := "slips", desc := "(II)I" } : Jvm.MethodName)) ∈ tables_1 := tm_2 (List.mem_of_getElem? (i := 187) rfl)
set_option maxRecDepth 20000 in
theorem w_428 : (Jvm.Cond.code ({ cls := "DialSquare$Noon", name := "slips", desc := "(II)I" } : Jvm.MethodName) prog_6_method_3_code (3 : Nat) (Option.some Jvm.ClassFile.FieldType.int)) ∈ tables_1 := tm_2 (List.mem_of_getElem? (i := 188) rfl)
set_option maxRecDepth 20000 in
theorem w_429 : (Jvm.Cond.selects "DialSquare$Slit" ({ cls := "DialSquare$Dial", name := "slips", desc := "(II)I" } : Jvm.MethodName) ({ cls := "DialSquare$Slit", name := "slips", desc := "(II)I" } : Jvm.MethodName)) ∈ tables_1 := tm_2 (List.mem_of_getElem? (i := 189) rfl)
set_option maxRecDepth 20000 in
theorem w_430 : (Jvm.Cond.instanceMethod ({ cls := "DialSquare$Slit", name := "slips", desc := "(II)I" } : Jvm.MethodName)) ∈ tables_1 := tm_2 (List.mem_of_getElem? (i := 190) rfl)
set_option maxRecDepth 20000 in
theorem w_431 : (Jvm.Cond.code ({ cls := "DialSquare$Slit", name := "slips", desc := "(II)I" } : Jvm.MethodName) prog_10_method_3_code (4 : Nat) (Option.some Jvm.ClassFile.FieldType.int)) ∈ tables_1 := tm_2 (List.mem_of_getElem? (i := 191) rfl)
set_option maxRecDepth 20000 in
theorem w_432 : (Jvm.Cond.methodLink "DialSquare$Slit" (11 : Nat) ({ cls := "DialSquare$Low", name := "slips", desc := "(II)I" } : Jvm.MethodName)) ∈ tables_1 := tm_2 (List.mem_of_getElem? (i := 192) rfl)
set_option maxRecDepth 20000 in
theorem w_433 : (Jvm.Cond.selects "DialSquare$Tall" ({ cls := "DialSquare$Dial", name := "slips", desc := "(II)I" } : Jvm.MethodName) ({ cls := "DialSquare$Tall", name := "slips", desc := "(II)I" } : Jvm.MethodName)) ∈ tables_1 := tm_2 (List.mem_of_getElem? (i := 193) rfl)
set_option maxRecDepth 20000 in
theorem w_434 : (Jvm.Cond.code ({ cls := "DialSquare$Dial", name := "slips", desc := "(II)I" } : Jvm.MethodName) prog_2_method_3_code (3 : Nat) (Option.some Jvm.ClassFile.FieldType.int)) ∈ tables_1 := tm_2 (List.mem_of_getElem? (i := 194) rfl)
set_option maxRecDepth 20000 in
theorem w_435 : (Jvm.Cond.methodLink "DialSquare" (104 : Nat) ({ cls := "DialSquare$Square", name := "paysOf", desc := "(I)I" } : Jvm.MethodName)) ∈ tables_1 := tm_2 (List.mem_of_getElem? (i := 195) rfl)
set_option maxRecDepth 20000 in
theorem w_436 : (Jvm.Cond.instanceMethod ({ cls := "DialSquare$Square", name := "paysOf", desc := "(I)I" } : Jvm.MethodName)) ∈ tables_1 := tm_2 (List.mem_of_getElem? (i := 196) rfl)
set_option maxRecDepth 20000 in
theorem w_437 : (Jvm.Cond.selects "DialSquare$Square" ({ cls := "DialSquare$Square", name := "paysOf", desc := "(I)I" } : Jvm.MethodName) ({ cls := "DialSquare$Square", name := "paysOf", desc := "(I)I" } : Jvm.MethodName)) ∈ tables_1 := tm_2 (List.mem_of_getElem? (i := 197) rfl)
set_option maxRecDepth 20000 in
theorem w_438 : (Jvm.Cond.code ({ cls := "DialSquare$Square", name := "paysOf", desc := "(I)I" } : Jvm.MethodName) prog_11_method_17_code (3 : Nat) (Option.some Jvm.ClassFile.FieldType.int)) ∈ tables_1 := tm_2 (List.mem_of_getElem? (i := 198) rfl)
set_option maxRecDepth 20000 in
theorem w_439 : (Jvm.Cond.methodLink "DialSquare$Square" (71 : Nat) ({ cls := "DialSquare$Square", name := "isRight", desc := "(I)Z" } : Jvm.MethodName)) ∈ tables_1 := tm_2 (List.mem_of_getElem? (i := 199) rfl)
set_option maxRecDepth 20000 in
theorem w_440 : (Jvm.Cond.instanceMethod ({ cls := "DialSquare$Square", name := "isRight", desc := "(I)Z" } : Jvm.MethodName)) ∈ tables_1 := tm_2 (List.mem_of_getElem? (i := 200) rfl)
set_option maxRecDepth 20000 in
theorem w_441 : (Jvm.Cond.selects "DialSquare$Square" ({ cls := "DialSquare$Square", name := "isRight", desc := "(I)Z" } : Jvm.MethodName) ({ cls := "DialSquare$Square", name := "isRight", desc := "(I)Z" } : Jvm.MethodName)) ∈ tables_1 := tm_2 (List.mem_of_getElem? (i := 201) rfl)
set_option maxRecDepth 20000 in
theorem w_442 : (Jvm.Cond.code ({ cls := "DialSquare$Square", name := "isRight", desc := "(I)Z" } : Jvm.MethodName) prog_11_method_9_code (2 : Nat) (Option.some Jvm.ClassFile.FieldType.boolean)) ∈ tables_1 := tm_2 (List.mem_of_getElem? (i := 202) rfl)
set_option maxRecDepth 20000 in
theorem w_443 : (Jvm.Cond.methodLink "DialSquare" (107 : Nat) ({ cls := "DialSquare$Square", name := "mayBeSet", desc := "(I)Z" } : Jvm.MethodName)) ∈ tables_1 := tm_2 (List.mem_of_getElem? (i := 203) rfl)
set_option maxRecDepth 20000 in
theorem w_444 : (Jvm.Cond.instanceMethod ({ cls := "DialSquare$Square", name := "mayBeSet", desc := "(I)Z" } : Jvm.MethodName)) ∈ tables_1 := tm_2 (List.mem_of_getElem? (i := 204) rfl)
set_option maxRecDepth 20000 in
theorem w_445 : (Jvm.Cond.selects "DialSquare$Square" ({ cls := "DialSquare$Square", name := "mayBeSet", desc := "(I)Z" } : Jvm.MethodName) ({ cls := "DialSquare$Square", name := "mayBeSet", desc := "(I)Z" } : Jvm.MethodName)) ∈ tables_1 := tm_2 (List.mem_of_getElem? (i := 205) rfl)
set_option maxRecDepth 20000 in
theorem w_446 : (Jvm.Cond.code ({ cls := "DialSquare$Square", name := "mayBeSet", desc := "(I)Z" } : Jvm.MethodName) prog_11_method_24_code (2 : Nat) (Option.some Jvm.ClassFile.FieldType.boolean)) ∈ tables_1 := tm_2 (List.mem_of_getElem? (i := 206) rfl)
set_option maxRecDepth 20000 in
theorem w_447 : (Jvm.Cond.methodLink "DialSquare$Square" (112 : Nat) ({ cls := "DialSquare$Square", name := "paysOf", desc := "(I)I" } : Jvm.MethodName)) ∈ tables_1 := tm_2 (List.mem_of_getElem? (i := 207) rfl)
set_option maxRecDepth 20000 in
theorem w_448 : (Jvm.Cond.methodLink "DialSquare$Square" (115 : Nat) ({ cls := "DialSquare$Square", name := "willOf", desc := "(I)I" } : Jvm.MethodName)) ∈ tables_1 := tm_2 (List.mem_of_getElem? (i := 208) rfl)
set_option maxRecDepth 20000 in
theorem w_449 : (Jvm.Cond.instanceMethod ({ cls := "DialSquare$Square", name := "willOf", desc := "(I)I" } : Jvm.MethodName)) ∈ tables_1 := tm_2 (List.mem_of_getElem? (i := 209) rfl)
set_option maxRecDepth 20000 in
theorem w_450 : (Jvm.Cond.selects "DialSquare$Square" ({ cls := "DialSquare$Square", name := "willOf", desc := "(I)I" } : Jvm.MethodName) ({ cls := "DialSquare$Square", name := "willOf", desc := "(I)I" } : Jvm.MethodName)) ∈ tables_1 := tm_2 (List.mem_of_getElem? (i := 210) rfl)
set_option maxRecDepth 20000 in
theorem w_451 : (Jvm.Cond.code ({ cls := "DialSquare$Square", name := "willOf", desc := "(I)I" } : Jvm.MethodName) prog_11_method_23_code (2 : Nat) (Option.some Jvm.ClassFile.FieldType.int)) ∈ tables_1 := tm_2 (List.mem_of_getElem? (i := 211) rfl)
set_option maxRecDepth 20000 in
theorem w_452 : (Jvm.Cond.methodLink "DialSquare$Square" (106 : Nat) ({ cls := "DialSquare$Rules", name := "tell", desc := "(I[I)I" } : Jvm.MethodName)) ∈ tables_1 := tm_2 (List.mem_of_getElem? (i := 212) rfl)
set_option maxRecDepth 20000 in
theorem w_453 : (Jvm.Cond.instanceMethod ({ cls := "DialSquare$Rules", name := "tell", desc := "(I[I)I" } : Jvm.MethodName)) ∈ tables_1 := tm_2 (List.mem_of_getElem? (i := 213) rfl)
set_option maxRecDepth 20000 in
theorem w_454 : (Jvm.Cond.selects "DialSquare$Rules" ({ cls := "DialSquare$Rules", name := "tell", desc := "(I[I)I" } : Jvm.MethodName) ({ cls := "DialSquare$Rules", name := "tell", desc := "(I[I)I" } : Jvm.MethodName)) ∈ tables_1 := tm_2 (List.mem_of_getElem? (i := 214) rfl)
set_option maxRecDepth 20000 in
theorem w_455 : (Jvm.Cond.code ({ cls := "DialSquare$Rules", name := "tell", desc := "(I[I)I" } : Jvm.MethodName) prog_9_method_2_code (4 : Nat) (Option.some Jvm.ClassFile.FieldType.int)) ∈ tables_1 := tm_2 (List.mem_of_getElem? (i := 215) rfl)
set_option maxRecDepth 20000 in
theorem w_456 : (Jvm.Cond.methodLinkNest "DialSquare$Rules" (31 : Nat) ({ cls := "DialSquare", name := "isUnder", desc := "(II)Z" } : Jvm.MethodName) "DialSquare") ∈ tables_1 := tm_2 (List.mem_of_getElem? (i := 216) rfl)
set_option maxRecDepth 20000 in
theorem w_457 : (Jvm.Cond.static ({ cls := "DialSquare", name := "isUnder", desc := "(II)Z" } : Jvm.MethodName)) ∈ tables_1 := tm_2 (List.mem_of_getElem? (i := 217) rfl)
set_option maxRecDepth 20000 in
theorem w_458 : (Jvm.Cond.code ({ cls := "DialSquare", name := "isUnder", desc := "(II)Z" } : Jvm.MethodName) prog_1_method_66_code (2 : Nat) (Option.some Jvm.ClassFile.FieldType.boolean)) ∈ tables_1 := tm_2 (List.mem_of_getElem? (i := 218) rfl)
set_option maxRecDepth 20000 in
theorem w_459 : (Jvm.Cond.methodLink "DialSquare$Rules" (35 : Nat) ({ cls := "DialSquare$Rules", name := "holds", desc := "(II[I)Z" } : Jvm.MethodName)) ∈ tables_1 := tm_2 (List.mem_of_getElem? (i := 219) rfl)
set_option maxRecDepth 20000 in
theorem w_460 : (Jvm.Cond.privateMethod ({ cls := "DialSquare$Rules", name := "holds", desc := "(II[I)Z" } : Jvm.MethodName)) ∈ tables_1 := tm_2 (List.mem_of_getElem? (i := 220) rfl)
set_option maxRecDepth 20000 in
theorem w_461 : (Jvm.Cond.instanceMethod ({ cls := "DialSquare$Rules", name := "holds", desc := "(II[I)Z" } : Jvm.MethodName)) ∈ tables_1 := tm_2 (List.mem_of_getElem? (i := 221) rfl)
set_option maxRecDepth 20000 in
theorem w_462 : (Jvm.Cond.code ({ cls := "DialSquare$Rules", name := "holds", desc := "(II[I)Z" } : Jvm.MethodName) prog_9_method_3_code (11 : Nat) (Option.some Jvm.ClassFile.FieldType.boolean)) ∈ tables_1 := tm_2 (List.mem_of_getElem? (i := 222) rfl)
set_option maxRecDepth 20000 in
theorem w_463 : (Jvm.Cond.methodLink "DialSquare" (110 : Nat) ({ cls := "DialSquare$Square", name := "willOf", desc := "(I)I" } : Jvm.MethodName)) ∈ tables_1 := tm_2 (List.mem_of_getElem? (i := 223) rfl)
set_option maxRecDepth 20000 in
theorem w_464 : (Jvm.Cond.methodLink "DialSquareLaw" (23 : Nat) ({ cls := "DialSquare", name := "change", desc := "(III)I" } : Jvm.MethodName)) ∈ tables_1 := tm_2 (List.mem_of_getElem? (i := 224) rfl)
set_option maxRecDepth 20000 in
theorem w_465 : (Jvm.Cond.instanceMethod ({ cls := "DialSquare", name := "change", desc := "(III)I" } : Jvm.MethodName)) ∈ tables_1 := tm_2 (List.mem_of_getElem? (i := 225) rfl)
set_option maxRecDepth 20000 in
theorem w_466 : (Jvm.Cond.selects "DialSquare" ({ cls := "DialSquare", name := "change", desc := "(III)I" } : Jvm.MethodName) ({ cls := "DialSquare", name := "change", desc := "(III)I" } : Jvm.MethodName)) ∈ tables_1 := tm_2 (List.mem_of_getElem? (i := 226) rfl)
set_option maxRecDepth 20000 in
theorem w_467 : (Jvm.Cond.code ({ cls := "DialSquare", name := "change", desc := "(III)I" } : Jvm.MethodName) prog_1_method_4_code (5 : Nat) (Option.some Jvm.ClassFile.FieldType.int)) ∈ tables_1 := tm_2 (List.mem_of_getElem? (i := 227) rfl)
set_option maxRecDepth 20000 in
theorem w_468 : (Jvm.Cond.methodLink "DialSquare" (113 : Nat) ({ cls := "DialSquare", name := "mostOf", desc := "(I)I" } : Jvm.MethodName)) ∈ tables_1 := tm_2 (List.mem_of_getElem? (i := 228) rfl)
set_option maxRecDepth 20000 in
theorem w_469 : (Jvm.Cond.static ({ cls := "DialSquare", name := "mostOf", desc := "(I)I" } : Jvm.MethodName)) ∈ tables_1 := tm_2 (List.mem_of_getElem? (i := 229) rfl)
set_option maxRecDepth 20000 in
theorem w_470 : (Jvm.Cond.code ({ cls := "DialSquare", name := "mostOf", desc := "(I)I" } : Jvm.MethodName) prog_1_method_5_code (1 : Nat) (Option.some Jvm.ClassFile.FieldType.int)) ∈ tables_1 := tm_2 (List.mem_of_getElem? (i := 230) rfl)
set_option maxRecDepth 20000 in
theorem w_471 : (Jvm.Cond.methodLink "DialSquareLaw" (28 : Nat) ({ cls := "DialSquare", name := "remake", desc := "(II)I" } : Jvm.MethodName)) ∈ tables_1 := tm_2 (List.mem_of_getElem? (i := 231) rfl)
set_option maxRecDepth 20000 in
theorem w_472 : (Jvm.Cond.instanceMethod ({ cls := "DialSquare", name := "remake", desc := "(II)I" } : Jvm.MethodName)) ∈ tables_1 := tm_2 (List.mem_of_getElem? (i := 232) rfl)
set_option maxRecDepth 20000 in
theorem w_473 : (Jvm.Cond.selects "DialSquare" ({ cls := "DialSquare", name := "remake", desc := "(II)I" } : Jvm.MethodName) ({ cls := "DialSquare", name := "remake", desc := "(II)I" } : Jvm.MethodName)) ∈ tables_1 := tm_2 (List.mem_of_getElem? (i := 233) rfl)
set_option maxRecDepth 20000 in
theorem w_474 : (Jvm.Cond.code ({ cls := "DialSquare", name := "remake", desc := "(II)I" } : Jvm.MethodName) prog_1_method_6_code (4 : Nat) (Option.some Jvm.ClassFile.FieldType.int)) ∈ tables_1 := tm_2 (List.mem_of_getElem? (i := 234) rfl)
set_option maxRecDepth 20000 in
theorem w_475 : (Jvm.Cond.methodLink "DialSquareLaw" (32 : Nat) ({ cls := "DialSquare", name := "sky", desc := "(II)I" } : Jvm.MethodName)) ∈ tables_1 := tm_2 (List.mem_of_getElem? (i := 235) rfl)
set_option maxRecDepth 20000 in
theorem w_476 : (Jvm.Cond.instanceMethod ({ cls := "DialSquare", name := "sky", desc := "(II)I" } : Jvm.MethodName)) ∈ tables_1 := tm_2 (List.mem_of_getElem? (i := 236) rfl)
set_option maxRecDepth 20000 in
theorem w_477 : (Jvm.Cond.selects "DialSquare" ({ cls := "DialSquare", name := "sky", desc := "(II)I" } : Jvm.MethodName) ({ cls := "DialSquare", name := "sky", desc := "(II)I" } : Jvm.MethodName)) ∈ tables_1 := tm_2 (List.mem_of_getElem? (i := 237) rfl)
set_option maxRecDepth 20000 in
theorem w_478 : (Jvm.Cond.code ({ cls := "DialSquare", name := "sky", desc := "(II)I" } : Jvm.MethodName) prog_1_method_7_code (4 : Nat) (Option.some Jvm.ClassFile.FieldType.int)) ∈ tables_1 := tm_2 (List.mem_of_getElem? (i := 238) rfl)
set_option maxRecDepth 20000 in
theorem w_479 : (Jvm.Cond.methodLink "DialSquareLaw" (36 : Nat) ({ cls := "DialSquare", name := "spot", desc := "(III)I" } : Jvm.MethodName)) ∈ tables_1 := tm_2 (List.mem_of_getElem? (i := 239) rfl)
set_option maxRecDepth 20000 in
theorem w_480 : (Jvm.Cond.instanceMethod ({ cls := "DialSquare", name := "spot", desc := "(III)I" } : Jvm.MethodName)) ∈ tables_1 := tm_3 (List.mem_of_getElem? (i := 0) rfl)
set_option maxRecDepth 20000 in
theorem w_481 : (Jvm.Cond.selects "DialSquare" ({ cls := "DialSquare", name := "spot", desc := "(III)I" } : Jvm.MethodName) ({ cls := "DialSquare", name := "spot", desc := "(III)I" } : Jvm.MethodName)) ∈ tables_1 := tm_3 (List.mem_of_getElem? (i := 1) rfl)
set_option maxRecDepth 20000 in
theorem w_482 : (Jvm.Cond.code ({ cls := "DialSquare", name := "spot", desc := "(III)I" } : Jvm.MethodName) prog_1_method_8_code (5 : Nat) (Option.some Jvm.ClassFile.FieldType.int)) ∈ tables_1 := tm_3 (List.mem_of_getElem? (i := 2) rfl)
set_option maxRecDepth 20000 in
theorem w_483 : (Jvm.Cond.methodLink "DialSquareLaw" (40 : Nat) ({ cls := "DialSquare", name := "spotOf", desc := "(II)I" } : Jvm.MethodName)) ∈ tables_1 := tm_3 (List.mem_of_getElem? (i := 3) rfl)
set_option maxRecDepth 20000 in
theorem w_484 : (Jvm.Cond.instanceMethod ({ cls := "DialSquare", name := "spotOf", desc := "(II)I" } : Jvm.MethodName)) ∈ tables_1 := tm_3 (List.mem_of_getElem? (i := 4) rfl)
set_option maxRecDepth 20000 in
theorem w_485 : (Jvm.Cond.selects "DialSquare" ({ cls := "DialSquare", name := "spotOf", desc := "(II)I" } : Jvm.MethodName) ({ cls := "DialSquare", name := "spotOf", desc := "(II)I" } : Jvm.MethodName)) ∈ tables_1 := tm_3 (List.mem_of_getElem? (i := 5) rfl)
set_option maxRecDepth 20000 in
theorem w_486 : (Jvm.Cond.code ({ cls := "DialSquare", name := "spotOf", desc := "(II)I" } : Jvm.MethodName) prog_1_method_9_code (3 : Nat) (Option.some Jvm.ClassFile.FieldType.int)) ∈ tables_1 := tm_3 (List.mem_of_getElem? (i := 6) rfl)
set_option maxRecDepth 20000 in
theorem w_487 : (Jvm.Cond.methodLink "DialSquare" (122 : Nat) ({ cls := "DialSquare$Square", name := "measureShades", desc := "()V" } : Jvm.MethodName)) ∈ tables_1 := tm_3 (List.mem_of_getElem? (i := 7) rfl)
set_option maxRecDepth 20000 in
theorem w_488 : (Jvm.Cond.methodLink "DialSquareLaw" (44 : Nat) ({ cls := "DialSquare", name := "ends", desc := "(I)I" } : Jvm.MethodName)) ∈ tables_1 := tm_3 (List.mem_of_getElem? (i := 8) rfl)
set_option maxRecDepth 20000 in
theorem w_489 : (Jvm.Cond.instanceMethod ({ cls := "DialSquare", name := "ends", desc := "(I)I" } : Jvm.MethodName)) ∈ tables_1 := tm_3 (List.mem_of_getElem? (i := 9) rfl)
set_option maxRecDepth 20000 in
theorem w_490 : (Jvm.Cond.selects "DialSquare" ({ cls := "DialSquare", name := "ends", desc := "(I)I" } : Jvm.MethodName) ({ cls := "DialSquare", name := "ends", desc := "(I)I" } : Jvm.MethodName)) ∈ tables_1 := tm_3 (List.mem_of_getElem? (i := 10) rfl)
set_option maxRecDepth 20000 in
theorem w_491 : (Jvm.Cond.code ({ cls := "DialSquare", name := "ends", desc := "(I)I" } : Jvm.MethodName) prog_1_method_10_code (3 : Nat) (Option.some Jvm.ClassFile.FieldType.int)) ∈ tables_1 := tm_3 (List.mem_of_getElem? (i := 11) rfl)
set_option maxRecDepth 20000 in
theorem w_492 : (Jvm.Cond.methodLink "DialSquareLaw" (49 : Nat) ({ cls := "DialSquare", name := "anew", desc := "()I" } : Jvm.MethodName)) ∈ tables_1 := tm_3 (List.mem_of_getElem? (i := 12) rfl)
set_option maxRecDepth 20000 in
theorem w_493 : (Jvm.Cond.instanceMethod ({ cls := "DialSquare", name := "anew", desc := "()I" } : Jvm.MethodName)) ∈ tables_1 := tm_3 (List.mem_of_getElem? (i := 13) rfl)
set_option maxRecDepth 20000 in
theorem w_494 : (Jvm.Cond.selects "DialSquare" ({ cls := "DialSquare", name := "anew", desc := "()I" } : Jvm.MethodName) ({ cls := "DialSquare", name := "anew", desc := "()I" } : Jvm.MethodName)) ∈ tables_1 := tm_3 (List.mem_of_getElem? (i := 14) rfl)
set_option maxRecDepth 20000 in
theorem w_495 : (Jvm.Cond.code ({ cls := "DialSquare", name := "anew", desc := "()I" } : Jvm.MethodName) prog_1_method_11_code (3 : Nat) (Option.some Jvm.ClassFile.FieldType.int)) ∈ tables_1 := tm_3 (List.mem_of_getElem? (i := 15) rfl)
set_option maxRecDepth 20000 in
theorem w_496 : (Jvm.Cond.methodLink "DialSquareLaw" (54 : Nat) ({ cls := "DialSquare", name := "state", desc := "(I)I" } : Jvm.MethodName)) ∈ tables_1 := tm_3 (List.mem_of_getElem? (i := 16) rfl)
set_option maxRecDepth 20000 in
theorem w_497 : (Jvm.Cond.instanceMethod ({ cls := "DialSquare", name := "state", desc := "(I)I" } : Jvm.MethodName)) ∈ tables_1 := tm_3 (List.mem_of_getElem? (i := 17) rfl)
set_option maxRecDepth 20000 in
theorem w_498 : (Jvm.Cond.selects "DialSquare" ({ cls := "DialSquare", name := "state", desc := "(I)I" } : Jvm.MethodName) ({ cls := "DialSquare", name := "state", desc := "(I)I" } : Jvm.MethodName)) ∈ tables_1 := tm_3 (List.mem_of_getElem? (i := 18) rfl)
set_option maxRecDepth 20000 in
theorem w_499 : (Jvm.Cond.code ({ cls := "DialSquare", name := "state", desc := "(I)I" } : Jvm.MethodName) prog_1_method_12_code (2 : Nat) (Option.some Jvm.ClassFile.FieldType.int)) ∈ tables_1 := tm_3 (List.mem_of_getElem? (i := 19) rfl)
set_option maxRecDepth 20000 in
theorem w_500 : (Jvm.Cond.methodLink "DialSquare" (137 : Nat) ({ cls := "DialSquare$Square", name := "isOver", desc := "()Z" } : Jvm.MethodName)) ∈ tables_1 := tm_3 (List.mem_of_getElem? (i := 20) rfl)
set_option maxRecDepth 20000 in
theorem w_501 : (Jvm.Cond.instanceMethod ({ cls := "DialSquare$Square", name := "isOver", desc := "()Z" } : Jvm.MethodName)) ∈ tables_1 := tm_3 (List.mem_of_getElem? (i := 21) rfl)
set_option maxRecDepth 20000 in
theorem w_502 : (Jvm.Cond.selects "DialSquare$Square" ({ cls := "DialSquare$Square", name := "isOver", desc := "()Z" } : Jvm.MethodName) ({ cls := "DialSquare$Square", name := "isOver", desc := "()Z" } : Jvm.MethodName)) ∈ tables_1 := tm_3 (List.mem_of_getElem? (i := 22) rfl)
set_option maxRecDepth 20000 in
theorem w_503 : (Jvm.Cond.code ({ cls := "DialSquare$Square", name := "isOver", desc := "()Z" } : Jvm.MethodName) prog_11_method_10_code (1 : Nat) (Option.some Jvm.ClassFile.FieldType.boolean)) ∈ tables_1 := tm_3 (List.mem_of_getElem? (i := 23) rfl)
set_option maxRecDepth 20000 in
theorem w_504 : (Jvm.Cond.methodLink "DialSquare" (141 : Nat) ({ cls := "DialSquare$Square", name := "rightSet", desc := "()I" } : Jvm.MethodName)) ∈ tables_1 := tm_3 (List.mem_of_getElem? (i := 24) rfl)
set_option maxRecDepth 20000 in
theorem w_505 : (Jvm.Cond.instanceMethod ({ cls := "DialSquare$Square", name := "rightSet", desc := "()I" } : Jvm.MethodName)) ∈ tables_1 := tm_3 (List.mem_of_getElem? (i := 25) rfl)
set_option maxRecDepth 20000 in
theorem w_506 : (Jvm.Cond.selects "DialSquare$Square" ({ cls := "DialSquare$Square", name := "rightSet", desc := "()I" } : Jvm.MethodName) ({ cls := "DialSquare$Square", name := "rightSet", desc := "()I" } : Jvm.MethodName)) ∈ tables_1 := tm_3 (List.mem_of_getElem? (i := 26) rfl)
set_option maxRecDepth 20000 in
theorem w_507 : (Jvm.Cond.code ({ cls := "DialSquare$Square", name := "rightSet", desc := "()I" } : Jvm.MethodName) prog_11_method_13_code (3 : Nat) (Option.some Jvm.ClassFile.FieldType.int)) ∈ tables_1 := tm_3 (List.mem_of_getElem? (i := 27) rfl)
set_option maxRecDepth 20000 in
theorem w_508 : (Jvm.Cond.methodLink "DialSquare" (145 : Nat) ({ cls := "DialSquare$Square", name := "skyAt", desc := "(I)I" } : Jvm.MethodName)) ∈ tables_1 := tm_3 (List.mem_of_getElem? (i := 28) rfl)
set_option maxRecDepth 20000 in
theorem w_509 : (Jvm.Cond.methodLink "DialSquare" (148 : Nat) ({ cls := "DialSquare$Square", name := "pairs", desc := "()I" } : Jvm.MethodName)) ∈ tables_1 := tm_3 (List.mem_of_getElem? (i := 29) rfl)
set_option maxRecDepth 20000 in
theorem w_510 : (Jvm.Cond.instanceMethod ({ cls := "DialSquare$Square", name := "pairs", desc := "()I" } : Jvm.MethodName)) ∈ tables_1 := tm_3 (List.mem_of_getElem? (i := 30) rfl)
set_option maxRecDepth 20000 in
theorem w_511 : (Jvm.Cond.selects "DialSquare$Square" ({ cls := "DialSquare$Square", name := "pairs", desc := "()I" } : Jvm.MethodName) ({ cls := "DialSquare$Square", name := "pairs", desc := "()I" } : Jvm.MethodName)) ∈ tables_1 := tm_3 (List.mem_of_getElem? (i := 31) rfl)
set_option maxRecDepth 20000 in
theorem w_512 : (Jvm.Cond.code ({ cls := "DialSquare$Square", name := "pairs", desc := "()I" } : Jvm.MethodName) prog_11_method_19_code (4 : Nat) (Option.some Jvm.ClassFile.FieldType.int)) ∈ tables_1 := tm_3 (List.mem_of_getElem? (i := 32) rfl)
set_option maxRecDepth 20000 in
theorem w_513 : (Jvm.Cond.methodLink "DialSquare$Square" (99 : Nat) ({ cls := "DialSquare$Square", name := "agree", desc := "(II)Z" } : Jvm.MethodName)) ∈ tables_1 := tm_3 (List.mem_of_getElem? (i := 33) rfl)
set_option maxRecDepth 20000 in
theorem w_514 : (Jvm.Cond.instanceMethod ({ cls := "DialSquare$Square", name := "agree", desc := "(II)Z" } : Jvm.MethodName)) ∈ tables_1 := tm_3 (List.mem_of_getElem? (i := 34) rfl)
set_option maxRecDepth 20000 in
theorem w_515 : (Jvm.Cond.selects "DialSquare$Square" ({ cls := "DialSquare$Square", name := "agree", desc := "(II)Z" } : Jvm.MethodName) ({ cls := "DialSquare$Square", name := "agree", desc := "(II)Z" } : Jvm.MethodName)) ∈ tables_1 := tm_3 (List.mem_of_getElem? (i := 35) rfl)
set_option maxRecDepth 20000 in
theorem w_516 : (Jvm.Cond.code ({ cls := "DialSquare$Square", name := "agree", desc := "(II)Z" } : Jvm.MethodName) prog_11_method_18_code (3 : Nat) (Option.some Jvm.ClassFile.FieldType.boolean)) ∈ tables_1 := tm_3 (List.mem_of_getElem? (i := 36) rfl)
set_option maxRecDepth 20000 in
theorem w_517 : (Jvm.Cond.methodLink "DialSquare$Square" (94 : Nat) ({ cls := "java/lang/Math", name := "abs", desc := "(I)I" } : Jvm.MethodName)) ∈ tables_1 := tm_3 (List.mem_of_getElem? (i := 37) rfl)
set_option maxRecDepth 20000 in
theorem w_518 : (Jvm.Cond.static ({ cls := "java/lang/Math", name := "abs", desc := "(I)I" } : Jvm.MethodName)) ∈ tables_1 := tm_3 (List.mem_of_getElem? (i := 38) rfl)
set_option maxRecDepth 20000 in
theorem w_519 : (Jvm.Cond.code ({ cls := "java/lang/Math", name := "abs", desc := "(I)I" } : Jvm.MethodName) prog_17_method_59_code (1 : Nat) (Option.some Jvm.ClassFile.FieldType.int)) ∈ tables_1 := tm_3 (List.mem_of_getElem? (i := 39) rfl)
set_option maxRecDepth 20000 in
theorem w_520 : (Jvm.Cond.methodLink "DialSquareLaw" (60 : Nat) ({ cls := "DialSquare", name := "feed", desc := "(JI)I" } : Jvm.MethodName)) ∈ tables_1 := tm_3 (List.mem_of_getElem? (i := 40) rfl)
set_option maxRecDepth 20000 in
theorem w_521 : (Jvm.Cond.instanceMethod ({ cls := "DialSquare", name := "feed", desc := "(JI)I" } : Jvm.MethodName)) ∈ tables_1 := tm_3 (List.mem_of_getElem? (i := 41) rfl)
set_option maxRecDepth 20000 in
theorem w_522 : (Jvm.Cond.selects "DialSquare" ({ cls := "DialSquare", name := "feed", desc := "(JI)I" } : Jvm.MethodName) ({ cls := "DialSquare", name := "feed", desc := "(JI)I" } : Jvm.MethodName)) ∈ tables_1 := tm_3 (List.mem_of_getElem? (i := 42) rfl)
set_option maxRecDepth 20000 in
theorem w_523 : (Jvm.Cond.code ({ cls := "DialSquare", name := "feed", desc := "(JI)I" } : Jvm.MethodName) prog_1_method_13_code (4 : Nat) (Option.some Jvm.ClassFile.FieldType.int)) ∈ tables_1 := tm_3 (List.mem_of_getElem? (i := 43) rfl)
set_option maxRecDepth 20000 in
theorem w_524 : (Jvm.Cond.methodLink "DialSquare" (154 : Nat) ({ cls := "DialSquare$RuleText", name := "append", desc := "(JI)I" } : Jvm.MethodName)) ∈ tables_1 := tm_3 (List.mem_of_getElem? (i := 44) rfl)
set_option maxRecDepth 20000 in
theorem w_525 : (Jvm.Cond.instanceMethod ({ cls := "DialSquare$RuleText", name := "append", desc := "(JI)I" } : Jvm.MethodName)) ∈ tables_1 := tm_3 (List.mem_of_getElem? (i := 45) rfl)
set_option maxRecDepth 20000 in
theorem w_526 : (Jvm.Cond.selects "DialSquare$RuleText" ({ cls := "DialSquare$RuleText", name := "append", desc := "(JI)I" } : Jvm.MethodName) ({ cls := "DialSquare$RuleText", name := "append", desc := "(JI)I" } : Jvm.MethodName)) ∈ tables_1 := tm_3 (List.mem_of_getElem? (i := 46) rfl)
set_option maxRecDepth 20000 in
theorem w_527 : (Jvm.Cond.code ({ cls := "DialSquare$RuleText", name := "append", desc := "(JI)I" } : Jvm.MethodName) prog_8_method_2_code (5 : Nat) (Option.some Jvm.ClassFile.FieldType.int)) ∈ tables_1 := tm_3 (List.mem_of_getElem? (i := 47) rfl)
set_option maxRecDepth 20000 in
theorem w_528 : (Jvm.Cond.methodLink "DialSquareLaw" (65 : Nat) ({ cls := "DialSquare", name := "rules", desc := "()I" } : Jvm.MethodName)) ∈ tables_1 := tm_3 (List.mem_of_getElem? (i := 48) rfl)
set_option maxRecDepth 20000 in
theorem w_529 : (Jvm.Cond.instanceMethod ({ cls := "DialSquare", name := "rules", desc := "()I" } : Jvm.MethodName)) ∈ tables_1 := tm_3 (List.mem_of_getElem? (i := 49) rfl)
set_option maxRecDepth 20000 in
theorem w_530 : (Jvm.Cond.selects "DialSquare" ({ cls := "DialSquare", name := "rules", desc := "()I" } : Jvm.MethodName) ({ cls := "DialSquare", name := "rules", desc := "()I" } : Jvm.MethodName)) ∈ tables_1 := tm_3 (List.mem_of_getElem? (i := 50) rfl)
set_option maxRecDepth 20000 in
theorem w_531 : (Jvm.Cond.code ({ cls := "DialSquare", name := "rules", desc := "()I" } : Jvm.MethodName) prog_1_method_14_code (2 : Nat) (Option.some Jvm.ClassFile.FieldType.int)) ∈ tables_1 := tm_3 (List.mem_of_getElem? (i := 51) rfl)
set_option maxRecDepth 20000 in
theorem w_532 : (Jvm.Cond.methodLink "DialSquare" (158 : Nat) ({ cls := "DialSquare$RuleText", name := "read", desc := "()Z" } : Jvm.MethodName)) ∈ tables_1 := tm_3 (List.mem_of_getElem? (i := 52) rfl)
set_option maxRecDepth 20000 in
theorem w_533 : (Jvm.Cond.instanceMethod ({ cls := "DialSquare$RuleText", name := "read", desc := "()Z" } : Jvm.MethodName)) ∈ tables_1 := tm_3 (List.mem_of_getElem? (i := 53) rfl)
set_option maxRecDepth 20000 in
theorem w_534 : (Jvm.Cond.selects "DialSquare$RuleText" ({ cls := "DialSquare$RuleText", name := "read", desc := "()Z" } : Jvm.MethodName) ({ cls := "DialSquare$RuleText", name := "read", desc := "()Z" } : Jvm.MethodName)) ∈ tables_1 := tm_3 (List.mem_of_getElem? (i := 54) rfl)
set_option maxRecDepth 20000 in
theorem w_535 : (Jvm.Cond.code ({ cls := "DialSquare$RuleText", name := "read", desc := "()Z" } : Jvm.MethodName) prog_8_method_3_code (2 : Nat) (Option.some Jvm.ClassFile.FieldType.boolean)) ∈ tables_1 := tm_3 (List.mem_of_getElem? (i := 55) rfl)
set_option maxRecDepth 20000 in
theorem w_536 : (Jvm.Cond.methodLink "DialSquare$RuleText" (38 : Nat) ({ cls := "DialSquare$RuleText", name := "cutWords", desc := "()V" } : Jvm.MethodName)) ∈ tables_1 := tm_3 (List.mem_of_getElem? (i := 56) rfl)
set_option maxRecDepth 20000 in
theorem w_537 : (Jvm.Cond.privateMethod ({ cls := "DialSquare$RuleText", name := "cutWords", desc := "()V" } : Jvm.MethodName)) ∈ tables_1 := tm_3 (List.mem_of_getElem? (i := 57) rfl)
set_option maxRecDepth 20000 in
theorem w_538 : (Jvm.Cond.instanceMethod ({ cls := "DialSquare$RuleText", name := "cutWords", desc := "()V" } : Jvm.MethodName)) ∈ tables_1 := tm_3 (List.mem_of_getElem? (i := 58) rfl)
set_option maxRecDepth 20000 in
theorem w_539 : (Jvm.Cond.code ({ cls := "DialSquare$RuleText", name := "cutWords", desc := "()V" } : Jvm.MethodName) prog_8_method_6_code (5 : Nat) (Option.none : Option Jvm.ClassFile.FieldType)) ∈ tables_1 := tm_3 (List.mem_of_getElem? (i := 59) rfl)
set_option maxRecDepth 20000 in
theorem w_540 : (Jvm.Cond.methodLink "DialSquare$RuleText" (65 : Nat) ({ cls := "DialSquare$RuleText", name := "endOfRow", desc := "(I)I" } : Jvm.MethodName)) ∈ tables_1 := tm_3 (List.mem_of_getElem? (i := 60) rfl)
set_option maxRecDepth 20000 in
theorem w_541 : (Jvm.Cond.privateMethod ({ cls := "DialSquare$RuleText", name := "endOfRow", desc := "(I)I" } : Jvm.MethodName)) ∈ tables_1 := tm_3 (List.mem_of_getElem? (i := 61) rfl)
set_option maxRecDepth 20000 in
theorem w_542 : (Jvm.Cond.instanceMethod ({ cls := "DialSquare$RuleText", name := "endOfRow", desc := "(I)I" } : Jvm.MethodName)) ∈ tables_1 := tm_3 (List.mem_of_getElem? (i := 62) rfl)
set_option maxRecDepth 20000 in
theorem w_543 : (Jvm.Cond.code ({ cls := "DialSquare$RuleText", name := "endOfRow", desc := "(I)I" } : Jvm.MethodName) prog_8_method_7_code (4 : Nat) (Option.some Jvm.ClassFile.FieldType.int)) ∈ tables_1 := tm_3 (List.mem_of_getElem? (i := 63) rfl)
set_option maxRecDepth 20000 in
theorem w_544 : (Jvm.Cond.methodLink "DialSquare$RuleText" (69 : Nat) ({ cls := "DialSquare$RuleText", name := "sortOf", desc := "(I)I" } : Jvm.MethodName)) ∈ tables_1 := tm_3 (List.mem_of_getElem? (i := 64) rfl)
set_option maxRecDepth 20000 in
theorem w_545 : (Jvm.Cond.static ({ cls := "DialSquare$RuleText", name := "sortOf", desc := "(I)I" } : Jvm.MethodName)) ∈ tables_1 := tm_3 (List.mem_of_getElem? (i := 65) rfl)
set_option maxRecDepth 20000 in
theorem w_546 : (Jvm.Cond.code ({ cls := "DialSquare$RuleText", name := "sortOf", desc := "(I)I" } : Jvm.MethodName) prog_8_method_8_code (1 : Nat) (Option.some Jvm.ClassFile.FieldType.int)) ∈ tables_1 := tm_3 (List.mem_of_getElem? (i := 66) rfl)
set_option maxRecDepth 20000 in
theorem w_547 : (Jvm.Cond.methodLink "DialSquare$RuleText" (72 : Nat) ({ cls := "DialSquare$RuleText", name := "numberOf", desc := "(II)I" } : Jvm.MethodName)) ∈ tables_1 := tm_3 (List.mem_of_getElem? (i := 67) rfl)
set_option maxRecDepth 20000 in
theorem w_548 : (Jvm.Cond.privateMethod ({ cls := "DialSquare$RuleText", name := "numberOf", desc := "(II)I" } : Jvm.MethodName)) ∈ tables_1 := tm_3 (List.mem_of_getElem? (i := 68) rfl)
set_option maxRecDepth 20000 in
theorem w_549 : (Jvm.Cond.instanceMethod ({ cls := "DialSquare$RuleText", name := "numberOf", desc := "(II)I" } : Jvm.MethodName)) ∈ tables_1 := tm_3 (List.mem_of_getElem? (i := 69) rfl)
set_option maxRecDepth 20000 in
theorem w_550 : (Jvm.Cond.code ({ cls := "DialSquare$RuleText", name := "numberOf", desc := "(II)I" } : Jvm.MethodName) prog_8_method_9_code (5 : Nat) (Option.some Jvm.ClassFile.FieldType.int)) ∈ tables_1 := tm_3 (List.mem_of_getElem? (i := 70) rfl)
set_option maxRecDepth 20000 in
theorem w_551 : (Jvm.Cond.methodLink "DialSquare$RuleText" (76 : Nat) ({ cls := "DialSquare$RuleText", name := "wordOf", desc := "(II)I" } : Jvm.MethodName)) ∈ tables_1 := tm_3 (List.mem_of_getElem? (i := 71) rfl)
set_option maxRecDepth 20000 in
theorem w_552 : (Jvm.Cond.privateMethod ({ cls := "DialSquare$RuleText", name := "wordOf", desc := "(II)I" } : Jvm.MethodName)) ∈ tables_1 := tm_3 (List.mem_of_getElem? (i := 72) rfl)
set_option maxRecDepth 20000 in
theorem w_553 : (Jvm.Cond.instanceMethod ({ cls := "DialSquare$RuleText", name := "wordOf", desc := "(II)I" } : Jvm.MethodName)) ∈ tables_1 := tm_3 (List.mem_of_getElem? (i := 73) rfl)
set_option maxRecDepth 20000 in
theorem w_554 : (Jvm.Cond.code ({ cls := "DialSquare$RuleText", name := "wordOf", desc := "(II)I" } : Jvm.MethodName) prog_8_method_10_code (6 : Nat) (Option.some Jvm.ClassFile.FieldType.int)) ∈ tables_1 := tm_3 (List.mem_of_getElem? (i := 74) rfl)
set_option maxRecDepth 20000 in
theorem w_555 : (Jvm.Cond.stringRef "DialSquare$RuleText" (79 : Nat) "chime lag pride sun number < = > not and or if ( ) ; set keep argue dial noon tall guild low slit") ∈ tables_1 := tm_3 (List.mem_of_getElem? (i := 75) rfl)
set_option maxRecDepth 20000 in
theorem w_556 : (Jvm.Cond.methodLink "DialSquare$RuleText" (81 : Nat) ({ cls := "java/lang/String", name := "length", desc := "()I" } : Jvm.MethodName)) ∈ tables_1 := tm_3 (List.mem_of_getElem? (i := 76) rfl)
set_option maxRecDepth 20000 in
theorem w_557 : (Jvm.Cond.instanceMethod ({ cls := "java/lang/String", name := "length", desc := "()I" } : Jvm.MethodName)) ∈ tables_1 := tm_3 (List.mem_of_getElem? (i := 77) rfl)
set_option maxRecDepth 20000 in
theorem w_558 : (Jvm.Cond.selects "java/lang/String" ({ cls := "java/lang/String", name := "length", desc := "()I" } : Jvm.MethodName) ({ cls := "java/lang/String", name := "length", desc := "()I" } : Jvm.MethodName)) ∈ tables_1 := tm_3 (List.mem_of_getElem? (i := 78) rfl)
set_option maxRecDepth 20000 in
theorem w_559 : (Jvm.Cond.code ({ cls := "java/lang/String", name := "length", desc := "()I" } : Jvm.MethodName) prog_18_method_54_code (1 : Nat) (Option.some Jvm.ClassFile.FieldType.int)) ∈ tables_1 := tm_3 (List.mem_of_getElem? (i := 79) rfl)
set_option maxRecDepth 20000 in
theorem w_560 : (Jvm.Cond.methodLink "java/lang/String" (335 : Nat) ({ cls := "java/lang/String", name := "coder", desc := "()B" } : Jvm.MethodName)) ∈ tables_1 := tm_3 (List.mem_of_getElem? (i := 80) rfl)
set_option maxRecDepth 20000 in
theorem w_561 : (Jvm.Cond.instanceMethod ({ cls := "java/lang/String", name := "coder", desc := "()B" } : Jvm.MethodName)) ∈ tables_1 := tm_3 (List.mem_of_getElem? (i := 81) rfl)
set_option maxRecDepth 20000 in
theorem w_562 : (Jvm.Cond.selects "java/lang/String" ({ cls := "java/lang/String", name := "coder", desc := "()B" } : Jvm.MethodName) ({ cls := "java/lang/String", name := "coder", desc := "()B" } : Jvm.MethodName)) ∈ tables_1 := tm_3 (List.mem_of_getElem? (i := 82) rfl)
set_option maxRecDepth 20000 in
theorem w_563 : (Jvm.Cond.code ({ cls := "java/lang/String", name := "coder", desc := "()B" } : Jvm.MethodName) prog_18_method_152_code (1 : Nat) (Option.some Jvm.ClassFile.FieldType.byte)) ∈ tables_1 := tm_3 (List.mem_of_getElem? (i := 83) rfl)
set_option maxRecDepth 20000 in
theorem w_564 : (Jvm.Cond.fieldLink "java/lang/String" (38 : Nat) "java/lang/String" "COMPACT_STRINGS" "Z") ∈ tables_1 := tm_3 (List.mem_of_getElem? (i := 84) rfl)
set_option maxRecDepth 20000 in
theorem w_565 : (Jvm.Cond.laysStatic "java/lang/String" "COMPACT_STRINGS" "Z") ∈ tables_1 := tm_3 (List.mem_of_getElem? (i := 85) rfl)
set_option maxRecDepth 20000 in
theorem w_566 : (Jvm.Cond.methodLink "DialSquare$RuleText" (86 : Nat) ({ cls := "java/lang/String", name := "charAt", desc := "(I)C" } : Jvm.MethodName)) ∈ tables_1 := tm_3 (List.mem_of_getElem? (i := 86) rfl)
set_option maxRecDepth 20000 in
theorem w_567 : (Jvm.Cond.instanceMethod ({ cls := "java/lang/String", name := "charAt", desc := "(I)C" } : Jvm.MethodName)) ∈ tables_1 := tm_3 (List.mem_of_getElem? (i := 87) rfl)
set_option maxRecDepth 20000 in
theorem w_568 : (Jvm.Cond.selects "java/lang/String" ({ cls := "java/lang/String", name := "charAt", desc := "(I)C" } : Jvm.MethodName) ({ cls := "java/lang/String", name := "charAt", desc := "(I)C" } : Jvm.MethodName)) ∈ tables_1 := tm_3 (List.mem_of_getElem? (i := 88) rfl)
set_option maxRecDepth 20000 in
theorem w_569 : (Jvm.Cond.code ({ cls := "java/lang/String", name := "charAt", desc := "(I)C" } : Jvm.MethodName) prog_18_method_56_code (2 : Nat) (Option.some Jvm.ClassFile.FieldType.char)) ∈ tables_1 := tm_3 (List.mem_of_getElem? (i := 89) rfl)
set_option maxRecDepth 20000 in
theorem w_570 : (Jvm.Cond.methodLink "java/lang/String" (492 : Nat) ({ cls := "java/lang/String", name := "isLatin1", desc := "()Z" } : Jvm.MethodName)) ∈ tables_1 := tm_3 (List.mem_of_getElem? (i := 90) rfl)
set_option maxRecDepth 20000 in
theorem w_571 : (Jvm.Cond.instanceMethod ({ cls := "java/lang/String", name := "isLatin1", desc := "()Z" } : Jvm.MethodName)) ∈ tables_1 := tm_3 (List.mem_of_getElem? (i := 91) rfl)
set_option maxRecDepth 20000 in
theorem w_572 : (Jvm.Cond.selects "java/lang/String" ({ cls := "java/lang/String", name := "isLatin1", desc := "()Z" } : Jvm.MethodName) ({ cls := "java/lang/String", name := "isLatin1", desc := "()Z" } : Jvm.MethodName)) ∈ tables_1 := tm_3 (List.mem_of_getElem? (i := 92) rfl)
set_option maxRecDepth 20000 in
theorem w_573 : (Jvm.Cond.code ({ cls := "java/lang/String", name := "isLatin1", desc := "()Z" } : Jvm.MethodName) prog_18_method_154_code (1 : Nat) (Option.some Jvm.ClassFile.FieldType.boolean)) ∈ tables_1 := tm_3 (List.mem_of_getElem? (i := 93) rfl)
set_option maxRecDepth 20000 in
theorem w_574 : (Jvm.Cond.methodLink "java/lang/String" (495 : Nat) ({ cls := "java/lang/StringLatin1", name := "charAt", desc := "([BI)C" } : Jvm.MethodName)) ∈ tables_1 := tm_3 (List.mem_of_getElem? (i := 94) rfl)
set_option maxRecDepth 20000 in
theorem w_575 : (Jvm.Cond.static ({ cls := "java/lang/StringLatin1", name := "charAt", desc := "([BI)C" } : Jvm.MethodName)) ∈ tables_1 := tm_3 (List.mem_of_getElem? (i := 95) rfl)
set_option maxRecDepth 20000 in
theorem w_576 : (Jvm.Cond.code ({ cls := "java/lang/StringLatin1", name := "charAt", desc := "([BI)C" } : Jvm.MethodName) prog_19_method_2_code (2 : Nat) (Option.some Jvm.ClassFile.FieldType.char)) ∈ tables_1 := tm_3 (List.mem_of_getElem? (i := 96) rfl)
set_option maxRecDepth 20000 in
theorem w_577 : (Jvm.Cond.methodLink "java/lang/StringLatin1" (9 : Nat) ({ cls := "java/lang/String", name := "checkIndex", desc := "(II)V" } : Jvm.MethodName)) ∈ tables_1 := tm_3 (List.mem_of_getElem? (i := 97) rfl)
set_option maxRecDepth 20000 in
theorem w_578 : (Jvm.Cond.static ({ cls := "java/lang/String", name := "checkIndex", desc := "(II)V" } : Jvm.MethodName)) ∈ tables_1 := tm_3 (List.mem_of_getElem? (i := 98) rfl)
set_option maxRecDepth 20000 in
theorem w_579 : (Jvm.Cond.code ({ cls := "java/lang/String", name := "checkIndex", desc := "(II)V" } : Jvm.MethodName) prog_18_method_155_code (2 : Nat) (Option.none : Option Jvm.ClassFile.FieldType)) ∈ tables_1 := tm_3 (List.mem_of_getElem? (i := 99) rfl)
set_option maxRecDepth 20000 in
theorem w_580 : (Jvm.Cond.fieldLink "java/lang/String" (1053 : Nat) "jdk/internal/util/Preconditions" "SIOOBE_FORMATTER" "Ljava/util/function/BiFunction;") ∈ tables_1 := tm_3 (List.mem_of_getElem? (i := 100) rfl)
set_option maxRecDepth 20000 in
theorem w_581 : (Jvm.Cond.laysStatic "jdk/internal/util/Preconditions" "SIOOBE_FORMATTER" "Ljava/util/function/BiFunction;") ∈ tables_1 := tm_3 (List.mem_of_getElem? (i := 101) rfl)
set_option maxRecDepth 20000 in
theorem w_582 : (Jvm.Cond.methodLink "java/lang/String" (1059 : Nat) ({ cls := "jdk/internal/util/Preconditions", name := "checkIndex", desc := "(IILjava/util/function/BiFunction;)I" } : Jvm.MethodName)) ∈ tables_1 := tm_3 (List.mem_of_getElem? (i := 102) rfl)
set_option maxRecDepth 20000 in
theorem w_583 : (Jvm.Cond.static ({ cls := "jdk/internal/util/Preconditions", name := "checkIndex", desc := "(IILjava/util/function/BiFunction;)I" } : Jvm.MethodName)) ∈ tables_1 := tm_3 (List.mem_of_getElem? (i := 103) rfl)
set_option maxRecDepth 20000 in
theorem w_584 : (Jvm.Cond.code ({ cls := "jdk/internal/util/Preconditions", name := "checkIndex", desc := "(IILjava/util/function/BiFunction;)I" } : Jvm.MethodName) prog_23_method_11_code (3 : Nat) (Option.some Jvm.ClassFile.FieldType.int)) ∈ tables_1 := tm_3 (List.mem_of_getElem? (i := 104) rfl)
set_option maxRecDepth 20000 in
theorem w_585 : (Jvm.Cond.methodLink "java/lang/String" (498 : Nat) ({ cls := "java/lang/StringUTF16", name := "charAt", desc := "([BI)C" } : Jvm.MethodName)) ∈ tables_1 := tm_3 (List.mem_of_getElem? (i := 105) rfl)
set_option maxRecDepth 20000 in
theorem w_586 : (Jvm.Cond.static ({ cls := "java/lang/StringUTF16", name := "charAt", desc := "([BI)C" } : Jvm.MethodName)) ∈ tables_1 := tm_3 (List.mem_of_getElem? (i := 106) rfl)
set_option maxRecDepth 20000 in
theorem w_587 : (Jvm.Cond.code ({ cls := "java/lang/StringUTF16", name := "charAt", desc := "([BI)C" } : Jvm.MethodName) prog_20_method_83_code (2 : Nat) (Option.some Jvm.ClassFile.FieldType.char)) ∈ tables_1 := tm_3 (List.mem_of_getElem? (i := 107) rfl)
set_option maxRecDepth 20000 in
theorem w_588 : (Jvm.Cond.methodLink "java/lang/StringUTF16" (67 : Nat) ({ cls := "java/lang/StringUTF16", name := "checkIndex", desc := "(I[B)V" } : Jvm.MethodName)) ∈ tables_1 := tm_3 (List.mem_of_getElem? (i := 108) rfl)
set_option maxRecDepth 20000 in
theorem w_589 : (Jvm.Cond.static ({ cls := "java/lang/StringUTF16", name := "checkIndex", desc := "(I[B)V" } : Jvm.MethodName)) ∈ tables_1 := tm_3 (List.mem_of_getElem? (i := 109) rfl)
set_option maxRecDepth 20000 in
theorem w_590 : (Jvm.Cond.code ({ cls := "java/lang/StringUTF16", name := "checkIndex", desc := "(I[B)V" } : Jvm.MethodName) prog_20_method_91_code (2 : Nat) (Option.none : Option Jvm.ClassFile.FieldType)) ∈ tables_1 := tm_3 (List.mem_of_getElem? (i := 110) rfl)
set_option maxRecDepth 20000 in
theorem w_591 : (Jvm.Cond.methodLink "java/lang/StringUTF16" (48 : Nat) ({ cls := "java/lang/StringUTF16", name := "length", desc := "([B)I" } : Jvm.MethodName)) ∈ tables_1 := tm_3 (List.mem_of_getElem? (i := 111) rfl)
set_option maxRecDepth 20000 in
theorem w_592 : (Jvm.Cond.static ({ cls := "java/lang/StringUTF16", name := "length", desc := "([B)I" } : Jvm.MethodName)) ∈ tables_1 := tm_3 (List.mem_of_getElem? (i := 112) rfl)
set_option maxRecDepth 20000 in
theorem w_593 : (Jvm.Cond.code ({ cls := "java/lang/StringUTF16", name := "length", desc := "([B)I" } : Jvm.MethodName) prog_20_method_6_code (1 : Nat) (Option.some Jvm.ClassFile.FieldType.int)) ∈ tables_1 := tm_3 (List.mem_of_getElem? (i := 113) rfl)
set_option maxRecDepth 20000 in
theorem w_594 : (Jvm.Cond.methodLink "java/lang/StringUTF16" (414 : Nat) ({ cls := "java/lang/String", name := "checkIndex", desc := "(II)V" } : Jvm.MethodName)) ∈ tables_1 := tm_3 (List.mem_of_getElem? (i := 114) rfl)
set_option maxRecDepth 20000 in
theorem w_595 : (Jvm.Cond.methodLink "java/lang/StringUTF16" (71 : Nat) ({ cls := "java/lang/StringUTF16", name := "getChar", desc := "([BI)C" } : Jvm.MethodName)) ∈ tables_1 := tm_3 (List.mem_of_getElem? (i := 115) rfl)
set_option maxRecDepth 20000 in
theorem w_596 : (Jvm.Cond.static ({ cls := "java/lang/StringUTF16", name := "getChar", desc := "([BI)C" } : Jvm.MethodName)) ∈ tables_1 := tm_3 (List.mem_of_getElem? (i := 116) rfl)
set_option maxRecDepth 20000 in
theorem w_597 : (Jvm.Cond.code ({ cls := "java/lang/StringUTF16", name := "getChar", desc := "([BI)C" } : Jvm.MethodName) prog_20_method_5_code (2 : Nat) (Option.some Jvm.ClassFile.FieldType.char)) ∈ tables_1 := tm_3 (List.mem_of_getElem? (i := 117) rfl)
set_option maxRecDepth 20000 in
theorem w_598 : (Jvm.Cond.fieldLink "java/lang/StringUTF16" (44 : Nat) "java/lang/StringUTF16" "$assertionsDisabled" "Z") ∈ tables_1 := tm_3 (List.mem_of_getElem? (i := 118) rfl)
set_option maxRecDepth 20000 in
theorem w_599 : (Jvm.Cond.laysStatic "java/lang/StringUTF16" "$assertionsDisabled" "Z") ∈ tables_1 := tm_3 (List.mem_of_getElem? (i := 119) rfl)
set_option maxRecDepth 20000 in
theorem w_600 : (Jvm.Cond.fieldLink "java/lang/StringUTF16" (59 : Nat) "java/lang/StringUTF16" "HI_BYTE_SHIFT" "I") ∈ tables_1 := tm_3 (List.mem_of_getElem? (i := 120) rfl)
set_option maxRecDepth 20000 in
theorem w_601 : (Jvm.Cond.laysStatic "java/lang/StringUTF16" "HI_BYTE_SHIFT" "I") ∈ tables_1 := tm_3 (List.mem_of_getElem? (i := 121) rfl)
set_option maxRecDepth 20000 in
theorem w_602 : (Jvm.Cond.fieldLink "java/lang/StringUTF16" (63 : Nat) "java/lang/StringUTF16" "LO_BYTE_SHIFT" "I") ∈ tables_1 := tm_3 (List.mem_of_getElem? (i := 122) rfl)
set_option maxRecDepth 20000 in
theorem w_603 : (Jvm.Cond.laysStatic "java/lang/StringUTF16" "LO_BYTE_SHIFT" "I") ∈ tables_1 := tm_3 (List.mem_of_getElem? (i := 123) rfl)
set_option maxRecDepth 20000 in
theorem w_604 : (Jvm.Cond.methodLink "DialSquare$RuleText" (90 : Nat) ({ cls := "DialSquare$RuleText", name := "isWord", desc := "(III)Z" } : Jvm.MethodName)) ∈ tables_1 := tm_3 (List.mem_of_getElem? (i := 124) rfl)
set_option maxRecDepth 20000 in
theorem w_605 : (Jvm.Cond.privateMethod ({ cls := "DialSquare$RuleText", name := "isWord", desc := "(III)Z" } : Jvm.MethodName)) ∈ tables_1 := tm_3 (List.mem_of_getElem? (i := 125) rfl)
set_option maxRecDepth 20000 in
theorem w_606 : (Jvm.Cond.instanceMethod ({ cls := "DialSquare$RuleText", name := "isWord", desc := "(III)Z" } : Jvm.MethodName)) ∈ tables_1 := tm_3 (List.mem_of_getElem? (i := 126) rfl)
set_option maxRecDepth 20000 in
theorem w_607 : (Jvm.Cond.code ({ cls := "DialSquare$RuleText", name := "isWord", desc := "(III)Z" } : Jvm.MethodName) prog_8_method_11_code (5 : Nat) (Option.some Jvm.ClassFile.FieldType.boolean)) ∈ tables_1 := tm_3 (List.mem_of_getElem? (i := 127) rfl)
set_option maxRecDepth 20000 in
theorem w_608 : (Jvm.Cond.methodLink "DialSquare$RuleText" (50 : Nat) ({ cls := "DialSquare$RuleText", name := "readRule", desc := "(I)Z" } : Jvm.MethodName)) ∈ tables_1 := tm_3 (List.mem_of_getElem? (i := 128) rfl)
set_option maxRecDepth 20000 in
theorem w_609 : (Jvm.Cond.privateMethod ({ cls := "DialSquare$RuleText", name := "readRule", desc := "(I)Z" } : Jvm.MethodName)) ∈ tables_1 := tm_3 (List.mem_of_getElem? (i := 129) rfl)
set_option maxRecDepth 20000 in
theorem w_610 : (Jvm.Cond.instanceMethod ({ cls := "DialSquare$RuleText", name := "readRule", desc := "(I)Z" } : Jvm.MethodName)) ∈ tables_1 := tm_3 (List.mem_of_getElem? (i := 130) rfl)
set_option maxRecDepth 20000 in
theorem w_611 : (Jvm.Cond.code ({ cls := "DialSquare$RuleText", name := "readRule", desc := "(I)Z" } : Jvm.MethodName) prog_8_method_12_code (2 : Nat) (Option.some Jvm.ClassFile.FieldType.boolean)) ∈ tables_1 := tm_3 (List.mem_of_getElem? (i := 131) rfl)
set_option maxRecDepth 20000 in
theorem w_612 : (Jvm.Cond.methodLinkNest "DialSquare$RuleText" (94 : Nat) ({ cls := "DialSquare", name := "isIn", desc := "(III)Z" } : Jvm.MethodName) "DialSquare") ∈ tables_1 := tm_3 (List.mem_of_getElem? (i := 132) rfl)
set_option maxRecDepth 20000 in
theorem w_613 : (Jvm.Cond.methodLink "DialSquare$RuleText" (97 : Nat) ({ cls := "DialSquare$RuleText", name := "takes", desc := "(I)Z" } : Jvm.MethodName)) ∈ tables_1 := tm_3 (List.mem_of_getElem? (i := 133) rfl)
set_option maxRecDepth 20000 in
theorem w_614 : (Jvm.Cond.privateMethod ({ cls := "DialSquare$RuleText", name := "takes", desc := "(I)Z" } : Jvm.MethodName)) ∈ tables_1 := tm_3 (List.mem_of_getElem? (i := 134) rfl)
set_option maxRecDepth 20000 in
theorem w_615 : (Jvm.Cond.instanceMethod ({ cls := "DialSquare$RuleText", name := "takes", desc := "(I)Z" } : Jvm.MethodName)) ∈ tables_1 := tm_3 (List.mem_of_getElem? (i := 135) rfl)
set_option maxRecDepth 20000 in
theorem w_616 : (Jvm.Cond.code ({ cls := "DialSquare$RuleText", name := "takes", desc := "(I)Z" } : Jvm.MethodName) prog_8_method_18_code (2 : Nat) (Option.some Jvm.ClassFile.FieldType.boolean)) ∈ tables_1 := tm_3 (List.mem_of_getElem? (i := 136) rfl)
set_option maxRecDepth 20000 in
theorem w_617 : (Jvm.Cond.methodLink "DialSquare$RuleText" (100 : Nat) ({ cls := "DialSquare$RuleText", name := "readCondition", desc := "(I)Z" } : Jvm.MethodName)) ∈ tables_1 := tm_3 (List.mem_of_getElem? (i := 137) rfl)
set_option maxRecDepth 20000 in
theorem w_618 : (Jvm.Cond.privateMethod ({ cls := "DialSquare$RuleText", name := "readCondition", desc := "(I)Z" } : Jvm.MethodName)) ∈ tables_1 := tm_3 (List.mem_of_getElem? (i := 138) rfl)
set_option maxRecDepth 20000 in
theorem w_619 : (Jvm.Cond.instanceMethod ({ cls := "DialSquare$RuleText", name := "readCondition", desc := "(I)Z" } : Jvm.MethodName)) ∈ tables_1 := tm_3 (List.mem_of_getElem? (i := 139) rfl)
set_option maxRecDepth 20000 in
theorem w_620 : (Jvm.Cond.code ({ cls := "DialSquare$RuleText", name := "readCondition", desc := "(I)Z" } : Jvm.MethodName) prog_8_method_13_code (3 : Nat) (Option.some Jvm.ClassFile.FieldType.boolean)) ∈ tables_1 := tm_3 (List.mem_of_getElem? (i := 140) rfl)
set_option maxRecDepth 20000 in
theorem w_621 : (Jvm.Cond.methodLink "DialSquare$RuleText" (103 : Nat) ({ cls := "DialSquare$RuleText", name := "readAll", desc := "(I)Z" } : Jvm.MethodName)) ∈ tables_1 := tm_3 (List.mem_of_getElem? (i := 141) rfl)
set_option maxRecDepth 20000 in
theorem w_622 : (Jvm.Cond.privateMethod ({ cls := "DialSquare$RuleText", name := "readAll", desc := "(I)Z" } : Jvm.MethodName)) ∈ tables_1 := tm_3 (List.mem_of_getElem? (i := 142) rfl)
set_option maxRecDepth 20000 in
theorem w_623 : (Jvm.Cond.instanceMethod ({ cls := "DialSquare$RuleText", name := "readAll", desc := "(I)Z" } : Jvm.MethodName)) ∈ tables_1 := tm_3 (List.mem_of_getElem? (i := 143) rfl)
set_option maxRecDepth 20000 in
theorem w_624 : (Jvm.Cond.code ({ cls := "DialSquare$RuleText", name := "readAll", desc := "(I)Z" } : Jvm.MethodName) prog_8_method_14_code (3 : Nat) (Option.some Jvm.ClassFile.FieldType.boolean)) ∈ tables_1 := tm_3 (List.mem_of_getElem? (i := 144) rfl)
set_option maxRecDepth 20000 in
theorem w_625 : (Jvm.Cond.methodLink "DialSquare$RuleText" (110 : Nat) ({ cls := "DialSquare$RuleText", name := "readOne", desc := "(I)Z" } : Jvm.MethodName)) ∈ tables_1 := tm_3 (List.mem_of_getElem? (i := 145) rfl)
set_option maxRecDepth 20000 in
theorem w_626 : (Jvm.Cond.privateMethod ({ cls := "DialSquare$RuleText", name := "readOne", desc := "(I)Z" } : Jvm.MethodName)) ∈ tables_1 := tm_3 (List.mem_of_getElem? (i := 146) rfl)
set_option maxRecDepth 20000 in
theorem w_627 : (Jvm.Cond.instanceMethod ({ cls := "DialSquare$RuleText", name := "readOne", desc := "(I)Z" } : Jvm.MethodName)) ∈ tables_1 := tm_3 (List.mem_of_getElem? (i := 147) rfl)
set_option maxRecDepth 20000 in
theorem w_628 : (Jvm.Cond.code ({ cls := "DialSquare$RuleText", name := "readOne", desc := "(I)Z" } : Jvm.MethodName) prog_8_method_15_code (4 : Nat) (Option.some Jvm.ClassFile.FieldType.boolean)) ∈ tables_1 := tm_3 (List.mem_of_getElem? (i := 148) rfl)
set_option maxRecDepth 20000 in
theorem w_629 : (Jvm.Cond.methodLink "DialSquare$RuleText" (113 : Nat) ({ cls := "DialSquare$RuleText", name := "readOpened", desc := "(I)Z" } : Jvm.MethodName)) ∈ tables_1 := tm_3 (List.mem_of_getElem? (i := 149) rfl)
set_option maxRecDepth 20000 in
theorem w_630 : (Jvm.Cond.privateMethod ({ cls := "DialSquare$RuleText", name := "readOpened", desc := "(I)Z" } : Jvm.MethodName)) ∈ tables_1 := tm_3 (List.mem_of_getElem? (i := 150) rfl)
set_option maxRecDepth 20000 in
theorem w_631 : (Jvm.Cond.instanceMethod ({ cls := "DialSquare$RuleText", name := "readOpened", desc := "(I)Z" } : Jvm.MethodName)) ∈ tables_1 := tm_3 (List.mem_of_getElem? (i := 151) rfl)
set_option maxRecDepth 20000 in
theorem w_632 : (Jvm.Cond.code ({ cls := "DialSquare$RuleText", name := "readOpened", desc := "(I)Z" } : Jvm.MethodName) prog_8_method_16_code (2 : Nat) (Option.some Jvm.ClassFile.FieldType.boolean)) ∈ tables_1 := tm_3 (List.mem_of_getElem? (i := 152) rfl)
set_option maxRecDepth 20000 in
theorem w_633 : (Jvm.Cond.methodLink "DialSquare$RuleText" (116 : Nat) ({ cls := "DialSquare$RuleText", name := "readCompared", desc := "()Z" } : Jvm.MethodName)) ∈ tables_1 := tm_3 (List.mem_of_getElem? (i := 153) rfl)
set_option maxRecDepth 20000 in
theorem w_634 : (Jvm.Cond.privateMethod ({ cls := "DialSquare$RuleText", name := "readCompared", desc := "()Z" } : Jvm.MethodName)) ∈ tables_1 := tm_3 (List.mem_of_getElem? (i := 154) rfl)
set_option maxRecDepth 20000 in
theorem w_635 : (Jvm.Cond.instanceMethod ({ cls := "DialSquare$RuleText", name := "readCompared", desc := "()Z" } : Jvm.MethodName)) ∈ tables_1 := tm_3 (List.mem_of_getElem? (i := 155) rfl)
set_option maxRecDepth 20000 in
theorem w_636 : (Jvm.Cond.code ({ cls := "DialSquare$RuleText", name := "readCompared", desc := "()Z" } : Jvm.MethodName) prog_8_method_17_code (4 : Nat) (Option.some Jvm.ClassFile.FieldType.boolean)) ∈ tables_1 := tm_3 (List.mem_of_getElem? (i := 156) rfl)
set_option maxRecDepth 20000 in
theorem w_637 : (Jvm.Cond.methodLink "DialSquare$RuleText" (106 : Nat) ({ cls := "DialSquare$RuleText", name := "emit", desc := "(I)V" } : Jvm.MethodName)) ∈ tables_1 := tm_3 (List.mem_of_getElem? (i := 157) rfl)
set_option maxRecDepth 20000 in
theorem w_638 : (Jvm.Cond.privateMethod ({ cls := "DialSquare$RuleText", name := "emit", desc := "(I)V" } : Jvm.MethodName)) ∈ tables_1 := tm_3 (List.mem_of_getElem? (i := 158) rfl)
set_option maxRecDepth 20000 in
theorem w_639 : (Jvm.Cond.instanceMethod ({ cls := "DialSquare$RuleText", name := "emit", desc := "(I)V" } : Jvm.MethodName)) ∈ tables_1 := tm_3 (List.mem_of_getElem? (i := 159) rfl)
set_option maxRecDepth 20000 in
theorem w_640 : (Jvm.Cond.code ({ cls := "DialSquare$RuleText", name := "emit", desc := "(I)V" } : Jvm.MethodName) prog_8_method_19_code (2 : Nat) (Option.none : Option Jvm.ClassFile.FieldType)) ∈ tables_1 := tm_3 (List.mem_of_getElem? (i := 160) rfl)
set_option maxRecDepth 20000 in
theorem w_641 : (Jvm.Cond.methodLink "DialSquare" (161 : Nat) ({ cls := "DialSquare$RuleText", name := "fault", desc := "()I" } : Jvm.MethodName)) ∈ tables_1 := tm_3 (List.mem_of_getElem? (i := 161) rfl)
set_option maxRecDepth 20000 in
theorem w_642 : (Jvm.Cond.instanceMethod ({ cls := "DialSquare$RuleText", name := "fault", desc := "()I" } : Jvm.MethodName)) ∈ tables_1 := tm_3 (List.mem_of_getElem? (i := 162) rfl)
set_option maxRecDepth 20000 in
theorem w_643 : (Jvm.Cond.selects "DialSquare$RuleText" ({ cls := "DialSquare$RuleText", name := "fault", desc := "()I" } : Jvm.MethodName) ({ cls := "DialSquare$RuleText", name := "fault", desc := "()I" } : Jvm.MethodName)) ∈ tables_1 := tm_3 (List.mem_of_getElem? (i := 163) rfl)
set_option maxRecDepth 20000 in
theorem w_644 : (Jvm.Cond.code ({ cls := "DialSquare$RuleText", name := "fault", desc := "()I" } : Jvm.MethodName) prog_8_method_4_code (1 : Nat) (Option.some Jvm.ClassFile.FieldType.int)) ∈ tables_1 := tm_3 (List.mem_of_getElem? (i := 164) rfl)
set_option maxRecDepth 20000 in
theorem w_645 : (Jvm.Cond.methodLink "DialSquare" (164 : Nat) ({ cls := "DialSquare$RuleText", name := "told", desc := "()LDialSquare$Rules;" } : Jvm.MethodName)) ∈ tables_1 := tm_3 (List.mem_of_getElem? (i := 165) rfl)
set_option maxRecDepth 20000 in
theorem w_646 : (Jvm.Cond.instanceMethod ({ cls := "DialSquare$RuleText", name := "told", desc := "()LDialSquare$Rules;" } : Jvm.MethodName)) ∈ tables_1 := tm_3 (List.mem_of_getElem? (i := 166) rfl)
set_option maxRecDepth 20000 in
theorem w_647 : (Jvm.Cond.selects "DialSquare$RuleText" ({ cls := "DialSquare$RuleText", name := "told", desc := "()LDialSquare$Rules;" } : Jvm.MethodName) ({ cls := "DialSquare$RuleText", name := "told", desc := "()LDialSquare$Rules;" } : Jvm.MethodName)) ∈ tables_1 := tm_3 (List.mem_of_getElem? (i := 167) rfl)
set_option maxRecDepth 20000 in
theorem w_648 : (Jvm.Cond.code ({ cls := "DialSquare$RuleText", name := "told", desc := "()LDialSquare$Rules;" } : Jvm.MethodName) prog_8_method_5_code (1 : Nat) (Option.some (Jvm.ClassFile.FieldType.object "DialSquare$Rules"))) ∈ tables_1 := tm_3 (List.mem_of_getElem? (i := 168) rfl)
set_option maxRecDepth 20000 in
theorem w_649 : (Jvm.Cond.classLink "DialSquare$RuleText" (54 : Nat) "DialSquare$Rules") ∈ tables_1 := tm_3 (List.mem_of_getElem? (i := 169) rfl)
set_option maxRecDepth 20000 in
theorem w_650 : (Jvm.Cond.methodLink "DialSquare$RuleText" (56 : Nat) ({ cls := "java/util/Arrays", name := "copyOf", desc := "([II)[I" } : Jvm.MethodName)) ∈ tables_1 := tm_3 (List.mem_of_getElem? (i := 170) rfl)
set_option maxRecDepth 20000 in
theorem w_651 : (Jvm.Cond.static ({ cls := "java/util/Arrays", name := "copyOf", desc := "([II)[I" } : Jvm.MethodName)) ∈ tables_1 := tm_3 (List.mem_of_getElem? (i := 171) rfl)
set_option maxRecDepth 20000 in
theorem w_652 : (Jvm.Cond.code ({ cls := "java/util/Arrays", name := "copyOf", desc := "([II)[I" } : Jvm.MethodName) prog_22_method_123_code (3 : Nat) (Option.some (Jvm.ClassFile.FieldType.array Jvm.ClassFile.FieldType.int))) ∈ tables_1 := tm_3 (List.mem_of_getElem? (i := 172) rfl)
set_option maxRecDepth 20000 in
theorem w_653 : (Jvm.Cond.methodLink "java/util/Arrays" (316 : Nat) ({ cls := "[I", name := "clone", desc := "()Ljava/lang/Object;" } : Jvm.MethodName)) ∈ tables_1 := tm_3 (List.mem_of_getElem? (i := 173) rfl)
set_option maxRecDepth 20000 in
theorem w_654 : (Jvm.Cond.sameMethod "[I" "java/lang/Object" "clone" "()Ljava/lang/Object;") ∈ tables_1 := tm_3 (List.mem_of_getElem? (i := 174) rfl)
set_option maxRecDepth 20000 in
theorem w_655 : (Jvm.Cond.native ({ cls := "java/lang/Object", name := "clone", desc := "()Ljava/lang/Object;" } : Jvm.MethodName)) ∈ tables_1 := tm_3 (List.mem_of_getElem? (i := 175) rfl)
set_option maxRecDepth 20000 in
theorem w_656 : (Jvm.Cond.instanceMethod ({ cls := "java/lang/Object", name := "clone", desc := "()Ljava/lang/Object;" } : Jvm.MethodName)) ∈ tables_1 := tm_3 (List.mem_of_getElem? (i := 176) rfl)
set_option maxRecDepth 20000 in
theorem w_657 : (Jvm.Cond.selects "[I" ({ cls := "[I", name := "clone", desc := "()Ljava/lang/Object;" } : Jvm.MethodName) ({ cls := "java/lang/Object", name := "clone", desc := "()Ljava/lang/Object;" } : Jvm.MethodName)) ∈ tables_1 := tm_3 (List.mem_of_getElem? (i := 177) rfl)
set_option maxRecDepth 20000 in
theorem w_658 : (Jvm.Cond.castable "[I" "java/lang/Cloneable") ∈ tables_1 := tm_3 (List.mem_of_getElem? (i := 178) rfl)
set_option maxRecDepth 20000 in
theorem w_659 : (Jvm.Cond.classLink "java/util/Arrays" (317 : Nat) "[I") ∈ tables_1 := tm_3 (List.mem_of_getElem? (i := 179) rfl)
set_option maxRecDepth 20000 in
theorem w_660 : (Jvm.Cond.methodLink "java/util/Arrays" (304 : Nat) ({ cls := "java/lang/Math", name := "min", desc := "(II)I" } : Jvm.MethodName)) ∈ tables_1 := tm_3 (List.mem_of_getElem? (i := 180) rfl)
set_option maxRecDepth 20000 in
theorem w_661 : (Jvm.Cond.static ({ cls := "java/lang/Math", name := "min", desc := "(II)I" } : Jvm.MethodName)) ∈ tables_1 := tm_3 (List.mem_of_getElem? (i := 181) rfl)
set_option maxRecDepth 20000 in
theorem w_662 : (Jvm.Cond.code ({ cls := "java/lang/Math", name := "min", desc := "(II)I" } : Jvm.MethodName) prog_17_method_69_code (2 : Nat) (Option.some Jvm.ClassFile.FieldType.int)) ∈ tables_1 := tm_3 (List.mem_of_getElem? (i := 182) rfl)
set_option maxRecDepth 20000 in
theorem w_663 : (Jvm.Cond.methodLink "java/util/Arrays" (150 : Nat) ({ cls := "java/lang/System", name := "arraycopy", desc := "(Ljava/lang/Object;ILjava/lang/Object;II)V" } : Jvm.MethodName)) ∈ tables_1 := tm_3 (List.mem_of_getElem? (i := 183) rfl)
set_option maxRecDepth 20000 in
theorem w_664 : (Jvm.Cond.static ({ cls := "java/lang/System", name := "arraycopy", desc := "(Ljava/lang/Object;ILjava/lang/Object;II)V" } : Jvm.MethodName)) ∈ tables_1 := tm_3 (List.mem_of_getElem? (i := 184) rfl)
set_option maxRecDepth 20000 in
theorem w_665 : (Jvm.Cond.native ({ cls := "java/lang/System", name := "arraycopy", desc := "(Ljava/lang/Object;ILjava/lang/Object;II)V" } : Jvm.MethodName)) ∈ tables_1 := tm_3 (List.mem_of_getElem? (i := 185) rfl)
set_option maxRecDepth 20000 in
theorem w_666 : (Jvm.Cond.methodLink "DialSquare$RuleText" (62 : Nat) ({ cls := "DialSquare$Rules", name := "<init>", desc := "(I[I[I[I[I)V" } : Jvm.MethodName)) ∈ tables_1 := tm_3 (List.mem_of_getElem? (i := 186) rfl)
set_option maxRecDepth 20000 in
theorem w_667 : (Jvm.Cond.methodLink "DialSquareLaw" (69 : Nat) ({ cls := "DialSquare", name := "chime", desc := "()I" } : Jvm.MethodName)) ∈ tables_1 := tm_3 (List.mem_of_getElem? (i := 187) rfl)
set_option maxRecDepth 20000 in
theorem w_668 : (Jvm.Cond.instanceMethod ({ cls := "DialSquare", name := "chime", desc := "()I" } : Jvm.MethodName)) ∈ tables_1 := tm_3 (List.mem_of_getElem? (i := 188) rfl)
set_option maxRecDepth 20000 in
theorem w_669 : (Jvm.Cond.selects "DialSquare" ({ cls := "DialSquare", name := "chime", desc := "()I" } : Jvm.MethodName) ({ cls := "DialSquare", name := "chime", desc := "()I" } : Jvm.MethodName)) ∈ tables_1 := tm_3 (List.mem_of_getElem? (i := 189) rfl)
set_option maxRecDepth 20000 in
theorem w_670 : (Jvm.Cond.code ({ cls := "DialSquare", name := "chime", desc := "()I" } : Jvm.MethodName) prog_1_method_15_code (1 : Nat) (Option.some Jvm.ClassFile.FieldType.int)) ∈ tables_1 := tm_3 (List.mem_of_getElem? (i := 190) rfl)
set_option maxRecDepth 20000 in
theorem w_671 : (Jvm.Cond.methodLink "DialSquare" (173 : Nat) ({ cls := "DialSquare$Square", name := "rest", desc := "(I)I" } : Jvm.MethodName)) ∈ tables_1 := tm_3 (List.mem_of_getElem? (i := 191) rfl)
set_option maxRecDepth 20000 in
theorem w_672 : (Jvm.Cond.instanceMethod ({ cls := "DialSquare$Square", name := "rest", desc := "(I)I" } : Jvm.MethodName)) ∈ tables_1 := tm_3 (List.mem_of_getElem? (i := 192) rfl)
set_option maxRecDepth 20000 in
theorem w_673 : (Jvm.Cond.selects "DialSquare$Square" ({ cls := "DialSquare$Square", name := "rest", desc := "(I)I" } : Jvm.MethodName) ({ cls := "DialSquare$Square", name := "rest", desc := "(I)I" } : Jvm.MethodName)) ∈ tables_1 := tm_3 (List.mem_of_getElem? (i := 193) rfl)
set_option maxRecDepth 20000 in
theorem w_674 : (Jvm.Cond.code ({ cls := "DialSquare$Square", name := "rest", desc := "(I)I" } : Jvm.MethodName) prog_11_method_30_code (4 : Nat) (Option.some Jvm.ClassFile.FieldType.int)) ∈ tables_1 := tm_3 (List.mem_of_getElem? (i := 194) rfl)
set_option maxRecDepth 20000 in
theorem w_675 : (Jvm.Cond.methodLink "DialSquare$Square" (134 : Nat) ({ cls := "DialSquare$Square", name := "isOver", desc := "()Z" } : Jvm.MethodName)) ∈ tables_1 := tm_3 (List.mem_of_getElem? (i := 195) rfl)
set_option maxRecDepth 20000 in
theorem w_676 : (Jvm.Cond.methodLink "DialSquare$Square" (138 : Nat) ({ cls := "DialSquare$Square", name := "restAct", desc := "()I" } : Jvm.MethodName)) ∈ tables_1 := tm_3 (List.mem_of_getElem? (i := 196) rfl)
set_option maxRecDepth 20000 in
theorem w_677 : (Jvm.Cond.privateMethod ({ cls := "DialSquare$Square", name := "restAct", desc := "()I" } : Jvm.MethodName)) ∈ tables_1 := tm_3 (List.mem_of_getElem? (i := 197) rfl)
set_option maxRecDepth 20000 in
theorem w_678 : (Jvm.Cond.instanceMethod ({ cls := "DialSquare$Square", name := "restAct", desc := "()I" } : Jvm.MethodName)) ∈ tables_1 := tm_3 (List.mem_of_getElem? (i := 198) rfl)
set_option maxRecDepth 20000 in
theorem w_679 : (Jvm.Cond.code ({ cls := "DialSquare$Square", name := "restAct", desc := "()I" } : Jvm.MethodName) prog_11_method_29_code (2 : Nat) (Option.some Jvm.ClassFile.FieldType.int)) ∈ tables_1 := tm_3 (List.mem_of_getElem? (i := 199) rfl)
set_option maxRecDepth 20000 in
theorem w_680 : (Jvm.Cond.methodLink "DialSquare$Square" (131 : Nat) ({ cls := "DialSquare$Square", name := "mayBeSet", desc := "(I)Z" } : Jvm.MethodName)) ∈ tables_1 := tm_3 (List.mem_of_getElem? (i := 200) rfl)
set_option maxRecDepth 20000 in
theorem w_681 : (Jvm.Cond.methodLink "DialSquare$Square" (141 : Nat) ({ cls := "DialSquare$Square", name := "goBy", desc := "(I)I" } : Jvm.MethodName)) ∈ tables_1 := tm_3 (List.mem_of_getElem? (i := 201) rfl)
set_option maxRecDepth 20000 in
theorem w_682 : (Jvm.Cond.instanceMethod ({ cls := "DialSquare$Square", name := "goBy", desc := "(I)I" } : Jvm.MethodName)) ∈ tables_1 := tm_3 (List.mem_of_getElem? (i := 202) rfl)
set_option maxRecDepth 20000 in
theorem w_683 : (Jvm.Cond.selects "DialSquare$Square" ({ cls := "DialSquare$Square", name := "goBy", desc := "(I)I" } : Jvm.MethodName) ({ cls := "DialSquare$Square", name := "goBy", desc := "(I)I" } : Jvm.MethodName)) ∈ tables_1 := tm_3 (List.mem_of_getElem? (i := 203) rfl)
set_option maxRecDepth 20000 in
theorem w_684 : (Jvm.Cond.code ({ cls := "DialSquare$Square", name := "goBy", desc := "(I)I" } : Jvm.MethodName) prog_11_method_25_code (4 : Nat) (Option.some Jvm.ClassFile.FieldType.int)) ∈ tables_1 := tm_3 (List.mem_of_getElem? (i := 204) rfl)
set_option maxRecDepth 20000 in
theorem w_685 : (Jvm.Cond.methodLink "DialSquare$Square" (118 : Nat) ({ cls := "DialSquare$Square", name := "setRight", desc := "(I)I" } : Jvm.MethodName)) ∈ tables_1 := tm_3 (List.mem_of_getElem? (i := 205) rfl)
set_option maxRecDepth 20000 in
theorem w_686 : (Jvm.Cond.privateMethod ({ cls := "DialSquare$Square", name := "setRight", desc := "(I)I" } : Jvm.MethodName)) ∈ tables_1 := tm_3 (List.mem_of_getElem? (i := 206) rfl)
set_option maxRecDepth 20000 in
theorem w_687 : (Jvm.Cond.instanceMethod ({ cls := "DialSquare$Square", name := "setRight", desc := "(I)I" } : Jvm.MethodName)) ∈ tables_1 := tm_3 (List.mem_of_getElem? (i := 207) rfl)
set_option maxRecDepth 20000 in
theorem w_688 : (Jvm.Cond.code ({ cls := "DialSquare$Square", name := "setRight", desc := "(I)I" } : Jvm.MethodName) prog_11_method_26_code (3 : Nat) (Option.some Jvm.ClassFile.FieldType.int)) ∈ tables_1 := tm_3 (List.mem_of_getElem? (i := 208) rfl)
set_option maxRecDepth 20000 in
theorem w_689 : (Jvm.Cond.methodLink "DialSquare$Square" (121 : Nat) ({ cls := "DialSquare$Square", name := "arguedBy", desc := "(I)I" } : Jvm.MethodName)) ∈ tables_1 := tm_3 (List.mem_of_getElem? (i := 209) rfl)
set_option maxRecDepth 20000 in
theorem w_690 : (Jvm.Cond.privateMethod ({ cls := "DialSquare$Square", name := "arguedBy", desc := "(I)I" } : Jvm.MethodName)) ∈ tables_1 := tm_3 (List.mem_of_getElem? (i := 210) rfl)
set_option maxRecDepth 20000 in
theorem w_691 : (Jvm.Cond.instanceMethod ({ cls := "DialSquare$Square", name := "arguedBy", desc := "(I)I" } : Jvm.MethodName)) ∈ tables_1 := tm_3 (List.mem_of_getElem? (i := 211) rfl)
set_option maxRecDepth 20000 in
theorem w_692 : (Jvm.Cond.code ({ cls := "DialSquare$Square", name := "arguedBy", desc := "(I)I" } : Jvm.MethodName) prog_11_method_27_code (6 : Nat) (Option.some Jvm.ClassFile.FieldType.int)) ∈ tables_1 := tm_3 (List.mem_of_getElem? (i := 212) rfl)
set_option maxRecDepth 20000 in
theorem w_693 : (Jvm.Cond.methodLink "DialSquare$Square" (124 : Nat) ({ cls := "DialSquare$Square", name := "pairs", desc := "()I" } : Jvm.MethodName)) ∈ tables_1 := tm_3 (List.mem_of_getElem? (i := 213) rfl)
set_option maxRecDepth 20000 in
theorem w_694 : (Jvm.Cond.methodLink "DialSquare$Square" (128 : Nat) ({ cls := "DialSquare$Square", name := "slipAll", desc := "()V" } : Jvm.MethodName)) ∈ tables_1 := tm_3 (List.mem_of_getElem? (i := 214) rfl)
set_option maxRecDepth 20000 in
theorem w_695 : (Jvm.Cond.privateMethod ({ cls := "DialSquare$Square", name := "slipAll", desc := "()V" } : Jvm.MethodName)) ∈ tables_1 := tm_3 (List.mem_of_getElem? (i := 215) rfl)
set_option maxRecDepth 20000 in
theorem w_696 : (Jvm.Cond.instanceMethod ({ cls := "DialSquare$Square", name := "slipAll", desc := "()V" } : Jvm.MethodName)) ∈ tables_1 := tm_3 (List.mem_of_getElem? (i := 216) rfl)
set_option maxRecDepth 20000 in
theorem w_697 : (Jvm.Cond.code ({ cls := "DialSquare$Square", name := "slipAll", desc := "()V" } : Jvm.MethodName) prog_11_method_28_code (4 : Nat) (Option.none : Option Jvm.ClassFile.FieldType)) ∈ tables_1 := tm_3 (List.mem_of_getElem? (i := 217) rfl)
set_option maxRecDepth 20000 in
theorem w_698 : (Jvm.Cond.methodLink "DialSquareLaw" (73 : Nat) ({ cls := "DialSquare", name := "on", desc := "(I)I" } : Jvm.MethodName)) ∈ tables_1 := tm_3 (List.mem_of_getElem? (i := 218) rfl)
set_option maxRecDepth 20000 in
theorem w_699 : (Jvm.Cond.instanceMethod ({ cls := "DialSquare", name := "on", desc := "(I)I" } : Jvm.MethodName)) ∈ tables_1 := tm_3 (List.mem_of_getElem? (i := 219) rfl)
set_option maxRecDepth 20000 in
theorem w_700 : (Jvm.Cond.selects "DialSquare" ({ cls := "DialSquare", name := "on", desc := "(I)I" } : Jvm.MethodName) ({ cls := "DialSquare", name := "on", desc := "(I)I" } : Jvm.MethodName)) ∈ tables_1 := tm_3 (List.mem_of_getElem? (i := 220) rfl)
set_option maxRecDepth 20000 in
theorem w_701 : (Jvm.Cond.code ({ cls := "DialSquare", name := "on", desc := "(I)I" } : Jvm.MethodName) prog_1_method_16_code (2 : Nat) (Option.some Jvm.ClassFile.FieldType.int)) ∈ tables_1 := tm_3 (List.mem_of_getElem? (i := 221) rfl)
set_option maxRecDepth 20000 in
theorem w_702 : (Jvm.Cond.methodLink "DialSquare" (176 : Nat) ({ cls := "DialSquare$Square", name := "copyFrom", desc := "(LDialSquare$Square;)V" } : Jvm.MethodName)) ∈ tables_1 := tm_3 (List.mem_of_getElem? (i := 222) rfl)
set_option maxRecDepth 20000 in
theorem w_703 : (Jvm.Cond.instanceMethod ({ cls := "DialSquare$Square", name := "copyFrom", desc := "(LDialSquare$Square;)V" } : Jvm.MethodName)) ∈ tables_1 := tm_3 (List.mem_of_getElem? (i := 223) rfl)
set_option maxRecDepth 20000 in
theorem w_704 : (Jvm.Cond.selects "DialSquare$Square" ({ cls := "DialSquare$Square", name := "copyFrom", desc := "(LDialSquare$Square;)V" } : Jvm.MethodName) ({ cls := "DialSquare$Square", name := "copyFrom", desc := "(LDialSquare$Square;)V" } : Jvm.MethodName)) ∈ tables_1 := tm_3 (List.mem_of_getElem? (i := 224) rfl)
set_option maxRecDepth 20000 in
theorem w_705 : (Jvm.Cond.code ({ cls := "DialSquare$Square", name := "copyFrom", desc := "(LDialSquare$Square;)V" } : Jvm.MethodName) prog_11_method_2_code (3 : Nat) (Option.none : Option Jvm.ClassFile.FieldType)) ∈ tables_1 := tm_3 (List.mem_of_getElem? (i := 225) rfl)
set_option maxRecDepth 20000 in
theorem w_706 : (Jvm.Cond.methodLink "DialSquare$Square" (53 : Nat) ({ cls := "java/lang/System", name := "arraycopy", desc := "(Ljava/lang/Object;ILjava/lang/Object;II)V" } : Jvm.MethodName)) ∈ tables_1 := tm_3 (List.mem_of_getElem? (i := 226) rfl)
set_option maxRecDepth 20000 in
theorem w_707 : (Jvm.Cond.methodLink "DialSquareLaw" (77 : Nat) ({ cls := "DialSquare", name := "when", desc := "(I)I" } : Jvm.MethodName)) ∈ tables_1 := tm_3 (List.mem_of_getElem? (i := 227) rfl)
set_option maxRecDepth 20000 in
theorem w_708 : (Jvm.Cond.instanceMethod ({ cls := "DialSquare", name := "when", desc := "(I)I" } : Jvm.MethodName)) ∈ tables_1 := tm_3 (List.mem_of_getElem? (i := 228) rfl)
set_option maxRecDepth 20000 in
theorem w_709 : (Jvm.Cond.selects "DialSquare" ({ cls := "DialSquare", name := "when", desc := "(I)I" } : Jvm.MethodName) ({ cls := "DialSquare", name := "when", desc := "(I)I" } : Jvm.MethodName)) ∈ tables_1 := tm_3 (List.mem_of_getElem? (i := 229) rfl)
set_option maxRecDepth 20000 in
theorem w_710 : (Jvm.Cond.code ({ cls := "DialSquare", name := "when", desc := "(I)I" } : Jvm.MethodName) prog_1_method_17_code (3 : Nat) (Option.some Jvm.ClassFile.FieldType.int)) ∈ tables_1 := tm_3 (List.mem_of_getElem? (i := 230) rfl)
set_option maxRecDepth 20000 in
theorem w_711 : (Jvm.Cond.methodLink "DialSquare" (179 : Nat) ({ cls := "DialSquare$Square", name := "isRight", desc := "(I)Z" } : Jvm.MethodName)) ∈ tables_1 := tm_3 (List.mem_of_getElem? (i := 231) rfl)
set_option maxRecDepth 20000 in
theorem w_712 : (Jvm.Cond.methodLink "DialSquareLaw" (81 : Nat) ({ cls := "DialSquare", name := "prideFor", desc := "(I)I" } : Jvm.MethodName)) ∈ tables_1 := tm_3 (List.mem_of_getElem? (i := 232) rfl)
set_option maxRecDepth 20000 in
theorem w_713 : (Jvm.Cond.instanceMethod ({ cls := "DialSquare", name := "prideFor", desc := "(I)I" } : Jvm.MethodName)) ∈ tables_1 := tm_3 (List.mem_of_getElem? (i := 233) rfl)
set_option maxRecDepth 20000 in
theorem w_714 : (Jvm.Cond.selects "DialSquare" ({ cls := "DialSquare", name := "prideFor", desc := "(I)I" } : Jvm.MethodName) ({ cls := "DialSquare", name := "prideFor", desc := "(I)I" } : Jvm.MethodName)) ∈ tables_1 := tm_3 (List.mem_of_getElem? (i := 234) rfl)
set_option maxRecDepth 20000 in
theorem w_715 : (Jvm.Cond.code ({ cls := "DialSquare", name := "prideFor", desc := "(I)I" } : Jvm.MethodName) prog_1_method_18_code (2 : Nat) (Option.some Jvm.ClassFile.FieldType.int)) ∈ tables_1 := tm_3 (List.mem_of_getElem? (i := 235) rfl)
set_option maxRecDepth 20000 in
theorem w_716 : (Jvm.Cond.methodLink "DialSquare" (182 : Nat) ({ cls := "DialSquare", name := "dearest", desc := "(II)I" } : Jvm.MethodName)) ∈ tables_1 := tm_3 (List.mem_of_getElem? (i := 236) rfl)
set_option maxRecDepth 20000 in
theorem w_717 : (Jvm.Cond.privateMethod ({ cls := "DialSquare", name := "dearest", desc := "(II)I" } : Jvm.MethodName)) ∈ tables_1 := tm_3 (List.mem_of_getElem? (i := 237) rfl)
set_option maxRecDepth 20000 in
theorem w_718 : (Jvm.Cond.instanceMethod ({ cls := "DialSquare", name := "dearest", desc := "(II)I" } : Jvm.MethodName)) ∈ tables_1 := tm_3 (List.mem_of_getElem? (i := 238) rfl)
set_option maxRecDepth 20000 in
theorem w_719 : (Jvm.Cond.code ({ cls := "DialSquare", name := "dearest", desc := "(II)I" } : Jvm.MethodName) prog_1_method_20_code (7 : Nat) (Option.some Jvm.ClassFile.FieldType.int)) ∈ tables_1 := tm_3 (List.mem_of_getElem? (i := 239) rfl)
set_option maxRecDepth 20000 in
theorem w_720 : (Jvm.Cond.methodLink "DialSquare" (186 : Nat) ({ cls := "DialSquare$Square", name := "mark", desc := "([I)V" } : Jvm.MethodName)) ∈ tables_1 := tm_4 (List.mem_of_getElem? (i := 0) rfl)
set_option maxRecDepth 20000 in
theorem w_721 : (Jvm.Cond.instanceMethod ({ cls := "DialSquare$Square", name := "mark", desc := "([I)V" } : Jvm.MethodName)) ∈ tables_1 := tm_4 (List.mem_of_getElem? (i := 1) rfl)
set_option maxRecDepth 20000 in
theorem w_722 : (Jvm.Cond.selects "DialSquare$Square" ({ cls := "DialSquare$Square", name := "mark", desc := "([I)V" } : Jvm.MethodName) ({ cls := "DialSquare$Square", name := "mark", desc := "([I)V" } : Jvm.MethodName)) ∈ tables_1 := tm_4 (List.mem_of_getElem? (i := 2) rfl)
set_option maxRecDepth 20000 in
theorem w_723 : (Jvm.Cond.code ({ cls := "DialSquare$Square", name := "mark", desc := "([I)V" } : Jvm.MethodName) prog_11_method_3_code (3 : Nat) (Option.none : Option Jvm.ClassFile.FieldType)) ∈ tables_1 := tm_4 (List.mem_of_getElem? (i := 3) rfl)
set_option maxRecDepth 20000 in
theorem w_724 : (Jvm.Cond.methodLink "DialSquare" (190 : Nat) ({ cls := "DialSquare$Square", name := "back", desc := "([I)V" } : Jvm.MethodName)) ∈ tables_1 := tm_4 (List.mem_of_getElem? (i := 4) rfl)
set_option maxRecDepth 20000 in
theorem w_725 : (Jvm.Cond.instanceMethod ({ cls := "DialSquare$Square", name := "back", desc := "([I)V" } : Jvm.MethodName)) ∈ tables_1 := tm_4 (List.mem_of_getElem? (i := 5) rfl)
set_option maxRecDepth 20000 in
theorem w_726 : (Jvm.Cond.selects "DialSquare$Square" ({ cls := "DialSquare$Square", name := "back", desc := "([I)V" } : Jvm.MethodName) ({ cls := "DialSquare$Square", name := "back", desc := "([I)V" } : Jvm.MethodName)) ∈ tables_1 := tm_4 (List.mem_of_getElem? (i := 6) rfl)
set_option maxRecDepth 20000 in
theorem w_727 : (Jvm.Cond.code ({ cls := "DialSquare$Square", name := "back", desc := "([I)V" } : Jvm.MethodName) prog_11_method_4_code (3 : Nat) (Option.none : Option Jvm.ClassFile.FieldType)) ∈ tables_1 := tm_4 (List.mem_of_getElem? (i := 7) rfl)
set_option maxRecDepth 20000 in
theorem w_728 : (Jvm.Cond.methodLink "DialSquareLaw" (85 : Nat) ({ cls := "DialSquare", name := "spotFor", desc := "(I)I" } : Jvm.MethodName)) ∈ tables_1 := tm_4 (List.mem_of_getElem? (i := 8) rfl)
set_option maxRecDepth 20000 in
theorem w_729 : (Jvm.Cond.instanceMethod ({ cls := "DialSquare", name := "spotFor", desc := "(I)I" } : Jvm.MethodName)) ∈ tables_1 := tm_4 (List.mem_of_getElem? (i := 9) rfl)
set_option maxRecDepth 20000 in
theorem w_730 : (Jvm.Cond.selects "DialSquare" ({ cls := "DialSquare", name := "spotFor", desc := "(I)I" } : Jvm.MethodName) ({ cls := "DialSquare", name := "spotFor", desc := "(I)I" } : Jvm.MethodName)) ∈ tables_1 := tm_4 (List.mem_of_getElem? (i := 10) rfl)
set_option maxRecDepth 20000 in
theorem w_731 : (Jvm.Cond.code ({ cls := "DialSquare", name := "spotFor", desc := "(I)I" } : Jvm.MethodName) prog_1_method_19_code (2 : Nat) (Option.some Jvm.ClassFile.FieldType.int)) ∈ tables_1 := tm_4 (List.mem_of_getElem? (i := 11) rfl)
set_option maxRecDepth 20000 in
theorem w_732 : (Jvm.Cond.methodLink "DialSquareLaw" (89 : Nat) ({ cls := "DialSquare", name := "late", desc := "(I)I" } : Jvm.MethodName)) ∈ tables_1 := tm_4 (List.mem_of_getElem? (i := 12) rfl)
set_option maxRecDepth 20000 in
theorem w_733 : (Jvm.Cond.instanceMethod ({ cls := "DialSquare", name := "late", desc := "(I)I" } : Jvm.MethodName)) ∈ tables_1 := tm_4 (List.mem_of_getElem? (i := 13) rfl)
set_option maxRecDepth 20000 in
theorem w_734 : (Jvm.Cond.selects "DialSquare" ({ cls := "DialSquare", name := "late", desc := "(I)I" } : Jvm.MethodName) ({ cls := "DialSquare", name := "late", desc := "(I)I" } : Jvm.MethodName)) ∈ tables_1 := tm_4 (List.mem_of_getElem? (i := 14) rfl)
set_option maxRecDepth 20000 in
theorem w_735 : (Jvm.Cond.code ({ cls := "DialSquare", name := "late", desc := "(I)I" } : Jvm.MethodName) prog_1_method_21_code (3 : Nat) (Option.some Jvm.ClassFile.FieldType.int)) ∈ tables_1 := tm_4 (List.mem_of_getElem? (i := 15) rfl)
set_option maxRecDepth 20000 in
theorem w_736 : (Jvm.Cond.methodLink "DialSquareLaw" (93 : Nat) ({ cls := "DialSquare", name := "middle", desc := "()I" } : Jvm.MethodName)) ∈ tables_1 := tm_4 (List.mem_of_getElem? (i := 16) rfl)
set_option maxRecDepth 20000 in
theorem w_737 : (Jvm.Cond.instanceMethod ({ cls := "DialSquare", name := "middle", desc := "()I" } : Jvm.MethodName)) ∈ tables_1 := tm_4 (List.mem_of_getElem? (i := 17) rfl)
set_option maxRecDepth 20000 in
theorem w_738 : (Jvm.Cond.selects "DialSquare" ({ cls := "DialSquare", name := "middle", desc := "()I" } : Jvm.MethodName) ({ cls := "DialSquare", name := "middle", desc := "()I" } : Jvm.MethodName)) ∈ tables_1 := tm_4 (List.mem_of_getElem? (i := 18) rfl)
set_option maxRecDepth 20000 in
theorem w_739 : (Jvm.Cond.code ({ cls := "DialSquare", name := "middle", desc := "()I" } : Jvm.MethodName) prog_1_method_22_code (5 : Nat) (Option.some Jvm.ClassFile.FieldType.int)) ∈ tables_1 := tm_4 (List.mem_of_getElem? (i := 19) rfl)
set_option maxRecDepth 20000 in
theorem w_740 : (Jvm.Cond.methodLink "DialSquare" (193 : Nat) ({ cls := "DialSquare$Square", name := "apartFromAll", desc := "(I)I" } : Jvm.MethodName)) ∈ tables_1 := tm_4 (List.mem_of_getElem? (i := 20) rfl)
set_option maxRecDepth 20000 in
theorem w_741 : (Jvm.Cond.instanceMethod ({ cls := "DialSquare$Square", name := "apartFromAll", desc := "(I)I" } : Jvm.MethodName)) ∈ tables_1 := tm_4 (List.mem_of_getElem? (i := 21) rfl)
set_option maxRecDepth 20000 in
theorem w_742 : (Jvm.Cond.selects "DialSquare$Square" ({ cls := "DialSquare$Square", name := "apartFromAll", desc := "(I)I" } : Jvm.MethodName) ({ cls := "DialSquare$Square", name := "apartFromAll", desc := "(I)I" } : Jvm.MethodName)) ∈ tables_1 := tm_4 (List.mem_of_getElem? (i := 22) rfl)
set_option maxRecDepth 20000 in
theorem w_743 : (Jvm.Cond.code ({ cls := "DialSquare$Square", name := "apartFromAll", desc := "(I)I" } : Jvm.MethodName) prog_11_method_20_code (4 : Nat) (Option.some Jvm.ClassFile.FieldType.int)) ∈ tables_1 := tm_4 (List.mem_of_getElem? (i := 23) rfl)
set_option maxRecDepth 20000 in
theorem w_744 : (Jvm.Cond.methodLink "DialSquareLaw" (97 : Nat) ({ cls := "DialSquare", name := "knots", desc := "(I)I" } : Jvm.MethodName)) ∈ tables_1 := tm_4 (List.mem_of_getElem? (i := 24) rfl)
set_option maxRecDepth 20000 in
theorem w_745 : (Jvm.Cond.instanceMethod ({ cls := "DialSquare", name := "knots", desc := "(I)I" } : Jvm.MethodName)) ∈ tables_1 := tm_4 (List.mem_of_getElem? (i := 25) rfl)
set_option maxRecDepth 20000 in
theorem w_746 : (Jvm.Cond.selects "DialSquare" ({ cls := "DialSquare", name := "knots", desc := "(I)I" } : Jvm.MethodName) ({ cls := "DialSquare", name := "knots", desc := "(I)I" } : Jvm.MethodName)) ∈ tables_1 := tm_4 (List.mem_of_getElem? (i := 26) rfl)
set_option maxRecDepth 20000 in
theorem w_747 : (Jvm.Cond.code ({ cls := "DialSquare", name := "knots", desc := "(I)I" } : Jvm.MethodName) prog_1_method_23_code (2 : Nat) (Option.some Jvm.ClassFile.FieldType.int)) ∈ tables_1 := tm_4 (List.mem_of_getElem? (i := 27) rfl)
set_option maxRecDepth 20000 in
theorem w_748 : (Jvm.Cond.methodLink "DialSquare" (196 : Nat) ({ cls := "DialSquare", name := "countKnots", desc := "()I" } : Jvm.MethodName)) ∈ tables_1 := tm_4 (List.mem_of_getElem? (i := 28) rfl)
set_option maxRecDepth 20000 in
theorem w_749 : (Jvm.Cond.privateMethod ({ cls := "DialSquare", name := "countKnots", desc := "()I" } : Jvm.MethodName)) ∈ tables_1 := tm_4 (List.mem_of_getElem? (i := 29) rfl)
set_option maxRecDepth 20000 in
theorem w_750 : (Jvm.Cond.instanceMethod ({ cls := "DialSquare", name := "countKnots", desc := "()I" } : Jvm.MethodName)) ∈ tables_1 := tm_4 (List.mem_of_getElem? (i := 30) rfl)
set_option maxRecDepth 20000 in
theorem w_751 : (Jvm.Cond.code ({ cls := "DialSquare", name := "countKnots", desc := "()I" } : Jvm.MethodName) prog_1_method_24_code (4 : Nat) (Option.some Jvm.ClassFile.FieldType.int)) ∈ tables_1 := tm_4 (List.mem_of_getElem? (i := 31) rfl)
set_option maxRecDepth 20000 in
theorem w_752 : (Jvm.Cond.methodLink "DialSquare" (199 : Nat) ({ cls := "DialSquare$Square", name := "knotOf", desc := "(I)I" } : Jvm.MethodName)) ∈ tables_1 := tm_4 (List.mem_of_getElem? (i := 32) rfl)
set_option maxRecDepth 20000 in
theorem w_753 : (Jvm.Cond.instanceMethod ({ cls := "DialSquare$Square", name := "knotOf", desc := "(I)I" } : Jvm.MethodName)) ∈ tables_1 := tm_4 (List.mem_of_getElem? (i := 33) rfl)
set_option maxRecDepth 20000 in
theorem w_754 : (Jvm.Cond.selects "DialSquare$Square" ({ cls := "DialSquare$Square", name := "knotOf", desc := "(I)I" } : Jvm.MethodName) ({ cls := "DialSquare$Square", name := "knotOf", desc := "(I)I" } : Jvm.MethodName)) ∈ tables_1 := tm_4 (List.mem_of_getElem? (i := 34) rfl)
set_option maxRecDepth 20000 in
theorem w_755 : (Jvm.Cond.code ({ cls := "DialSquare$Square", name := "knotOf", desc := "(I)I" } : Jvm.MethodName) prog_11_method_21_code (5 : Nat) (Option.some Jvm.ClassFile.FieldType.int)) ∈ tables_1 := tm_4 (List.mem_of_getElem? (i := 35) rfl)
set_option maxRecDepth 20000 in
theorem w_756 : (Jvm.Cond.methodLink "DialSquare$Square" (103 : Nat) ({ cls := "DialSquare$Square", name := "closeTo", desc := "(I)I" } : Jvm.MethodName)) ∈ tables_1 := tm_4 (List.mem_of_getElem? (i := 36) rfl)
set_option maxRecDepth 20000 in
theorem w_757 : (Jvm.Cond.privateMethod ({ cls := "DialSquare$Square", name := "closeTo", desc := "(I)I" } : Jvm.MethodName)) ∈ tables_1 := tm_4 (List.mem_of_getElem? (i := 37) rfl)
set_option maxRecDepth 20000 in
theorem w_758 : (Jvm.Cond.instanceMethod ({ cls := "DialSquare$Square", name := "closeTo", desc := "(I)I" } : Jvm.MethodName)) ∈ tables_1 := tm_4 (List.mem_of_getElem? (i := 38) rfl)
set_option maxRecDepth 20000 in
theorem w_759 : (Jvm.Cond.code ({ cls := "DialSquare$Square", name := "closeTo", desc := "(I)I" } : Jvm.MethodName) prog_11_method_22_code (4 : Nat) (Option.some Jvm.ClassFile.FieldType.int)) ∈ tables_1 := tm_4 (List.mem_of_getElem? (i := 39) rfl)
set_option maxRecDepth 20000 in
theorem w_760 : (Jvm.Cond.methodLink "DialSquareLaw" (101 : Nat) ({ cls := "DialSquare", name := "seats", desc := "(II)I" } : Jvm.MethodName)) ∈ tables_1 := tm_4 (List.mem_of_getElem? (i := 40) rfl)
set_option maxRecDepth 20000 in
theorem w_761 : (Jvm.Cond.instanceMethod ({ cls := "DialSquare", name := "seats", desc := "(II)I" } : Jvm.MethodName)) ∈ tables_1 := tm_4 (List.mem_of_getElem? (i := 41) rfl)
set_option maxRecDepth 20000 in
theorem w_762 : (Jvm.Cond.selects "DialSquare" ({ cls := "DialSquare", name := "seats", desc := "(II)I" } : Jvm.MethodName) ({ cls := "DialSquare", name := "seats", desc := "(II)I" } : Jvm.MethodName)) ∈ tables_1 := tm_4 (List.mem_of_getElem? (i := 42) rfl)
set_option maxRecDepth 20000 in
theorem w_763 : (Jvm.Cond.code ({ cls := "DialSquare", name := "seats", desc := "(II)I" } : Jvm.MethodName) prog_1_method_25_code (8 : Nat) (Option.some Jvm.ClassFile.FieldType.int)) ∈ tables_1 := tm_4 (List.mem_of_getElem? (i := 43) rfl)
set_option maxRecDepth 20000 in
theorem w_764 : (Jvm.Cond.methodLink "DialSquare" (202 : Nat) ({ cls := "DialSquare", name := "spotsInShade", desc := "(I)I" } : Jvm.MethodName)) ∈ tables_1 := tm_4 (List.mem_of_getElem? (i := 44) rfl)
set_option maxRecDepth 20000 in
theorem w_765 : (Jvm.Cond.privateMethod ({ cls := "DialSquare", name := "spotsInShade", desc := "(I)I" } : Jvm.MethodName)) ∈ tables_1 := tm_4 (List.mem_of_getElem? (i := 45) rfl)
set_option maxRecDepth 20000 in
theorem w_766 : (Jvm.Cond.instanceMethod ({ cls := "DialSquare", name := "spotsInShade", desc := "(I)I" } : Jvm.MethodName)) ∈ tables_1 := tm_4 (List.mem_of_getElem? (i := 46) rfl)
set_option maxRecDepth 20000 in
theorem w_767 : (Jvm.Cond.code ({ cls := "DialSquare", name := "spotsInShade", desc := "(I)I" } : Jvm.MethodName) prog_1_method_26_code (4 : Nat) (Option.some Jvm.ClassFile.FieldType.int)) ∈ tables_1 := tm_4 (List.mem_of_getElem? (i := 47) rfl)
set_option maxRecDepth 20000 in
theorem w_768 : (Jvm.Cond.methodLink "DialSquare" (205 : Nat) ({ cls := "DialSquare", name := "benchesOf", desc := "(I)I" } : Jvm.MethodName)) ∈ tables_1 := tm_4 (List.mem_of_getElem? (i := 48) rfl)
set_option maxRecDepth 20000 in
theorem w_769 : (Jvm.Cond.privateMethod ({ cls := "DialSquare", name := "benchesOf", desc := "(I)I" } : Jvm.MethodName)) ∈ tables_1 := tm_4 (List.mem_of_getElem? (i := 49) rfl)
set_option maxRecDepth 20000 in
theorem w_770 : (Jvm.Cond.instanceMethod ({ cls := "DialSquare", name := "benchesOf", desc := "(I)I" } : Jvm.MethodName)) ∈ tables_1 := tm_4 (List.mem_of_getElem? (i := 50) rfl)
set_option maxRecDepth 20000 in
theorem w_771 : (Jvm.Cond.code ({ cls := "DialSquare", name := "benchesOf", desc := "(I)I" } : Jvm.MethodName) prog_1_method_27_code (4 : Nat) (Option.some Jvm.ClassFile.FieldType.int)) ∈ tables_1 := tm_4 (List.mem_of_getElem? (i := 51) rfl)
set_option maxRecDepth 20000 in
theorem w_772 : (Jvm.Cond.methodLink "DialSquareLaw" (105 : Nat) ({ cls := "DialSquare", name := "best", desc := "(I)I" } : Jvm.MethodName)) ∈ tables_1 := tm_4 (List.mem_of_getElem? (i := 52) rfl)
set_option maxRecDepth 20000 in
theorem w_773 : (Jvm.Cond.instanceMethod ({ cls := "DialSquare", name := "best", desc := "(I)I" } : Jvm.MethodName)) ∈ tables_1 := tm_4 (List.mem_of_getElem? (i := 53) rfl)
set_option maxRecDepth 20000 in
theorem w_774 : (Jvm.Cond.selects "DialSquare" ({ cls := "DialSquare", name := "best", desc := "(I)I" } : Jvm.MethodName) ({ cls := "DialSquare", name := "best", desc := "(I)I" } : Jvm.MethodName)) ∈ tables_1 := tm_4 (List.mem_of_getElem? (i := 54) rfl)
set_option maxRecDepth 20000 in
theorem w_775 : (Jvm.Cond.code ({ cls := "DialSquare", name := "best", desc := "(I)I" } : Jvm.MethodName) prog_1_method_28_code (2 : Nat) (Option.some Jvm.ClassFile.FieldType.int)) ∈ tables_1 := tm_4 (List.mem_of_getElem? (i := 55) rfl)
set_option maxRecDepth 20000 in
theorem w_776 : (Jvm.Cond.methodLink "DialSquare" (208 : Nat) ({ cls := "DialSquare$Plans", name := "look", desc := "(LDialSquare$Square;II)V" } : Jvm.MethodName)) ∈ tables_1 := tm_4 (List.mem_of_getElem? (i := 56) rfl)
set_option maxRecDepth 20000 in
theorem w_777 : (Jvm.Cond.instanceMethod ({ cls := "DialSquare$Plans", name := "look", desc := "(LDialSquare$Square;II)V" } : Jvm.MethodName)) ∈ tables_1 := tm_4 (List.mem_of_getElem? (i := 57) rfl)
set_option maxRecDepth 20000 in
theorem w_778 : (Jvm.Cond.selects "DialSquare$Plans" ({ cls := "DialSquare$Plans", name := "look", desc := "(LDialSquare$Square;II)V" } : Jvm.MethodName) ({ cls := "DialSquare$Plans", name := "look", desc := "(LDialSquare$Square;II)V" } : Jvm.MethodName)) ∈ tables_1 := tm_4 (List.mem_of_getElem? (i := 58) rfl)
set_option maxRecDepth 20000 in
theorem w_779 : (Jvm.Cond.code ({ cls := "DialSquare$Plans", name := "look", desc := "(LDialSquare$Square;II)V" } : Jvm.MethodName) prog_7_method_2_code (4 : Nat) (Option.none : Option Jvm.ClassFile.FieldType)) ∈ tables_1 := tm_4 (List.mem_of_getElem? (i := 59) rfl)
set_option maxRecDepth 20000 in
theorem w_780 : (Jvm.Cond.methodLink "DialSquare$Plans" (30 : Nat) ({ cls := "DialSquare$Square", name := "copyFrom", desc := "(LDialSquare$Square;)V" } : Jvm.MethodName)) ∈ tables_1 := tm_4 (List.mem_of_getElem? (i := 60) rfl)
set_option maxRecDepth 20000 in
theorem w_781 : (Jvm.Cond.methodLink "DialSquare$Plans" (58 : Nat) ({ cls := "DialSquare$Plans", name := "explore", desc := "(III)V" } : Jvm.MethodName)) ∈ tables_1 := tm_4 (List.mem_of_getElem? (i := 61) rfl)
set_option maxRecDepth 20000 in
theorem w_782 : (Jvm.Cond.privateMethod ({ cls := "DialSquare$Plans", name := "explore", desc := "(III)V" } : Jvm.MethodName)) ∈ tables_1 := tm_4 (List.mem_of_getElem? (i := 62) rfl)
set_option maxRecDepth 20000 in
theorem w_783 : (Jvm.Cond.instanceMethod ({ cls := "DialSquare$Plans", name := "explore", desc := "(III)V" } : Jvm.MethodName)) ∈ tables_1 := tm_4 (List.mem_of_getElem? (i := 63) rfl)
set_option maxRecDepth 20000 in
theorem w_784 : (Jvm.Cond.code ({ cls := "DialSquare$Plans", name := "explore", desc := "(III)V" } : Jvm.MethodName) prog_7_method_3_code (5 : Nat) (Option.none : Option Jvm.ClassFile.FieldType)) ∈ tables_1 := tm_4 (List.mem_of_getElem? (i := 64) rfl)
set_option maxRecDepth 20000 in
theorem w_785 : (Jvm.Cond.methodLink "DialSquare$Plans" (62 : Nat) ({ cls := "DialSquare$Square", name := "isOver", desc := "()Z" } : Jvm.MethodName)) ∈ tables_1 := tm_4 (List.mem_of_getElem? (i := 65) rfl)
set_option maxRecDepth 20000 in
theorem w_786 : (Jvm.Cond.methodLink "DialSquare$Plans" (66 : Nat) ({ cls := "DialSquare$Plans", name := "weigh", desc := "(III)V" } : Jvm.MethodName)) ∈ tables_1 := tm_4 (List.mem_of_getElem? (i := 66) rfl)
set_option maxRecDepth 20000 in
theorem w_787 : (Jvm.Cond.privateMethod ({ cls := "DialSquare$Plans", name := "weigh", desc := "(III)V" } : Jvm.MethodName)) ∈ tables_1 := tm_4 (List.mem_of_getElem? (i := 67) rfl)
set_option maxRecDepth 20000 in
theorem w_788 : (Jvm.Cond.instanceMethod ({ cls := "DialSquare$Plans", name := "weigh", desc := "(III)V" } : Jvm.MethodName)) ∈ tables_1 := tm_4 (List.mem_of_getElem? (i := 68) rfl)
set_option maxRecDepth 20000 in
theorem w_789 : (Jvm.Cond.code ({ cls := "DialSquare$Plans", name := "weigh", desc := "(III)V" } : Jvm.MethodName) prog_7_method_4_code (5 : Nat) (Option.none : Option Jvm.ClassFile.FieldType)) ∈ tables_1 := tm_4 (List.mem_of_getElem? (i := 69) rfl)
set_option maxRecDepth 20000 in
theorem w_790 : (Jvm.Cond.methodLink "DialSquare$Plans" (83 : Nat) ({ cls := "java/lang/System", name := "arraycopy", desc := "(Ljava/lang/Object;ILjava/lang/Object;II)V" } : Jvm.MethodName)) ∈ tables_1 := tm_4 (List.mem_of_getElem? (i := 70) rfl)
set_option maxRecDepth 20000 in
theorem w_791 : (Jvm.Cond.methodLink "DialSquare$Plans" (89 : Nat) ({ cls := "DialSquare$Square", name := "rightSet", desc := "()I" } : Jvm.MethodName)) ∈ tables_1 := tm_4 (List.mem_of_getElem? (i := 71) rfl)
set_option maxRecDepth 20000 in
theorem w_792 : (Jvm.Cond.methodLink "DialSquare$Plans" (69 : Nat) ({ cls := "DialSquare$Square", name := "mark", desc := "([I)V" } : Jvm.MethodName)) ∈ tables_1 := tm_4 (List.mem_of_getElem? (i := 72) rfl)
set_option maxRecDepth 20000 in
theorem w_793 : (Jvm.Cond.methodLink "DialSquare$Plans" (76 : Nat) ({ cls := "DialSquare$Square", name := "back", desc := "([I)V" } : Jvm.MethodName)) ∈ tables_1 := tm_4 (List.mem_of_getElem? (i := 73) rfl)
set_option maxRecDepth 20000 in
theorem w_794 : (Jvm.Cond.methodLink "DialSquare$Plans" (79 : Nat) ({ cls := "DialSquare$Square", name := "goBy", desc := "(I)I" } : Jvm.MethodName)) ∈ tables_1 := tm_4 (List.mem_of_getElem? (i := 74) rfl)
set_option maxRecDepth 20000 in
theorem w_795 : (Jvm.Cond.methodLink "DialSquareLaw" (109 : Nat) ({ cls := "DialSquare", name := "ith", desc := "(II)I" } : Jvm.MethodName)) ∈ tables_1 := tm_4 (List.mem_of_getElem? (i := 75) rfl)
set_option maxRecDepth 20000 in
theorem w_796 : (Jvm.Cond.instanceMethod ({ cls := "DialSquare", name := "ith", desc := "(II)I" } : Jvm.MethodName)) ∈ tables_1 := tm_4 (List.mem_of_getElem? (i := 76) rfl)
set_option maxRecDepth 20000 in
theorem w_797 : (Jvm.Cond.selects "DialSquare" ({ cls := "DialSquare", name := "ith", desc := "(II)I" } : Jvm.MethodName) ({ cls := "DialSquare", name := "ith", desc := "(II)I" } : Jvm.MethodName)) ∈ tables_1 := tm_4 (List.mem_of_getElem? (i := 77) rfl)
set_option maxRecDepth 20000 in
theorem w_798 : (Jvm.Cond.code ({ cls := "DialSquare", name := "ith", desc := "(II)I" } : Jvm.MethodName) prog_1_method_29_code (3 : Nat) (Option.some Jvm.ClassFile.FieldType.int)) ∈ tables_1 := tm_4 (List.mem_of_getElem? (i := 78) rfl)
set_option maxRecDepth 20000 in
theorem w_799 : (Jvm.Cond.methodLink "DialSquareLaw" (113 : Nat) ({ cls := "DialSquare", name := "ways", desc := "(I)I" } : Jvm.MethodName)) ∈ tables_1 := tm_4 (List.mem_of_getElem? (i := 79) rfl)
set_option maxRecDepth 20000 in
theorem w_800 : (Jvm.Cond.instanceMethod ({ cls := "DialSquare", name := "ways", desc := "(I)I" } : Jvm.MethodName)) ∈ tables_1 := tm_4 (List.mem_of_getElem? (i := 80) rfl)
set_option maxRecDepth 20000 in
theorem w_801 : (Jvm.Cond.selects "DialSquare" ({ cls := "DialSquare", name := "ways", desc := "(I)I" } : Jvm.MethodName) ({ cls := "DialSquare", name := "ways", desc := "(I)I" } : Jvm.MethodName)) ∈ tables_1 := tm_4 (List.mem_of_getElem? (i := 81) rfl)
set_option maxRecDepth 20000 in
theorem w_802 : (Jvm.Cond.code ({ cls := "DialSquare", name := "ways", desc := "(I)I" } : Jvm.MethodName) prog_1_method_30_code (2 : Nat) (Option.some Jvm.ClassFile.FieldType.int)) ∈ tables_1 := tm_4 (List.mem_of_getElem? (i := 82) rfl)
set_option maxRecDepth 20000 in
theorem w_803 : (Jvm.Cond.methodLink "DialSquareLaw" (117 : Nat) ({ cls := "DialSquare", name := "order", desc := "(II)I" } : Jvm.MethodName)) ∈ tables_1 := tm_4 (List.mem_of_getElem? (i := 83) rfl)
set_option maxRecDepth 20000 in
theorem w_804 : (Jvm.Cond.instanceMethod ({ cls := "DialSquare", name := "order", desc := "(II)I" } : Jvm.MethodName)) ∈ tables_1 := tm_4 (List.mem_of_getElem? (i := 84) rfl)
set_option maxRecDepth 20000 in
theorem w_805 : (Jvm.Cond.selects "DialSquare" ({ cls := "DialSquare", name := "order", desc := "(II)I" } : Jvm.MethodName) ({ cls := "DialSquare", name := "order", desc := "(II)I" } : Jvm.MethodName)) ∈ tables_1 := tm_4 (List.mem_of_getElem? (i := 85) rfl)
set_option maxRecDepth 20000 in
theorem w_806 : (Jvm.Cond.code ({ cls := "DialSquare", name := "order", desc := "(II)I" } : Jvm.MethodName) prog_1_method_31_code (3 : Nat) (Option.some Jvm.ClassFile.FieldType.int)) ∈ tables_1 := tm_4 (List.mem_of_getElem? (i := 86) rfl)
set_option maxRecDepth 20000 in
theorem w_807 : (Jvm.Cond.methodLink "DialSquare" (224 : Nat) ({ cls := "DialSquare", name := "isSetOfDials", desc := "(I)Z" } : Jvm.MethodName)) ∈ tables_1 := tm_4 (List.mem_of_getElem? (i := 87) rfl)
set_option maxRecDepth 20000 in
theorem w_808 : (Jvm.Cond.privateMethod ({ cls := "DialSquare", name := "isSetOfDials", desc := "(I)Z" } : Jvm.MethodName)) ∈ tables_1 := tm_4 (List.mem_of_getElem? (i := 88) rfl)
set_option maxRecDepth 20000 in
theorem w_809 : (Jvm.Cond.instanceMethod ({ cls := "DialSquare", name := "isSetOfDials", desc := "(I)Z" } : Jvm.MethodName)) ∈ tables_1 := tm_4 (List.mem_of_getElem? (i := 89) rfl)
set_option maxRecDepth 20000 in
theorem w_810 : (Jvm.Cond.code ({ cls := "DialSquare", name := "isSetOfDials", desc := "(I)Z" } : Jvm.MethodName) prog_1_method_33_code (2 : Nat) (Option.some Jvm.ClassFile.FieldType.boolean)) ∈ tables_1 := tm_4 (List.mem_of_getElem? (i := 90) rfl)
set_option maxRecDepth 20000 in
theorem w_811 : (Jvm.Cond.methodLink "DialSquareLaw" (121 : Nat) ({ cls := "DialSquare", name := "bars", desc := "(II)I" } : Jvm.MethodName)) ∈ tables_1 := tm_4 (List.mem_of_getElem? (i := 91) rfl)
set_option maxRecDepth 20000 in
theorem w_812 : (Jvm.Cond.instanceMethod ({ cls := "DialSquare", name := "bars", desc := "(II)I" } : Jvm.MethodName)) ∈ tables_1 := tm_4 (List.mem_of_getElem? (i := 92) rfl)
set_option maxRecDepth 20000 in
theorem w_813 : (Jvm.Cond.selects "DialSquare" ({ cls := "DialSquare", name := "bars", desc := "(II)I" } : Jvm.MethodName) ({ cls := "DialSquare", name := "bars", desc := "(II)I" } : Jvm.MethodName)) ∈ tables_1 := tm_4 (List.mem_of_getElem? (i := 93) rfl)
set_option maxRecDepth 20000 in
theorem w_814 : (Jvm.Cond.code ({ cls := "DialSquare", name := "bars", desc := "(II)I" } : Jvm.MethodName) prog_1_method_32_code (5 : Nat) (Option.some Jvm.ClassFile.FieldType.int)) ∈ tables_1 := tm_4 (List.mem_of_getElem? (i := 94) rfl)
set_option maxRecDepth 20000 in
theorem w_815 : (Jvm.Cond.methodLink "DialSquareLaw" (125 : Nat) ({ cls := "DialSquare", name := "game", desc := "(I)I" } : Jvm.MethodName)) ∈ tables_1 := tm_4 (List.mem_of_getElem? (i := 95) rfl)
set_option maxRecDepth 20000 in
theorem w_816 : (Jvm.Cond.instanceMethod ({ cls := "DialSquare", name := "game", desc := "(I)I" } : Jvm.MethodName)) ∈ tables_1 := tm_4 (List.mem_of_getElem? (i := 96) rfl)
set_option maxRecDepth 20000 in
theorem w_817 : (Jvm.Cond.selects "DialSquare" ({ cls := "DialSquare", name := "game", desc := "(I)I" } : Jvm.MethodName) ({ cls := "DialSquare", name := "game", desc := "(I)I" } : Jvm.MethodName)) ∈ tables_1 := tm_4 (List.mem_of_getElem? (i := 97) rfl)
set_option maxRecDepth 20000 in
theorem w_818 : (Jvm.Cond.code ({ cls := "DialSquare", name := "game", desc := "(I)I" } : Jvm.MethodName) prog_1_method_34_code (2 : Nat) (Option.some Jvm.ClassFile.FieldType.int)) ∈ tables_1 := tm_4 (List.mem_of_getElem? (i := 98) rfl)
set_option maxRecDepth 20000 in
theorem w_819 : (Jvm.Cond.methodLink "DialSquare" (233 : Nat) ({ cls := "DialSquare$Plans", name := "valueOf", desc := "(LDialSquare$Square;I)I" } : Jvm.MethodName)) ∈ tables_1 := tm_4 (List.mem_of_getElem? (i := 99) rfl)
set_option maxRecDepth 20000 in
theorem w_820 : (Jvm.Cond.instanceMethod ({ cls := "DialSquare$Plans", name := "valueOf", desc := "(LDialSquare$Square;I)I" } : Jvm.MethodName)) ∈ tables_1 := tm_4 (List.mem_of_getElem? (i := 100) rfl)
set_option maxRecDepth 20000 in
theorem w_821 : (Jvm.Cond.selects "DialSquare$Plans" ({ cls := "DialSquare$Plans", name := "valueOf", desc := "(LDialSquare$Square;I)I" } : Jvm.MethodName) ({ cls := "DialSquare$Plans", name := "valueOf", desc := "(LDialSquare$Square;I)I" } : Jvm.MethodName)) ∈ tables_1 := tm_4 (List.mem_of_getElem? (i := 101) rfl)
set_option maxRecDepth 20000 in
theorem w_822 : (Jvm.Cond.code ({ cls := "DialSquare$Plans", name := "valueOf", desc := "(LDialSquare$Square;I)I" } : Jvm.MethodName) prog_7_method_5_code (3 : Nat) (Option.some Jvm.ClassFile.FieldType.int)) ∈ tables_1 := tm_4 (List.mem_of_getElem? (i := 102) rfl)
set_option maxRecDepth 20000 in
theorem w_823 : (Jvm.Cond.methodLink "DialSquare$Plans" (93 : Nat) ({ cls := "DialSquare$Plans", name := "valueFrom", desc := "(I)I" } : Jvm.MethodName)) ∈ tables_1 := tm_4 (List.mem_of_getElem? (i := 103) rfl)
set_option maxRecDepth 20000 in
theorem w_824 : (Jvm.Cond.privateMethod ({ cls := "DialSquare$Plans", name := "valueFrom", desc := "(I)I" } : Jvm.MethodName)) ∈ tables_1 := tm_4 (List.mem_of_getElem? (i := 104) rfl)
set_option maxRecDepth 20000 in
theorem w_825 : (Jvm.Cond.instanceMethod ({ cls := "DialSquare$Plans", name := "valueFrom", desc := "(I)I" } : Jvm.MethodName)) ∈ tables_1 := tm_4 (List.mem_of_getElem? (i := 105) rfl)
set_option maxRecDepth 20000 in
theorem w_826 : (Jvm.Cond.code ({ cls := "DialSquare$Plans", name := "valueFrom", desc := "(I)I" } : Jvm.MethodName) prog_7_method_6_code (6 : Nat) (Option.some Jvm.ClassFile.FieldType.int)) ∈ tables_1 := tm_4 (List.mem_of_getElem? (i := 106) rfl)
set_option maxRecDepth 20000 in
theorem w_827 : (Jvm.Cond.methodLink "DialSquareLaw" (129 : Nat) ({ cls := "DialSquare", name := "play", desc := "(I)I" } : Jvm.MethodName)) ∈ tables_1 := tm_4 (List.mem_of_getElem? (i := 107) rfl)
set_option maxRecDepth 20000 in
theorem w_828 : (Jvm.Cond.instanceMethod ({ cls := "DialSquare", name := "play", desc := "(I)I" } : Jvm.MethodName)) ∈ tables_1 := tm_4 (List.mem_of_getElem? (i := 108) rfl)
set_option maxRecDepth 20000 in
theorem w_829 : (Jvm.Cond.selects "DialSquare" ({ cls := "DialSquare", name := "play", desc := "(I)I" } : Jvm.MethodName) ({ cls := "DialSquare", name := "play", desc := "(I)I" } : Jvm.MethodName)) ∈ tables_1 := tm_4 (List.mem_of_getElem? (i := 109) rfl)
set_option maxRecDepth 20000 in
theorem w_830 : (Jvm.Cond.code ({ cls := "DialSquare", name := "play", desc := "(I)I" } : Jvm.MethodName) prog_1_method_35_code (2 : Nat) (Option.some Jvm.ClassFile.FieldType.int)) ∈ tables_1 := tm_4 (List.mem_of_getElem? (i := 110) rfl)
set_option maxRecDepth 20000 in
theorem w_831 : (Jvm.Cond.methodLink "DialSquareLaw" (133 : Nat) ({ cls := "DialSquare", name := "report", desc := "(IIII)I" } : Jvm.MethodName)) ∈ tables_1 := tm_4 (List.mem_of_getElem? (i := 111) rfl)
set_option maxRecDepth 20000 in
theorem w_832 : (Jvm.Cond.instanceMethod ({ cls := "DialSquare", name := "report", desc := "(IIII)I" } : Jvm.MethodName)) ∈ tables_1 := tm_4 (List.mem_of_getElem? (i := 112) rfl)
set_option maxRecDepth 20000 in
theorem w_833 : (Jvm.Cond.selects "DialSquare" ({ cls := "DialSquare", name := "report", desc := "(IIII)I" } : Jvm.MethodName) ({ cls := "DialSquare", name := "report", desc := "(IIII)I" } : Jvm.MethodName)) ∈ tables_1 := tm_4 (List.mem_of_getElem? (i := 113) rfl)
set_option maxRecDepth 20000 in
theorem w_834 : (Jvm.Cond.code ({ cls := "DialSquare", name := "report", desc := "(IIII)I" } : Jvm.MethodName) prog_1_method_36_code (5 : Nat) (Option.some Jvm.ClassFile.FieldType.int)) ∈ tables_1 := tm_4 (List.mem_of_getElem? (i := 114) rfl)
set_option maxRecDepth 20000 in
theorem w_835 : (Jvm.Cond.methodLink "DialSquare" (243 : Nat) ({ cls := "DialSquare$Square", name := "putReport", desc := "(IIII)I" } : Jvm.MethodName)) ∈ tables_1 := tm_4 (List.mem_of_getElem? (i := 115) rfl)
set_option maxRecDepth 20000 in
theorem w_836 : (Jvm.Cond.instanceMethod ({ cls := "DialSquare$Square", name := "putReport", desc := "(IIII)I" } : Jvm.MethodName)) ∈ tables_1 := tm_4 (List.mem_of_getElem? (i := 116) rfl)
set_option maxRecDepth 20000 in
theorem w_837 : (Jvm.Cond.selects "DialSquare$Square" ({ cls := "DialSquare$Square", name := "putReport", desc := "(IIII)I" } : Jvm.MethodName) ({ cls := "DialSquare$Square", name := "putReport", desc := "(IIII)I" } : Jvm.MethodName)) ∈ tables_1 := tm_4 (List.mem_of_getElem? (i := 117) rfl)
set_option maxRecDepth 20000 in
theorem w_838 : (Jvm.Cond.code ({ cls := "DialSquare$Square", name := "putReport", desc := "(IIII)I" } : Jvm.MethodName) prog_11_method_6_code (6 : Nat) (Option.some Jvm.ClassFile.FieldType.int)) ∈ tables_1 := tm_4 (List.mem_of_getElem? (i := 118) rfl)
set_option maxRecDepth 20000 in
theorem w_839 : (Jvm.Cond.methodLink "DialSquareLaw" (137 : Nat) ({ cls := "DialSquare", name := "forget", desc := "()I" } : Jvm.MethodName)) ∈ tables_1 := tm_4 (List.mem_of_getElem? (i := 119) rfl)
set_option maxRecDepth 20000 in
theorem w_840 : (Jvm.Cond.instanceMethod ({ cls := "DialSquare", name := "forget", desc := "()I" } : Jvm.MethodName)) ∈ tables_1 := tm_4 (List.mem_of_getElem? (i := 120) rfl)
set_option maxRecDepth 20000 in
theorem w_841 : (Jvm.Cond.selects "DialSquare" ({ cls := "DialSquare", name := "forget", desc := "()I" } : Jvm.MethodName) ({ cls := "DialSquare", name := "forget", desc := "()I" } : Jvm.MethodName)) ∈ tables_1 := tm_4 (List.mem_of_getElem? (i := 121) rfl)
set_option maxRecDepth 20000 in
theorem w_842 : (Jvm.Cond.code ({ cls := "DialSquare", name := "forget", desc := "()I" } : Jvm.MethodName) prog_1_method_37_code (2 : Nat) (Option.some Jvm.ClassFile.FieldType.int)) ∈ tables_1 := tm_4 (List.mem_of_getElem? (i := 122) rfl)
set_option maxRecDepth 20000 in
theorem w_843 : (Jvm.Cond.methodLink "DialSquareLaw" (141 : Nat) ({ cls := "DialSquare", name := "lone", desc := "(I)I" } : Jvm.MethodName)) ∈ tables_1 := tm_4 (List.mem_of_getElem? (i := 123) rfl)
set_option maxRecDepth 20000 in
theorem w_844 : (Jvm.Cond.instanceMethod ({ cls := "DialSquare", name := "lone", desc := "(I)I" } : Jvm.MethodName)) ∈ tables_1 := tm_4 (List.mem_of_getElem? (i := 124) rfl)
set_option maxRecDepth 20000 in
theorem w_845 : (Jvm.Cond.selects "DialSquare" ({ cls := "DialSquare", name := "lone", desc := "(I)I" } : Jvm.MethodName) ({ cls := "DialSquare", name := "lone", desc := "(I)I" } : Jvm.MethodName)) ∈ tables_1 := tm_4 (List.mem_of_getElem? (i := 125) rfl)
set_option maxRecDepth 20000 in
theorem w_846 : (Jvm.Cond.code ({ cls := "DialSquare", name := "lone", desc := "(I)I" } : Jvm.MethodName) prog_1_method_38_code (5 : Nat) (Option.some Jvm.ClassFile.FieldType.int)) ∈ tables_1 := tm_4 (List.mem_of_getElem? (i := 126) rfl)
set_option maxRecDepth 20000 in
theorem w_847 : (Jvm.Cond.methodLink "DialSquare" (246 : Nat) ({ cls := "DialSquare", name := "missedBy", desc := "(I)I" } : Jvm.MethodName)) ∈ tables_1 := tm_4 (List.mem_of_getElem? (i := 127) rfl)
set_option maxRecDepth 20000 in
theorem w_848 : (Jvm.Cond.privateMethod ({ cls := "DialSquare", name := "missedBy", desc := "(I)I" } : Jvm.MethodName)) ∈ tables_1 := tm_4 (List.mem_of_getElem? (i := 128) rfl)
set_option maxRecDepth 20000 in
theorem w_849 : (Jvm.Cond.instanceMethod ({ cls := "DialSquare", name := "missedBy", desc := "(I)I" } : Jvm.MethodName)) ∈ tables_1 := tm_4 (List.mem_of_getElem? (i := 129) rfl)
set_option maxRecDepth 20000 in
theorem w_850 : (Jvm.Cond.code ({ cls := "DialSquare", name := "missedBy", desc := "(I)I" } : Jvm.MethodName) prog_1_method_41_code (2 : Nat) (Option.some Jvm.ClassFile.FieldType.int)) ∈ tables_1 := tm_4 (List.mem_of_getElem? (i := 130) rfl)
set_option maxRecDepth 20000 in
theorem w_851 : (Jvm.Cond.methodLink "DialSquare" (249 : Nat) ({ cls := "DialSquare", name := "partOfStranger", desc := "(II)I" } : Jvm.MethodName)) ∈ tables_1 := tm_4 (List.mem_of_getElem? (i := 131) rfl)
set_option maxRecDepth 20000 in
theorem w_852 : (Jvm.Cond.static ({ cls := "DialSquare", name := "partOfStranger", desc := "(II)I" } : Jvm.MethodName)) ∈ tables_1 := tm_4 (List.mem_of_getElem? (i := 132) rfl)
set_option maxRecDepth 20000 in
theorem w_853 : (Jvm.Cond.code ({ cls := "DialSquare", name := "partOfStranger", desc := "(II)I" } : Jvm.MethodName) prog_1_method_40_code (2 : Nat) (Option.some Jvm.ClassFile.FieldType.int)) ∈ tables_1 := tm_4 (List.mem_of_getElem? (i := 133) rfl)
set_option maxRecDepth 20000 in
theorem w_854 : (Jvm.Cond.methodLink "DialSquare" (257 : Nat) ({ cls := "DialSquare$Square", name := "missedBy", desc := "(III)I" } : Jvm.MethodName)) ∈ tables_1 := tm_4 (List.mem_of_getElem? (i := 134) rfl)
set_option maxRecDepth 20000 in
theorem w_855 : (Jvm.Cond.instanceMethod ({ cls := "DialSquare$Square", name := "missedBy", desc := "(III)I" } : Jvm.MethodName)) ∈ tables_1 := tm_4 (List.mem_of_getElem? (i := 135) rfl)
set_option maxRecDepth 20000 in
theorem w_856 : (Jvm.Cond.selects "DialSquare$Square" ({ cls := "DialSquare$Square", name := "missedBy", desc := "(III)I" } : Jvm.MethodName) ({ cls := "DialSquare$Square", name := "missedBy", desc := "(III)I" } : Jvm.MethodName)) ∈ tables_1 := tm_4 (List.mem_of_getElem? (i := 136) rfl)
set_option maxRecDepth 20000 in
theorem w_857 : (Jvm.Cond.code ({ cls := "DialSquare$Square", name := "missedBy", desc := "(III)I" } : Jvm.MethodName) prog_11_method_32_code (8 : Nat) (Option.some Jvm.ClassFile.FieldType.int)) ∈ tables_1 := tm_4 (List.mem_of_getElem? (i := 137) rfl)
set_option maxRecDepth 20000 in
theorem w_858 : (Jvm.Cond.methodLink "DialSquare$Square" (145 : Nat) ({ cls := "DialSquare$Square", name := "missedBehind", desc := "(III)I" } : Jvm.MethodName)) ∈ tables_1 := tm_4 (List.mem_of_getElem? (i := 138) rfl)
set_option maxRecDepth 20000 in
theorem w_859 : (Jvm.Cond.privateMethod ({ cls := "DialSquare$Square", name := "missedBehind", desc := "(III)I" } : Jvm.MethodName)) ∈ tables_1 := tm_4 (List.mem_of_getElem? (i := 139) rfl)
set_option maxRecDepth 20000 in
theorem w_860 : (Jvm.Cond.instanceMethod ({ cls := "DialSquare$Square", name := "missedBehind", desc := "(III)I" } : Jvm.MethodName)) ∈ tables_1 := tm_4 (List.mem_of_getElem? (i := 140) rfl)
set_option maxRecDepth 20000 in
theorem w_861 : (Jvm.Cond.code ({ cls := "DialSquare$Square", name := "missedBehind", desc := "(III)I" } : Jvm.MethodName) prog_11_method_33_code (7 : Nat) (Option.some Jvm.ClassFile.FieldType.int)) ∈ tables_1 := tm_4 (List.mem_of_getElem? (i := 141) rfl)
set_option maxRecDepth 20000 in
theorem w_862 : (Jvm.Cond.methodLink "DialSquare$Square" (149 : Nat) ({ cls := "java/lang/Math", name := "min", desc := "(II)I" } : Jvm.MethodName)) ∈ tables_1 := tm_4 (List.mem_of_getElem? (i := 142) rfl)
set_option maxRecDepth 20000 in
theorem w_863 : (Jvm.Cond.methodLink "DialSquareLaw" (145 : Nat) ({ cls := "DialSquare", name := "liar", desc := "()I" } : Jvm.MethodName)) ∈ tables_1 := tm_4 (List.mem_of_getElem? (i := 143) rfl)
set_option maxRecDepth 20000 in
theorem w_864 : (Jvm.Cond.instanceMethod ({ cls := "DialSquare", name := "liar", desc := "()I" } : Jvm.MethodName)) ∈ tables_1 := tm_4 (List.mem_of_getElem? (i := 144) rfl)
set_option maxRecDepth 20000 in
theorem w_865 : (Jvm.Cond.selects "DialSquare" ({ cls := "DialSquare", name := "liar", desc := "()I" } : Jvm.MethodName) ({ cls := "DialSquare", name := "liar", desc := "()I" } : Jvm.MethodName)) ∈ tables_1 := tm_4 (List.mem_of_getElem? (i := 145) rfl)
set_option maxRecDepth 20000 in
theorem w_866 : (Jvm.Cond.code ({ cls := "DialSquare", name := "liar", desc := "()I" } : Jvm.MethodName) prog_1_method_39_code (4 : Nat) (Option.some Jvm.ClassFile.FieldType.int)) ∈ tables_1 := tm_4 (List.mem_of_getElem? (i := 146) rfl)
set_option maxRecDepth 20000 in
theorem w_867 : (Jvm.Cond.methodLink "DialSquare" (252 : Nat) ({ cls := "java/lang/Integer", name := "bitCount", desc := "(I)I" } : Jvm.MethodName)) ∈ tables_1 := tm_4 (List.mem_of_getElem? (i := 147) rfl)
set_option maxRecDepth 20000 in
theorem w_868 : (Jvm.Cond.static ({ cls := "java/lang/Integer", name := "bitCount", desc := "(I)I" } : Jvm.MethodName)) ∈ tables_1 := tm_4 (List.mem_of_getElem? (i := 148) rfl)
set_option maxRecDepth 20000 in
theorem w_869 : (Jvm.Cond.code ({ cls := "java/lang/Integer", name := "bitCount", desc := "(I)I" } : Jvm.MethodName) prog_16_method_49_code (1 : Nat) (Option.some Jvm.ClassFile.FieldType.int)) ∈ tables_1 := tm_4 (List.mem_of_getElem? (i := 149) rfl)
set_option maxRecDepth 20000 in
theorem w_870 : (Jvm.Cond.constant "java/lang/Integer" (265 : Nat) (1431655765 : Int32)) ∈ tables_1 := tm_4 (List.mem_of_getElem? (i := 150) rfl)
set_option maxRecDepth 20000 in
theorem w_871 : (Jvm.Cond.constant "java/lang/Integer" (266 : Nat) (858993459 : Int32)) ∈ tables_1 := tm_4 (List.mem_of_getElem? (i := 151) rfl)
set_option maxRecDepth 20000 in
theorem w_872 : (Jvm.Cond.constant "java/lang/Integer" (267 : Nat) (252645135 : Int32)) ∈ tables_1 := tm_4 (List.mem_of_getElem? (i := 152) rfl)
set_option maxRecDepth 20000 in
theorem w_873 : (Jvm.Cond.methodLink "DialSquareLaw" (149 : Nat) ({ cls := "DialSquare", name := "seed", desc := "(I)I" } : Jvm.MethodName)) ∈ tables_1 := tm_4 (List.mem_of_getElem? (i := 153) rfl)
set_option maxRecDepth 20000 in
theorem w_874 : (Jvm.Cond.instanceMethod ({ cls := "DialSquare", name := "seed", desc := "(I)I" } : Jvm.MethodName)) ∈ tables_1 := tm_4 (List.mem_of_getElem? (i := 154) rfl)
set_option maxRecDepth 20000 in
theorem w_875 : (Jvm.Cond.selects "DialSquare" ({ cls := "DialSquare", name := "seed", desc := "(I)I" } : Jvm.MethodName) ({ cls := "DialSquare", name := "seed", desc := "(I)I" } : Jvm.MethodName)) ∈ tables_1 := tm_4 (List.mem_of_getElem? (i := 155) rfl)
set_option maxRecDepth 20000 in
theorem w_876 : (Jvm.Cond.code ({ cls := "DialSquare", name := "seed", desc := "(I)I" } : Jvm.MethodName) prog_1_method_42_code (3 : Nat) (Option.some Jvm.ClassFile.FieldType.int)) ∈ tables_1 := tm_4 (List.mem_of_getElem? (i := 156) rfl)
set_option maxRecDepth 20000 in
theorem w_877 : (Jvm.Cond.methodLink "DialSquareLaw" (153 : Nat) ({ cls := "DialSquare", name := "lot", desc := "()I" } : Jvm.MethodName)) ∈ tables_1 := tm_4 (List.mem_of_getElem? (i := 157) rfl)
set_option maxRecDepth 20000 in
theorem w_878 : (Jvm.Cond.instanceMethod ({ cls := "DialSquare", name := "lot", desc := "()I" } : Jvm.MethodName)) ∈ tables_1 := tm_4 (List.mem_of_getElem? (i := 158) rfl)
set_option maxRecDepth 20000 in
theorem w_879 : (Jvm.Cond.selects "DialSquare" ({ cls := "DialSquare", name := "lot", desc := "()I" } : Jvm.MethodName) ({ cls := "DialSquare", name := "lot", desc := "()I" } : Jvm.MethodName)) ∈ tables_1 := tm_4 (List.mem_of_getElem? (i := 159) rfl)
set_option maxRecDepth 20000 in
theorem w_880 : (Jvm.Cond.code ({ cls := "DialSquare", name := "lot", desc := "()I" } : Jvm.MethodName) prog_1_method_43_code (1 : Nat) (Option.some Jvm.ClassFile.FieldType.int)) ∈ tables_1 := tm_4 (List.mem_of_getElem? (i := 160) rfl)
set_option maxRecDepth 20000 in
theorem w_881 : (Jvm.Cond.methodLink "DialSquare" (263 : Nat) ({ cls := "DialSquare$Square", name := "byLot", desc := "(I)I" } : Jvm.MethodName)) ∈ tables_1 := tm_4 (List.mem_of_getElem? (i := 161) rfl)
set_option maxRecDepth 20000 in
theorem w_882 : (Jvm.Cond.instanceMethod ({ cls := "DialSquare$Square", name := "byLot", desc := "(I)I" } : Jvm.MethodName)) ∈ tables_1 := tm_4 (List.mem_of_getElem? (i := 162) rfl)
set_option maxRecDepth 20000 in
theorem w_883 : (Jvm.Cond.selects "DialSquare$Square" ({ cls := "DialSquare$Square", name := "byLot", desc := "(I)I" } : Jvm.MethodName) ({ cls := "DialSquare$Square", name := "byLot", desc := "(I)I" } : Jvm.MethodName)) ∈ tables_1 := tm_4 (List.mem_of_getElem? (i := 163) rfl)
set_option maxRecDepth 20000 in
theorem w_884 : (Jvm.Cond.code ({ cls := "DialSquare$Square", name := "byLot", desc := "(I)I" } : Jvm.MethodName) prog_11_method_31_code (4 : Nat) (Option.some Jvm.ClassFile.FieldType.int)) ∈ tables_1 := tm_4 (List.mem_of_getElem? (i := 164) rfl)
set_option maxRecDepth 20000 in
theorem w_885 : (Jvm.Cond.constant "DialSquare$Square" (144 : Nat) (1103515245 : Int32)) ∈ tables_1 := tm_4 (List.mem_of_getElem? (i := 165) rfl)
set_option maxRecDepth 20000 in
theorem w_886 : (Jvm.Cond.methodLink "DialSquareLaw" (157 : Nat) ({ cls := "DialSquare", name := "times", desc := "(II)I" } : Jvm.MethodName)) ∈ tables_1 := tm_4 (List.mem_of_getElem? (i := 166) rfl)
set_option maxRecDepth 20000 in
theorem w_887 : (Jvm.Cond.instanceMethod ({ cls := "DialSquare", name := "times", desc := "(II)I" } : Jvm.MethodName)) ∈ tables_1 := tm_4 (List.mem_of_getElem? (i := 167) rfl)
set_option maxRecDepth 20000 in
theorem w_888 : (Jvm.Cond.selects "DialSquare" ({ cls := "DialSquare", name := "times", desc := "(II)I" } : Jvm.MethodName) ({ cls := "DialSquare", name := "times", desc := "(II)I" } : Jvm.MethodName)) ∈ tables_1 := tm_4 (List.mem_of_getElem? (i := 168) rfl)
set_option maxRecDepth 20000 in
theorem w_889 : (Jvm.Cond.code ({ cls := "DialSquare", name := "times", desc := "(II)I" } : Jvm.MethodName) prog_1_method_44_code (5 : Nat) (Option.some Jvm.ClassFile.FieldType.int)) ∈ tables_1 := tm_4 (List.mem_of_getElem? (i := 169) rfl)
set_option maxRecDepth 20000 in
theorem w_890 : (Jvm.Cond.methodLink "DialSquareLaw" (161 : Nat) ({ cls := "DialSquare", name := "prove", desc := "(I)I" } : Jvm.MethodName)) ∈ tables_1 := tm_4 (List.mem_of_getElem? (i := 170) rfl)
set_option maxRecDepth 20000 in
theorem w_891 : (Jvm.Cond.instanceMethod ({ cls := "DialSquare", name := "prove", desc := "(I)I" } : Jvm.MethodName)) ∈ tables_1 := tm_4 (List.mem_of_getElem? (i := 171) rfl)
set_option maxRecDepth 20000 in
theorem w_892 : (Jvm.Cond.selects "DialSquare" ({ cls := "DialSquare", name := "prove", desc := "(I)I" } : Jvm.MethodName) ({ cls := "DialSquare", name := "prove", desc := "(I)I" } : Jvm.MethodName)) ∈ tables_1 := tm_4 (List.mem_of_getElem? (i := 172) rfl)
set_option maxRecDepth 20000 in
theorem w_893 : (Jvm.Cond.code ({ cls := "DialSquare", name := "prove", desc := "(I)I" } : Jvm.MethodName) prog_1_method_45_code (2 : Nat) (Option.some Jvm.ClassFile.FieldType.int)) ∈ tables_1 := tm_4 (List.mem_of_getElem? (i := 173) rfl)
set_option maxRecDepth 20000 in
theorem w_894 : (Jvm.Cond.methodLink "DialSquare" (266 : Nat) ({ cls := "DialSquare$Plans", name := "writeRows", desc := "(LDialSquare$Square;)I" } : Jvm.MethodName)) ∈ tables_1 := tm_4 (List.mem_of_getElem? (i := 174) rfl)
set_option maxRecDepth 20000 in
theorem w_895 : (Jvm.Cond.instanceMethod ({ cls := "DialSquare$Plans", name := "writeRows", desc := "(LDialSquare$Square;)I" } : Jvm.MethodName)) ∈ tables_1 := tm_4 (List.mem_of_getElem? (i := 175) rfl)
set_option maxRecDepth 20000 in
theorem w_896 : (Jvm.Cond.selects "DialSquare$Plans" ({ cls := "DialSquare$Plans", name := "writeRows", desc := "(LDialSquare$Square;)I" } : Jvm.MethodName) ({ cls := "DialSquare$Plans", name := "writeRows", desc := "(LDialSquare$Square;)I" } : Jvm.MethodName)) ∈ tables_1 := tm_4 (List.mem_of_getElem? (i := 176) rfl)
set_option maxRecDepth 20000 in
theorem w_897 : (Jvm.Cond.code ({ cls := "DialSquare$Plans", name := "writeRows", desc := "(LDialSquare$Square;)I" } : Jvm.MethodName) prog_7_method_8_code (3 : Nat) (Option.some Jvm.ClassFile.FieldType.int)) ∈ tables_1 := tm_4 (List.mem_of_getElem? (i := 177) rfl)
set_option maxRecDepth 20000 in
theorem w_898 : (Jvm.Cond.methodLink "DialSquareLaw" (165 : Nat) ({ cls := "DialSquare", name := "row", desc := "(II)I" } : Jvm.MethodName)) ∈ tables_1 := tm_4 (List.mem_of_getElem? (i := 178) rfl)
set_option maxRecDepth 20000 in
theorem w_899 : (Jvm.Cond.instanceMethod ({ cls := "DialSquare", name := "row", desc := "(II)I" } : Jvm.MethodName)) ∈ tables_1 := tm_4 (List.mem_of_getElem? (i := 179) rfl)
set_option maxRecDepth 20000 in
theorem w_900 : (Jvm.Cond.selects "DialSquare" ({ cls := "DialSquare", name := "row", desc := "(II)I" } : Jvm.MethodName) ({ cls := "DialSquare", name := "row", desc := "(II)I" } : Jvm.MethodName)) ∈ tables_1 := tm_4 (List.mem_of_getElem? (i := 180) rfl)
set_option maxRecDepth 20000 in
theorem w_901 : (Jvm.Cond.code ({ cls := "DialSquare", name := "row", desc := "(II)I" } : Jvm.MethodName) prog_1_method_46_code (3 : Nat) (Option.some Jvm.ClassFile.FieldType.int)) ∈ tables_1 := tm_4 (List.mem_of_getElem? (i := 181) rfl)
set_option maxRecDepth 20000 in
theorem w_902 : (Jvm.Cond.methodLink "DialSquare" (270 : Nat) ({ cls := "DialSquare$Plans", name := "hasRow", desc := "(II)Z" } : Jvm.MethodName)) ∈ tables_1 := tm_4 (List.mem_of_getElem? (i := 182) rfl)
set_option maxRecDepth 20000 in
theorem w_903 : (Jvm.Cond.instanceMethod ({ cls := "DialSquare$Plans", name := "hasRow", desc := "(II)Z" } : Jvm.MethodName)) ∈ tables_1 := tm_4 (List.mem_of_getElem? (i := 183) rfl)
set_option maxRecDepth 20000 in
theorem w_904 : (Jvm.Cond.selects "DialSquare$Plans" ({ cls := "DialSquare$Plans", name := "hasRow", desc := "(II)Z" } : Jvm.MethodName) ({ cls := "DialSquare$Plans", name := "hasRow", desc := "(II)Z" } : Jvm.MethodName)) ∈ tables_1 := tm_4 (List.mem_of_getElem? (i := 184) rfl)
set_option maxRecDepth 20000 in
theorem w_905 : (Jvm.Cond.code ({ cls := "DialSquare$Plans", name := "hasRow", desc := "(II)Z" } : Jvm.MethodName) prog_7_method_7_code (3 : Nat) (Option.some Jvm.ClassFile.FieldType.boolean)) ∈ tables_1 := tm_4 (List.mem_of_getElem? (i := 185) rfl)
set_option maxRecDepth 20000 in
theorem w_906 : (Jvm.Cond.methodLink "DialSquareLaw" (169 : Nat) ({ cls := "DialSquare", name := "alterRow", desc := "(III)I" } : Jvm.MethodName)) ∈ tables_1 := tm_4 (List.mem_of_getElem? (i := 186) rfl)
set_option maxRecDepth 20000 in
theorem w_907 : (Jvm.Cond.instanceMethod ({ cls := "DialSquare", name := "alterRow", desc := "(III)I" } : Jvm.MethodName)) ∈ tables_1 := tm_4 (List.mem_of_getElem? (i := 187) rfl)
set_option maxRecDepth 20000 in
theorem w_908 : (Jvm.Cond.selects "DialSquare" ({ cls := "DialSquare", name := "alterRow", desc := "(III)I" } : Jvm.MethodName) ({ cls := "DialSquare", name := "alterRow", desc := "(III)I" } : Jvm.MethodName)) ∈ tables_1 := tm_4 (List.mem_of_getElem? (i := 188) rfl)
set_option maxRecDepth 20000 in
theorem w_909 : (Jvm.Cond.code ({ cls := "DialSquare", name := "alterRow", desc := "(III)I" } : Jvm.MethodName) prog_1_method_47_code (5 : Nat) (Option.some Jvm.ClassFile.FieldType.int)) ∈ tables_1 := tm_4 (List.mem_of_getElem? (i := 189) rfl)
set_option maxRecDepth 20000 in
theorem w_910 : (Jvm.Cond.methodLink "DialSquareLaw" (173 : Nat) ({ cls := "DialSquare", name := "judge", desc := "()I" } : Jvm.MethodName)) ∈ tables_1 := tm_4 (List.mem_of_getElem? (i := 190) rfl)
set_option maxRecDepth 20000 in
theorem w_911 : (Jvm.Cond.instanceMethod ({ cls := "DialSquare", name := "judge", desc := "()I" } : Jvm.MethodName)) ∈ tables_1 := tm_4 (List.mem_of_getElem? (i := 191) rfl)
set_option maxRecDepth 20000 in
theorem w_912 : (Jvm.Cond.selects "DialSquare" ({ cls := "DialSquare", name := "judge", desc := "()I" } : Jvm.MethodName) ({ cls := "DialSquare", name := "judge", desc := "()I" } : Jvm.MethodName)) ∈ tables_1 := tm_4 (List.mem_of_getElem? (i := 192) rfl)
set_option maxRecDepth 20000 in
theorem w_913 : (Jvm.Cond.code ({ cls := "DialSquare", name := "judge", desc := "()I" } : Jvm.MethodName) prog_1_method_48_code (1 : Nat) (Option.some Jvm.ClassFile.FieldType.int)) ∈ tables_1 := tm_4 (List.mem_of_getElem? (i := 193) rfl)
set_option maxRecDepth 20000 in
theorem w_914 : (Jvm.Cond.methodLink "DialSquare" (277 : Nat) ({ cls := "DialSquare$Plans", name := "readRows", desc := "(LDialSquare$Square;)I" } : Jvm.MethodName)) ∈ tables_1 := tm_4 (List.mem_of_getElem? (i := 194) rfl)
set_option maxRecDepth 20000 in
theorem w_915 : (Jvm.Cond.instanceMethod ({ cls := "DialSquare$Plans", name := "readRows", desc := "(LDialSquare$Square;)I" } : Jvm.MethodName)) ∈ tables_1 := tm_4 (List.mem_of_getElem? (i := 195) rfl)
set_option maxRecDepth 20000 in
theorem w_916 : (Jvm.Cond.selects "DialSquare$Plans" ({ cls := "DialSquare$Plans", name := "readRows", desc := "(LDialSquare$Square;)I" } : Jvm.MethodName) ({ cls := "DialSquare$Plans", name := "readRows", desc := "(LDialSquare$Square;)I" } : Jvm.MethodName)) ∈ tables_1 := tm_4 (List.mem_of_getElem? (i := 196) rfl)
set_option maxRecDepth 20000 in
theorem w_917 : (Jvm.Cond.code ({ cls := "DialSquare$Plans", name := "readRows", desc := "(LDialSquare$Square;)I" } : Jvm.MethodName) prog_7_method_9_code (4 : Nat) (Option.some Jvm.ClassFile.FieldType.int)) ∈ tables_1 := tm_4 (List.mem_of_getElem? (i := 197) rfl)
set_option maxRecDepth 20000 in
theorem w_918 : (Jvm.Cond.methodLink "DialSquare$Plans" (102 : Nat) ({ cls := "DialSquare$Square", name := "isAct", desc := "(I)Z" } : Jvm.MethodName)) ∈ tables_1 := tm_4 (List.mem_of_getElem? (i := 198) rfl)
set_option maxRecDepth 20000 in
theorem w_919 : (Jvm.Cond.instanceMethod ({ cls := "DialSquare$Square", name := "isAct", desc := "(I)Z" } : Jvm.MethodName)) ∈ tables_1 := tm_4 (List.mem_of_getElem? (i := 199) rfl)
set_option maxRecDepth 20000 in
theorem w_920 : (Jvm.Cond.selects "DialSquare$Square" ({ cls := "DialSquare$Square", name := "isAct", desc := "(I)Z" } : Jvm.MethodName) ({ cls := "DialSquare$Square", name := "isAct", desc := "(I)Z" } : Jvm.MethodName)) ∈ tables_1 := tm_4 (List.mem_of_getElem? (i := 200) rfl)
set_option maxRecDepth 20000 in
theorem w_921 : (Jvm.Cond.code ({ cls := "DialSquare$Square", name := "isAct", desc := "(I)Z" } : Jvm.MethodName) prog_11_method_8_code (2 : Nat) (Option.some Jvm.ClassFile.FieldType.boolean)) ∈ tables_1 := tm_4 (List.mem_of_getElem? (i := 201) rfl)
set_option maxRecDepth 20000 in
theorem w_922 : (Jvm.Cond.methodLink "DialSquareLaw" (177 : Nat) ({ cls := "DialSquare", name := "sheet", desc := "(III)I" } : Jvm.MethodName)) ∈ tables_1 := tm_4 (List.mem_of_getElem? (i := 202) rfl)
set_option maxRecDepth 20000 in
theorem w_923 : (Jvm.Cond.instanceMethod ({ cls := "DialSquare", name := "sheet", desc := "(III)I" } : Jvm.MethodName)) ∈ tables_1 := tm_4 (List.mem_of_getElem? (i := 203) rfl)
set_option maxRecDepth 20000 in
theorem w_924 : (Jvm.Cond.selects "DialSquare" ({ cls := "DialSquare", name := "sheet", desc := "(III)I" } : Jvm.MethodName) ({ cls := "DialSquare", name := "sheet", desc := "(III)I" } : Jvm.MethodName)) ∈ tables_1 := tm_4 (List.mem_of_getElem? (i := 204) rfl)
set_option maxRecDepth 20000 in
theorem w_925 : (Jvm.Cond.code ({ cls := "DialSquare", name := "sheet", desc := "(III)I" } : Jvm.MethodName) prog_1_method_49_code (4 : Nat) (Option.some Jvm.ClassFile.FieldType.int)) ∈ tables_1 := tm_4 (List.mem_of_getElem? (i := 205) rfl)
set_option maxRecDepth 20000 in
theorem w_926 : (Jvm.Cond.methodLink "DialSquare" (280 : Nat) ({ cls := "DialSquare", name := "isSheet", desc := "(I)Z" } : Jvm.MethodName)) ∈ tables_1 := tm_4 (List.mem_of_getElem? (i := 206) rfl)
set_option maxRecDepth 20000 in
theorem w_927 : (Jvm.Cond.static ({ cls := "DialSquare", name := "isSheet", desc := "(I)Z" } : Jvm.MethodName)) ∈ tables_1 := tm_4 (List.mem_of_getElem? (i := 207) rfl)
set_option maxRecDepth 20000 in
theorem w_928 : (Jvm.Cond.code ({ cls := "DialSquare", name := "isSheet", desc := "(I)Z" } : Jvm.MethodName) prog_1_method_65_code (1 : Nat) (Option.some Jvm.ClassFile.FieldType.boolean)) ∈ tables_1 := tm_4 (List.mem_of_getElem? (i := 208) rfl)
set_option maxRecDepth 20000 in
theorem w_929 : (Jvm.Cond.methodLink "DialSquare" (283 : Nat) ({ cls := "DialSquare$Host", name := "makeSheet", desc := "(III)I" } : Jvm.MethodName)) ∈ tables_1 := tm_4 (List.mem_of_getElem? (i := 209) rfl)
set_option maxRecDepth 20000 in
theorem w_930 : (Jvm.Cond.instanceMethod ({ cls := "DialSquare$Host", name := "makeSheet", desc := "(III)I" } : Jvm.MethodName)) ∈ tables_1 := tm_4 (List.mem_of_getElem? (i := 210) rfl)
set_option maxRecDepth 20000 in
theorem w_931 : (Jvm.Cond.selects "DialSquare$Host" ({ cls := "DialSquare$Host", name := "makeSheet", desc := "(III)I" } : Jvm.MethodName) ({ cls := "DialSquare$Host", name := "makeSheet", desc := "(III)I" } : Jvm.MethodName)) ∈ tables_1 := tm_4 (List.mem_of_getElem? (i := 211) rfl)
set_option maxRecDepth 20000 in
theorem w_932 : (Jvm.Cond.code ({ cls := "DialSquare$Host", name := "makeSheet", desc := "(III)I" } : Jvm.MethodName) prog_4_method_2_code (4 : Nat) (Option.some Jvm.ClassFile.FieldType.int)) ∈ tables_1 := tm_4 (List.mem_of_getElem? (i := 212) rfl)
set_option maxRecDepth 20000 in
theorem w_933 : (Jvm.Cond.methodLink "DialSquare$Host" (35 : Nat) ({ cls := "java/util/Arrays", name := "fill", desc := "([II)V" } : Jvm.MethodName)) ∈ tables_1 := tm_4 (List.mem_of_getElem? (i := 213) rfl)
set_option maxRecDepth 20000 in
theorem w_934 : (Jvm.Cond.methodLink "DialSquareLaw" (181 : Nat) ({ cls := "DialSquare", name := "write", desc := "(III)I" } : Jvm.MethodName)) ∈ tables_1 := tm_4 (List.mem_of_getElem? (i := 214) rfl)
set_option maxRecDepth 20000 in
theorem w_935 : (Jvm.Cond.instanceMethod ({ cls := "DialSquare", name := "write", desc := "(III)I" } : Jvm.MethodName)) ∈ tables_1 := tm_4 (List.mem_of_getElem? (i := 215) rfl)
set_option maxRecDepth 20000 in
theorem w_936 : (Jvm.Cond.selects "DialSquare" ({ cls := "DialSquare", name := "write", desc := "(III)I" } : Jvm.MethodName) ({ cls := "DialSquare", name := "write", desc := "(III)I" } : Jvm.MethodName)) ∈ tables_1 := tm_4 (List.mem_of_getElem? (i := 216) rfl)
set_option maxRecDepth 20000 in
theorem w_937 : (Jvm.Cond.code ({ cls := "DialSquare", name := "write", desc := "(III)I" } : Jvm.MethodName) prog_1_method_50_code (4 : Nat) (Option.some Jvm.ClassFile.FieldType.int)) ∈ tables_1 := tm_4 (List.mem_of_getElem? (i := 217) rfl)
set_option maxRecDepth 20000 in
theorem w_938 : (Jvm.Cond.methodLink "DialSquare" (289 : Nat) ({ cls := "DialSquare$Host", name := "hasItem", desc := "(II)Z" } : Jvm.MethodName)) ∈ tables_1 := tm_4 (List.mem_of_getElem? (i := 218) rfl)
set_option maxRecDepth 20000 in
theorem w_939 : (Jvm.Cond.instanceMethod ({ cls := "DialSquare$Host", name := "hasItem", desc := "(II)Z" } : Jvm.MethodName)) ∈ tables_1 := tm_4 (List.mem_of_getElem? (i := 219) rfl)
set_option maxRecDepth 20000 in
theorem w_940 : (Jvm.Cond.selects "DialSquare$Host" ({ cls := "DialSquare$Host", name := "hasItem", desc := "(II)Z" } : Jvm.MethodName) ({ cls := "DialSquare$Host", name := "hasItem", desc := "(II)Z" } : Jvm.MethodName)) ∈ tables_1 := tm_4 (List.mem_of_getElem? (i := 220) rfl)
set_option maxRecDepth 20000 in
theorem w_941 : (Jvm.Cond.code ({ cls := "DialSquare$Host", name := "hasItem", desc := "(II)Z" } : Jvm.MethodName) prog_4_method_3_code (3 : Nat) (Option.some Jvm.ClassFile.FieldType.boolean)) ∈ tables_1 := tm_4 (List.mem_of_getElem? (i := 221) rfl)
set_option maxRecDepth 20000 in
theorem w_942 : (Jvm.Cond.methodLink "DialSquare" (295 : Nat) ({ cls := "DialSquare", name := "narrowed", desc := "(II)I" } : Jvm.MethodName)) ∈ tables_1 := tm_4 (List.mem_of_getElem? (i := 222) rfl)
set_option maxRecDepth 20000 in
theorem w_943 : (Jvm.Cond.static ({ cls := "DialSquare", name := "narrowed", desc := "(II)I" } : Jvm.MethodName)) ∈ tables_1 := tm_4 (List.mem_of_getElem? (i := 223) rfl)
set_option maxRecDepth 20000 in
theorem w_944 : (Jvm.Cond.code ({ cls := "DialSquare", name := "narrowed", desc := "(II)I" } : Jvm.MethodName) prog_1_method_51_code (2 : Nat) (Option.some Jvm.ClassFile.FieldType.int)) ∈ tables_1 := tm_4 (List.mem_of_getElem? (i := 224) rfl)
set_option maxRecDepth 20000 in
theorem w_945 : (Jvm.Cond.methodLink "DialSquareLaw" (185 : Nat) ({ cls := "DialSquare", name := "item", desc := "(III)I" } : Jvm.MethodName)) ∈ tables_1 := tm_4 (List.mem_of_getElem? (i := 225) rfl)
set_option maxRecDepth 20000 in
theorem w_946 : (Jvm.Cond.instanceMethod ({ cls := "DialSquare", name := "item", desc := "(III)I" } : Jvm.MethodName)) ∈ tables_1 := tm_4 (List.mem_of_getElem? (i := 226) rfl)
set_option maxRecDepth 20000 in
theorem w_947 : (Jvm.Cond.selects "DialSquare" ({ cls := "DialSquare", name := "item", desc := "(III)I" } : Jvm.MethodName) ({ cls := "DialSquare", name := "item", desc := "(III)I" } : Jvm.MethodName)) ∈ tables_1 := tm_4 (List.mem_of_getElem? (i := 227) rfl)
set_option maxRecDepth 20000 in
theorem w_948 : (Jvm.Cond.code ({ cls := "DialSquare", name := "item", desc := "(III)I" } : Jvm.MethodName) prog_1_method_52_code (5 : Nat) (Option.some Jvm.ClassFile.FieldType.int)) ∈ tables_1 := tm_4 (List.mem_of_getElem? (i := 228) rfl)
set_option maxRecDepth 20000 in
theorem w_949 : (Jvm.Cond.methodLink "DialSquare" (298 : Nat) ({ cls := "DialSquare$Host", name := "refusalAs", desc := "(II)I" } : Jvm.MethodName)) ∈ tables_1 := tm_4 (List.mem_of_getElem? (i := 229) rfl)
set_option maxRecDepth 20000 in
theorem w_950 : (Jvm.Cond.instanceMethod ({ cls := "DialSquare$Host", name := "refusalAs", desc := "(II)I" } : Jvm.MethodName)) ∈ tables_1 := tm_4 (List.mem_of_getElem? (i := 230) rfl)
set_option maxRecDepth 20000 in
theorem w_951 : (Jvm.Cond.selects "DialSquare$Host" ({ cls := "DialSquare$Host", name := "refusalAs", desc := "(II)I" } : Jvm.MethodName) ({ cls := "DialSquare$Host", name := "refusalAs", desc := "(II)I" } : Jvm.MethodName)) ∈ tables_1 := tm_4 (List.mem_of_getElem? (i := 231) rfl)
set_option maxRecDepth 20000 in
theorem w_952 : (Jvm.Cond.code ({ cls := "DialSquare$Host", name := "refusalAs", desc := "(II)I" } : Jvm.MethodName) prog_4_method_4_code (3 : Nat) (Option.some Jvm.ClassFile.FieldType.int)) ∈ tables_1 := tm_4 (List.mem_of_getElem? (i := 232) rfl)
set_option maxRecDepth 20000 in
theorem w_953 : (Jvm.Cond.methodLink "DialSquareLaw" (189 : Nat) ({ cls := "DialSquare", name := "goAll", desc := "(III)I" } : Jvm.MethodName)) ∈ tables_1 := tm_4 (List.mem_of_getElem? (i := 233) rfl)
set_option maxRecDepth 20000 in
theorem w_954 : (Jvm.Cond.instanceMethod ({ cls := "DialSquare", name := "goAll", desc := "(III)I" } : Jvm.MethodName)) ∈ tables_1 := tm_4 (List.mem_of_getElem? (i := 234) rfl)
set_option maxRecDepth 20000 in
theorem w_955 : (Jvm.Cond.selects "DialSquare" ({ cls := "DialSquare", name := "goAll", desc := "(III)I" } : Jvm.MethodName) ({ cls := "DialSquare", name := "goAll", desc := "(III)I" } : Jvm.MethodName)) ∈ tables_1 := tm_4 (List.mem_of_getElem? (i := 235) rfl)
set_option maxRecDepth 20000 in
theorem w_956 : (Jvm.Cond.code ({ cls := "DialSquare", name := "goAll", desc := "(III)I" } : Jvm.MethodName) prog_1_method_53_code (8 : Nat) (Option.some Jvm.ClassFile.FieldType.int)) ∈ tables_1 := tm_4 (List.mem_of_getElem? (i := 236) rfl)
set_option maxRecDepth 20000 in
theorem w_957 : (Jvm.Cond.methodLink "DialSquare" (301 : Nat) ({ cls := "DialSquare$Square", name := "isAct", desc := "(I)Z" } : Jvm.MethodName)) ∈ tables_1 := tm_4 (List.mem_of_getElem? (i := 237) rfl)
set_option maxRecDepth 20000 in
theorem w_958 : (Jvm.Cond.methodLink "DialSquare" (304 : Nat) ({ cls := "DialSquare$Square", name := "goBy", desc := "(I)I" } : Jvm.MethodName)) ∈ tables_1 := tm_4 (List.mem_of_getElem? (i := 238) rfl)
set_option maxRecDepth 20000 in
theorem w_959 : (Jvm.Cond.methodLink "DialSquareLaw" (193 : Nat) ({ cls := "DialSquare", name := "wouldBe", desc := "(III)I" } : Jvm.MethodName)) ∈ tables_1 := tm_4 (List.mem_of_getElem? (i := 239) rfl)
set_option maxRecDepth 20000 in
theorem w_960 : (Jvm.Cond.instanceMethod ({ cls := "DialSquare", name := "wouldBe", desc := "(III)I" } : Jvm.MethodName)) ∈ tables_1 := tm_5 (List.mem_of_getElem? (i := 0) rfl)
set_option maxRecDepth 20000 in
theorem w_961 : (Jvm.Cond.selects "DialSquare" ({ cls := "DialSquare", name := "wouldBe", desc := "(III)I" } : Jvm.MethodName) ({ cls := "DialSquare", name := "wouldBe", desc := "(III)I" } : Jvm.MethodName)) ∈ tables_1 := tm_5 (List.mem_of_getElem? (i := 1) rfl)
set_option maxRecDepth 20000 in
theorem w_962 : (Jvm.Cond.code ({ cls := "DialSquare", name := "wouldBe", desc := "(III)I" } : Jvm.MethodName) prog_1_method_54_code (8 : Nat) (Option.some Jvm.ClassFile.FieldType.int)) ∈ tables_1 := tm_5 (List.mem_of_getElem? (i := 2) rfl)
set_option maxRecDepth 20000 in
theorem w_963 : (Jvm.Cond.methodLink "DialSquareLaw" (197 : Nat) ({ cls := "DialSquare", name := "shelf", desc := "(III)I" } : Jvm.MethodName)) ∈ tables_1 := tm_5 (List.mem_of_getElem? (i := 3) rfl)
set_option maxRecDepth 20000 in
theorem w_964 : (Jvm.Cond.instanceMethod ({ cls := "DialSquare", name := "shelf", desc := "(III)I" } : Jvm.MethodName)) ∈ tables_1 := tm_5 (List.mem_of_getElem? (i := 4) rfl)
set_option maxRecDepth 20000 in
theorem w_965 : (Jvm.Cond.selects "DialSquare" ({ cls := "DialSquare", name := "shelf", desc := "(III)I" } : Jvm.MethodName) ({ cls := "DialSquare", name := "shelf", desc := "(III)I" } : Jvm.MethodName)) ∈ tables_1 := tm_5 (List.mem_of_getElem? (i := 5) rfl)
set_option maxRecDepth 20000 in
theorem w_966 : (Jvm.Cond.code ({ cls := "DialSquare", name := "shelf", desc := "(III)I" } : Jvm.MethodName) prog_1_method_55_code (4 : Nat) (Option.some Jvm.ClassFile.FieldType.int)) ∈ tables_1 := tm_5 (List.mem_of_getElem? (i := 6) rfl)
set_option maxRecDepth 20000 in
theorem w_967 : (Jvm.Cond.methodLink "DialSquare" (307 : Nat) ({ cls := "DialSquare$Host", name := "fillShelf", desc := "(III)V" } : Jvm.MethodName)) ∈ tables_1 := tm_5 (List.mem_of_getElem? (i := 7) rfl)
set_option maxRecDepth 20000 in
theorem w_968 : (Jvm.Cond.instanceMethod ({ cls := "DialSquare$Host", name := "fillShelf", desc := "(III)V" } : Jvm.MethodName)) ∈ tables_1 := tm_5 (List.mem_of_getElem? (i := 8) rfl)
set_option maxRecDepth 20000 in
theorem w_969 : (Jvm.Cond.selects "DialSquare$Host" ({ cls := "DialSquare$Host", name := "fillShelf", desc := "(III)V" } : Jvm.MethodName) ({ cls := "DialSquare$Host", name := "fillShelf", desc := "(III)V" } : Jvm.MethodName)) ∈ tables_1 := tm_5 (List.mem_of_getElem? (i := 9) rfl)
set_option maxRecDepth 20000 in
theorem w_970 : (Jvm.Cond.code ({ cls := "DialSquare$Host", name := "fillShelf", desc := "(III)V" } : Jvm.MethodName) prog_4_method_5_code (5 : Nat) (Option.none : Option Jvm.ClassFile.FieldType)) ∈ tables_1 := tm_5 (List.mem_of_getElem? (i := 10) rfl)
set_option maxRecDepth 20000 in
theorem w_971 : (Jvm.Cond.methodLink "DialSquareLaw" (201 : Nat) ({ cls := "DialSquare", name := "taken", desc := "(II)I" } : Jvm.MethodName)) ∈ tables_1 := tm_5 (List.mem_of_getElem? (i := 11) rfl)
set_option maxRecDepth 20000 in
theorem w_972 : (Jvm.Cond.instanceMethod ({ cls := "DialSquare", name := "taken", desc := "(II)I" } : Jvm.MethodName)) ∈ tables_1 := tm_5 (List.mem_of_getElem? (i := 12) rfl)
set_option maxRecDepth 20000 in
theorem w_973 : (Jvm.Cond.selects "DialSquare" ({ cls := "DialSquare", name := "taken", desc := "(II)I" } : Jvm.MethodName) ({ cls := "DialSquare", name := "taken", desc := "(II)I" } : Jvm.MethodName)) ∈ tables_1 := tm_5 (List.mem_of_getElem? (i := 13) rfl)
set_option maxRecDepth 20000 in
theorem w_974 : (Jvm.Cond.code ({ cls := "DialSquare", name := "taken", desc := "(II)I" } : Jvm.MethodName) prog_1_method_56_code (4 : Nat) (Option.some Jvm.ClassFile.FieldType.int)) ∈ tables_1 := tm_5 (List.mem_of_getElem? (i := 14) rfl)
set_option maxRecDepth 20000 in
theorem w_975 : (Jvm.Cond.methodLink "DialSquare" (320 : Nat) ({ cls := "DialSquare", name := "holdsDial", desc := "(I)Z" } : Jvm.MethodName)) ∈ tables_1 := tm_5 (List.mem_of_getElem? (i := 15) rfl)
set_option maxRecDepth 20000 in
theorem w_976 : (Jvm.Cond.privateMethod ({ cls := "DialSquare", name := "holdsDial", desc := "(I)Z" } : Jvm.MethodName)) ∈ tables_1 := tm_5 (List.mem_of_getElem? (i := 16) rfl)
set_option maxRecDepth 20000 in
theorem w_977 : (Jvm.Cond.instanceMethod ({ cls := "DialSquare", name := "holdsDial", desc := "(I)Z" } : Jvm.MethodName)) ∈ tables_1 := tm_5 (List.mem_of_getElem? (i := 17) rfl)
set_option maxRecDepth 20000 in
theorem w_978 : (Jvm.Cond.code ({ cls := "DialSquare", name := "holdsDial", desc := "(I)Z" } : Jvm.MethodName) prog_1_method_58_code (2 : Nat) (Option.some Jvm.ClassFile.FieldType.boolean)) ∈ tables_1 := tm_5 (List.mem_of_getElem? (i := 18) rfl)
set_option maxRecDepth 20000 in
theorem w_979 : (Jvm.Cond.methodLink "DialSquare" (323 : Nat) ({ cls := "DialSquare", name := "isUnder", desc := "(II)Z" } : Jvm.MethodName)) ∈ tables_1 := tm_5 (List.mem_of_getElem? (i := 19) rfl)
set_option maxRecDepth 20000 in
theorem w_980 : (Jvm.Cond.methodLink "DialSquareLaw" (205 : Nat) ({ cls := "DialSquare", name := "act", desc := "(III)I" } : Jvm.MethodName)) ∈ tables_1 := tm_5 (List.mem_of_getElem? (i := 20) rfl)
set_option maxRecDepth 20000 in
theorem w_981 : (Jvm.Cond.instanceMethod ({ cls := "DialSquare", name := "act", desc := "(III)I" } : Jvm.MethodName)) ∈ tables_1 := tm_5 (List.mem_of_getElem? (i := 21) rfl)
set_option maxRecDepth 20000 in
theorem w_982 : (Jvm.Cond.selects "DialSquare" ({ cls := "DialSquare", name := "act", desc := "(III)I" } : Jvm.MethodName) ({ cls := "DialSquare", name := "act", desc := "(III)I" } : Jvm.MethodName)) ∈ tables_1 := tm_5 (List.mem_of_getElem? (i := 22) rfl)
set_option maxRecDepth 20000 in
theorem w_983 : (Jvm.Cond.code ({ cls := "DialSquare", name := "act", desc := "(III)I" } : Jvm.MethodName) prog_1_method_57_code (7 : Nat) (Option.some Jvm.ClassFile.FieldType.int)) ∈ tables_1 := tm_5 (List.mem_of_getElem? (i := 23) rfl)
set_option maxRecDepth 20000 in
theorem w_984 : (Jvm.Cond.methodLink "DialSquare" (326 : Nat) ({ cls := "DialSquare$Host", name := "clearTrace", desc := "()V" } : Jvm.MethodName)) ∈ tables_1 := tm_5 (List.mem_of_getElem? (i := 24) rfl)
set_option maxRecDepth 20000 in
theorem w_985 : (Jvm.Cond.instanceMethod ({ cls := "DialSquare$Host", name := "clearTrace", desc := "()V" } : Jvm.MethodName)) ∈ tables_1 := tm_5 (List.mem_of_getElem? (i := 25) rfl)
set_option maxRecDepth 20000 in
theorem w_986 : (Jvm.Cond.selects "DialSquare$Host" ({ cls := "DialSquare$Host", name := "clearTrace", desc := "()V" } : Jvm.MethodName) ({ cls := "DialSquare$Host", name := "clearTrace", desc := "()V" } : Jvm.MethodName)) ∈ tables_1 := tm_5 (List.mem_of_getElem? (i := 26) rfl)
set_option maxRecDepth 20000 in
theorem w_987 : (Jvm.Cond.code ({ cls := "DialSquare$Host", name := "clearTrace", desc := "()V" } : Jvm.MethodName) prog_4_method_6_code (1 : Nat) (Option.none : Option Jvm.ClassFile.FieldType)) ∈ tables_1 := tm_5 (List.mem_of_getElem? (i := 27) rfl)
set_option maxRecDepth 20000 in
theorem w_988 : (Jvm.Cond.methodLink "DialSquare" (335 : Nat) ({ cls := "DialSquare$Square", name := "kindOf", desc := "(I)LDialSquare$Dial;" } : Jvm.MethodName)) ∈ tables_1 := tm_5 (List.mem_of_getElem? (i := 28) rfl)
set_option maxRecDepth 20000 in
theorem w_989 : (Jvm.Cond.methodLink "DialSquare" (339 : Nat) ({ cls := "DialSquare$Dial", name := "points", desc := "(LDialSquare$Host;I)I" } : Jvm.MethodName)) ∈ tables_1 := tm_5 (List.mem_of_getElem? (i := 29) rfl)
set_option maxRecDepth 20000 in
theorem w_990 : (Jvm.Cond.instanceMethod ({ cls := "DialSquare$Dial", name := "points", desc := "(LDialSquare$Host;I)I" } : Jvm.MethodName)) ∈ tables_1 := tm_5 (List.mem_of_getElem? (i := 30) rfl)
set_option maxRecDepth 20000 in
theorem w_991 : (Jvm.Cond.selects "DialSquare$Dial" ({ cls := "DialSquare$Dial", name := "points", desc := "(LDialSquare$Host;I)I" } : Jvm.MethodName) ({ cls := "DialSquare$Dial", name := "points", desc := "(LDialSquare$Host;I)I" } : Jvm.MethodName)) ∈ tables_1 := tm_5 (List.mem_of_getElem? (i := 31) rfl)
set_option maxRecDepth 20000 in
theorem w_992 : (Jvm.Cond.sameMethod "DialSquare$Dial" "DialSquare$Dial" "points" "(LDialSquare$Host;I)I") ∈ tables_1 := tm_5 (List.mem_of_getElem? (i := 32) rfl)
set_option maxRecDepth 20000 in
theorem w_993 : (Jvm.Cond.selects "DialSquare$Guild" ({ cls := "DialSquare$Dial", name := "points", desc := "(LDialSquare$Host;I)I" } : Jvm.MethodName) ({ cls := "DialSquare$Guild", name := "points", desc := "(LDialSquare$Host;I)I" } : Jvm.MethodName)) ∈ tables_1 := tm_5 (List.mem_of_getElem? (i := 33) rfl)
set_option maxRecDepth 20000 in
theorem w_994 : (Jvm.Cond.instanceMethod ({ cls := "DialSquare$Guild", name := "points", desc := "(LDialSquare$Host;I)I" } : Jvm.MethodName)) ∈ tables_1 := tm_5 (List.mem_of_getElem? (i := 34) rfl)
set_option maxRecDepth 20000 in
theorem w_995 : (Jvm.Cond.code ({ cls := "DialSquare$Guild", name := "points", desc := "(LDialSquare$Host;I)I" } : Jvm.MethodName) prog_3_method_4_code (3 : Nat) (Option.some Jvm.ClassFile.FieldType.int)) ∈ tables_1 := tm_5 (List.mem_of_getElem? (i := 35) rfl)
set_option maxRecDepth 20000 in
theorem w_996 : (Jvm.Cond.methodLink "DialSquare$Guild" (14 : Nat) ({ cls := "DialSquare$Host", name := "begin", desc := "(I)V" } : Jvm.MethodName)) ∈ tables_1 := tm_5 (List.mem_of_getElem? (i := 36) rfl)
set_option maxRecDepth 20000 in
theorem w_997 : (Jvm.Cond.instanceMethod ({ cls := "DialSquare$Host", name := "begin", desc := "(I)V" } : Jvm.MethodName)) ∈ tables_1 := tm_5 (List.mem_of_getElem? (i := 37) rfl)
set_option maxRecDepth 20000 in
theorem w_998 : (Jvm.Cond.selects "DialSquare$Host" ({ cls := "DialSquare$Host", name := "begin", desc := "(I)V" } : Jvm.MethodName) ({ cls := "DialSquare$Host", name := "begin", desc := "(I)V" } : Jvm.MethodName)) ∈ tables_1 := tm_5 (List.mem_of_getElem? (i := 38) rfl)
set_option maxRecDepth 20000 in
theorem w_999 : (Jvm.Cond.code ({ cls := "DialSquare$Host", name := "begin", desc := "(I)V" } : Jvm.MethodName) prog_4_method_7_code (2 : Nat) (Option.none : Option Jvm.ClassFile.FieldType)) ∈ tables_1 := tm_5 (List.mem_of_getElem? (i := 39) rfl)
set_option maxRecDepth 20000 in
theorem w_1000 : (Jvm.Cond.methodLink "DialSquare$Guild" (20 : Nat) ({ cls := "DialSquare$Tall", name := "points", desc := "(LDialSquare$Host;I)I" } : Jvm.MethodName)) ∈ tables_1 := tm_5 (List.mem_of_getElem? (i := 40) rfl)
set_option maxRecDepth 20000 in
theorem w_1001 : (Jvm.Cond.sameMethod "DialSquare$Tall" "DialSquare$Dial" "points" "(LDialSquare$Host;I)I") ∈ tables_1 := tm_5 (List.mem_of_getElem? (i := 41) rfl)
set_option maxRecDepth 20000 in
theorem w_1002 : (Jvm.Cond.declares ({ cls := "DialSquare$Dial", name := "points", desc := "(LDialSquare$Host;I)I" } : Jvm.MethodName)) ∈ tables_1 := tm_5 (List.mem_of_getElem? (i := 42) rfl)
set_option maxRecDepth 20000 in
theorem w_1003 : (Jvm.Cond.selects "DialSquare$Low" ({ cls := "DialSquare$Dial", name := "points", desc := "(LDialSquare$Host;I)I" } : Jvm.MethodName) ({ cls := "DialSquare$Dial", name := "points", desc := "(LDialSquare$Host;I)I" } : Jvm.MethodName)) ∈ tables_1 := tm_5 (List.mem_of_getElem? (i := 43) rfl)
set_option maxRecDepth 20000 in
theorem w_1004 : (Jvm.Cond.selects "DialSquare$Noon" ({ cls := "DialSquare$Dial", name := "points", desc := "(LDialSquare$Host;I)I" } : Jvm.MethodName) ({ cls := "DialSquare$Noon", name := "points", desc := "(LDialSquare$Host;I)I" } : Jvm.MethodName)) ∈ tables_1 := tm_5 (List.mem_of_getElem? (i := 44) rfl)
set_option maxRecDepth 20000 in
theorem w_1005 : (Jvm.Cond.instanceMethod ({ cls := "DialSquare$Noon", name := "points", desc := "(LDialSquare$Host;I)I" } : Jvm.MethodName)) ∈ tables_1 := tm_5 (List.mem_of_getElem? (i := 45) rfl)
set_option maxRecDepth 20000 in
theorem w_1006 : (Jvm.Cond.code ({ cls := "DialSquare$Noon", name := "points", desc := "(LDialSquare$Host;I)I" } : Jvm.MethodName) prog_6_method_4_code (3 : Nat) (Option.some Jvm.ClassFile.FieldType.int)) ∈ tables_1 := tm_5 (List.mem_of_getElem? (i := 46) rfl)
set_option maxRecDepth 20000 in
theorem w_1007 : (Jvm.Cond.methodLink "DialSquare$Noon" (7 : Nat) ({ cls := "DialSquare$Host", name := "begin", desc := "(I)V" } : Jvm.MethodName)) ∈ tables_1 := tm_5 (List.mem_of_getElem? (i := 47) rfl)
set_option maxRecDepth 20000 in
theorem w_1008 : (Jvm.Cond.methodLink "DialSquare$Noon" (13 : Nat) ({ cls := "DialSquare$Dial", name := "points", desc := "(LDialSquare$Host;I)I" } : Jvm.MethodName)) ∈ tables_1 := tm_5 (List.mem_of_getElem? (i := 48) rfl)
set_option maxRecDepth 20000 in
theorem w_1009 : (Jvm.Cond.selects "DialSquare$Slit" ({ cls := "DialSquare$Dial", name := "points", desc := "(LDialSquare$Host;I)I" } : Jvm.MethodName) ({ cls := "DialSquare$Dial", name := "points", desc := "(LDialSquare$Host;I)I" } : Jvm.MethodName)) ∈ tables_1 := tm_5 (List.mem_of_getElem? (i := 49) rfl)
set_option maxRecDepth 20000 in
theorem w_1010 : (Jvm.Cond.selects "DialSquare$Tall" ({ cls := "DialSquare$Dial", name := "points", desc := "(LDialSquare$Host;I)I" } : Jvm.MethodName) ({ cls := "DialSquare$Dial", name := "points", desc := "(LDialSquare$Host;I)I" } : Jvm.MethodName)) ∈ tables_1 := tm_5 (List.mem_of_getElem? (i := 50) rfl)
set_option maxRecDepth 20000 in
theorem w_1011 : (Jvm.Cond.code ({ cls := "DialSquare$Dial", name := "points", desc := "(LDialSquare$Host;I)I" } : Jvm.MethodName) prog_2_method_4_code (3 : Nat) (Option.some Jvm.ClassFile.FieldType.int)) ∈ tables_1 := tm_5 (List.mem_of_getElem? (i := 51) rfl)
set_option maxRecDepth 20000 in
theorem w_1012 : (Jvm.Cond.methodLink "DialSquare$Dial" (7 : Nat) ({ cls := "DialSquare$Host", name := "begin", desc := "(I)V" } : Jvm.MethodName)) ∈ tables_1 := tm_5 (List.mem_of_getElem? (i := 52) rfl)
set_option maxRecDepth 20000 in
theorem w_1013 : (Jvm.Cond.methodLink "DialSquare" (343 : Nat) ({ cls := "DialSquare$Dial", name := "slants", desc := "(LDialSquare$Host;I)I" } : Jvm.MethodName)) ∈ tables_1 := tm_5 (List.mem_of_getElem? (i := 53) rfl)
set_option maxRecDepth 20000 in
theorem w_1014 : (Jvm.Cond.instanceMethod ({ cls := "DialSquare$Dial", name := "slants", desc := "(LDialSquare$Host;I)I" } : Jvm.MethodName)) ∈ tables_1 := tm_5 (List.mem_of_getElem? (i := 54) rfl)
set_option maxRecDepth 20000 in
theorem w_1015 : (Jvm.Cond.selects "DialSquare$Dial" ({ cls := "DialSquare$Dial", name := "slants", desc := "(LDialSquare$Host;I)I" } : Jvm.MethodName) ({ cls := "DialSquare$Dial", name := "slants", desc := "(LDialSquare$Host;I)I" } : Jvm.MethodName)) ∈ tables_1 := tm_5 (List.mem_of_getElem? (i := 55) rfl)
set_option maxRecDepth 20000 in
theorem w_1016 : (Jvm.Cond.sameMethod "DialSquare$Dial" "DialSquare$Dial" "slants" "(LDialSquare$Host;I)I") ∈ tables_1 := tm_5 (List.mem_of_getElem? (i := 56) rfl)
set_option maxRecDepth 20000 in
theorem w_1017 : (Jvm.Cond.selects "DialSquare$Guild" ({ cls := "DialSquare$Dial", name := "slants", desc := "(LDialSquare$Host;I)I" } : Jvm.MethodName) ({ cls := "DialSquare$Tall", name := "slants", desc := "(LDialSquare$Host;I)I" } : Jvm.MethodName)) ∈ tables_1 := tm_5 (List.mem_of_getElem? (i := 57) rfl)
set_option maxRecDepth 20000 in
theorem w_1018 : (Jvm.Cond.instanceMethod ({ cls := "DialSquare$Tall", name := "slants", desc := "(LDialSquare$Host;I)I" } : Jvm.MethodName)) ∈ tables_1 := tm_5 (List.mem_of_getElem? (i := 58) rfl)
set_option maxRecDepth 20000 in
theorem w_1019 : (Jvm.Cond.code ({ cls := "DialSquare$Tall", name := "slants", desc := "(LDialSquare$Host;I)I" } : Jvm.MethodName) prog_12_method_4_code (3 : Nat) (Option.some Jvm.ClassFile.FieldType.int)) ∈ tables_1 := tm_5 (List.mem_of_getElem? (i := 59) rfl)
set_option maxRecDepth 20000 in
theorem w_1020 : (Jvm.Cond.methodLink "DialSquare$Tall" (14 : Nat) ({ cls := "DialSquare$Host", name := "begin", desc := "(I)V" } : Jvm.MethodName)) ∈ tables_1 := tm_5 (List.mem_of_getElem? (i := 60) rfl)
set_option maxRecDepth 20000 in
theorem w_1021 : (Jvm.Cond.methodLink "DialSquare$Tall" (20 : Nat) ({ cls := "DialSquare$Dial", name := "slants", desc := "(LDialSquare$Host;I)I" } : Jvm.MethodName)) ∈ tables_1 := tm_5 (List.mem_of_getElem? (i := 61) rfl)
set_option maxRecDepth 20000 in
theorem w_1022 : (Jvm.Cond.selects "DialSquare$Low" ({ cls := "DialSquare$Dial", name := "slants", desc := "(LDialSquare$Host;I)I" } : Jvm.MethodName) ({ cls := "DialSquare$Dial", name := "slants", desc := "(LDialSquare$Host;I)I" } : Jvm.MethodName)) ∈ tables_1 := tm_5 (List.mem_of_getElem? (i := 62) rfl)
set_option maxRecDepth 20000 in
theorem w_1023 : (Jvm.Cond.selects "DialSquare$Noon" ({ cls := "DialSquare$Dial", name := "slants", desc := "(LDialSquare$Host;I)I" } : Jvm.MethodName) ({ cls := "DialSquare$Dial", name := "slants", desc := "(LDialSquare$Host;I)I" } : Jvm.MethodName)) ∈ tables_1 := tm_5 (List.mem_of_getElem? (i := 63) rfl)
set_option maxRecDepth 20000 in
theorem w_1024 : (Jvm.Cond.selects "DialSquare$Slit" ({ cls := "DialSquare$Dial", name := "slants", desc := "(LDialSquare$Host;I)I" } : Jvm.MethodName) ({ cls := "DialSquare$Slit", name := "slants", desc := "(LDialSquare$Host;I)I" } : Jvm.MethodName)) ∈ tables_1 := tm_5 (List.mem_of_getElem? (i := 64) rfl)
set_option maxRecDepth 20000 in
theorem w_1025 : (Jvm.Cond.instanceMethod ({ cls := "DialSquare$Slit", name := "slants", desc := "(LDialSquare$Host;I)I" } : Jvm.MethodName)) ∈ tables_1 := tm_5 (List.mem_of_getElem? (i := 65) rfl)
set_option maxRecDepth 20000 in
theorem w_1026 : (Jvm.Cond.code ({ cls := "DialSquare$Slit", name := "slants", desc := "(LDialSquare$Host;I)I" } : Jvm.MethodName) prog_10_method_4_code (3 : Nat) (Option.some Jvm.ClassFile.FieldType.int)) ∈ tables_1 := tm_5 (List.mem_of_getElem? (i := 66) rfl)
set_option maxRecDepth 20000 in
theorem w_1027 : (Jvm.Cond.methodLink "DialSquare$Slit" (14 : Nat) ({ cls := "DialSquare$Host", name := "begin", desc := "(I)V" } : Jvm.MethodName)) ∈ tables_1 := tm_5 (List.mem_of_getElem? (i := 67) rfl)
set_option maxRecDepth 20000 in
theorem w_1028 : (Jvm.Cond.methodLink "DialSquare$Slit" (20 : Nat) ({ cls := "DialSquare$Low", name := "slants", desc := "(LDialSquare$Host;I)I" } : Jvm.MethodName)) ∈ tables_1 := tm_5 (List.mem_of_getElem? (i := 68) rfl)
set_option maxRecDepth 20000 in
theorem w_1029 : (Jvm.Cond.sameMethod "DialSquare$Low" "DialSquare$Dial" "slants" "(LDialSquare$Host;I)I") ∈ tables_1 := tm_5 (List.mem_of_getElem? (i := 69) rfl)
set_option maxRecDepth 20000 in
theorem w_1030 : (Jvm.Cond.declares ({ cls := "DialSquare$Dial", name := "slants", desc := "(LDialSquare$Host;I)I" } : Jvm.MethodName)) ∈ tables_1 := tm_5 (List.mem_of_getElem? (i := 70) rfl)
set_option maxRecDepth 20000 in
theorem w_1031 : (Jvm.Cond.selects "DialSquare$Tall" ({ cls := "DialSquare$Dial", name := "slants", desc := "(LDialSquare$Host;I)I" } : Jvm.MethodName) ({ cls := "DialSquare$Tall", name := "slants", desc := "(LDialSquare$Host;I)I" } : Jvm.MethodName)) ∈ tables_1 := tm_5 (List.mem_of_getElem? (i := 71) rfl)
set_option maxRecDepth 20000 in
theorem w_1032 : (Jvm.Cond.code ({ cls := "DialSquare$Dial", name := "slants", desc := "(LDialSquare$Host;I)I" } : Jvm.MethodName) prog_2_method_5_code (3 : Nat) (Option.some Jvm.ClassFile.FieldType.int)) ∈ tables_1 := tm_5 (List.mem_of_getElem? (i := 72) rfl)
set_option maxRecDepth 20000 in
theorem w_1033 : (Jvm.Cond.methodLink "DialSquare$Dial" (17 : Nat) ({ cls := "DialSquare$Dial", name := "points", desc := "(LDialSquare$Host;I)I" } : Jvm.MethodName)) ∈ tables_1 := tm_5 (List.mem_of_getElem? (i := 73) rfl)
set_option maxRecDepth 20000 in
theorem w_1034 : (Jvm.Cond.methodLink "DialSquare" (346 : Nat) ({ cls := "DialSquare$Dial", name := "shares", desc := "(LDialSquare$Host;I)I" } : Jvm.MethodName)) ∈ tables_1 := tm_5 (List.mem_of_getElem? (i := 74) rfl)
set_option maxRecDepth 20000 in
theorem w_1035 : (Jvm.Cond.instanceMethod ({ cls := "DialSquare$Dial", name := "shares", desc := "(LDialSquare$Host;I)I" } : Jvm.MethodName)) ∈ tables_1 := tm_5 (List.mem_of_getElem? (i := 75) rfl)
set_option maxRecDepth 20000 in
theorem w_1036 : (Jvm.Cond.selects "DialSquare$Dial" ({ cls := "DialSquare$Dial", name := "shares", desc := "(LDialSquare$Host;I)I" } : Jvm.MethodName) ({ cls := "DialSquare$Dial", name := "shares", desc := "(LDialSquare$Host;I)I" } : Jvm.MethodName)) ∈ tables_1 := tm_5 (List.mem_of_getElem? (i := 76) rfl)
set_option maxRecDepth 20000 in
theorem w_1037 : (Jvm.Cond.sameMethod "DialSquare$Dial" "DialSquare$Dial" "shares" "(LDialSquare$Host;I)I") ∈ tables_1 := tm_5 (List.mem_of_getElem? (i := 77) rfl)
set_option maxRecDepth 20000 in
theorem w_1038 : (Jvm.Cond.selects "DialSquare$Guild" ({ cls := "DialSquare$Dial", name := "shares", desc := "(LDialSquare$Host;I)I" } : Jvm.MethodName) ({ cls := "DialSquare$Dial", name := "shares", desc := "(LDialSquare$Host;I)I" } : Jvm.MethodName)) ∈ tables_1 := tm_5 (List.mem_of_getElem? (i := 78) rfl)
set_option maxRecDepth 20000 in
theorem w_1039 : (Jvm.Cond.selects "DialSquare$Low" ({ cls := "DialSquare$Dial", name := "shares", desc := "(LDialSquare$Host;I)I" } : Jvm.MethodName) ({ cls := "DialSquare$Low", name := "shares", desc := "(LDialSquare$Host;I)I" } : Jvm.MethodName)) ∈ tables_1 := tm_5 (List.mem_of_getElem? (i := 79) rfl)
set_option maxRecDepth 20000 in
theorem w_1040 : (Jvm.Cond.instanceMethod ({ cls := "DialSquare$Low", name := "shares", desc := "(LDialSquare$Host;I)I" } : Jvm.MethodName)) ∈ tables_1 := tm_5 (List.mem_of_getElem? (i := 80) rfl)
set_option maxRecDepth 20000 in
theorem w_1041 : (Jvm.Cond.code ({ cls := "DialSquare$Low", name := "shares", desc := "(LDialSquare$Host;I)I" } : Jvm.MethodName) prog_5_method_4_code (3 : Nat) (Option.some Jvm.ClassFile.FieldType.int)) ∈ tables_1 := tm_5 (List.mem_of_getElem? (i := 81) rfl)
set_option maxRecDepth 20000 in
theorem w_1042 : (Jvm.Cond.methodLink "DialSquare$Low" (11 : Nat) ({ cls := "DialSquare$Host", name := "begin", desc := "(I)V" } : Jvm.MethodName)) ∈ tables_1 := tm_5 (List.mem_of_getElem? (i := 82) rfl)
set_option maxRecDepth 20000 in
theorem w_1043 : (Jvm.Cond.methodLink "DialSquare$Low" (17 : Nat) ({ cls := "DialSquare$Dial", name := "shares", desc := "(LDialSquare$Host;I)I" } : Jvm.MethodName)) ∈ tables_1 := tm_5 (List.mem_of_getElem? (i := 83) rfl)
set_option maxRecDepth 20000 in
theorem w_1044 : (Jvm.Cond.selects "DialSquare$Noon" ({ cls := "DialSquare$Dial", name := "shares", desc := "(LDialSquare$Host;I)I" } : Jvm.MethodName) ({ cls := "DialSquare$Dial", name := "shares", desc := "(LDialSquare$Host;I)I" } : Jvm.MethodName)) ∈ tables_1 := tm_5 (List.mem_of_getElem? (i := 84) rfl)
set_option maxRecDepth 20000 in
theorem w_1045 : (Jvm.Cond.selects "DialSquare$Slit" ({ cls := "DialSquare$Dial", name := "shares", desc := "(LDialSquare$Host;I)I" } : Jvm.MethodName) ({ cls := "DialSquare$Slit", name := "shares", desc := "(LDialSquare$Host;I)I" } : Jvm.MethodName)) ∈ tables_1 := tm_5 (List.mem_of_getElem? (i := 85) rfl)
set_option maxRecDepth 20000 in
theorem w_1046 : (Jvm.Cond.instanceMethod ({ cls := "DialSquare$Slit", name := "shares", desc := "(LDialSquare$Host;I)I" } : Jvm.MethodName)) ∈ tables_1 := tm_5 (List.mem_of_getElem? (i := 86) rfl)
set_option maxRecDepth 20000 in
theorem w_1047 : (Jvm.Cond.code ({ cls := "DialSquare$Slit", name := "shares", desc := "(LDialSquare$Host;I)I" } : Jvm.MethodName) prog_10_method_5_code (4 : Nat) (Option.some Jvm.ClassFile.FieldType.int)) ∈ tables_1 := tm_5 (List.mem_of_getElem? (i := 87) rfl)
set_option maxRecDepth 20000 in
theorem w_1048 : (Jvm.Cond.methodLink "DialSquare$Slit" (24 : Nat) ({ cls := "DialSquare$Low", name := "shares", desc := "(LDialSquare$Host;I)I" } : Jvm.MethodName)) ∈ tables_1 := tm_5 (List.mem_of_getElem? (i := 88) rfl)
set_option maxRecDepth 20000 in
theorem w_1049 : (Jvm.Cond.methodLink "DialSquare$Slit" (31 : Nat) ({ cls := "DialSquare$Slit", name := "points", desc := "(LDialSquare$Host;I)I" } : Jvm.MethodName)) ∈ tables_1 := tm_5 (List.mem_of_getElem? (i := 89) rfl)
set_option maxRecDepth 20000 in
theorem w_1050 : (Jvm.Cond.sameMethod "DialSquare$Slit" "DialSquare$Dial" "points" "(LDialSquare$Host;I)I") ∈ tables_1 := tm_5 (List.mem_of_getElem? (i := 90) rfl)
set_option maxRecDepth 20000 in
theorem w_1051 : (Jvm.Cond.selects "DialSquare$Slit" ({ cls := "DialSquare$Slit", name := "points", desc := "(LDialSquare$Host;I)I" } : Jvm.MethodName) ({ cls := "DialSquare$Dial", name := "points", desc := "(LDialSquare$Host;I)I" } : Jvm.MethodName)) ∈ tables_1 := tm_5 (List.mem_of_getElem? (i := 91) rfl)
set_option maxRecDepth 20000 in
theorem w_1052 : (Jvm.Cond.selects "DialSquare$Tall" ({ cls := "DialSquare$Dial", name := "shares", desc := "(LDialSquare$Host;I)I" } : Jvm.MethodName) ({ cls := "DialSquare$Dial", name := "shares", desc := "(LDialSquare$Host;I)I" } : Jvm.MethodName)) ∈ tables_1 := tm_5 (List.mem_of_getElem? (i := 92) rfl)
set_option maxRecDepth 20000 in
theorem w_1053 : (Jvm.Cond.code ({ cls := "DialSquare$Dial", name := "shares", desc := "(LDialSquare$Host;I)I" } : Jvm.MethodName) prog_2_method_6_code (4 : Nat) (Option.some Jvm.ClassFile.FieldType.int)) ∈ tables_1 := tm_5 (List.mem_of_getElem? (i := 93) rfl)
set_option maxRecDepth 20000 in
theorem w_1054 : (Jvm.Cond.methodLink "DialSquare" (349 : Nat) ({ cls := "DialSquare$Dial", name := "tells", desc := "(LDialSquare$Host;I)I" } : Jvm.MethodName)) ∈ tables_1 := tm_5 (List.mem_of_getElem? (i := 94) rfl)
set_option maxRecDepth 20000 in
theorem w_1055 : (Jvm.Cond.instanceMethod ({ cls := "DialSquare$Dial", name := "tells", desc := "(LDialSquare$Host;I)I" } : Jvm.MethodName)) ∈ tables_1 := tm_5 (List.mem_of_getElem? (i := 95) rfl)
set_option maxRecDepth 20000 in
theorem w_1056 : (Jvm.Cond.selects "DialSquare$Dial" ({ cls := "DialSquare$Dial", name := "tells", desc := "(LDialSquare$Host;I)I" } : Jvm.MethodName) ({ cls := "DialSquare$Dial", name := "tells", desc := "(LDialSquare$Host;I)I" } : Jvm.MethodName)) ∈ tables_1 := tm_5 (List.mem_of_getElem? (i := 96) rfl)
set_option maxRecDepth 20000 in
theorem w_1057 : (Jvm.Cond.sameMethod "DialSquare$Dial" "DialSquare$Dial" "tells" "(LDialSquare$Host;I)I") ∈ tables_1 := tm_5 (List.mem_of_getElem? (i := 97) rfl)
set_option maxRecDepth 20000 in
theorem w_1058 : (Jvm.Cond.selects "DialSquare$Guild" ({ cls := "DialSquare$Dial", name := "tells", desc := "(LDialSquare$Host;I)I" } : Jvm.MethodName) ({ cls := "DialSquare$Guild", name := "tells", desc := "(LDialSquare$Host;I)I" } : Jvm.MethodName)) ∈ tables_1 := tm_5 (List.mem_of_getElem? (i := 98) rfl)
set_option maxRecDepth 20000 in
theorem w_1059 : (Jvm.Cond.instanceMethod ({ cls := "DialSquare$Guild", name := "tells", desc := "(LDialSquare$Host;I)I" } : Jvm.MethodName)) ∈ tables_1 := tm_5 (List.mem_of_getElem? (i := 99) rfl)
set_option maxRecDepth 20000 in
theorem w_1060 : (Jvm.Cond.code ({ cls := "DialSquare$Guild", name := "tells", desc := "(LDialSquare$Host;I)I" } : Jvm.MethodName) prog_3_method_5_code (4 : Nat) (Option.some Jvm.ClassFile.FieldType.int)) ∈ tables_1 := tm_5 (List.mem_of_getElem? (i := 100) rfl)
set_option maxRecDepth 20000 in
theorem w_1061 : (Jvm.Cond.methodLink "DialSquare$Guild" (24 : Nat) ({ cls := "DialSquare$Tall", name := "tells", desc := "(LDialSquare$Host;I)I" } : Jvm.MethodName)) ∈ tables_1 := tm_5 (List.mem_of_getElem? (i := 101) rfl)
set_option maxRecDepth 20000 in
theorem w_1062 : (Jvm.Cond.sameMethod "DialSquare$Tall" "DialSquare$Dial" "tells" "(LDialSquare$Host;I)I") ∈ tables_1 := tm_5 (List.mem_of_getElem? (i := 102) rfl)
set_option maxRecDepth 20000 in
theorem w_1063 : (Jvm.Cond.declares ({ cls := "DialSquare$Dial", name := "tells", desc := "(LDialSquare$Host;I)I" } : Jvm.MethodName)) ∈ tables_1 := tm_5 (List.mem_of_getElem? (i := 103) rfl)
set_option maxRecDepth 20000 in
theorem w_1064 : (Jvm.Cond.methodLink "DialSquare$Guild" (31 : Nat) ({ cls := "DialSquare$Guild", name := "slants", desc := "(LDialSquare$Host;I)I" } : Jvm.MethodName)) ∈ tables_1 := tm_5 (List.mem_of_getElem? (i := 104) rfl)
set_option maxRecDepth 20000 in
theorem w_1065 : (Jvm.Cond.sameMethod "DialSquare$Guild" "DialSquare$Tall" "slants" "(LDialSquare$Host;I)I") ∈ tables_1 := tm_5 (List.mem_of_getElem? (i := 105) rfl)
set_option maxRecDepth 20000 in
theorem w_1066 : (Jvm.Cond.declares ({ cls := "DialSquare$Tall", name := "slants", desc := "(LDialSquare$Host;I)I" } : Jvm.MethodName)) ∈ tables_1 := tm_5 (List.mem_of_getElem? (i := 106) rfl)
set_option maxRecDepth 20000 in
theorem w_1067 : (Jvm.Cond.selects "DialSquare$Guild" ({ cls := "DialSquare$Guild", name := "slants", desc := "(LDialSquare$Host;I)I" } : Jvm.MethodName) ({ cls := "DialSquare$Tall", name := "slants", desc := "(LDialSquare$Host;I)I" } : Jvm.MethodName)) ∈ tables_1 := tm_5 (List.mem_of_getElem? (i := 107) rfl)
set_option maxRecDepth 20000 in
theorem w_1068 : (Jvm.Cond.selects "DialSquare$Low" ({ cls := "DialSquare$Dial", name := "tells", desc := "(LDialSquare$Host;I)I" } : Jvm.MethodName) ({ cls := "DialSquare$Dial", name := "tells", desc := "(LDialSquare$Host;I)I" } : Jvm.MethodName)) ∈ tables_1 := tm_5 (List.mem_of_getElem? (i := 108) rfl)
set_option maxRecDepth 20000 in
theorem w_1069 : (Jvm.Cond.selects "DialSquare$Noon" ({ cls := "DialSquare$Dial", name := "tells", desc := "(LDialSquare$Host;I)I" } : Jvm.MethodName) ({ cls := "DialSquare$Dial", name := "tells", desc := "(LDialSquare$Host;I)I" } : Jvm.MethodName)) ∈ tables_1 := tm_5 (List.mem_of_getElem? (i := 109) rfl)
set_option maxRecDepth 20000 in
theorem w_1070 : (Jvm.Cond.selects "DialSquare$Slit" ({ cls := "DialSquare$Dial", name := "tells", desc := "(LDialSquare$Host;I)I" } : Jvm.MethodName) ({ cls := "DialSquare$Dial", name := "tells", desc := "(LDialSquare$Host;I)I" } : Jvm.MethodName)) ∈ tables_1 := tm_5 (List.mem_of_getElem? (i := 110) rfl)
set_option maxRecDepth 20000 in
theorem w_1071 : (Jvm.Cond.selects "DialSquare$Tall" ({ cls := "DialSquare$Dial", name := "tells", desc := "(LDialSquare$Host;I)I" } : Jvm.MethodName) ({ cls := "DialSquare$Dial", name := "tells", desc := "(LDialSquare$Host;I)I" } : Jvm.MethodName)) ∈ tables_1 := tm_5 (List.mem_of_getElem? (i := 111) rfl)
set_option maxRecDepth 20000 in
theorem w_1072 : (Jvm.Cond.code ({ cls := "DialSquare$Dial", name := "tells", desc := "(LDialSquare$Host;I)I" } : Jvm.MethodName) prog_2_method_7_code (4 : Nat) (Option.some Jvm.ClassFile.FieldType.int)) ∈ tables_1 := tm_5 (List.mem_of_getElem? (i := 112) rfl)
set_option maxRecDepth 20000 in
theorem w_1073 : (Jvm.Cond.methodLink "DialSquare$Dial" (30 : Nat) ({ cls := "DialSquare$Dial", name := "slants", desc := "(LDialSquare$Host;I)I" } : Jvm.MethodName)) ∈ tables_1 := tm_5 (List.mem_of_getElem? (i := 113) rfl)
set_option maxRecDepth 20000 in
theorem w_1074 : (Jvm.Cond.methodLink "DialSquare$Dial" (33 : Nat) ({ cls := "DialSquare$Dial", name := "shares", desc := "(LDialSquare$Host;I)I" } : Jvm.MethodName)) ∈ tables_1 := tm_5 (List.mem_of_getElem? (i := 114) rfl)
set_option maxRecDepth 20000 in
theorem w_1075 : (Jvm.Cond.methodLink "DialSquareLaw" (209 : Nat) ({ cls := "DialSquare", name := "trace", desc := "(I)I" } : Jvm.MethodName)) ∈ tables_1 := tm_5 (List.mem_of_getElem? (i := 115) rfl)
set_option maxRecDepth 20000 in
theorem w_1076 : (Jvm.Cond.instanceMethod ({ cls := "DialSquare", name := "trace", desc := "(I)I" } : Jvm.MethodName)) ∈ tables_1 := tm_5 (List.mem_of_getElem? (i := 116) rfl)
set_option maxRecDepth 20000 in
theorem w_1077 : (Jvm.Cond.selects "DialSquare" ({ cls := "DialSquare", name := "trace", desc := "(I)I" } : Jvm.MethodName) ({ cls := "DialSquare", name := "trace", desc := "(I)I" } : Jvm.MethodName)) ∈ tables_1 := tm_5 (List.mem_of_getElem? (i := 117) rfl)
set_option maxRecDepth 20000 in
theorem w_1078 : (Jvm.Cond.code ({ cls := "DialSquare", name := "trace", desc := "(I)I" } : Jvm.MethodName) prog_1_method_59_code (2 : Nat) (Option.some Jvm.ClassFile.FieldType.int)) ∈ tables_1 := tm_5 (List.mem_of_getElem? (i := 118) rfl)
set_option maxRecDepth 20000 in
theorem w_1079 : (Jvm.Cond.methodLink "DialSquareLaw" (213 : Nat) ({ cls := "DialSquare", name := "many", desc := "(I)I" } : Jvm.MethodName)) ∈ tables_1 := tm_5 (List.mem_of_getElem? (i := 119) rfl)
set_option maxRecDepth 20000 in
theorem w_1080 : (Jvm.Cond.instanceMethod ({ cls := "DialSquare", name := "many", desc := "(I)I" } : Jvm.MethodName)) ∈ tables_1 := tm_5 (List.mem_of_getElem? (i := 120) rfl)
set_option maxRecDepth 20000 in
theorem w_1081 : (Jvm.Cond.selects "DialSquare" ({ cls := "DialSquare", name := "many", desc := "(I)I" } : Jvm.MethodName) ({ cls := "DialSquare", name := "many", desc := "(I)I" } : Jvm.MethodName)) ∈ tables_1 := tm_5 (List.mem_of_getElem? (i := 121) rfl)
set_option maxRecDepth 20000 in
theorem w_1082 : (Jvm.Cond.code ({ cls := "DialSquare", name := "many", desc := "(I)I" } : Jvm.MethodName) prog_1_method_60_code (2 : Nat) (Option.some Jvm.ClassFile.FieldType.int)) ∈ tables_1 := tm_5 (List.mem_of_getElem? (i := 122) rfl)
set_option maxRecDepth 20000 in
theorem w_1083 : (Jvm.Cond.methodLink "DialSquareLaw" (217 : Nat) ({ cls := "DialSquare", name := "keep", desc := "()I" } : Jvm.MethodName)) ∈ tables_1 := tm_5 (List.mem_of_getElem? (i := 123) rfl)
set_option maxRecDepth 20000 in
theorem w_1084 : (Jvm.Cond.instanceMethod ({ cls := "DialSquare", name := "keep", desc := "()I" } : Jvm.MethodName)) ∈ tables_1 := tm_5 (List.mem_of_getElem? (i := 124) rfl)
set_option maxRecDepth 20000 in
theorem w_1085 : (Jvm.Cond.selects "DialSquare" ({ cls := "DialSquare", name := "keep", desc := "()I" } : Jvm.MethodName) ({ cls := "DialSquare", name := "keep", desc := "()I" } : Jvm.MethodName)) ∈ tables_1 := tm_5 (List.mem_of_getElem? (i := 125) rfl)
set_option maxRecDepth 20000 in
theorem w_1086 : (Jvm.Cond.code ({ cls := "DialSquare", name := "keep", desc := "()I" } : Jvm.MethodName) prog_1_method_61_code (1 : Nat) (Option.some Jvm.ClassFile.FieldType.int)) ∈ tables_1 := tm_5 (List.mem_of_getElem? (i := 126) rfl)
set_option maxRecDepth 20000 in
theorem w_1087 : (Jvm.Cond.methodLink "DialSquareLaw" (221 : Nat) ({ cls := "DialSquare", name := "again", desc := "()I" } : Jvm.MethodName)) ∈ tables_1 := tm_5 (List.mem_of_getElem? (i := 127) rfl)
set_option maxRecDepth 20000 in
theorem w_1088 : (Jvm.Cond.instanceMethod ({ cls := "DialSquare", name := "again", desc := "()I" } : Jvm.MethodName)) ∈ tables_1 := tm_5 (List.mem_of_getElem? (i := 128) rfl)
set_option maxRecDepth 20000 in
theorem w_1089 : (Jvm.Cond.selects "DialSquare" ({ cls := "DialSquare", name := "again", desc := "()I" } : Jvm.MethodName) ({ cls := "DialSquare", name := "again", desc := "()I" } : Jvm.MethodName)) ∈ tables_1 := tm_5 (List.mem_of_getElem? (i := 129) rfl)
set_option maxRecDepth 20000 in
theorem w_1090 : (Jvm.Cond.code ({ cls := "DialSquare", name := "again", desc := "()I" } : Jvm.MethodName) prog_1_method_62_code (1 : Nat) (Option.some Jvm.ClassFile.FieldType.int)) ∈ tables_1 := tm_5 (List.mem_of_getElem? (i := 130) rfl)
set_option maxRecDepth 20000 in
theorem w_1091 : (Jvm.Cond.classLink "DialSquareLaw" (10 : Nat) "DialSquareModel") ∈ tables_1 := tm_5 (List.mem_of_getElem? (i := 131) rfl)
set_option maxRecDepth 20000 in
theorem w_1092 : (Jvm.Cond.instantiable "DialSquareModel" (37 : Nat)) ∈ tables_1 := tm_5 (List.mem_of_getElem? (i := 132) rfl)
set_option maxRecDepth 20000 in
theorem w_1093 : (Jvm.Cond.methodLink "DialSquareLaw" (12 : Nat) ({ cls := "DialSquareModel", name := "<init>", desc := "()V" } : Jvm.MethodName)) ∈ tables_1 := tm_5 (List.mem_of_getElem? (i := 133) rfl)
set_option maxRecDepth 20000 in
theorem w_1094 : (Jvm.Cond.instanceMethod ({ cls := "DialSquareModel", name := "<init>", desc := "()V" } : Jvm.MethodName)) ∈ tables_1 := tm_5 (List.mem_of_getElem? (i := 134) rfl)
set_option maxRecDepth 20000 in
theorem w_1095 : (Jvm.Cond.code ({ cls := "DialSquareModel", name := "<init>", desc := "()V" } : Jvm.MethodName) prog_14_method_1_code (2 : Nat) (Option.none : Option Jvm.ClassFile.FieldType)) ∈ tables_1 := tm_5 (List.mem_of_getElem? (i := 135) rfl)
set_option maxRecDepth 20000 in
theorem w_1096 : (Jvm.Cond.methodLink "DialSquareModel" (1 : Nat) ({ cls := "java/lang/Object", name := "<init>", desc := "()V" } : Jvm.MethodName)) ∈ tables_1 := tm_5 (List.mem_of_getElem? (i := 136) rfl)
set_option maxRecDepth 20000 in
theorem w_1097 : (Jvm.Cond.fieldLink "DialSquareModel" (9 : Nat) "DialSquareModel" "s" "[I") ∈ tables_1 := tm_5 (List.mem_of_getElem? (i := 137) rfl)
set_option maxRecDepth 20000 in
theorem w_1098 : (Jvm.Cond.fieldLink "DialSquareModel" (13 : Nat) "DialSquareModel" "kept" "[I") ∈ tables_1 := tm_5 (List.mem_of_getElem? (i := 138) rfl)
set_option maxRecDepth 20000 in
theorem w_1099 : (Jvm.Cond.fieldLink "DialSquareModel" (16 : Nat) "DialSquareModel" "laid" "[I") ∈ tables_1 := tm_5 (List.mem_of_getElem? (i := 139) rfl)
set_option maxRecDepth 20000 in
theorem w_1100 : (Jvm.Cond.fieldLink "DialSquareModel" (374 : Nat) "DialSquareModel" "isKept" "Z") ∈ tables_1 := tm_5 (List.mem_of_getElem? (i := 140) rfl)
set_option maxRecDepth 20000 in
theorem w_1101 : (Jvm.Cond.fieldLink "DialSquareModel" (19 : Nat) "DialSquareModel" "pile" "[I") ∈ tables_1 := tm_5 (List.mem_of_getElem? (i := 141) rfl)
set_option maxRecDepth 20000 in
theorem w_1102 : (Jvm.Cond.fieldLink "DialSquareModel" (22 : Nat) "DialSquareModel" "tape" "[I") ∈ tables_1 := tm_5 (List.mem_of_getElem? (i := 142) rfl)
set_option maxRecDepth 20000 in
theorem w_1103 : (Jvm.Cond.fieldLink "DialSquareModel" (128 : Nat) "DialSquareModel" "taped" "I") ∈ tables_1 := tm_5 (List.mem_of_getElem? (i := 143) rfl)
set_option maxRecDepth 20000 in
theorem w_1104 : (Jvm.Cond.fieldLink "DialSquareModel" (25 : Nat) "DialSquareModel" "letters" "[C") ∈ tables_1 := tm_5 (List.mem_of_getElem? (i := 144) rfl)
set_option maxRecDepth 20000 in
theorem w_1105 : (Jvm.Cond.fieldLink "DialSquareModel" (132 : Nat) "DialSquareModel" "at" "I") ∈ tables_1 := tm_5 (List.mem_of_getElem? (i := 145) rfl)
set_option maxRecDepth 20000 in
theorem w_1106 : (Jvm.Cond.fieldLink "DialSquareModel" (135 : Nat) "DialSquareModel" "begun" "I") ∈ tables_1 := tm_5 (List.mem_of_getElem? (i := 146) rfl)
set_option maxRecDepth 20000 in
theorem w_1107 : (Jvm.Cond.fieldLink "DialSquareModel" (141 : Nat) "DialSquareModel" "token" "I") ∈ tables_1 := tm_5 (List.mem_of_getElem? (i := 147) rfl)
set_option maxRecDepth 20000 in
theorem w_1108 : (Jvm.Cond.fieldLink "DialSquareModel" (148 : Nat) "DialSquareModel" "value" "I") ∈ tables_1 := tm_5 (List.mem_of_getElem? (i := 148) rfl)
set_option maxRecDepth 20000 in
theorem w_1109 : (Jvm.Cond.fieldLink "DialSquareModel" (171 : Nat) "DialSquareModel" "opened" "I") ∈ tables_1 := tm_5 (List.mem_of_getElem? (i := 149) rfl)
set_option maxRecDepth 20000 in
theorem w_1110 : (Jvm.Cond.fieldLink "DialSquareModel" (160 : Nat) "DialSquareModel" "steps" "I") ∈ tables_1 := tm_5 (List.mem_of_getElem? (i := 150) rfl)
set_option maxRecDepth 20000 in
theorem w_1111 : (Jvm.Cond.fieldLink "DialSquareModel" (29 : Nat) "DialSquareModel" "code0" "[I") ∈ tables_1 := tm_5 (List.mem_of_getElem? (i := 151) rfl)
set_option maxRecDepth 20000 in
theorem w_1112 : (Jvm.Cond.fieldLink "DialSquareModel" (32 : Nat) "DialSquareModel" "read" "[I") ∈ tables_1 := tm_5 (List.mem_of_getElem? (i := 152) rfl)
set_option maxRecDepth 20000 in
theorem w_1113 : (Jvm.Cond.fieldLink "DialSquareModel" (35 : Nat) "DialSquareModel" "saved" "[I") ∈ tables_1 := tm_5 (List.mem_of_getElem? (i := 153) rfl)
set_option maxRecDepth 20000 in
theorem w_1114 : (Jvm.Cond.fieldLink "DialSquareModel" (38 : Nat) "DialSquareModel" "plan" "[I") ∈ tables_1 := tm_5 (List.mem_of_getElem? (i := 154) rfl)
set_option maxRecDepth 20000 in
theorem w_1115 : (Jvm.Cond.fieldLink "DialSquareModel" (41 : Nat) "DialSquareModel" "bestPlan" "[I") ∈ tables_1 := tm_5 (List.mem_of_getElem? (i := 155) rfl)
set_option maxRecDepth 20000 in
theorem w_1116 : (Jvm.Cond.fieldLink "DialSquareModel" (264 : Nat) "DialSquareModel" "most" "I") ∈ tables_1 := tm_5 (List.mem_of_getElem? (i := 156) rfl)
set_option maxRecDepth 20000 in
theorem w_1117 : (Jvm.Cond.fieldLink "DialSquareModel" (267 : Nat) "DialSquareModel" "many" "I") ∈ tables_1 := tm_5 (List.mem_of_getElem? (i := 157) rfl)
set_option maxRecDepth 20000 in
theorem w_1118 : (Jvm.Cond.fieldLink "DialSquareModel" (270 : Nat) "DialSquareModel" "few" "I") ∈ tables_1 := tm_5 (List.mem_of_getElem? (i := 158) rfl)
set_option maxRecDepth 20000 in
theorem w_1119 : (Jvm.Cond.fieldLink "DialSquareModel" (273 : Nat) "DialSquareModel" "everRight" "I") ∈ tables_1 := tm_5 (List.mem_of_getElem? (i := 159) rfl)
set_option maxRecDepth 20000 in
theorem w_1120 : (Jvm.Cond.fieldLink "DialSquareModel" (44 : Nat) "DialSquareModel" "lagThen" "[I") ∈ tables_1 := tm_5 (List.mem_of_getElem? (i := 160) rfl)
set_option maxRecDepth 20000 in
theorem w_1121 : (Jvm.Cond.fieldLink "DialSquareModel" (47 : Nat) "DialSquareModel" "shadedThen" "[I") ∈ tables_1 := tm_5 (List.mem_of_getElem? (i := 161) rfl)
set_option maxRecDepth 20000 in
theorem w_1122 : (Jvm.Cond.fieldLink "DialSquareModel" (306 : Nat) "DialSquareModel" "firstFit" "I") ∈ tables_1 := tm_5 (List.mem_of_getElem? (i := 162) rfl)
set_option maxRecDepth 20000 in
theorem w_1123 : (Jvm.Cond.fieldLink "DialSquareModel" (50 : Nat) "DialSquareModel" "rows" "[I") ∈ tables_1 := tm_5 (List.mem_of_getElem? (i := 163) rfl)
set_option maxRecDepth 20000 in
theorem w_1124 : (Jvm.Cond.fieldLink "DialSquareModel" (322 : Nat) "DialSquareModel" "rowMany" "I") ∈ tables_1 := tm_5 (List.mem_of_getElem? (i := 164) rfl)
set_option maxRecDepth 20000 in
theorem w_1125 : (Jvm.Cond.fieldLink "DialSquareModel" (53 : Nat) "DialSquareModel" "sorts" "[I") ∈ tables_1 := tm_5 (List.mem_of_getElem? (i := 165) rfl)
set_option maxRecDepth 20000 in
theorem w_1126 : (Jvm.Cond.fieldLink "DialSquareModel" (56 : Nat) "DialSquareModel" "sizes" "[I") ∈ tables_1 := tm_5 (List.mem_of_getElem? (i := 166) rfl)
set_option maxRecDepth 20000 in
theorem w_1127 : (Jvm.Cond.fieldLink "DialSquareModel" (59 : Nat) "DialSquareModel" "number" "[I") ∈ tables_1 := tm_5 (List.mem_of_getElem? (i := 167) rfl)
set_option maxRecDepth 20000 in
theorem w_1128 : (Jvm.Cond.fieldLink "DialSquareModel" (62 : Nat) "DialSquareModel" "holds" "[I") ∈ tables_1 := tm_5 (List.mem_of_getElem? (i := 168) rfl)
set_option maxRecDepth 20000 in
theorem w_1129 : (Jvm.Cond.fieldLink "DialSquareModel" (65 : Nat) "DialSquareModel" "heldOne" "[I") ∈ tables_1 := tm_5 (List.mem_of_getElem? (i := 169) rfl)
set_option maxRecDepth 20000 in
theorem w_1130 : (Jvm.Cond.fieldLink "DialSquareModel" (68 : Nat) "DialSquareModel" "trace" "[I") ∈ tables_1 := tm_5 (List.mem_of_getElem? (i := 170) rfl)
set_option maxRecDepth 20000 in
theorem w_1131 : (Jvm.Cond.fieldLink "DialSquareModel" (346 : Nat) "DialSquareModel" "traced" "I") ∈ tables_1 := tm_5 (List.mem_of_getElem? (i := 171) rfl)
set_option maxRecDepth 20000 in
theorem w_1132 : (Jvm.Cond.fieldLink "DialSquareModel" (355 : Nat) "DialSquareModel" "own" "I") ∈ tables_1 := tm_5 (List.mem_of_getElem? (i := 172) rfl)
set_option maxRecDepth 20000 in
theorem w_1133 : (Jvm.Cond.fieldLink "DialSquareModel" (364 : Nat) "DialSquareModel" "isParted" "Z") ∈ tables_1 := tm_5 (List.mem_of_getElem? (i := 173) rfl)
set_option maxRecDepth 20000 in
theorem w_1134 : (Jvm.Cond.laysFinal "DialSquareModel" "DialSquareModel" "s" "[I") ∈ tables_1 := tm_5 (List.mem_of_getElem? (i := 174) rfl)
set_option maxRecDepth 20000 in
theorem w_1136 : (Jvm.Cond.laysFinal "DialSquareModel" "DialSquareModel" "kept" "[I") ∈ tables_1 := tm_5 (List.mem_of_getElem? (i := 176) rfl)
set_option maxRecDepth 20000 in
theorem w_1138 : (Jvm.Cond.laysFinal "DialSquareModel" "DialSquareModel" "laid" "[I") ∈ tables_1 := tm_5 (List.mem_of_getElem? (i := 178) rfl)
set_option maxRecDepth 20000 in
theorem w_1140 : (Jvm.Cond.lays "DialSquareModel" "DialSquareModel" "isKept" "Z") ∈ tables_1 := tm_5 (List.mem_of_getElem? (i := 180) rfl)
set_option maxRecDepth 20000 in
theorem w_1142 : (Jvm.Cond.laysFinal "DialSquareModel" "DialSquareModel" "pile" "[I") ∈ tables_1 := tm_5 (List.mem_of_getElem? (i := 182) rfl)
set_option maxRecDepth 20000 in
theorem w_1144 : (Jvm.Cond.laysFinal "DialSquareModel" "DialSquareModel" "tape" "[I") ∈ tables_1 := tm_5 (List.mem_of_getElem? (i := 184) rfl)
set_option maxRecDepth 20000 in
theorem w_1146 : (Jvm.Cond.lays "DialSquareModel" "DialSquareModel" "taped" "I") ∈ tables_1 := tm_5 (List.mem_of_getElem? (i := 186) rfl)
set_option maxRecDepth 20000 in
theorem w_1148 : (Jvm.Cond.laysFinal "DialSquareModel" "DialSquareModel" "letters" "[C") ∈ tables_1 := tm_5 (List.mem_of_getElem? (i := 188) rfl)
set_option maxRecDepth 20000 in
theorem w_1150 : (Jvm.Cond.lays "DialSquareModel" "DialSquareModel" "at" "I") ∈ tables_1 := tm_5 (List.mem_of_getElem? (i := 190) rfl)
set_option maxRecDepth 20000 in
theorem w_1152 : (Jvm.Cond.lays "DialSquareModel" "DialSquareModel" "begun" "I") ∈ tables_1 := tm_5 (List.mem_of_getElem? (i := 192) rfl)
set_option maxRecDepth 20000 in
theorem w_1154 : (Jvm.Cond.lays "DialSquareModel" "DialSquareModel" "token" "I") ∈ tables_1 := tm_5 (List.mem_of_getElem? (i := 194) rfl)
set_option maxRecDepth 20000 in
theorem w_1156 : (Jvm.Cond.lays "DialSquareModel" "DialSquareModel" "value" "I") ∈ tables_1 := tm_5 (List.mem_of_getElem? (i := 196) rfl)
set_option maxRecDepth 20000 in
theorem w_1158 : (Jvm.Cond.lays "DialSquareModel" "DialSquareModel" "opened" "I") ∈ tables_1 := tm_5 (List.mem_of_getElem? (i := 198) rfl)
set_option maxRecDepth 20000 in
theorem w_1160 : (Jvm.Cond.lays "DialSquareModel" "DialSquareModel" "steps" "I") ∈ tables_1 := tm_5 (List.mem_of_getElem? (i := 200) rfl)
set_option maxRecDepth 20000 in
theorem w_1162 : (Jvm.Cond.laysFinal "DialSquareModel" "DialSquareModel" "code0" "[I") ∈ tables_1 := tm_5 (List.mem_of_getElem? (i := 202) rfl)
set_option maxRecDepth 20000 in
theorem w_1164 : (Jvm.Cond.laysFinal "DialSquareModel" "DialSquareModel" "read" "[I") ∈ tables_1 := tm_5 (List.mem_of_getElem? (i := 204) rfl)
set_option maxRecDepth 20000 in
theorem w_1166 : (Jvm.Cond.laysFinal "DialSquareModel" "DialSquareModel" "saved" "[I") ∈ tables_1 := tm_5 (List.mem_of_getElem? (i := 206) rfl)
set_option maxRecDepth 20000 in
theorem w_1168 : (Jvm.Cond.laysFinal "DialSquareModel" "DialSquareModel" "plan" "[I") ∈ tables_1 := tm_5 (List.mem_of_getElem? (i := 208) rfl)
set_option maxRecDepth 20000 in
theorem w_1170 : (Jvm.Cond.laysFinal "DialSquareModel" "DialSquareModel" "bestPlan" "[I") ∈ tables_1 := tm_5 (List.mem_of_getElem? (i := 210) rfl)
set_option maxRecDepth 20000 in
theorem w_1172 : (Jvm.Cond.lays "DialSquareModel" "DialSquareModel" "most" "I") ∈ tables_1 := tm_5 (List.mem_of_getElem? (i := 212) rfl)
set_option maxRecDepth 20000 in
theorem w_1174 : (Jvm.Cond.lays "DialSquareModel" "DialSquareModel" "many" "I") ∈ tables_1 := tm_5 (List.mem_of_getElem? (i := 214) rfl)
set_option maxRecDepth 20000 in
theorem w_1176 : (Jvm.Cond.lays "DialSquareModel" "DialSquareModel" "few" "I") ∈ tables_1 := tm_5 (List.mem_of_getElem? (i := 216) rfl)
set_option maxRecDepth 20000 in
theorem w_1178 : (Jvm.Cond.lays "DialSquareModel" "DialSquareModel" "everRight" "I") ∈ tables_1 := tm_5 (List.mem_of_getElem? (i := 218) rfl)
set_option maxRecDepth 20000 in
theorem w_1180 : (Jvm.Cond.laysFinal "DialSquareModel" "DialSquareModel" "lagThen" "[I") ∈ tables_1 := tm_5 (List.mem_of_getElem? (i := 220) rfl)
set_option maxRecDepth 20000 in
theorem w_1182 : (Jvm.Cond.laysFinal "DialSquareModel" "DialSquareModel" "shadedThen" "[I") ∈ tables_1 := tm_5 (List.mem_of_getElem? (i := 222) rfl)
set_option maxRecDepth 20000 in
theorem w_1184 : (Jvm.Cond.lays "DialSquareModel" "DialSquareModel" "firstFit" "I") ∈ tables_1 := tm_5 (List.mem_of_getElem? (i := 224) rfl)
set_option maxRecDepth 20000 in
theorem w_1186 : (Jvm.Cond.laysFinal "DialSquareModel" "DialSquareModel" "rows" "[I") ∈ tables_1 := tm_5 (List.mem_of_getElem? (i := 226) rfl)
set_option maxRecDepth 20000 in
theorem w_1188 : (Jvm.Cond.lays "DialSquareModel" "DialSquareModel" "rowMany" "I") ∈ tables_1 := tm_5 (List.mem_of_getElem? (i := 228) rfl)
set_option maxRecDepth 20000 in
theorem w_1190 : (Jvm.Cond.laysFinal "DialSquareModel" "DialSquareModel" "sorts" "[I") ∈ tables_1 := tm_5 (List.mem_of_getElem? (i := 230) rfl)
set_option maxRecDepth 20000 in
theorem w_1192 : (Jvm.Cond.laysFinal "DialSquareModel" "DialSquareModel" "sizes" "[I") ∈ tables_1 := tm_5 (List.mem_of_getElem? (i := 232) rfl)
set_option maxRecDepth 20000 in
theorem w_1194 : (Jvm.Cond.laysFinal "DialSquareModel" "DialSquareModel" "number" "[I") ∈ tables_1 := tm_5 (List.mem_of_getElem? (i := 234) rfl)
set_option maxRecDepth 20000 in
theorem w_1196 : (Jvm.Cond.laysFinal "DialSquareModel" "DialSquareModel" "holds" "[I") ∈ tables_1 := tm_5 (List.mem_of_getElem? (i := 236) rfl)
set_option maxRecDepth 20000 in
theorem w_1198 : (Jvm.Cond.laysFinal "DialSquareModel" "DialSquareModel" "heldOne" "[I") ∈ tables_1 := tm_5 (List.mem_of_getElem? (i := 238) rfl)
set_option maxRecDepth 20000 in
theorem w_1200 : (Jvm.Cond.laysFinal "DialSquareModel" "DialSquareModel" "trace" "[I") ∈ tables_1 := tm_6 (List.mem_of_getElem? (i := 0) rfl)
set_option maxRecDepth 20000 in
theorem w_1202 : (Jvm.Cond.lays "DialSquareModel" "DialSquareModel" "traced" "I") ∈ tables_1 := tm_6 (List.mem_of_getElem? (i := 2) rfl)
set_option maxRecDepth 20000 in
theorem w_1204 : (Jvm.Cond.lays "DialSquareModel" "DialSquareModel" "own" "I") ∈ tables_1 := tm_6 (List.mem_of_getElem? (i := 4) rfl)
set_option maxRecDepth 20000 in
theorem w_1206 : (Jvm.Cond.lays "DialSquareModel" "DialSquareModel" "isParted" "Z") ∈ tables_1 := tm_6 (List.mem_of_getElem? (i := 6) rfl)
set_option maxRecDepth 20000 in
theorem w_1208 : (Jvm.Cond.superclass "DialSquareModel" "java/lang/Object") ∈ tables_1 := tm_6 (List.mem_of_getElem? (i := 8) rfl)
set_option maxRecDepth 20000 in
theorem w_1209 : (Jvm.Cond.arrayClass Jvm.ClassFile.FieldType.char) ∈ tables_1 := tm_6 (List.mem_of_getElem? (i := 9) rfl)
set_option maxRecDepth 20000 in
theorem w_1210 : (Jvm.Cond.methodLink "DialSquareLaw" (64 : Nat) ({ cls := "DialSquareModel", name := "feed", desc := "(JI)I" } : Jvm.MethodName)) ∈ tables_1 := tm_6 (List.mem_of_getElem? (i := 10) rfl)
set_option maxRecDepth 20000 in
theorem w_1211 : (Jvm.Cond.instanceMethod ({ cls := "DialSquareModel", name := "feed", desc := "(JI)I" } : Jvm.MethodName)) ∈ tables_1 := tm_6 (List.mem_of_getElem? (i := 11) rfl)
set_option maxRecDepth 20000 in
theorem w_1212 : (Jvm.Cond.selects "DialSquareModel" ({ cls := "DialSquareModel", name := "feed", desc := "(JI)I" } : Jvm.MethodName) ({ cls := "DialSquareModel", name := "feed", desc := "(JI)I" } : Jvm.MethodName)) ∈ tables_1 := tm_6 (List.mem_of_getElem? (i := 12) rfl)
set_option maxRecDepth 20000 in
theorem w_1213 : (Jvm.Cond.code ({ cls := "DialSquareModel", name := "feed", desc := "(JI)I" } : Jvm.MethodName) prog_14_method_44_code (5 : Nat) (Option.some Jvm.ClassFile.FieldType.int)) ∈ tables_1 := tm_6 (List.mem_of_getElem? (i := 13) rfl)
set_option maxRecDepth 20000 in
theorem w_1214 : (Jvm.Cond.methodLink "DialSquareModel" (71 : Nat) ({ cls := "DialSquareModel", name := "in1", desc := "(III)Z" } : Jvm.MethodName)) ∈ tables_1 := tm_6 (List.mem_of_getElem? (i := 14) rfl)
set_option maxRecDepth 20000 in
theorem w_1215 : (Jvm.Cond.static ({ cls := "DialSquareModel", name := "in1", desc := "(III)Z" } : Jvm.MethodName)) ∈ tables_1 := tm_6 (List.mem_of_getElem? (i := 15) rfl)
set_option maxRecDepth 20000 in
theorem w_1216 : (Jvm.Cond.code ({ cls := "DialSquareModel", name := "in1", desc := "(III)Z" } : Jvm.MethodName) prog_14_method_2_code (3 : Nat) (Option.some Jvm.ClassFile.FieldType.boolean)) ∈ tables_1 := tm_6 (List.mem_of_getElem? (i := 16) rfl)
set_option maxRecDepth 20000 in
theorem w_1217 : (Jvm.Cond.constantLong "DialSquareModel" (192 : Nat) (255 : Int64)) ∈ tables_1 := tm_6 (List.mem_of_getElem? (i := 17) rfl)
set_option maxRecDepth 20000 in
theorem w_1218 : (Jvm.Cond.methodLink "DialSquareLaw" (68 : Nat) ({ cls := "DialSquareModel", name := "rules", desc := "()I" } : Jvm.MethodName)) ∈ tables_1 := tm_6 (List.mem_of_getElem? (i := 18) rfl)
set_option maxRecDepth 20000 in
theorem w_1219 : (Jvm.Cond.instanceMethod ({ cls := "DialSquareModel", name := "rules", desc := "()I" } : Jvm.MethodName)) ∈ tables_1 := tm_6 (List.mem_of_getElem? (i := 19) rfl)
set_option maxRecDepth 20000 in
theorem w_1220 : (Jvm.Cond.selects "DialSquareModel" ({ cls := "DialSquareModel", name := "rules", desc := "()I" } : Jvm.MethodName) ({ cls := "DialSquareModel", name := "rules", desc := "()I" } : Jvm.MethodName)) ∈ tables_1 := tm_6 (List.mem_of_getElem? (i := 20) rfl)
set_option maxRecDepth 20000 in
theorem w_1221 : (Jvm.Cond.code ({ cls := "DialSquareModel", name := "rules", desc := "()I" } : Jvm.MethodName) prog_14_method_45_code (4 : Nat) (Option.some Jvm.ClassFile.FieldType.int)) ∈ tables_1 := tm_6 (List.mem_of_getElem? (i := 21) rfl)
set_option maxRecDepth 20000 in
theorem w_1222 : (Jvm.Cond.methodLink "DialSquareModel" (157 : Nat) ({ cls := "DialSquareModel", name := "next", desc := "()V" } : Jvm.MethodName)) ∈ tables_1 := tm_6 (List.mem_of_getElem? (i := 22) rfl)
set_option maxRecDepth 20000 in
theorem w_1223 : (Jvm.Cond.privateMethod ({ cls := "DialSquareModel", name := "next", desc := "()V" } : Jvm.MethodName)) ∈ tables_1 := tm_6 (List.mem_of_getElem? (i := 23) rfl)
set_option maxRecDepth 20000 in
theorem w_1224 : (Jvm.Cond.instanceMethod ({ cls := "DialSquareModel", name := "next", desc := "()V" } : Jvm.MethodName)) ∈ tables_1 := tm_6 (List.mem_of_getElem? (i := 24) rfl)
set_option maxRecDepth 20000 in
theorem w_1225 : (Jvm.Cond.code ({ cls := "DialSquareModel", name := "next", desc := "()V" } : Jvm.MethodName) prog_14_method_34_code (2 : Nat) (Option.none : Option Jvm.ClassFile.FieldType)) ∈ tables_1 := tm_6 (List.mem_of_getElem? (i := 25) rfl)
set_option maxRecDepth 20000 in
theorem w_1226 : (Jvm.Cond.methodLink "DialSquareModel" (138 : Nat) ({ cls := "DialSquareModel", name := "byteAt", desc := "(I)I" } : Jvm.MethodName)) ∈ tables_1 := tm_6 (List.mem_of_getElem? (i := 26) rfl)
set_option maxRecDepth 20000 in
theorem w_1227 : (Jvm.Cond.privateMethod ({ cls := "DialSquareModel", name := "byteAt", desc := "(I)I" } : Jvm.MethodName)) ∈ tables_1 := tm_6 (List.mem_of_getElem? (i := 27) rfl)
set_option maxRecDepth 20000 in
theorem w_1228 : (Jvm.Cond.instanceMethod ({ cls := "DialSquareModel", name := "byteAt", desc := "(I)I" } : Jvm.MethodName)) ∈ tables_1 := tm_6 (List.mem_of_getElem? (i := 28) rfl)
set_option maxRecDepth 20000 in
theorem w_1229 : (Jvm.Cond.code ({ cls := "DialSquareModel", name := "byteAt", desc := "(I)I" } : Jvm.MethodName) prog_14_method_30_code (2 : Nat) (Option.some Jvm.ClassFile.FieldType.int)) ∈ tables_1 := tm_6 (List.mem_of_getElem? (i := 29) rfl)
set_option maxRecDepth 20000 in
theorem w_1230 : (Jvm.Cond.methodLink "DialSquareModel" (151 : Nat) ({ cls := "DialSquareModel", name := "readsName", desc := "()V" } : Jvm.MethodName)) ∈ tables_1 := tm_6 (List.mem_of_getElem? (i := 30) rfl)
set_option maxRecDepth 20000 in
theorem w_1231 : (Jvm.Cond.privateMethod ({ cls := "DialSquareModel", name := "readsName", desc := "()V" } : Jvm.MethodName)) ∈ tables_1 := tm_6 (List.mem_of_getElem? (i := 31) rfl)
set_option maxRecDepth 20000 in
theorem w_1232 : (Jvm.Cond.instanceMethod ({ cls := "DialSquareModel", name := "readsName", desc := "()V" } : Jvm.MethodName)) ∈ tables_1 := tm_6 (List.mem_of_getElem? (i := 32) rfl)
set_option maxRecDepth 20000 in
theorem w_1233 : (Jvm.Cond.code ({ cls := "DialSquareModel", name := "readsName", desc := "()V" } : Jvm.MethodName) prog_14_method_32_code (2 : Nat) (Option.none : Option Jvm.ClassFile.FieldType)) ∈ tables_1 := tm_6 (List.mem_of_getElem? (i := 33) rfl)
set_option maxRecDepth 20000 in
theorem w_1234 : (Jvm.Cond.methodLink "DialSquareModel" (144 : Nat) ({ cls := "DialSquareModel", name := "isNameOf", desc := "(I)Z" } : Jvm.MethodName)) ∈ tables_1 := tm_6 (List.mem_of_getElem? (i := 34) rfl)
set_option maxRecDepth 20000 in
theorem w_1235 : (Jvm.Cond.privateMethod ({ cls := "DialSquareModel", name := "isNameOf", desc := "(I)Z" } : Jvm.MethodName)) ∈ tables_1 := tm_6 (List.mem_of_getElem? (i := 35) rfl)
set_option maxRecDepth 20000 in
theorem w_1236 : (Jvm.Cond.instanceMethod ({ cls := "DialSquareModel", name := "isNameOf", desc := "(I)Z" } : Jvm.MethodName)) ∈ tables_1 := tm_6 (List.mem_of_getElem? (i := 36) rfl)
set_option maxRecDepth 20000 in
theorem w_1237 : (Jvm.Cond.code ({ cls := "DialSquareModel", name := "isNameOf", desc := "(I)Z" } : Jvm.MethodName) prog_14_method_31_code (4 : Nat) (Option.some Jvm.ClassFile.FieldType.boolean)) ∈ tables_1 := tm_6 (List.mem_of_getElem? (i := 37) rfl)
set_option maxRecDepth 20000 in
theorem w_1238 : (Jvm.Cond.methodLink "DialSquareModel" (154 : Nat) ({ cls := "DialSquareModel", name := "readsNumber", desc := "()V" } : Jvm.MethodName)) ∈ tables_1 := tm_6 (List.mem_of_getElem? (i := 38) rfl)
set_option maxRecDepth 20000 in
theorem w_1239 : (Jvm.Cond.privateMethod ({ cls := "DialSquareModel", name := "readsNumber", desc := "()V" } : Jvm.MethodName)) ∈ tables_1 := tm_6 (List.mem_of_getElem? (i := 39) rfl)
set_option maxRecDepth 20000 in
theorem w_1240 : (Jvm.Cond.instanceMethod ({ cls := "DialSquareModel", name := "readsNumber", desc := "()V" } : Jvm.MethodName)) ∈ tables_1 := tm_6 (List.mem_of_getElem? (i := 40) rfl)
set_option maxRecDepth 20000 in
theorem w_1241 : (Jvm.Cond.code ({ cls := "DialSquareModel", name := "readsNumber", desc := "()V" } : Jvm.MethodName) prog_14_method_33_code (1 : Nat) (Option.none : Option Jvm.ClassFile.FieldType)) ∈ tables_1 := tm_6 (List.mem_of_getElem? (i := 41) rfl)
set_option maxRecDepth 20000 in
theorem w_1242 : (Jvm.Cond.methodLink "DialSquareModel" (194 : Nat) ({ cls := "DialSquareModel", name := "readsRule", desc := "(I)Z" } : Jvm.MethodName)) ∈ tables_1 := tm_6 (List.mem_of_getElem? (i := 42) rfl)
set_option maxRecDepth 20000 in
theorem w_1243 : (Jvm.Cond.privateMethod ({ cls := "DialSquareModel", name := "readsRule", desc := "(I)Z" } : Jvm.MethodName)) ∈ tables_1 := tm_6 (List.mem_of_getElem? (i := 43) rfl)
set_option maxRecDepth 20000 in
theorem w_1244 : (Jvm.Cond.instanceMethod ({ cls := "DialSquareModel", name := "readsRule", desc := "(I)Z" } : Jvm.MethodName)) ∈ tables_1 := tm_6 (List.mem_of_getElem? (i := 44) rfl)
set_option maxRecDepth 20000 in
theorem w_1245 : (Jvm.Cond.code ({ cls := "DialSquareModel", name := "readsRule", desc := "(I)Z" } : Jvm.MethodName) prog_14_method_43_code (2 : Nat) (Option.some Jvm.ClassFile.FieldType.boolean)) ∈ tables_1 := tm_6 (List.mem_of_getElem? (i := 45) rfl)
set_option maxRecDepth 20000 in
theorem w_1246 : (Jvm.Cond.methodLink "DialSquareModel" (177 : Nat) ({ cls := "DialSquareModel", name := "takes", desc := "(I)Z" } : Jvm.MethodName)) ∈ tables_1 := tm_6 (List.mem_of_getElem? (i := 46) rfl)
set_option maxRecDepth 20000 in
theorem w_1247 : (Jvm.Cond.privateMethod ({ cls := "DialSquareModel", name := "takes", desc := "(I)Z" } : Jvm.MethodName)) ∈ tables_1 := tm_6 (List.mem_of_getElem? (i := 47) rfl)
set_option maxRecDepth 20000 in
theorem w_1248 : (Jvm.Cond.instanceMethod ({ cls := "DialSquareModel", name := "takes", desc := "(I)Z" } : Jvm.MethodName)) ∈ tables_1 := tm_6 (List.mem_of_getElem? (i := 48) rfl)
set_option maxRecDepth 20000 in
theorem w_1249 : (Jvm.Cond.code ({ cls := "DialSquareModel", name := "takes", desc := "(I)Z" } : Jvm.MethodName) prog_14_method_35_code (3 : Nat) (Option.some Jvm.ClassFile.FieldType.boolean)) ∈ tables_1 := tm_6 (List.mem_of_getElem? (i := 49) rfl)
set_option maxRecDepth 20000 in
theorem w_1250 : (Jvm.Cond.methodLink "DialSquareModel" (174 : Nat) ({ cls := "DialSquareModel", name := "readsCondition", desc := "()Z" } : Jvm.MethodName)) ∈ tables_1 := tm_6 (List.mem_of_getElem? (i := 50) rfl)
set_option maxRecDepth 20000 in
theorem w_1251 : (Jvm.Cond.privateMethod ({ cls := "DialSquareModel", name := "readsCondition", desc := "()Z" } : Jvm.MethodName)) ∈ tables_1 := tm_6 (List.mem_of_getElem? (i := 51) rfl)
set_option maxRecDepth 20000 in
theorem w_1252 : (Jvm.Cond.instanceMethod ({ cls := "DialSquareModel", name := "readsCondition", desc := "()Z" } : Jvm.MethodName)) ∈ tables_1 := tm_6 (List.mem_of_getElem? (i := 52) rfl)
set_option maxRecDepth 20000 in
theorem w_1253 : (Jvm.Cond.code ({ cls := "DialSquareModel", name := "readsCondition", desc := "()Z" } : Jvm.MethodName) prog_14_method_42_code (2 : Nat) (Option.some Jvm.ClassFile.FieldType.boolean)) ∈ tables_1 := tm_6 (List.mem_of_getElem? (i := 53) rfl)
set_option maxRecDepth 20000 in
theorem w_1254 : (Jvm.Cond.methodLink "DialSquareModel" (189 : Nat) ({ cls := "DialSquareModel", name := "readsAll", desc := "()Z" } : Jvm.MethodName)) ∈ tables_1 := tm_6 (List.mem_of_getElem? (i := 54) rfl)
set_option maxRecDepth 20000 in
theorem w_1255 : (Jvm.Cond.privateMethod ({ cls := "DialSquareModel", name := "readsAll", desc := "()Z" } : Jvm.MethodName)) ∈ tables_1 := tm_6 (List.mem_of_getElem? (i := 55) rfl)
set_option maxRecDepth 20000 in
theorem w_1256 : (Jvm.Cond.instanceMethod ({ cls := "DialSquareModel", name := "readsAll", desc := "()Z" } : Jvm.MethodName)) ∈ tables_1 := tm_6 (List.mem_of_getElem? (i := 56) rfl)
set_option maxRecDepth 20000 in
theorem w_1257 : (Jvm.Cond.code ({ cls := "DialSquareModel", name := "readsAll", desc := "()Z" } : Jvm.MethodName) prog_14_method_41_code (2 : Nat) (Option.some Jvm.ClassFile.FieldType.boolean)) ∈ tables_1 := tm_6 (List.mem_of_getElem? (i := 57) rfl)
set_option maxRecDepth 20000 in
theorem w_1258 : (Jvm.Cond.methodLink "DialSquareModel" (186 : Nat) ({ cls := "DialSquareModel", name := "readsOne", desc := "()Z" } : Jvm.MethodName)) ∈ tables_1 := tm_6 (List.mem_of_getElem? (i := 58) rfl)
set_option maxRecDepth 20000 in
theorem w_1259 : (Jvm.Cond.privateMethod ({ cls := "DialSquareModel", name := "readsOne", desc := "()Z" } : Jvm.MethodName)) ∈ tables_1 := tm_6 (List.mem_of_getElem? (i := 59) rfl)
set_option maxRecDepth 20000 in
theorem w_1260 : (Jvm.Cond.instanceMethod ({ cls := "DialSquareModel", name := "readsOne", desc := "()Z" } : Jvm.MethodName)) ∈ tables_1 := tm_6 (List.mem_of_getElem? (i := 60) rfl)
set_option maxRecDepth 20000 in
theorem w_1261 : (Jvm.Cond.code ({ cls := "DialSquareModel", name := "readsOne", desc := "()Z" } : Jvm.MethodName) prog_14_method_40_code (4 : Nat) (Option.some Jvm.ClassFile.FieldType.boolean)) ∈ tables_1 := tm_6 (List.mem_of_getElem? (i := 61) rfl)
set_option maxRecDepth 20000 in
theorem w_1262 : (Jvm.Cond.methodLink "DialSquareModel" (180 : Nat) ({ cls := "DialSquareModel", name := "readsWithin", desc := "()Z" } : Jvm.MethodName)) ∈ tables_1 := tm_6 (List.mem_of_getElem? (i := 62) rfl)
set_option maxRecDepth 20000 in
theorem w_1263 : (Jvm.Cond.privateMethod ({ cls := "DialSquareModel", name := "readsWithin", desc := "()Z" } : Jvm.MethodName)) ∈ tables_1 := tm_6 (List.mem_of_getElem? (i := 63) rfl)
set_option maxRecDepth 20000 in
theorem w_1264 : (Jvm.Cond.instanceMethod ({ cls := "DialSquareModel", name := "readsWithin", desc := "()Z" } : Jvm.MethodName)) ∈ tables_1 := tm_6 (List.mem_of_getElem? (i := 64) rfl)
set_option maxRecDepth 20000 in
theorem w_1265 : (Jvm.Cond.code ({ cls := "DialSquareModel", name := "readsWithin", desc := "()Z" } : Jvm.MethodName) prog_14_method_39_code (1 : Nat) (Option.some Jvm.ClassFile.FieldType.boolean)) ∈ tables_1 := tm_6 (List.mem_of_getElem? (i := 65) rfl)
set_option maxRecDepth 20000 in
theorem w_1266 : (Jvm.Cond.methodLink "DialSquareModel" (183 : Nat) ({ cls := "DialSquareModel", name := "readsLike", desc := "()Z" } : Jvm.MethodName)) ∈ tables_1 := tm_6 (List.mem_of_getElem? (i := 66) rfl)
set_option maxRecDepth 20000 in
theorem w_1267 : (Jvm.Cond.privateMethod ({ cls := "DialSquareModel", name := "readsLike", desc := "()Z" } : Jvm.MethodName)) ∈ tables_1 := tm_6 (List.mem_of_getElem? (i := 67) rfl)
set_option maxRecDepth 20000 in
theorem w_1268 : (Jvm.Cond.instanceMethod ({ cls := "DialSquareModel", name := "readsLike", desc := "()Z" } : Jvm.MethodName)) ∈ tables_1 := tm_6 (List.mem_of_getElem? (i := 68) rfl)
set_option maxRecDepth 20000 in
theorem w_1269 : (Jvm.Cond.code ({ cls := "DialSquareModel", name := "readsLike", desc := "()Z" } : Jvm.MethodName) prog_14_method_38_code (2 : Nat) (Option.some Jvm.ClassFile.FieldType.boolean)) ∈ tables_1 := tm_6 (List.mem_of_getElem? (i := 69) rfl)
set_option maxRecDepth 20000 in
theorem w_1270 : (Jvm.Cond.methodLink "DialSquareModel" (167 : Nat) ({ cls := "DialSquareModel", name := "readsValue", desc := "()Z" } : Jvm.MethodName)) ∈ tables_1 := tm_6 (List.mem_of_getElem? (i := 70) rfl)
set_option maxRecDepth 20000 in
theorem w_1271 : (Jvm.Cond.privateMethod ({ cls := "DialSquareModel", name := "readsValue", desc := "()Z" } : Jvm.MethodName)) ∈ tables_1 := tm_6 (List.mem_of_getElem? (i := 71) rfl)
set_option maxRecDepth 20000 in
theorem w_1272 : (Jvm.Cond.instanceMethod ({ cls := "DialSquareModel", name := "readsValue", desc := "()Z" } : Jvm.MethodName)) ∈ tables_1 := tm_6 (List.mem_of_getElem? (i := 72) rfl)
set_option maxRecDepth 20000 in
theorem w_1273 : (Jvm.Cond.code ({ cls := "DialSquareModel", name := "readsValue", desc := "()Z" } : Jvm.MethodName) prog_14_method_37_code (2 : Nat) (Option.some Jvm.ClassFile.FieldType.boolean)) ∈ tables_1 := tm_6 (List.mem_of_getElem? (i := 73) rfl)
set_option maxRecDepth 20000 in
theorem w_1274 : (Jvm.Cond.methodLink "DialSquareModel" (163 : Nat) ({ cls := "DialSquareModel", name := "lays", desc := "(I)V" } : Jvm.MethodName)) ∈ tables_1 := tm_6 (List.mem_of_getElem? (i := 74) rfl)
set_option maxRecDepth 20000 in
theorem w_1275 : (Jvm.Cond.privateMethod ({ cls := "DialSquareModel", name := "lays", desc := "(I)V" } : Jvm.MethodName)) ∈ tables_1 := tm_6 (List.mem_of_getElem? (i := 75) rfl)
set_option maxRecDepth 20000 in
theorem w_1276 : (Jvm.Cond.instanceMethod ({ cls := "DialSquareModel", name := "lays", desc := "(I)V" } : Jvm.MethodName)) ∈ tables_1 := tm_6 (List.mem_of_getElem? (i := 76) rfl)
set_option maxRecDepth 20000 in
theorem w_1277 : (Jvm.Cond.code ({ cls := "DialSquareModel", name := "lays", desc := "(I)V" } : Jvm.MethodName) prog_14_method_36_code (2 : Nat) (Option.none : Option Jvm.ClassFile.FieldType)) ∈ tables_1 := tm_6 (List.mem_of_getElem? (i := 77) rfl)
set_option maxRecDepth 20000 in
theorem w_1278 : (Jvm.Cond.methodLink "DialSquareLaw" (17 : Nat) ({ cls := "DialSquareModel", name := "dial", desc := "(IIII)I" } : Jvm.MethodName)) ∈ tables_1 := tm_6 (List.mem_of_getElem? (i := 78) rfl)
set_option maxRecDepth 20000 in
theorem w_1279 : (Jvm.Cond.instanceMethod ({ cls := "DialSquareModel", name := "dial", desc := "(IIII)I" } : Jvm.MethodName)) ∈ tables_1 := tm_6 (List.mem_of_getElem? (i := 79) rfl)
set_option maxRecDepth 20000 in
theorem w_1280 : (Jvm.Cond.selects "DialSquareModel" ({ cls := "DialSquareModel", name := "dial", desc := "(IIII)I" } : Jvm.MethodName) ({ cls := "DialSquareModel", name := "dial", desc := "(IIII)I" } : Jvm.MethodName)) ∈ tables_1 := tm_6 (List.mem_of_getElem? (i := 80) rfl)
set_option maxRecDepth 20000 in
theorem w_1281 : (Jvm.Cond.code ({ cls := "DialSquareModel", name := "dial", desc := "(IIII)I" } : Jvm.MethodName) prog_14_method_53_code (6 : Nat) (Option.some Jvm.ClassFile.FieldType.int)) ∈ tables_1 := tm_6 (List.mem_of_getElem? (i := 81) rfl)
set_option maxRecDepth 20000 in
theorem w_1282 : (Jvm.Cond.methodLink "DialSquareModel" (225 : Nat) ({ cls := "DialSquareModel", name := "isDigit", desc := "(I)Z" } : Jvm.MethodName)) ∈ tables_1 := tm_6 (List.mem_of_getElem? (i := 82) rfl)
set_option maxRecDepth 20000 in
theorem w_1283 : (Jvm.Cond.static ({ cls := "DialSquareModel", name := "isDigit", desc := "(I)Z" } : Jvm.MethodName)) ∈ tables_1 := tm_6 (List.mem_of_getElem? (i := 83) rfl)
set_option maxRecDepth 20000 in
theorem w_1284 : (Jvm.Cond.code ({ cls := "DialSquareModel", name := "isDigit", desc := "(I)Z" } : Jvm.MethodName) prog_14_method_51_code (1 : Nat) (Option.some Jvm.ClassFile.FieldType.boolean)) ∈ tables_1 := tm_6 (List.mem_of_getElem? (i := 84) rfl)
set_option maxRecDepth 20000 in
theorem w_1285 : (Jvm.Cond.methodLink "DialSquareModel" (228 : Nat) ({ cls := "DialSquareModel", name := "isSpot", desc := "(I)Z" } : Jvm.MethodName)) ∈ tables_1 := tm_6 (List.mem_of_getElem? (i := 85) rfl)
set_option maxRecDepth 20000 in
theorem w_1286 : (Jvm.Cond.static ({ cls := "DialSquareModel", name := "isSpot", desc := "(I)Z" } : Jvm.MethodName)) ∈ tables_1 := tm_6 (List.mem_of_getElem? (i := 86) rfl)
set_option maxRecDepth 20000 in
theorem w_1287 : (Jvm.Cond.code ({ cls := "DialSquareModel", name := "isSpot", desc := "(I)Z" } : Jvm.MethodName) prog_14_method_52_code (1 : Nat) (Option.some Jvm.ClassFile.FieldType.boolean)) ∈ tables_1 := tm_6 (List.mem_of_getElem? (i := 87) rfl)
set_option maxRecDepth 20000 in
theorem w_1288 : (Jvm.Cond.methodLink "DialSquareModel" (197 : Nat) ({ cls := "DialSquareModel", name := "puts", desc := "(III)V" } : Jvm.MethodName)) ∈ tables_1 := tm_6 (List.mem_of_getElem? (i := 88) rfl)
set_option maxRecDepth 20000 in
theorem w_1289 : (Jvm.Cond.privateMethod ({ cls := "DialSquareModel", name := "puts", desc := "(III)V" } : Jvm.MethodName)) ∈ tables_1 := tm_6 (List.mem_of_getElem? (i := 89) rfl)
set_option maxRecDepth 20000 in
theorem w_1290 : (Jvm.Cond.instanceMethod ({ cls := "DialSquareModel", name := "puts", desc := "(III)V" } : Jvm.MethodName)) ∈ tables_1 := tm_6 (List.mem_of_getElem? (i := 90) rfl)
set_option maxRecDepth 20000 in
theorem w_1291 : (Jvm.Cond.code ({ cls := "DialSquareModel", name := "puts", desc := "(III)V" } : Jvm.MethodName) prog_14_method_7_code (4 : Nat) (Option.none : Option Jvm.ClassFile.FieldType)) ∈ tables_1 := tm_6 (List.mem_of_getElem? (i := 91) rfl)
set_option maxRecDepth 20000 in
theorem w_1292 : (Jvm.Cond.methodLink "DialSquareLaw" (22 : Nat) ({ cls := "DialSquareModel", name := "dialOf", desc := "(II)I" } : Jvm.MethodName)) ∈ tables_1 := tm_6 (List.mem_of_getElem? (i := 92) rfl)
set_option maxRecDepth 20000 in
theorem w_1293 : (Jvm.Cond.instanceMethod ({ cls := "DialSquareModel", name := "dialOf", desc := "(II)I" } : Jvm.MethodName)) ∈ tables_1 := tm_6 (List.mem_of_getElem? (i := 93) rfl)
set_option maxRecDepth 20000 in
theorem w_1294 : (Jvm.Cond.selects "DialSquareModel" ({ cls := "DialSquareModel", name := "dialOf", desc := "(II)I" } : Jvm.MethodName) ({ cls := "DialSquareModel", name := "dialOf", desc := "(II)I" } : Jvm.MethodName)) ∈ tables_1 := tm_6 (List.mem_of_getElem? (i := 94) rfl)
set_option maxRecDepth 20000 in
theorem w_1295 : (Jvm.Cond.code ({ cls := "DialSquareModel", name := "dialOf", desc := "(II)I" } : Jvm.MethodName) prog_14_method_54_code (3 : Nat) (Option.some Jvm.ClassFile.FieldType.int)) ∈ tables_1 := tm_6 (List.mem_of_getElem? (i := 95) rfl)
set_option maxRecDepth 20000 in
theorem w_1296 : (Jvm.Cond.methodLink "DialSquareModel" (231 : Nat) ({ cls := "DialSquareModel", name := "isDial", desc := "(I)Z" } : Jvm.MethodName)) ∈ tables_1 := tm_6 (List.mem_of_getElem? (i := 96) rfl)
set_option maxRecDepth 20000 in
theorem w_1297 : (Jvm.Cond.privateMethod ({ cls := "DialSquareModel", name := "isDial", desc := "(I)Z" } : Jvm.MethodName)) ∈ tables_1 := tm_6 (List.mem_of_getElem? (i := 97) rfl)
set_option maxRecDepth 20000 in
theorem w_1298 : (Jvm.Cond.instanceMethod ({ cls := "DialSquareModel", name := "isDial", desc := "(I)Z" } : Jvm.MethodName)) ∈ tables_1 := tm_6 (List.mem_of_getElem? (i := 98) rfl)
set_option maxRecDepth 20000 in
theorem w_1299 : (Jvm.Cond.code ({ cls := "DialSquareModel", name := "isDial", desc := "(I)Z" } : Jvm.MethodName) prog_14_method_8_code (2 : Nat) (Option.some Jvm.ClassFile.FieldType.boolean)) ∈ tables_1 := tm_6 (List.mem_of_getElem? (i := 99) rfl)
set_option maxRecDepth 20000 in
theorem w_1300 : (Jvm.Cond.methodLink "DialSquareModel" (91 : Nat) ({ cls := "DialSquareModel", name := "shadesOf", desc := "(I)I" } : Jvm.MethodName)) ∈ tables_1 := tm_6 (List.mem_of_getElem? (i := 100) rfl)
set_option maxRecDepth 20000 in
theorem w_1301 : (Jvm.Cond.privateMethod ({ cls := "DialSquareModel", name := "shadesOf", desc := "(I)I" } : Jvm.MethodName)) ∈ tables_1 := tm_6 (List.mem_of_getElem? (i := 101) rfl)
set_option maxRecDepth 20000 in
theorem w_1302 : (Jvm.Cond.instanceMethod ({ cls := "DialSquareModel", name := "shadesOf", desc := "(I)I" } : Jvm.MethodName)) ∈ tables_1 := tm_6 (List.mem_of_getElem? (i := 102) rfl)
set_option maxRecDepth 20000 in
theorem w_1303 : (Jvm.Cond.code ({ cls := "DialSquareModel", name := "shadesOf", desc := "(I)I" } : Jvm.MethodName) prog_14_method_17_code (2 : Nat) (Option.some Jvm.ClassFile.FieldType.int)) ∈ tables_1 := tm_6 (List.mem_of_getElem? (i := 103) rfl)
set_option maxRecDepth 20000 in
theorem w_1304 : (Jvm.Cond.methodLink "DialSquareModel" (79 : Nat) ({ cls := "DialSquareModel", name := "get", desc := "(II)I" } : Jvm.MethodName)) ∈ tables_1 := tm_6 (List.mem_of_getElem? (i := 104) rfl)
set_option maxRecDepth 20000 in
theorem w_1305 : (Jvm.Cond.privateMethod ({ cls := "DialSquareModel", name := "get", desc := "(II)I" } : Jvm.MethodName)) ∈ tables_1 := tm_6 (List.mem_of_getElem? (i := 105) rfl)
set_option maxRecDepth 20000 in
theorem w_1306 : (Jvm.Cond.instanceMethod ({ cls := "DialSquareModel", name := "get", desc := "(II)I" } : Jvm.MethodName)) ∈ tables_1 := tm_6 (List.mem_of_getElem? (i := 106) rfl)
set_option maxRecDepth 20000 in
theorem w_1307 : (Jvm.Cond.code ({ cls := "DialSquareModel", name := "get", desc := "(II)I" } : Jvm.MethodName) prog_14_method_6_code (3 : Nat) (Option.some Jvm.ClassFile.FieldType.int)) ∈ tables_1 := tm_6 (List.mem_of_getElem? (i := 107) rfl)
set_option maxRecDepth 20000 in
theorem w_1308 : (Jvm.Cond.methodLink "DialSquareModel" (83 : Nat) ({ cls := "DialSquareModel", name := "skyNow", desc := "()I" } : Jvm.MethodName)) ∈ tables_1 := tm_6 (List.mem_of_getElem? (i := 108) rfl)
set_option maxRecDepth 20000 in
theorem w_1309 : (Jvm.Cond.privateMethod ({ cls := "DialSquareModel", name := "skyNow", desc := "()I" } : Jvm.MethodName)) ∈ tables_1 := tm_6 (List.mem_of_getElem? (i := 109) rfl)
set_option maxRecDepth 20000 in
theorem w_1310 : (Jvm.Cond.instanceMethod ({ cls := "DialSquareModel", name := "skyNow", desc := "()I" } : Jvm.MethodName)) ∈ tables_1 := tm_6 (List.mem_of_getElem? (i := 110) rfl)
set_option maxRecDepth 20000 in
theorem w_1311 : (Jvm.Cond.code ({ cls := "DialSquareModel", name := "skyNow", desc := "()I" } : Jvm.MethodName) prog_14_method_16_code (1 : Nat) (Option.some Jvm.ClassFile.FieldType.int)) ∈ tables_1 := tm_6 (List.mem_of_getElem? (i := 111) rfl)
set_option maxRecDepth 20000 in
theorem w_1312 : (Jvm.Cond.methodLink "DialSquareModel" (87 : Nat) ({ cls := "DialSquareModel", name := "shadesBy", desc := "(III)I" } : Jvm.MethodName)) ∈ tables_1 := tm_6 (List.mem_of_getElem? (i := 112) rfl)
set_option maxRecDepth 20000 in
theorem w_1313 : (Jvm.Cond.static ({ cls := "DialSquareModel", name := "shadesBy", desc := "(III)I" } : Jvm.MethodName)) ∈ tables_1 := tm_6 (List.mem_of_getElem? (i := 113) rfl)
set_option maxRecDepth 20000 in
theorem w_1314 : (Jvm.Cond.code ({ cls := "DialSquareModel", name := "shadesBy", desc := "(III)I" } : Jvm.MethodName) prog_14_method_14_code (3 : Nat) (Option.some Jvm.ClassFile.FieldType.int)) ∈ tables_1 := tm_6 (List.mem_of_getElem? (i := 114) rfl)
set_option maxRecDepth 20000 in
theorem w_1315 : (Jvm.Cond.methodLink "DialSquareModel" (219 : Nat) ({ cls := "DialSquareModel", name := "slipsOf", desc := "(I)I" } : Jvm.MethodName)) ∈ tables_1 := tm_6 (List.mem_of_getElem? (i := 115) rfl)
set_option maxRecDepth 20000 in
theorem w_1316 : (Jvm.Cond.privateMethod ({ cls := "DialSquareModel", name := "slipsOf", desc := "(I)I" } : Jvm.MethodName)) ∈ tables_1 := tm_6 (List.mem_of_getElem? (i := 116) rfl)
set_option maxRecDepth 20000 in
theorem w_1317 : (Jvm.Cond.instanceMethod ({ cls := "DialSquareModel", name := "slipsOf", desc := "(I)I" } : Jvm.MethodName)) ∈ tables_1 := tm_6 (List.mem_of_getElem? (i := 117) rfl)
set_option maxRecDepth 20000 in
theorem w_1318 : (Jvm.Cond.code ({ cls := "DialSquareModel", name := "slipsOf", desc := "(I)I" } : Jvm.MethodName) prog_14_method_19_code (2 : Nat) (Option.some Jvm.ClassFile.FieldType.int)) ∈ tables_1 := tm_6 (List.mem_of_getElem? (i := 118) rfl)
set_option maxRecDepth 20000 in
theorem w_1319 : (Jvm.Cond.methodLink "DialSquareModel" (94 : Nat) ({ cls := "DialSquareModel", name := "shadeAt", desc := "(I)I" } : Jvm.MethodName)) ∈ tables_1 := tm_6 (List.mem_of_getElem? (i := 119) rfl)
set_option maxRecDepth 20000 in
theorem w_1320 : (Jvm.Cond.privateMethod ({ cls := "DialSquareModel", name := "shadeAt", desc := "(I)I" } : Jvm.MethodName)) ∈ tables_1 := tm_6 (List.mem_of_getElem? (i := 120) rfl)
set_option maxRecDepth 20000 in
theorem w_1321 : (Jvm.Cond.instanceMethod ({ cls := "DialSquareModel", name := "shadeAt", desc := "(I)I" } : Jvm.MethodName)) ∈ tables_1 := tm_6 (List.mem_of_getElem? (i := 121) rfl)
set_option maxRecDepth 20000 in
theorem w_1322 : (Jvm.Cond.code ({ cls := "DialSquareModel", name := "shadeAt", desc := "(I)I" } : Jvm.MethodName) prog_14_method_18_code (4 : Nat) (Option.some Jvm.ClassFile.FieldType.int)) ∈ tables_1 := tm_6 (List.mem_of_getElem? (i := 122) rfl)
set_option maxRecDepth 20000 in
theorem w_1323 : (Jvm.Cond.methodLink "DialSquareModel" (97 : Nat) ({ cls := "DialSquareModel", name := "slipsBy", desc := "(III)I" } : Jvm.MethodName)) ∈ tables_1 := tm_6 (List.mem_of_getElem? (i := 123) rfl)
set_option maxRecDepth 20000 in
theorem w_1324 : (Jvm.Cond.static ({ cls := "DialSquareModel", name := "slipsBy", desc := "(III)I" } : Jvm.MethodName)) ∈ tables_1 := tm_6 (List.mem_of_getElem? (i := 124) rfl)
set_option maxRecDepth 20000 in
theorem w_1325 : (Jvm.Cond.code ({ cls := "DialSquareModel", name := "slipsBy", desc := "(III)I" } : Jvm.MethodName) prog_14_method_15_code (6 : Nat) (Option.some Jvm.ClassFile.FieldType.int)) ∈ tables_1 := tm_6 (List.mem_of_getElem? (i := 125) rfl)
set_option maxRecDepth 20000 in
theorem w_1326 : (Jvm.Cond.methodLink "DialSquareModel" (103 : Nat) ({ cls := "DialSquareModel", name := "paysOf", desc := "(I)I" } : Jvm.MethodName)) ∈ tables_1 := tm_6 (List.mem_of_getElem? (i := 126) rfl)
set_option maxRecDepth 20000 in
theorem w_1327 : (Jvm.Cond.privateMethod ({ cls := "DialSquareModel", name := "paysOf", desc := "(I)I" } : Jvm.MethodName)) ∈ tables_1 := tm_6 (List.mem_of_getElem? (i := 127) rfl)
set_option maxRecDepth 20000 in
theorem w_1328 : (Jvm.Cond.instanceMethod ({ cls := "DialSquareModel", name := "paysOf", desc := "(I)I" } : Jvm.MethodName)) ∈ tables_1 := tm_6 (List.mem_of_getElem? (i := 128) rfl)
set_option maxRecDepth 20000 in
theorem w_1329 : (Jvm.Cond.code ({ cls := "DialSquareModel", name := "paysOf", desc := "(I)I" } : Jvm.MethodName) prog_14_method_20_code (3 : Nat) (Option.some Jvm.ClassFile.FieldType.int)) ∈ tables_1 := tm_6 (List.mem_of_getElem? (i := 129) rfl)
set_option maxRecDepth 20000 in
theorem w_1330 : (Jvm.Cond.methodLink "DialSquareModel" (207 : Nat) ({ cls := "DialSquareModel", name := "maySet", desc := "(I)Z" } : Jvm.MethodName)) ∈ tables_1 := tm_6 (List.mem_of_getElem? (i := 130) rfl)
set_option maxRecDepth 20000 in
theorem w_1331 : (Jvm.Cond.privateMethod ({ cls := "DialSquareModel", name := "maySet", desc := "(I)Z" } : Jvm.MethodName)) ∈ tables_1 := tm_6 (List.mem_of_getElem? (i := 131) rfl)
set_option maxRecDepth 20000 in
theorem w_1332 : (Jvm.Cond.instanceMethod ({ cls := "DialSquareModel", name := "maySet", desc := "(I)Z" } : Jvm.MethodName)) ∈ tables_1 := tm_6 (List.mem_of_getElem? (i := 132) rfl)
set_option maxRecDepth 20000 in
theorem w_1333 : (Jvm.Cond.code ({ cls := "DialSquareModel", name := "maySet", desc := "(I)Z" } : Jvm.MethodName) prog_14_method_21_code (2 : Nat) (Option.some Jvm.ClassFile.FieldType.boolean)) ∈ tables_1 := tm_6 (List.mem_of_getElem? (i := 133) rfl)
set_option maxRecDepth 20000 in
theorem w_1334 : (Jvm.Cond.methodLink "DialSquareModel" (100 : Nat) ({ cls := "DialSquareModel", name := "willOf", desc := "(I)I" } : Jvm.MethodName)) ∈ tables_1 := tm_6 (List.mem_of_getElem? (i := 134) rfl)
set_option maxRecDepth 20000 in
theorem w_1335 : (Jvm.Cond.privateMethod ({ cls := "DialSquareModel", name := "willOf", desc := "(I)I" } : Jvm.MethodName)) ∈ tables_1 := tm_6 (List.mem_of_getElem? (i := 135) rfl)
set_option maxRecDepth 20000 in
theorem w_1336 : (Jvm.Cond.instanceMethod ({ cls := "DialSquareModel", name := "willOf", desc := "(I)I" } : Jvm.MethodName)) ∈ tables_1 := tm_6 (List.mem_of_getElem? (i := 136) rfl)
set_option maxRecDepth 20000 in
theorem w_1337 : (Jvm.Cond.code ({ cls := "DialSquareModel", name := "willOf", desc := "(I)I" } : Jvm.MethodName) prog_14_method_29_code (3 : Nat) (Option.some Jvm.ClassFile.FieldType.int)) ∈ tables_1 := tm_6 (List.mem_of_getElem? (i := 137) rfl)
set_option maxRecDepth 20000 in
theorem w_1338 : (Jvm.Cond.methodLink "DialSquareModel" (113 : Nat) ({ cls := "DialSquareModel", name := "ruleOf", desc := "(II)I" } : Jvm.MethodName)) ∈ tables_1 := tm_6 (List.mem_of_getElem? (i := 138) rfl)
set_option maxRecDepth 20000 in
theorem w_1339 : (Jvm.Cond.privateMethod ({ cls := "DialSquareModel", name := "ruleOf", desc := "(II)I" } : Jvm.MethodName)) ∈ tables_1 := tm_6 (List.mem_of_getElem? (i := 139) rfl)
set_option maxRecDepth 20000 in
theorem w_1340 : (Jvm.Cond.instanceMethod ({ cls := "DialSquareModel", name := "ruleOf", desc := "(II)I" } : Jvm.MethodName)) ∈ tables_1 := tm_6 (List.mem_of_getElem? (i := 140) rfl)
set_option maxRecDepth 20000 in
theorem w_1341 : (Jvm.Cond.code ({ cls := "DialSquareModel", name := "ruleOf", desc := "(II)I" } : Jvm.MethodName) prog_14_method_27_code (3 : Nat) (Option.some Jvm.ClassFile.FieldType.int)) ∈ tables_1 := tm_6 (List.mem_of_getElem? (i := 141) rfl)
set_option maxRecDepth 20000 in
theorem w_1342 : (Jvm.Cond.methodLink "DialSquareModel" (122 : Nat) ({ cls := "DialSquareModel", name := "isUnder", desc := "(II)Z" } : Jvm.MethodName)) ∈ tables_1 := tm_6 (List.mem_of_getElem? (i := 142) rfl)
set_option maxRecDepth 20000 in
theorem w_1343 : (Jvm.Cond.static ({ cls := "DialSquareModel", name := "isUnder", desc := "(II)Z" } : Jvm.MethodName)) ∈ tables_1 := tm_6 (List.mem_of_getElem? (i := 143) rfl)
set_option maxRecDepth 20000 in
theorem w_1344 : (Jvm.Cond.code ({ cls := "DialSquareModel", name := "isUnder", desc := "(II)Z" } : Jvm.MethodName) prog_14_method_13_code (3 : Nat) (Option.some Jvm.ClassFile.FieldType.boolean)) ∈ tables_1 := tm_6 (List.mem_of_getElem? (i := 144) rfl)
set_option maxRecDepth 20000 in
theorem w_1345 : (Jvm.Cond.methodLink "DialSquareModel" (75 : Nat) ({ cls := "DialSquareModel", name := "above", desc := "(I)I" } : Jvm.MethodName)) ∈ tables_1 := tm_6 (List.mem_of_getElem? (i := 145) rfl)
set_option maxRecDepth 20000 in
theorem w_1346 : (Jvm.Cond.static ({ cls := "DialSquareModel", name := "above", desc := "(I)I" } : Jvm.MethodName)) ∈ tables_1 := tm_6 (List.mem_of_getElem? (i := 146) rfl)
set_option maxRecDepth 20000 in
theorem w_1347 : (Jvm.Cond.code ({ cls := "DialSquareModel", name := "above", desc := "(I)I" } : Jvm.MethodName) prog_14_method_12_code (1 : Nat) (Option.some Jvm.ClassFile.FieldType.int)) ∈ tables_1 := tm_6 (List.mem_of_getElem? (i := 147) rfl)
set_option maxRecDepth 20000 in
theorem w_1348 : (Jvm.Cond.methodLink "DialSquareModel" (125 : Nat) ({ cls := "DialSquareModel", name := "holdsFor", desc := "(II)Z" } : Jvm.MethodName)) ∈ tables_1 := tm_6 (List.mem_of_getElem? (i := 148) rfl)
set_option maxRecDepth 20000 in
theorem w_1349 : (Jvm.Cond.privateMethod ({ cls := "DialSquareModel", name := "holdsFor", desc := "(II)Z" } : Jvm.MethodName)) ∈ tables_1 := tm_6 (List.mem_of_getElem? (i := 149) rfl)
set_option maxRecDepth 20000 in
theorem w_1350 : (Jvm.Cond.instanceMethod ({ cls := "DialSquareModel", name := "holdsFor", desc := "(II)Z" } : Jvm.MethodName)) ∈ tables_1 := tm_6 (List.mem_of_getElem? (i := 150) rfl)
set_option maxRecDepth 20000 in
theorem w_1351 : (Jvm.Cond.code ({ cls := "DialSquareModel", name := "holdsFor", desc := "(II)Z" } : Jvm.MethodName) prog_14_method_28_code (6 : Nat) (Option.some Jvm.ClassFile.FieldType.boolean)) ∈ tables_1 := tm_6 (List.mem_of_getElem? (i := 151) rfl)
set_option maxRecDepth 20000 in
theorem w_1352 : (Jvm.Cond.methodLink "DialSquareModel" (116 : Nat) ({ cls := "DialSquareModel", name := "knownOf", desc := "(II)I" } : Jvm.MethodName)) ∈ tables_1 := tm_6 (List.mem_of_getElem? (i := 152) rfl)
set_option maxRecDepth 20000 in
theorem w_1353 : (Jvm.Cond.privateMethod ({ cls := "DialSquareModel", name := "knownOf", desc := "(II)I" } : Jvm.MethodName)) ∈ tables_1 := tm_6 (List.mem_of_getElem? (i := 153) rfl)
set_option maxRecDepth 20000 in
theorem w_1354 : (Jvm.Cond.instanceMethod ({ cls := "DialSquareModel", name := "knownOf", desc := "(II)I" } : Jvm.MethodName)) ∈ tables_1 := tm_6 (List.mem_of_getElem? (i := 154) rfl)
set_option maxRecDepth 20000 in
theorem w_1355 : (Jvm.Cond.code ({ cls := "DialSquareModel", name := "knownOf", desc := "(II)I" } : Jvm.MethodName) prog_14_method_25_code (3 : Nat) (Option.some Jvm.ClassFile.FieldType.int)) ∈ tables_1 := tm_6 (List.mem_of_getElem? (i := 155) rfl)
set_option maxRecDepth 20000 in
theorem w_1356 : (Jvm.Cond.methodLink "DialSquareModel" (119 : Nat) ({ cls := "DialSquareModel", name := "joined", desc := "(III)I" } : Jvm.MethodName)) ∈ tables_1 := tm_6 (List.mem_of_getElem? (i := 156) rfl)
set_option maxRecDepth 20000 in
theorem w_1357 : (Jvm.Cond.static ({ cls := "DialSquareModel", name := "joined", desc := "(III)I" } : Jvm.MethodName)) ∈ tables_1 := tm_6 (List.mem_of_getElem? (i := 157) rfl)
set_option maxRecDepth 20000 in
theorem w_1358 : (Jvm.Cond.code ({ cls := "DialSquareModel", name := "joined", desc := "(III)I" } : Jvm.MethodName) prog_14_method_26_code (3 : Nat) (Option.some Jvm.ClassFile.FieldType.int)) ∈ tables_1 := tm_6 (List.mem_of_getElem? (i := 158) rfl)
set_option maxRecDepth 20000 in
theorem w_1359 : (Jvm.Cond.methodLink "DialSquareLaw" (27 : Nat) ({ cls := "DialSquareModel", name := "change", desc := "(III)I" } : Jvm.MethodName)) ∈ tables_1 := tm_6 (List.mem_of_getElem? (i := 159) rfl)
set_option maxRecDepth 20000 in
theorem w_1360 : (Jvm.Cond.instanceMethod ({ cls := "DialSquareModel", name := "change", desc := "(III)I" } : Jvm.MethodName)) ∈ tables_1 := tm_6 (List.mem_of_getElem? (i := 160) rfl)
set_option maxRecDepth 20000 in
theorem w_1361 : (Jvm.Cond.selects "DialSquareModel" ({ cls := "DialSquareModel", name := "change", desc := "(III)I" } : Jvm.MethodName) ({ cls := "DialSquareModel", name := "change", desc := "(III)I" } : Jvm.MethodName)) ∈ tables_1 := tm_6 (List.mem_of_getElem? (i := 161) rfl)
set_option maxRecDepth 20000 in
theorem w_1362 : (Jvm.Cond.code ({ cls := "DialSquareModel", name := "change", desc := "(III)I" } : Jvm.MethodName) prog_14_method_55_code (5 : Nat) (Option.some Jvm.ClassFile.FieldType.int)) ∈ tables_1 := tm_6 (List.mem_of_getElem? (i := 162) rfl)
set_option maxRecDepth 20000 in
theorem w_1363 : (Jvm.Cond.methodLink "DialSquareModel" (234 : Nat) ({ cls := "DialSquareModel", name := "becomes", desc := "(II)I" } : Jvm.MethodName)) ∈ tables_1 := tm_6 (List.mem_of_getElem? (i := 163) rfl)
set_option maxRecDepth 20000 in
theorem w_1364 : (Jvm.Cond.privateMethod ({ cls := "DialSquareModel", name := "becomes", desc := "(II)I" } : Jvm.MethodName)) ∈ tables_1 := tm_6 (List.mem_of_getElem? (i := 164) rfl)
set_option maxRecDepth 20000 in
theorem w_1365 : (Jvm.Cond.instanceMethod ({ cls := "DialSquareModel", name := "becomes", desc := "(II)I" } : Jvm.MethodName)) ∈ tables_1 := tm_6 (List.mem_of_getElem? (i := 165) rfl)
set_option maxRecDepth 20000 in
theorem w_1366 : (Jvm.Cond.code ({ cls := "DialSquareModel", name := "becomes", desc := "(II)I" } : Jvm.MethodName) prog_14_method_11_code (4 : Nat) (Option.some Jvm.ClassFile.FieldType.int)) ∈ tables_1 := tm_6 (List.mem_of_getElem? (i := 166) rfl)
set_option maxRecDepth 20000 in
theorem w_1367 : (Jvm.Cond.methodLink "DialSquareLaw" (31 : Nat) ({ cls := "DialSquareModel", name := "remake", desc := "(II)I" } : Jvm.MethodName)) ∈ tables_1 := tm_6 (List.mem_of_getElem? (i := 167) rfl)
set_option maxRecDepth 20000 in
theorem w_1368 : (Jvm.Cond.instanceMethod ({ cls := "DialSquareModel", name := "remake", desc := "(II)I" } : Jvm.MethodName)) ∈ tables_1 := tm_6 (List.mem_of_getElem? (i := 168) rfl)
set_option maxRecDepth 20000 in
theorem w_1369 : (Jvm.Cond.selects "DialSquareModel" ({ cls := "DialSquareModel", name := "remake", desc := "(II)I" } : Jvm.MethodName) ({ cls := "DialSquareModel", name := "remake", desc := "(II)I" } : Jvm.MethodName)) ∈ tables_1 := tm_6 (List.mem_of_getElem? (i := 169) rfl)
set_option maxRecDepth 20000 in
theorem w_1370 : (Jvm.Cond.code ({ cls := "DialSquareModel", name := "remake", desc := "(II)I" } : Jvm.MethodName) prog_14_method_56_code (3 : Nat) (Option.some Jvm.ClassFile.FieldType.int)) ∈ tables_1 := tm_6 (List.mem_of_getElem? (i := 170) rfl)
set_option maxRecDepth 20000 in
theorem w_1371 : (Jvm.Cond.methodLink "DialSquareLaw" (35 : Nat) ({ cls := "DialSquareModel", name := "sky", desc := "(II)I" } : Jvm.MethodName)) ∈ tables_1 := tm_6 (List.mem_of_getElem? (i := 171) rfl)
set_option maxRecDepth 20000 in
theorem w_1372 : (Jvm.Cond.instanceMethod ({ cls := "DialSquareModel", name := "sky", desc := "(II)I" } : Jvm.MethodName)) ∈ tables_1 := tm_6 (List.mem_of_getElem? (i := 172) rfl)
set_option maxRecDepth 20000 in
theorem w_1373 : (Jvm.Cond.selects "DialSquareModel" ({ cls := "DialSquareModel", name := "sky", desc := "(II)I" } : Jvm.MethodName) ({ cls := "DialSquareModel", name := "sky", desc := "(II)I" } : Jvm.MethodName)) ∈ tables_1 := tm_6 (List.mem_of_getElem? (i := 173) rfl)
set_option maxRecDepth 20000 in
theorem w_1374 : (Jvm.Cond.code ({ cls := "DialSquareModel", name := "sky", desc := "(II)I" } : Jvm.MethodName) prog_14_method_57_code (3 : Nat) (Option.some Jvm.ClassFile.FieldType.int)) ∈ tables_1 := tm_6 (List.mem_of_getElem? (i := 174) rfl)
set_option maxRecDepth 20000 in
theorem w_1375 : (Jvm.Cond.methodLink "DialSquareLaw" (39 : Nat) ({ cls := "DialSquareModel", name := "spot", desc := "(III)I" } : Jvm.MethodName)) ∈ tables_1 := tm_6 (List.mem_of_getElem? (i := 175) rfl)
set_option maxRecDepth 20000 in
theorem w_1376 : (Jvm.Cond.instanceMethod ({ cls := "DialSquareModel", name := "spot", desc := "(III)I" } : Jvm.MethodName)) ∈ tables_1 := tm_6 (List.mem_of_getElem? (i := 176) rfl)
set_option maxRecDepth 20000 in
theorem w_1377 : (Jvm.Cond.selects "DialSquareModel" ({ cls := "DialSquareModel", name := "spot", desc := "(III)I" } : Jvm.MethodName) ({ cls := "DialSquareModel", name := "spot", desc := "(III)I" } : Jvm.MethodName)) ∈ tables_1 := tm_6 (List.mem_of_getElem? (i := 177) rfl)
set_option maxRecDepth 20000 in
theorem w_1378 : (Jvm.Cond.code ({ cls := "DialSquareModel", name := "spot", desc := "(III)I" } : Jvm.MethodName) prog_14_method_58_code (4 : Nat) (Option.some Jvm.ClassFile.FieldType.int)) ∈ tables_1 := tm_6 (List.mem_of_getElem? (i := 178) rfl)
set_option maxRecDepth 20000 in
theorem w_1379 : (Jvm.Cond.methodLink "DialSquareLaw" (43 : Nat) ({ cls := "DialSquareModel", name := "spotOf", desc := "(II)I" } : Jvm.MethodName)) ∈ tables_1 := tm_6 (List.mem_of_getElem? (i := 179) rfl)
set_option maxRecDepth 20000 in
theorem w_1380 : (Jvm.Cond.instanceMethod ({ cls := "DialSquareModel", name := "spotOf", desc := "(II)I" } : Jvm.MethodName)) ∈ tables_1 := tm_6 (List.mem_of_getElem? (i := 180) rfl)
set_option maxRecDepth 20000 in
theorem w_1381 : (Jvm.Cond.selects "DialSquareModel" ({ cls := "DialSquareModel", name := "spotOf", desc := "(II)I" } : Jvm.MethodName) ({ cls := "DialSquareModel", name := "spotOf", desc := "(II)I" } : Jvm.MethodName)) ∈ tables_1 := tm_6 (List.mem_of_getElem? (i := 181) rfl)
set_option maxRecDepth 20000 in
theorem w_1382 : (Jvm.Cond.code ({ cls := "DialSquareModel", name := "spotOf", desc := "(II)I" } : Jvm.MethodName) prog_14_method_59_code (3 : Nat) (Option.some Jvm.ClassFile.FieldType.int)) ∈ tables_1 := tm_6 (List.mem_of_getElem? (i := 182) rfl)
set_option maxRecDepth 20000 in
theorem w_1383 : (Jvm.Cond.methodLink "DialSquareLaw" (48 : Nat) ({ cls := "DialSquareModel", name := "ends", desc := "(I)I" } : Jvm.MethodName)) ∈ tables_1 := tm_6 (List.mem_of_getElem? (i := 183) rfl)
set_option maxRecDepth 20000 in
theorem w_1384 : (Jvm.Cond.instanceMethod ({ cls := "DialSquareModel", name := "ends", desc := "(I)I" } : Jvm.MethodName)) ∈ tables_1 := tm_6 (List.mem_of_getElem? (i := 184) rfl)
set_option maxRecDepth 20000 in
theorem w_1385 : (Jvm.Cond.selects "DialSquareModel" ({ cls := "DialSquareModel", name := "ends", desc := "(I)I" } : Jvm.MethodName) ({ cls := "DialSquareModel", name := "ends", desc := "(I)I" } : Jvm.MethodName)) ∈ tables_1 := tm_6 (List.mem_of_getElem? (i := 185) rfl)
set_option maxRecDepth 20000 in
theorem w_1386 : (Jvm.Cond.code ({ cls := "DialSquareModel", name := "ends", desc := "(I)I" } : Jvm.MethodName) prog_14_method_60_code (2 : Nat) (Option.some Jvm.ClassFile.FieldType.int)) ∈ tables_1 := tm_6 (List.mem_of_getElem? (i := 186) rfl)
set_option maxRecDepth 20000 in
theorem w_1387 : (Jvm.Cond.methodLink "DialSquareLaw" (53 : Nat) ({ cls := "DialSquareModel", name := "anew", desc := "()I" } : Jvm.MethodName)) ∈ tables_1 := tm_6 (List.mem_of_getElem? (i := 187) rfl)
set_option maxRecDepth 20000 in
theorem w_1388 : (Jvm.Cond.instanceMethod ({ cls := "DialSquareModel", name := "anew", desc := "()I" } : Jvm.MethodName)) ∈ tables_1 := tm_6 (List.mem_of_getElem? (i := 188) rfl)
set_option maxRecDepth 20000 in
theorem w_1389 : (Jvm.Cond.selects "DialSquareModel" ({ cls := "DialSquareModel", name := "anew", desc := "()I" } : Jvm.MethodName) ({ cls := "DialSquareModel", name := "anew", desc := "()I" } : Jvm.MethodName)) ∈ tables_1 := tm_6 (List.mem_of_getElem? (i := 189) rfl)
set_option maxRecDepth 20000 in
theorem w_1390 : (Jvm.Cond.code ({ cls := "DialSquareModel", name := "anew", desc := "()I" } : Jvm.MethodName) prog_14_method_61_code (2 : Nat) (Option.some Jvm.ClassFile.FieldType.int)) ∈ tables_1 := tm_6 (List.mem_of_getElem? (i := 190) rfl)
set_option maxRecDepth 20000 in
theorem w_1391 : (Jvm.Cond.methodLink "DialSquareLaw" (57 : Nat) ({ cls := "DialSquareModel", name := "state", desc := "(I)I" } : Jvm.MethodName)) ∈ tables_1 := tm_6 (List.mem_of_getElem? (i := 191) rfl)
set_option maxRecDepth 20000 in
theorem w_1392 : (Jvm.Cond.instanceMethod ({ cls := "DialSquareModel", name := "state", desc := "(I)I" } : Jvm.MethodName)) ∈ tables_1 := tm_6 (List.mem_of_getElem? (i := 192) rfl)
set_option maxRecDepth 20000 in
theorem w_1393 : (Jvm.Cond.selects "DialSquareModel" ({ cls := "DialSquareModel", name := "state", desc := "(I)I" } : Jvm.MethodName) ({ cls := "DialSquareModel", name := "state", desc := "(I)I" } : Jvm.MethodName)) ∈ tables_1 := tm_6 (List.mem_of_getElem? (i := 193) rfl)
set_option maxRecDepth 20000 in
theorem w_1394 : (Jvm.Cond.code ({ cls := "DialSquareModel", name := "state", desc := "(I)I" } : Jvm.MethodName) prog_14_method_63_code (2 : Nat) (Option.some Jvm.ClassFile.FieldType.int)) ∈ tables_1 := tm_6 (List.mem_of_getElem? (i := 194) rfl)
set_option maxRecDepth 20000 in
theorem w_1395 : (Jvm.Cond.methodLink "DialSquareModel" (237 : Nat) ({ cls := "DialSquareModel", name := "isOver", desc := "()Z" } : Jvm.MethodName)) ∈ tables_1 := tm_6 (List.mem_of_getElem? (i := 195) rfl)
set_option maxRecDepth 20000 in
theorem w_1396 : (Jvm.Cond.privateMethod ({ cls := "DialSquareModel", name := "isOver", desc := "()Z" } : Jvm.MethodName)) ∈ tables_1 := tm_6 (List.mem_of_getElem? (i := 196) rfl)
set_option maxRecDepth 20000 in
theorem w_1397 : (Jvm.Cond.instanceMethod ({ cls := "DialSquareModel", name := "isOver", desc := "()Z" } : Jvm.MethodName)) ∈ tables_1 := tm_6 (List.mem_of_getElem? (i := 197) rfl)
set_option maxRecDepth 20000 in
theorem w_1398 : (Jvm.Cond.code ({ cls := "DialSquareModel", name := "isOver", desc := "()Z" } : Jvm.MethodName) prog_14_method_10_code (1 : Nat) (Option.some Jvm.ClassFile.FieldType.boolean)) ∈ tables_1 := tm_6 (List.mem_of_getElem? (i := 198) rfl)
set_option maxRecDepth 20000 in
theorem w_1399 : (Jvm.Cond.methodLink "DialSquareModel" (240 : Nat) ({ cls := "DialSquareModel", name := "those", desc := "(I)I" } : Jvm.MethodName)) ∈ tables_1 := tm_6 (List.mem_of_getElem? (i := 199) rfl)
set_option maxRecDepth 20000 in
theorem w_1400 : (Jvm.Cond.privateMethod ({ cls := "DialSquareModel", name := "those", desc := "(I)I" } : Jvm.MethodName)) ∈ tables_1 := tm_6 (List.mem_of_getElem? (i := 200) rfl)
set_option maxRecDepth 20000 in
theorem w_1401 : (Jvm.Cond.instanceMethod ({ cls := "DialSquareModel", name := "those", desc := "(I)I" } : Jvm.MethodName)) ∈ tables_1 := tm_6 (List.mem_of_getElem? (i := 201) rfl)
set_option maxRecDepth 20000 in
theorem w_1402 : (Jvm.Cond.code ({ cls := "DialSquareModel", name := "those", desc := "(I)I" } : Jvm.MethodName) prog_14_method_62_code (4 : Nat) (Option.some Jvm.ClassFile.FieldType.int)) ∈ tables_1 := tm_6 (List.mem_of_getElem? (i := 202) rfl)
set_option maxRecDepth 20000 in
theorem w_1403 : (Jvm.Cond.methodLink "DialSquareModel" (216 : Nat) ({ cls := "DialSquareModel", name := "pairsNow", desc := "()I" } : Jvm.MethodName)) ∈ tables_1 := tm_6 (List.mem_of_getElem? (i := 203) rfl)
set_option maxRecDepth 20000 in
theorem w_1404 : (Jvm.Cond.privateMethod ({ cls := "DialSquareModel", name := "pairsNow", desc := "()I" } : Jvm.MethodName)) ∈ tables_1 := tm_6 (List.mem_of_getElem? (i := 204) rfl)
set_option maxRecDepth 20000 in
theorem w_1405 : (Jvm.Cond.instanceMethod ({ cls := "DialSquareModel", name := "pairsNow", desc := "()I" } : Jvm.MethodName)) ∈ tables_1 := tm_6 (List.mem_of_getElem? (i := 205) rfl)
set_option maxRecDepth 20000 in
theorem w_1406 : (Jvm.Cond.code ({ cls := "DialSquareModel", name := "pairsNow", desc := "()I" } : Jvm.MethodName) prog_14_method_24_code (4 : Nat) (Option.some Jvm.ClassFile.FieldType.int)) ∈ tables_1 := tm_6 (List.mem_of_getElem? (i := 206) rfl)
set_option maxRecDepth 20000 in
theorem w_1407 : (Jvm.Cond.methodLink "DialSquareModel" (109 : Nat) ({ cls := "DialSquareModel", name := "doAgree", desc := "(II)Z" } : Jvm.MethodName)) ∈ tables_1 := tm_6 (List.mem_of_getElem? (i := 207) rfl)
set_option maxRecDepth 20000 in
theorem w_1408 : (Jvm.Cond.privateMethod ({ cls := "DialSquareModel", name := "doAgree", desc := "(II)Z" } : Jvm.MethodName)) ∈ tables_1 := tm_6 (List.mem_of_getElem? (i := 208) rfl)
set_option maxRecDepth 20000 in
theorem w_1409 : (Jvm.Cond.instanceMethod ({ cls := "DialSquareModel", name := "doAgree", desc := "(II)Z" } : Jvm.MethodName)) ∈ tables_1 := tm_6 (List.mem_of_getElem? (i := 209) rfl)
set_option maxRecDepth 20000 in
theorem w_1410 : (Jvm.Cond.code ({ cls := "DialSquareModel", name := "doAgree", desc := "(II)Z" } : Jvm.MethodName) prog_14_method_23_code (3 : Nat) (Option.some Jvm.ClassFile.FieldType.boolean)) ∈ tables_1 := tm_6 (List.mem_of_getElem? (i := 210) rfl)
set_option maxRecDepth 20000 in
theorem w_1411 : (Jvm.Cond.methodLink "DialSquareModel" (106 : Nat) ({ cls := "DialSquareModel", name := "apart", desc := "(II)I" } : Jvm.MethodName)) ∈ tables_1 := tm_6 (List.mem_of_getElem? (i := 211) rfl)
set_option maxRecDepth 20000 in
theorem w_1412 : (Jvm.Cond.static ({ cls := "DialSquareModel", name := "apart", desc := "(II)I" } : Jvm.MethodName)) ∈ tables_1 := tm_6 (List.mem_of_getElem? (i := 212) rfl)
set_option maxRecDepth 20000 in
theorem w_1413 : (Jvm.Cond.code ({ cls := "DialSquareModel", name := "apart", desc := "(II)I" } : Jvm.MethodName) prog_14_method_22_code (2 : Nat) (Option.some Jvm.ClassFile.FieldType.int)) ∈ tables_1 := tm_6 (List.mem_of_getElem? (i := 213) rfl)
set_option maxRecDepth 20000 in
theorem w_1414 : (Jvm.Cond.methodLink "DialSquareLaw" (72 : Nat) ({ cls := "DialSquareModel", name := "chime", desc := "()I" } : Jvm.MethodName)) ∈ tables_1 := tm_6 (List.mem_of_getElem? (i := 214) rfl)
set_option maxRecDepth 20000 in
theorem w_1415 : (Jvm.Cond.instanceMethod ({ cls := "DialSquareModel", name := "chime", desc := "()I" } : Jvm.MethodName)) ∈ tables_1 := tm_6 (List.mem_of_getElem? (i := 215) rfl)
set_option maxRecDepth 20000 in
theorem w_1416 : (Jvm.Cond.selects "DialSquareModel" ({ cls := "DialSquareModel", name := "chime", desc := "()I" } : Jvm.MethodName) ({ cls := "DialSquareModel", name := "chime", desc := "()I" } : Jvm.MethodName)) ∈ tables_1 := tm_6 (List.mem_of_getElem? (i := 216) rfl)
set_option maxRecDepth 20000 in
theorem w_1417 : (Jvm.Cond.code ({ cls := "DialSquareModel", name := "chime", desc := "()I" } : Jvm.MethodName) prog_14_method_64_code (1 : Nat) (Option.some Jvm.ClassFile.FieldType.int)) ∈ tables_1 := tm_6 (List.mem_of_getElem? (i := 217) rfl)
set_option maxRecDepth 20000 in
theorem w_1418 : (Jvm.Cond.methodLink "DialSquareModel" (243 : Nat) ({ cls := "DialSquareModel", name := "goesBy", desc := "(I)I" } : Jvm.MethodName)) ∈ tables_1 := tm_6 (List.mem_of_getElem? (i := 218) rfl)
set_option maxRecDepth 20000 in
theorem w_1419 : (Jvm.Cond.privateMethod ({ cls := "DialSquareModel", name := "goesBy", desc := "(I)I" } : Jvm.MethodName)) ∈ tables_1 := tm_6 (List.mem_of_getElem? (i := 219) rfl)
set_option maxRecDepth 20000 in
theorem w_1420 : (Jvm.Cond.instanceMethod ({ cls := "DialSquareModel", name := "goesBy", desc := "(I)I" } : Jvm.MethodName)) ∈ tables_1 := tm_6 (List.mem_of_getElem? (i := 220) rfl)
set_option maxRecDepth 20000 in
theorem w_1421 : (Jvm.Cond.code ({ cls := "DialSquareModel", name := "goesBy", desc := "(I)I" } : Jvm.MethodName) prog_14_method_50_code (6 : Nat) (Option.some Jvm.ClassFile.FieldType.int)) ∈ tables_1 := tm_6 (List.mem_of_getElem? (i := 221) rfl)
set_option maxRecDepth 20000 in
theorem w_1422 : (Jvm.Cond.methodLink "DialSquareModel" (210 : Nat) ({ cls := "DialSquareModel", name := "restOne", desc := "()I" } : Jvm.MethodName)) ∈ tables_1 := tm_6 (List.mem_of_getElem? (i := 222) rfl)
set_option maxRecDepth 20000 in
theorem w_1423 : (Jvm.Cond.privateMethod ({ cls := "DialSquareModel", name := "restOne", desc := "()I" } : Jvm.MethodName)) ∈ tables_1 := tm_6 (List.mem_of_getElem? (i := 223) rfl)
set_option maxRecDepth 20000 in
theorem w_1424 : (Jvm.Cond.instanceMethod ({ cls := "DialSquareModel", name := "restOne", desc := "()I" } : Jvm.MethodName)) ∈ tables_1 := tm_6 (List.mem_of_getElem? (i := 224) rfl)
set_option maxRecDepth 20000 in
theorem w_1425 : (Jvm.Cond.code ({ cls := "DialSquareModel", name := "restOne", desc := "()I" } : Jvm.MethodName) prog_14_method_49_code (2 : Nat) (Option.some Jvm.ClassFile.FieldType.int)) ∈ tables_1 := tm_6 (List.mem_of_getElem? (i := 225) rfl)
set_option maxRecDepth 20000 in
theorem w_1426 : (Jvm.Cond.methodLink "DialSquareModel" (213 : Nat) ({ cls := "DialSquareModel", name := "meets", desc := "(I)I" } : Jvm.MethodName)) ∈ tables_1 := tm_6 (List.mem_of_getElem? (i := 226) rfl)
set_option maxRecDepth 20000 in
theorem w_1427 : (Jvm.Cond.privateMethod ({ cls := "DialSquareModel", name := "meets", desc := "(I)I" } : Jvm.MethodName)) ∈ tables_1 := tm_6 (List.mem_of_getElem? (i := 227) rfl)
set_option maxRecDepth 20000 in
theorem w_1428 : (Jvm.Cond.instanceMethod ({ cls := "DialSquareModel", name := "meets", desc := "(I)I" } : Jvm.MethodName)) ∈ tables_1 := tm_6 (List.mem_of_getElem? (i := 228) rfl)
set_option maxRecDepth 20000 in
theorem w_1429 : (Jvm.Cond.code ({ cls := "DialSquareModel", name := "meets", desc := "(I)I" } : Jvm.MethodName) prog_14_method_48_code (3 : Nat) (Option.some Jvm.ClassFile.FieldType.int)) ∈ tables_1 := tm_6 (List.mem_of_getElem? (i := 229) rfl)
set_option maxRecDepth 20000 in
theorem w_1430 : (Jvm.Cond.methodLink "DialSquareModel" (201 : Nat) ({ cls := "DialSquareModel", name := "setsRight", desc := "(I)I" } : Jvm.MethodName)) ∈ tables_1 := tm_6 (List.mem_of_getElem? (i := 230) rfl)
set_option maxRecDepth 20000 in
theorem w_1431 : (Jvm.Cond.privateMethod ({ cls := "DialSquareModel", name := "setsRight", desc := "(I)I" } : Jvm.MethodName)) ∈ tables_1 := tm_6 (List.mem_of_getElem? (i := 231) rfl)
set_option maxRecDepth 20000 in
theorem w_1432 : (Jvm.Cond.instanceMethod ({ cls := "DialSquareModel", name := "setsRight", desc := "(I)I" } : Jvm.MethodName)) ∈ tables_1 := tm_6 (List.mem_of_getElem? (i := 232) rfl)
set_option maxRecDepth 20000 in
theorem w_1433 : (Jvm.Cond.code ({ cls := "DialSquareModel", name := "setsRight", desc := "(I)I" } : Jvm.MethodName) prog_14_method_46_code (3 : Nat) (Option.some Jvm.ClassFile.FieldType.int)) ∈ tables_1 := tm_6 (List.mem_of_getElem? (i := 233) rfl)
set_option maxRecDepth 20000 in
theorem w_1434 : (Jvm.Cond.methodLink "DialSquareModel" (204 : Nat) ({ cls := "DialSquareModel", name := "argues", desc := "(I)I" } : Jvm.MethodName)) ∈ tables_1 := tm_6 (List.mem_of_getElem? (i := 234) rfl)
set_option maxRecDepth 20000 in
theorem w_1435 : (Jvm.Cond.privateMethod ({ cls := "DialSquareModel", name := "argues", desc := "(I)I" } : Jvm.MethodName)) ∈ tables_1 := tm_6 (List.mem_of_getElem? (i := 235) rfl)
set_option maxRecDepth 20000 in
theorem w_1436 : (Jvm.Cond.instanceMethod ({ cls := "DialSquareModel", name := "argues", desc := "(I)I" } : Jvm.MethodName)) ∈ tables_1 := tm_6 (List.mem_of_getElem? (i := 236) rfl)
set_option maxRecDepth 20000 in
theorem w_1437 : (Jvm.Cond.code ({ cls := "DialSquareModel", name := "argues", desc := "(I)I" } : Jvm.MethodName) prog_14_method_47_code (6 : Nat) (Option.some Jvm.ClassFile.FieldType.int)) ∈ tables_1 := tm_6 (List.mem_of_getElem? (i := 237) rfl)
set_option maxRecDepth 20000 in
theorem w_1438 : (Jvm.Cond.methodLink "DialSquareModel" (222 : Nat) ({ cls := "DialSquareModel", name := "held", desc := "(II)I" } : Jvm.MethodName)) ∈ tables_1 := tm_6 (List.mem_of_getElem? (i := 238) rfl)
set_option maxRecDepth 20000 in
theorem w_1439 : (Jvm.Cond.static ({ cls := "DialSquareModel", name := "held", desc := "(II)I" } : Jvm.MethodName)) ∈ tables_1 := tm_6 (List.mem_of_getElem? (i := 239) rfl)
set_option maxRecDepth 20000 in
theorem w_1440 : (Jvm.Cond.code ({ cls := "DialSquareModel", name := "held", desc := "(II)I" } : Jvm.MethodName) prog_14_method_3_code (2 : Nat) (Option.some Jvm.ClassFile.FieldType.int)) ∈ tables_1 := tm_7 (List.mem_of_getElem? (i := 0) rfl)
set_option maxRecDepth 20000 in
theorem w_1441 : (Jvm.Cond.methodLink "DialSquareLaw" (76 : Nat) ({ cls := "DialSquareModel", name := "on", desc := "(I)I" } : Jvm.MethodName)) ∈ tables_1 := tm_7 (List.mem_of_getElem? (i := 1) rfl)
set_option maxRecDepth 20000 in
theorem w_1442 : (Jvm.Cond.instanceMethod ({ cls := "DialSquareModel", name := "on", desc := "(I)I" } : Jvm.MethodName)) ∈ tables_1 := tm_7 (List.mem_of_getElem? (i := 2) rfl)
set_option maxRecDepth 20000 in
theorem w_1443 : (Jvm.Cond.selects "DialSquareModel" ({ cls := "DialSquareModel", name := "on", desc := "(I)I" } : Jvm.MethodName) ({ cls := "DialSquareModel", name := "on", desc := "(I)I" } : Jvm.MethodName)) ∈ tables_1 := tm_7 (List.mem_of_getElem? (i := 3) rfl)
set_option maxRecDepth 20000 in
theorem w_1444 : (Jvm.Cond.code ({ cls := "DialSquareModel", name := "on", desc := "(I)I" } : Jvm.MethodName) prog_14_method_66_code (3 : Nat) (Option.some Jvm.ClassFile.FieldType.int)) ∈ tables_1 := tm_7 (List.mem_of_getElem? (i := 4) rfl)
set_option maxRecDepth 20000 in
theorem w_1445 : (Jvm.Cond.methodLink "DialSquareModel" (246 : Nat) ({ cls := "DialSquareModel", name := "layDown", desc := "()V" } : Jvm.MethodName)) ∈ tables_1 := tm_7 (List.mem_of_getElem? (i := 5) rfl)
set_option maxRecDepth 20000 in
theorem w_1446 : (Jvm.Cond.privateMethod ({ cls := "DialSquareModel", name := "layDown", desc := "()V" } : Jvm.MethodName)) ∈ tables_1 := tm_7 (List.mem_of_getElem? (i := 6) rfl)
set_option maxRecDepth 20000 in
theorem w_1447 : (Jvm.Cond.instanceMethod ({ cls := "DialSquareModel", name := "layDown", desc := "()V" } : Jvm.MethodName)) ∈ tables_1 := tm_7 (List.mem_of_getElem? (i := 7) rfl)
set_option maxRecDepth 20000 in
theorem w_1448 : (Jvm.Cond.code ({ cls := "DialSquareModel", name := "layDown", desc := "()V" } : Jvm.MethodName) prog_14_method_4_code (2 : Nat) (Option.none : Option Jvm.ClassFile.FieldType)) ∈ tables_1 := tm_7 (List.mem_of_getElem? (i := 8) rfl)
set_option maxRecDepth 20000 in
theorem w_1449 : (Jvm.Cond.methodLink "DialSquareModel" (249 : Nat) ({ cls := "DialSquareModel", name := "restOf", desc := "(I)I" } : Jvm.MethodName)) ∈ tables_1 := tm_7 (List.mem_of_getElem? (i := 9) rfl)
set_option maxRecDepth 20000 in
theorem w_1450 : (Jvm.Cond.privateMethod ({ cls := "DialSquareModel", name := "restOf", desc := "(I)I" } : Jvm.MethodName)) ∈ tables_1 := tm_7 (List.mem_of_getElem? (i := 10) rfl)
set_option maxRecDepth 20000 in
theorem w_1451 : (Jvm.Cond.instanceMethod ({ cls := "DialSquareModel", name := "restOf", desc := "(I)I" } : Jvm.MethodName)) ∈ tables_1 := tm_7 (List.mem_of_getElem? (i := 11) rfl)
set_option maxRecDepth 20000 in
theorem w_1452 : (Jvm.Cond.code ({ cls := "DialSquareModel", name := "restOf", desc := "(I)I" } : Jvm.MethodName) prog_14_method_65_code (4 : Nat) (Option.some Jvm.ClassFile.FieldType.int)) ∈ tables_1 := tm_7 (List.mem_of_getElem? (i := 12) rfl)
set_option maxRecDepth 20000 in
theorem w_1453 : (Jvm.Cond.methodLink "DialSquareModel" (252 : Nat) ({ cls := "DialSquareModel", name := "layBack", desc := "()V" } : Jvm.MethodName)) ∈ tables_1 := tm_7 (List.mem_of_getElem? (i := 13) rfl)
set_option maxRecDepth 20000 in
theorem w_1454 : (Jvm.Cond.privateMethod ({ cls := "DialSquareModel", name := "layBack", desc := "()V" } : Jvm.MethodName)) ∈ tables_1 := tm_7 (List.mem_of_getElem? (i := 14) rfl)
set_option maxRecDepth 20000 in
theorem w_1455 : (Jvm.Cond.instanceMethod ({ cls := "DialSquareModel", name := "layBack", desc := "()V" } : Jvm.MethodName)) ∈ tables_1 := tm_7 (List.mem_of_getElem? (i := 15) rfl)
set_option maxRecDepth 20000 in
theorem w_1456 : (Jvm.Cond.code ({ cls := "DialSquareModel", name := "layBack", desc := "()V" } : Jvm.MethodName) prog_14_method_5_code (2 : Nat) (Option.none : Option Jvm.ClassFile.FieldType)) ∈ tables_1 := tm_7 (List.mem_of_getElem? (i := 16) rfl)
set_option maxRecDepth 20000 in
theorem w_1457 : (Jvm.Cond.methodLink "DialSquareLaw" (80 : Nat) ({ cls := "DialSquareModel", name := "when", desc := "(I)I" } : Jvm.MethodName)) ∈ tables_1 := tm_7 (List.mem_of_getElem? (i := 17) rfl)
set_option maxRecDepth 20000 in
theorem w_1458 : (Jvm.Cond.instanceMethod ({ cls := "DialSquareModel", name := "when", desc := "(I)I" } : Jvm.MethodName)) ∈ tables_1 := tm_7 (List.mem_of_getElem? (i := 18) rfl)
set_option maxRecDepth 20000 in
theorem w_1459 : (Jvm.Cond.selects "DialSquareModel" ({ cls := "DialSquareModel", name := "when", desc := "(I)I" } : Jvm.MethodName) ({ cls := "DialSquareModel", name := "when", desc := "(I)I" } : Jvm.MethodName)) ∈ tables_1 := tm_7 (List.mem_of_getElem? (i := 19) rfl)
set_option maxRecDepth 20000 in
theorem w_1460 : (Jvm.Cond.code ({ cls := "DialSquareModel", name := "when", desc := "(I)I" } : Jvm.MethodName) prog_14_method_67_code (5 : Nat) (Option.some Jvm.ClassFile.FieldType.int)) ∈ tables_1 := tm_7 (List.mem_of_getElem? (i := 20) rfl)
set_option maxRecDepth 20000 in
theorem w_1461 : (Jvm.Cond.methodLink "DialSquareLaw" (84 : Nat) ({ cls := "DialSquareModel", name := "prideFor", desc := "(I)I" } : Jvm.MethodName)) ∈ tables_1 := tm_7 (List.mem_of_getElem? (i := 21) rfl)
set_option maxRecDepth 20000 in
theorem w_1462 : (Jvm.Cond.instanceMethod ({ cls := "DialSquareModel", name := "prideFor", desc := "(I)I" } : Jvm.MethodName)) ∈ tables_1 := tm_7 (List.mem_of_getElem? (i := 22) rfl)
set_option maxRecDepth 20000 in
theorem w_1463 : (Jvm.Cond.selects "DialSquareModel" ({ cls := "DialSquareModel", name := "prideFor", desc := "(I)I" } : Jvm.MethodName) ({ cls := "DialSquareModel", name := "prideFor", desc := "(I)I" } : Jvm.MethodName)) ∈ tables_1 := tm_7 (List.mem_of_getElem? (i := 23) rfl)
set_option maxRecDepth 20000 in
theorem w_1464 : (Jvm.Cond.code ({ cls := "DialSquareModel", name := "prideFor", desc := "(I)I" } : Jvm.MethodName) prog_14_method_69_code (2 : Nat) (Option.some Jvm.ClassFile.FieldType.int)) ∈ tables_1 := tm_7 (List.mem_of_getElem? (i := 24) rfl)
set_option maxRecDepth 20000 in
theorem w_1465 : (Jvm.Cond.methodLink "DialSquareModel" (255 : Nat) ({ cls := "DialSquareModel", name := "bestFor", desc := "(III)I" } : Jvm.MethodName)) ∈ tables_1 := tm_7 (List.mem_of_getElem? (i := 25) rfl)
set_option maxRecDepth 20000 in
theorem w_1466 : (Jvm.Cond.privateMethod ({ cls := "DialSquareModel", name := "bestFor", desc := "(III)I" } : Jvm.MethodName)) ∈ tables_1 := tm_7 (List.mem_of_getElem? (i := 26) rfl)
set_option maxRecDepth 20000 in
theorem w_1467 : (Jvm.Cond.instanceMethod ({ cls := "DialSquareModel", name := "bestFor", desc := "(III)I" } : Jvm.MethodName)) ∈ tables_1 := tm_7 (List.mem_of_getElem? (i := 27) rfl)
set_option maxRecDepth 20000 in
theorem w_1468 : (Jvm.Cond.code ({ cls := "DialSquareModel", name := "bestFor", desc := "(III)I" } : Jvm.MethodName) prog_14_method_68_code (8 : Nat) (Option.some Jvm.ClassFile.FieldType.int)) ∈ tables_1 := tm_7 (List.mem_of_getElem? (i := 28) rfl)
set_option maxRecDepth 20000 in
theorem w_1469 : (Jvm.Cond.methodLink "DialSquareLaw" (88 : Nat) ({ cls := "DialSquareModel", name := "spotFor", desc := "(I)I" } : Jvm.MethodName)) ∈ tables_1 := tm_7 (List.mem_of_getElem? (i := 29) rfl)
set_option maxRecDepth 20000 in
theorem w_1470 : (Jvm.Cond.instanceMethod ({ cls := "DialSquareModel", name := "spotFor", desc := "(I)I" } : Jvm.MethodName)) ∈ tables_1 := tm_7 (List.mem_of_getElem? (i := 30) rfl)
set_option maxRecDepth 20000 in
theorem w_1471 : (Jvm.Cond.selects "DialSquareModel" ({ cls := "DialSquareModel", name := "spotFor", desc := "(I)I" } : Jvm.MethodName) ({ cls := "DialSquareModel", name := "spotFor", desc := "(I)I" } : Jvm.MethodName)) ∈ tables_1 := tm_7 (List.mem_of_getElem? (i := 31) rfl)
set_option maxRecDepth 20000 in
theorem w_1472 : (Jvm.Cond.code ({ cls := "DialSquareModel", name := "spotFor", desc := "(I)I" } : Jvm.MethodName) prog_14_method_70_code (2 : Nat) (Option.some Jvm.ClassFile.FieldType.int)) ∈ tables_1 := tm_7 (List.mem_of_getElem? (i := 32) rfl)
set_option maxRecDepth 20000 in
theorem w_1473 : (Jvm.Cond.methodLink "DialSquareLaw" (92 : Nat) ({ cls := "DialSquareModel", name := "late", desc := "(I)I" } : Jvm.MethodName)) ∈ tables_1 := tm_7 (List.mem_of_getElem? (i := 33) rfl)
set_option maxRecDepth 20000 in
theorem w_1474 : (Jvm.Cond.instanceMethod ({ cls := "DialSquareModel", name := "late", desc := "(I)I" } : Jvm.MethodName)) ∈ tables_1 := tm_7 (List.mem_of_getElem? (i := 34) rfl)
set_option maxRecDepth 20000 in
theorem w_1475 : (Jvm.Cond.selects "DialSquareModel" ({ cls := "DialSquareModel", name := "late", desc := "(I)I" } : Jvm.MethodName) ({ cls := "DialSquareModel", name := "late", desc := "(I)I" } : Jvm.MethodName)) ∈ tables_1 := tm_7 (List.mem_of_getElem? (i := 35) rfl)
set_option maxRecDepth 20000 in
theorem w_1476 : (Jvm.Cond.code ({ cls := "DialSquareModel", name := "late", desc := "(I)I" } : Jvm.MethodName) prog_14_method_71_code (4 : Nat) (Option.some Jvm.ClassFile.FieldType.int)) ∈ tables_1 := tm_7 (List.mem_of_getElem? (i := 36) rfl)
set_option maxRecDepth 20000 in
theorem w_1477 : (Jvm.Cond.methodLink "DialSquareLaw" (96 : Nat) ({ cls := "DialSquareModel", name := "middle", desc := "()I" } : Jvm.MethodName)) ∈ tables_1 := tm_7 (List.mem_of_getElem? (i := 37) rfl)
set_option maxRecDepth 20000 in
theorem w_1478 : (Jvm.Cond.instanceMethod ({ cls := "DialSquareModel", name := "middle", desc := "()I" } : Jvm.MethodName)) ∈ tables_1 := tm_7 (List.mem_of_getElem? (i := 38) rfl)
set_option maxRecDepth 20000 in
theorem w_1479 : (Jvm.Cond.selects "DialSquareModel" ({ cls := "DialSquareModel", name := "middle", desc := "()I" } : Jvm.MethodName) ({ cls := "DialSquareModel", name := "middle", desc := "()I" } : Jvm.MethodName)) ∈ tables_1 := tm_7 (List.mem_of_getElem? (i := 39) rfl)
set_option maxRecDepth 20000 in
theorem w_1480 : (Jvm.Cond.code ({ cls := "DialSquareModel", name := "middle", desc := "()I" } : Jvm.MethodName) prog_14_method_72_code (6 : Nat) (Option.some Jvm.ClassFile.FieldType.int)) ∈ tables_1 := tm_7 (List.mem_of_getElem? (i := 40) rfl)
set_option maxRecDepth 20000 in
theorem w_1481 : (Jvm.Cond.methodLink "DialSquareLaw" (100 : Nat) ({ cls := "DialSquareModel", name := "knots", desc := "(I)I" } : Jvm.MethodName)) ∈ tables_1 := tm_7 (List.mem_of_getElem? (i := 41) rfl)
set_option maxRecDepth 20000 in
theorem w_1482 : (Jvm.Cond.instanceMethod ({ cls := "DialSquareModel", name := "knots", desc := "(I)I" } : Jvm.MethodName)) ∈ tables_1 := tm_7 (List.mem_of_getElem? (i := 42) rfl)
set_option maxRecDepth 20000 in
theorem w_1483 : (Jvm.Cond.selects "DialSquareModel" ({ cls := "DialSquareModel", name := "knots", desc := "(I)I" } : Jvm.MethodName) ({ cls := "DialSquareModel", name := "knots", desc := "(I)I" } : Jvm.MethodName)) ∈ tables_1 := tm_7 (List.mem_of_getElem? (i := 43) rfl)
set_option maxRecDepth 20000 in
theorem w_1484 : (Jvm.Cond.code ({ cls := "DialSquareModel", name := "knots", desc := "(I)I" } : Jvm.MethodName) prog_14_method_75_code (5 : Nat) (Option.some Jvm.ClassFile.FieldType.int)) ∈ tables_1 := tm_7 (List.mem_of_getElem? (i := 44) rfl)
set_option maxRecDepth 20000 in
theorem w_1485 : (Jvm.Cond.methodLink "DialSquareModel" (261 : Nat) ({ cls := "DialSquareModel", name := "knotOf", desc := "(I)I" } : Jvm.MethodName)) ∈ tables_1 := tm_7 (List.mem_of_getElem? (i := 45) rfl)
set_option maxRecDepth 20000 in
theorem w_1486 : (Jvm.Cond.privateMethod ({ cls := "DialSquareModel", name := "knotOf", desc := "(I)I" } : Jvm.MethodName)) ∈ tables_1 := tm_7 (List.mem_of_getElem? (i := 46) rfl)
set_option maxRecDepth 20000 in
theorem w_1487 : (Jvm.Cond.instanceMethod ({ cls := "DialSquareModel", name := "knotOf", desc := "(I)I" } : Jvm.MethodName)) ∈ tables_1 := tm_7 (List.mem_of_getElem? (i := 47) rfl)
set_option maxRecDepth 20000 in
theorem w_1488 : (Jvm.Cond.code ({ cls := "DialSquareModel", name := "knotOf", desc := "(I)I" } : Jvm.MethodName) prog_14_method_74_code (6 : Nat) (Option.some Jvm.ClassFile.FieldType.int)) ∈ tables_1 := tm_7 (List.mem_of_getElem? (i := 48) rfl)
set_option maxRecDepth 20000 in
theorem w_1489 : (Jvm.Cond.methodLink "DialSquareModel" (258 : Nat) ({ cls := "DialSquareModel", name := "areClose", desc := "(II)Z" } : Jvm.MethodName)) ∈ tables_1 := tm_7 (List.mem_of_getElem? (i := 49) rfl)
set_option maxRecDepth 20000 in
theorem w_1490 : (Jvm.Cond.privateMethod ({ cls := "DialSquareModel", name := "areClose", desc := "(II)Z" } : Jvm.MethodName)) ∈ tables_1 := tm_7 (List.mem_of_getElem? (i := 50) rfl)
set_option maxRecDepth 20000 in
theorem w_1491 : (Jvm.Cond.instanceMethod ({ cls := "DialSquareModel", name := "areClose", desc := "(II)Z" } : Jvm.MethodName)) ∈ tables_1 := tm_7 (List.mem_of_getElem? (i := 51) rfl)
set_option maxRecDepth 20000 in
theorem w_1492 : (Jvm.Cond.code ({ cls := "DialSquareModel", name := "areClose", desc := "(II)Z" } : Jvm.MethodName) prog_14_method_73_code (3 : Nat) (Option.some Jvm.ClassFile.FieldType.boolean)) ∈ tables_1 := tm_7 (List.mem_of_getElem? (i := 52) rfl)
set_option maxRecDepth 20000 in
theorem w_1493 : (Jvm.Cond.methodLink "DialSquareLaw" (104 : Nat) ({ cls := "DialSquareModel", name := "seats", desc := "(II)I" } : Jvm.MethodName)) ∈ tables_1 := tm_7 (List.mem_of_getElem? (i := 53) rfl)
set_option maxRecDepth 20000 in
theorem w_1494 : (Jvm.Cond.instanceMethod ({ cls := "DialSquareModel", name := "seats", desc := "(II)I" } : Jvm.MethodName)) ∈ tables_1 := tm_7 (List.mem_of_getElem? (i := 54) rfl)
set_option maxRecDepth 20000 in
theorem w_1495 : (Jvm.Cond.selects "DialSquareModel" ({ cls := "DialSquareModel", name := "seats", desc := "(II)I" } : Jvm.MethodName) ({ cls := "DialSquareModel", name := "seats", desc := "(II)I" } : Jvm.MethodName)) ∈ tables_1 := tm_7 (List.mem_of_getElem? (i := 55) rfl)
set_option maxRecDepth 20000 in
theorem w_1496 : (Jvm.Cond.code ({ cls := "DialSquareModel", name := "seats", desc := "(II)I" } : Jvm.MethodName) prog_14_method_76_code (10 : Nat) (Option.some Jvm.ClassFile.FieldType.int)) ∈ tables_1 := tm_7 (List.mem_of_getElem? (i := 56) rfl)
set_option maxRecDepth 20000 in
theorem w_1497 : (Jvm.Cond.methodLink "DialSquareLaw" (108 : Nat) ({ cls := "DialSquareModel", name := "best", desc := "(I)I" } : Jvm.MethodName)) ∈ tables_1 := tm_7 (List.mem_of_getElem? (i := 57) rfl)
set_option maxRecDepth 20000 in
theorem w_1498 : (Jvm.Cond.instanceMethod ({ cls := "DialSquareModel", name := "best", desc := "(I)I" } : Jvm.MethodName)) ∈ tables_1 := tm_7 (List.mem_of_getElem? (i := 58) rfl)
set_option maxRecDepth 20000 in
theorem w_1499 : (Jvm.Cond.selects "DialSquareModel" ({ cls := "DialSquareModel", name := "best", desc := "(I)I" } : Jvm.MethodName) ({ cls := "DialSquareModel", name := "best", desc := "(I)I" } : Jvm.MethodName)) ∈ tables_1 := tm_7 (List.mem_of_getElem? (i := 59) rfl)
set_option maxRecDepth 20000 in
theorem w_1500 : (Jvm.Cond.code ({ cls := "DialSquareModel", name := "best", desc := "(I)I" } : Jvm.MethodName) prog_14_method_84_code (2 : Nat) (Option.some Jvm.ClassFile.FieldType.int)) ∈ tables_1 := tm_7 (List.mem_of_getElem? (i := 60) rfl)
set_option maxRecDepth 20000 in
theorem w_1501 : (Jvm.Cond.methodLink "DialSquareModel" (293 : Nat) ({ cls := "DialSquareModel", name := "isPlan", desc := "(I)Z" } : Jvm.MethodName)) ∈ tables_1 := tm_7 (List.mem_of_getElem? (i := 61) rfl)
set_option maxRecDepth 20000 in
theorem w_1502 : (Jvm.Cond.static ({ cls := "DialSquareModel", name := "isPlan", desc := "(I)Z" } : Jvm.MethodName)) ∈ tables_1 := tm_7 (List.mem_of_getElem? (i := 62) rfl)
set_option maxRecDepth 20000 in
theorem w_1503 : (Jvm.Cond.code ({ cls := "DialSquareModel", name := "isPlan", desc := "(I)Z" } : Jvm.MethodName) prog_14_method_83_code (1 : Nat) (Option.some Jvm.ClassFile.FieldType.boolean)) ∈ tables_1 := tm_7 (List.mem_of_getElem? (i := 63) rfl)
set_option maxRecDepth 20000 in
theorem w_1504 : (Jvm.Cond.methodLink "DialSquareModel" (296 : Nat) ({ cls := "DialSquareModel", name := "triesAll", desc := "(II)V" } : Jvm.MethodName)) ∈ tables_1 := tm_7 (List.mem_of_getElem? (i := 64) rfl)
set_option maxRecDepth 20000 in
theorem w_1505 : (Jvm.Cond.privateMethod ({ cls := "DialSquareModel", name := "triesAll", desc := "(II)V" } : Jvm.MethodName)) ∈ tables_1 := tm_7 (List.mem_of_getElem? (i := 65) rfl)
set_option maxRecDepth 20000 in
theorem w_1506 : (Jvm.Cond.instanceMethod ({ cls := "DialSquareModel", name := "triesAll", desc := "(II)V" } : Jvm.MethodName)) ∈ tables_1 := tm_7 (List.mem_of_getElem? (i := 66) rfl)
set_option maxRecDepth 20000 in
theorem w_1507 : (Jvm.Cond.code ({ cls := "DialSquareModel", name := "triesAll", desc := "(II)V" } : Jvm.MethodName) prog_14_method_82_code (3 : Nat) (Option.none : Option Jvm.ClassFile.FieldType)) ∈ tables_1 := tm_7 (List.mem_of_getElem? (i := 67) rfl)
set_option maxRecDepth 20000 in
theorem w_1508 : (Jvm.Cond.methodLink "DialSquareModel" (290 : Nat) ({ cls := "DialSquareModel", name := "daysOf", desc := "(I)I" } : Jvm.MethodName)) ∈ tables_1 := tm_7 (List.mem_of_getElem? (i := 68) rfl)
set_option maxRecDepth 20000 in
theorem w_1509 : (Jvm.Cond.privateMethod ({ cls := "DialSquareModel", name := "daysOf", desc := "(I)I" } : Jvm.MethodName)) ∈ tables_1 := tm_7 (List.mem_of_getElem? (i := 69) rfl)
set_option maxRecDepth 20000 in
theorem w_1510 : (Jvm.Cond.instanceMethod ({ cls := "DialSquareModel", name := "daysOf", desc := "(I)I" } : Jvm.MethodName)) ∈ tables_1 := tm_7 (List.mem_of_getElem? (i := 70) rfl)
set_option maxRecDepth 20000 in
theorem w_1511 : (Jvm.Cond.code ({ cls := "DialSquareModel", name := "daysOf", desc := "(I)I" } : Jvm.MethodName) prog_14_method_79_code (3 : Nat) (Option.some Jvm.ClassFile.FieldType.int)) ∈ tables_1 := tm_7 (List.mem_of_getElem? (i := 71) rfl)
set_option maxRecDepth 20000 in
theorem w_1512 : (Jvm.Cond.methodLink "DialSquareModel" (283 : Nat) ({ cls := "DialSquareModel", name := "goesPlans", desc := "(IIIII)V" } : Jvm.MethodName)) ∈ tables_1 := tm_7 (List.mem_of_getElem? (i := 72) rfl)
set_option maxRecDepth 20000 in
theorem w_1513 : (Jvm.Cond.privateMethod ({ cls := "DialSquareModel", name := "goesPlans", desc := "(IIIII)V" } : Jvm.MethodName)) ∈ tables_1 := tm_7 (List.mem_of_getElem? (i := 73) rfl)
set_option maxRecDepth 20000 in
theorem w_1514 : (Jvm.Cond.instanceMethod ({ cls := "DialSquareModel", name := "goesPlans", desc := "(IIIII)V" } : Jvm.MethodName)) ∈ tables_1 := tm_7 (List.mem_of_getElem? (i := 74) rfl)
set_option maxRecDepth 20000 in
theorem w_1515 : (Jvm.Cond.code ({ cls := "DialSquareModel", name := "goesPlans", desc := "(IIIII)V" } : Jvm.MethodName) prog_14_method_81_code (8 : Nat) (Option.none : Option Jvm.ClassFile.FieldType)) ∈ tables_1 := tm_7 (List.mem_of_getElem? (i := 75) rfl)
set_option maxRecDepth 20000 in
theorem w_1516 : (Jvm.Cond.methodLink "DialSquareModel" (276 : Nat) ({ cls := "DialSquareModel", name := "endsPlan", desc := "(IIII)V" } : Jvm.MethodName)) ∈ tables_1 := tm_7 (List.mem_of_getElem? (i := 76) rfl)
set_option maxRecDepth 20000 in
theorem w_1517 : (Jvm.Cond.privateMethod ({ cls := "DialSquareModel", name := "endsPlan", desc := "(IIII)V" } : Jvm.MethodName)) ∈ tables_1 := tm_7 (List.mem_of_getElem? (i := 77) rfl)
set_option maxRecDepth 20000 in
theorem w_1518 : (Jvm.Cond.instanceMethod ({ cls := "DialSquareModel", name := "endsPlan", desc := "(IIII)V" } : Jvm.MethodName)) ∈ tables_1 := tm_7 (List.mem_of_getElem? (i := 78) rfl)
set_option maxRecDepth 20000 in
theorem w_1519 : (Jvm.Cond.code ({ cls := "DialSquareModel", name := "endsPlan", desc := "(IIII)V" } : Jvm.MethodName) prog_14_method_80_code (6 : Nat) (Option.none : Option Jvm.ClassFile.FieldType)) ∈ tables_1 := tm_7 (List.mem_of_getElem? (i := 79) rfl)
set_option maxRecDepth 20000 in
theorem w_1520 : (Jvm.Cond.methodLink "DialSquareModel" (280 : Nat) ({ cls := "DialSquareModel", name := "saves", desc := "(I)V" } : Jvm.MethodName)) ∈ tables_1 := tm_7 (List.mem_of_getElem? (i := 80) rfl)
set_option maxRecDepth 20000 in
theorem w_1521 : (Jvm.Cond.privateMethod ({ cls := "DialSquareModel", name := "saves", desc := "(I)V" } : Jvm.MethodName)) ∈ tables_1 := tm_7 (List.mem_of_getElem? (i := 81) rfl)
set_option maxRecDepth 20000 in
theorem w_1522 : (Jvm.Cond.instanceMethod ({ cls := "DialSquareModel", name := "saves", desc := "(I)V" } : Jvm.MethodName)) ∈ tables_1 := tm_7 (List.mem_of_getElem? (i := 82) rfl)
set_option maxRecDepth 20000 in
theorem w_1523 : (Jvm.Cond.code ({ cls := "DialSquareModel", name := "saves", desc := "(I)V" } : Jvm.MethodName) prog_14_method_77_code (3 : Nat) (Option.none : Option Jvm.ClassFile.FieldType)) ∈ tables_1 := tm_7 (List.mem_of_getElem? (i := 83) rfl)
set_option maxRecDepth 20000 in
theorem w_1524 : (Jvm.Cond.methodLink "DialSquareModel" (287 : Nat) ({ cls := "DialSquareModel", name := "restores", desc := "(I)V" } : Jvm.MethodName)) ∈ tables_1 := tm_7 (List.mem_of_getElem? (i := 84) rfl)
set_option maxRecDepth 20000 in
theorem w_1525 : (Jvm.Cond.privateMethod ({ cls := "DialSquareModel", name := "restores", desc := "(I)V" } : Jvm.MethodName)) ∈ tables_1 := tm_7 (List.mem_of_getElem? (i := 85) rfl)
set_option maxRecDepth 20000 in
theorem w_1526 : (Jvm.Cond.instanceMethod ({ cls := "DialSquareModel", name := "restores", desc := "(I)V" } : Jvm.MethodName)) ∈ tables_1 := tm_7 (List.mem_of_getElem? (i := 86) rfl)
set_option maxRecDepth 20000 in
theorem w_1527 : (Jvm.Cond.code ({ cls := "DialSquareModel", name := "restores", desc := "(I)V" } : Jvm.MethodName) prog_14_method_78_code (3 : Nat) (Option.none : Option Jvm.ClassFile.FieldType)) ∈ tables_1 := tm_7 (List.mem_of_getElem? (i := 87) rfl)
set_option maxRecDepth 20000 in
theorem w_1528 : (Jvm.Cond.methodLink "DialSquareLaw" (112 : Nat) ({ cls := "DialSquareModel", name := "ith", desc := "(II)I" } : Jvm.MethodName)) ∈ tables_1 := tm_7 (List.mem_of_getElem? (i := 88) rfl)
set_option maxRecDepth 20000 in
theorem w_1529 : (Jvm.Cond.instanceMethod ({ cls := "DialSquareModel", name := "ith", desc := "(II)I" } : Jvm.MethodName)) ∈ tables_1 := tm_7 (List.mem_of_getElem? (i := 89) rfl)
set_option maxRecDepth 20000 in
theorem w_1530 : (Jvm.Cond.selects "DialSquareModel" ({ cls := "DialSquareModel", name := "ith", desc := "(II)I" } : Jvm.MethodName) ({ cls := "DialSquareModel", name := "ith", desc := "(II)I" } : Jvm.MethodName)) ∈ tables_1 := tm_7 (List.mem_of_getElem? (i := 90) rfl)
set_option maxRecDepth 20000 in
theorem w_1531 : (Jvm.Cond.code ({ cls := "DialSquareModel", name := "ith", desc := "(II)I" } : Jvm.MethodName) prog_14_method_85_code (3 : Nat) (Option.some Jvm.ClassFile.FieldType.int)) ∈ tables_1 := tm_7 (List.mem_of_getElem? (i := 91) rfl)
set_option maxRecDepth 20000 in
theorem w_1532 : (Jvm.Cond.methodLink "DialSquareLaw" (116 : Nat) ({ cls := "DialSquareModel", name := "ways", desc := "(I)I" } : Jvm.MethodName)) ∈ tables_1 := tm_7 (List.mem_of_getElem? (i := 92) rfl)
set_option maxRecDepth 20000 in
theorem w_1533 : (Jvm.Cond.instanceMethod ({ cls := "DialSquareModel", name := "ways", desc := "(I)I" } : Jvm.MethodName)) ∈ tables_1 := tm_7 (List.mem_of_getElem? (i := 93) rfl)
set_option maxRecDepth 20000 in
theorem w_1534 : (Jvm.Cond.selects "DialSquareModel" ({ cls := "DialSquareModel", name := "ways", desc := "(I)I" } : Jvm.MethodName) ({ cls := "DialSquareModel", name := "ways", desc := "(I)I" } : Jvm.MethodName)) ∈ tables_1 := tm_7 (List.mem_of_getElem? (i := 94) rfl)
set_option maxRecDepth 20000 in
theorem w_1535 : (Jvm.Cond.code ({ cls := "DialSquareModel", name := "ways", desc := "(I)I" } : Jvm.MethodName) prog_14_method_86_code (2 : Nat) (Option.some Jvm.ClassFile.FieldType.int)) ∈ tables_1 := tm_7 (List.mem_of_getElem? (i := 95) rfl)
set_option maxRecDepth 20000 in
theorem w_1536 : (Jvm.Cond.methodLink "DialSquareLaw" (120 : Nat) ({ cls := "DialSquareModel", name := "order", desc := "(II)I" } : Jvm.MethodName)) ∈ tables_1 := tm_7 (List.mem_of_getElem? (i := 96) rfl)
set_option maxRecDepth 20000 in
theorem w_1537 : (Jvm.Cond.instanceMethod ({ cls := "DialSquareModel", name := "order", desc := "(II)I" } : Jvm.MethodName)) ∈ tables_1 := tm_7 (List.mem_of_getElem? (i := 97) rfl)
set_option maxRecDepth 20000 in
theorem w_1538 : (Jvm.Cond.selects "DialSquareModel" ({ cls := "DialSquareModel", name := "order", desc := "(II)I" } : Jvm.MethodName) ({ cls := "DialSquareModel", name := "order", desc := "(II)I" } : Jvm.MethodName)) ∈ tables_1 := tm_7 (List.mem_of_getElem? (i := 98) rfl)
set_option maxRecDepth 20000 in
theorem w_1539 : (Jvm.Cond.code ({ cls := "DialSquareModel", name := "order", desc := "(II)I" } : Jvm.MethodName) prog_14_method_88_code (3 : Nat) (Option.some Jvm.ClassFile.FieldType.int)) ∈ tables_1 := tm_7 (List.mem_of_getElem? (i := 99) rfl)
set_option maxRecDepth 20000 in
theorem w_1540 : (Jvm.Cond.methodLink "DialSquareModel" (300 : Nat) ({ cls := "DialSquareModel", name := "isSet", desc := "(I)Z" } : Jvm.MethodName)) ∈ tables_1 := tm_7 (List.mem_of_getElem? (i := 100) rfl)
set_option maxRecDepth 20000 in
theorem w_1541 : (Jvm.Cond.privateMethod ({ cls := "DialSquareModel", name := "isSet", desc := "(I)Z" } : Jvm.MethodName)) ∈ tables_1 := tm_7 (List.mem_of_getElem? (i := 101) rfl)
set_option maxRecDepth 20000 in
theorem w_1542 : (Jvm.Cond.instanceMethod ({ cls := "DialSquareModel", name := "isSet", desc := "(I)Z" } : Jvm.MethodName)) ∈ tables_1 := tm_7 (List.mem_of_getElem? (i := 102) rfl)
set_option maxRecDepth 20000 in
theorem w_1543 : (Jvm.Cond.code ({ cls := "DialSquareModel", name := "isSet", desc := "(I)Z" } : Jvm.MethodName) prog_14_method_87_code (2 : Nat) (Option.some Jvm.ClassFile.FieldType.boolean)) ∈ tables_1 := tm_7 (List.mem_of_getElem? (i := 103) rfl)
set_option maxRecDepth 20000 in
theorem w_1544 : (Jvm.Cond.methodLink "DialSquareLaw" (124 : Nat) ({ cls := "DialSquareModel", name := "bars", desc := "(II)I" } : Jvm.MethodName)) ∈ tables_1 := tm_7 (List.mem_of_getElem? (i := 104) rfl)
set_option maxRecDepth 20000 in
theorem w_1545 : (Jvm.Cond.instanceMethod ({ cls := "DialSquareModel", name := "bars", desc := "(II)I" } : Jvm.MethodName)) ∈ tables_1 := tm_7 (List.mem_of_getElem? (i := 105) rfl)
set_option maxRecDepth 20000 in
theorem w_1546 : (Jvm.Cond.selects "DialSquareModel" ({ cls := "DialSquareModel", name := "bars", desc := "(II)I" } : Jvm.MethodName) ({ cls := "DialSquareModel", name := "bars", desc := "(II)I" } : Jvm.MethodName)) ∈ tables_1 := tm_7 (List.mem_of_getElem? (i := 106) rfl)
set_option maxRecDepth 20000 in
theorem w_1547 : (Jvm.Cond.code ({ cls := "DialSquareModel", name := "bars", desc := "(II)I" } : Jvm.MethodName) prog_14_method_89_code (5 : Nat) (Option.some Jvm.ClassFile.FieldType.int)) ∈ tables_1 := tm_7 (List.mem_of_getElem? (i := 107) rfl)
set_option maxRecDepth 20000 in
theorem w_1548 : (Jvm.Cond.methodLink "DialSquareLaw" (128 : Nat) ({ cls := "DialSquareModel", name := "game", desc := "(I)I" } : Jvm.MethodName)) ∈ tables_1 := tm_7 (List.mem_of_getElem? (i := 108) rfl)
set_option maxRecDepth 20000 in
theorem w_1549 : (Jvm.Cond.instanceMethod ({ cls := "DialSquareModel", name := "game", desc := "(I)I" } : Jvm.MethodName)) ∈ tables_1 := tm_7 (List.mem_of_getElem? (i := 109) rfl)
set_option maxRecDepth 20000 in
theorem w_1550 : (Jvm.Cond.selects "DialSquareModel" ({ cls := "DialSquareModel", name := "game", desc := "(I)I" } : Jvm.MethodName) ({ cls := "DialSquareModel", name := "game", desc := "(I)I" } : Jvm.MethodName)) ∈ tables_1 := tm_7 (List.mem_of_getElem? (i := 110) rfl)
set_option maxRecDepth 20000 in
theorem w_1551 : (Jvm.Cond.code ({ cls := "DialSquareModel", name := "game", desc := "(I)I" } : Jvm.MethodName) prog_14_method_91_code (2 : Nat) (Option.some Jvm.ClassFile.FieldType.int)) ∈ tables_1 := tm_7 (List.mem_of_getElem? (i := 111) rfl)
set_option maxRecDepth 20000 in
theorem w_1552 : (Jvm.Cond.methodLink "DialSquareModel" (303 : Nat) ({ cls := "DialSquareModel", name := "playedFrom", desc := "(II)I" } : Jvm.MethodName)) ∈ tables_1 := tm_7 (List.mem_of_getElem? (i := 112) rfl)
set_option maxRecDepth 20000 in
theorem w_1553 : (Jvm.Cond.privateMethod ({ cls := "DialSquareModel", name := "playedFrom", desc := "(II)I" } : Jvm.MethodName)) ∈ tables_1 := tm_7 (List.mem_of_getElem? (i := 113) rfl)
set_option maxRecDepth 20000 in
theorem w_1554 : (Jvm.Cond.instanceMethod ({ cls := "DialSquareModel", name := "playedFrom", desc := "(II)I" } : Jvm.MethodName)) ∈ tables_1 := tm_7 (List.mem_of_getElem? (i := 114) rfl)
set_option maxRecDepth 20000 in
theorem w_1555 : (Jvm.Cond.code ({ cls := "DialSquareModel", name := "playedFrom", desc := "(II)I" } : Jvm.MethodName) prog_14_method_90_code (9 : Nat) (Option.some Jvm.ClassFile.FieldType.int)) ∈ tables_1 := tm_7 (List.mem_of_getElem? (i := 115) rfl)
set_option maxRecDepth 20000 in
theorem w_1556 : (Jvm.Cond.methodLink "DialSquareLaw" (132 : Nat) ({ cls := "DialSquareModel", name := "play", desc := "(I)I" } : Jvm.MethodName)) ∈ tables_1 := tm_7 (List.mem_of_getElem? (i := 116) rfl)
set_option maxRecDepth 20000 in
theorem w_1557 : (Jvm.Cond.instanceMethod ({ cls := "DialSquareModel", name := "play", desc := "(I)I" } : Jvm.MethodName)) ∈ tables_1 := tm_7 (List.mem_of_getElem? (i := 117) rfl)
set_option maxRecDepth 20000 in
theorem w_1558 : (Jvm.Cond.selects "DialSquareModel" ({ cls := "DialSquareModel", name := "play", desc := "(I)I" } : Jvm.MethodName) ({ cls := "DialSquareModel", name := "play", desc := "(I)I" } : Jvm.MethodName)) ∈ tables_1 := tm_7 (List.mem_of_getElem? (i := 118) rfl)
set_option maxRecDepth 20000 in
theorem w_1559 : (Jvm.Cond.code ({ cls := "DialSquareModel", name := "play", desc := "(I)I" } : Jvm.MethodName) prog_14_method_92_code (3 : Nat) (Option.some Jvm.ClassFile.FieldType.int)) ∈ tables_1 := tm_7 (List.mem_of_getElem? (i := 119) rfl)
set_option maxRecDepth 20000 in
theorem w_1560 : (Jvm.Cond.methodLink "DialSquareLaw" (136 : Nat) ({ cls := "DialSquareModel", name := "report", desc := "(IIII)I" } : Jvm.MethodName)) ∈ tables_1 := tm_7 (List.mem_of_getElem? (i := 120) rfl)
set_option maxRecDepth 20000 in
theorem w_1561 : (Jvm.Cond.instanceMethod ({ cls := "DialSquareModel", name := "report", desc := "(IIII)I" } : Jvm.MethodName)) ∈ tables_1 := tm_7 (List.mem_of_getElem? (i := 121) rfl)
set_option maxRecDepth 20000 in
theorem w_1562 : (Jvm.Cond.selects "DialSquareModel" ({ cls := "DialSquareModel", name := "report", desc := "(IIII)I" } : Jvm.MethodName) ({ cls := "DialSquareModel", name := "report", desc := "(IIII)I" } : Jvm.MethodName)) ∈ tables_1 := tm_7 (List.mem_of_getElem? (i := 122) rfl)
set_option maxRecDepth 20000 in
theorem w_1563 : (Jvm.Cond.code ({ cls := "DialSquareModel", name := "report", desc := "(IIII)I" } : Jvm.MethodName) prog_14_method_93_code (7 : Nat) (Option.some Jvm.ClassFile.FieldType.int)) ∈ tables_1 := tm_7 (List.mem_of_getElem? (i := 123) rfl)
set_option maxRecDepth 20000 in
theorem w_1564 : (Jvm.Cond.methodLink "DialSquareLaw" (140 : Nat) ({ cls := "DialSquareModel", name := "forget", desc := "()I" } : Jvm.MethodName)) ∈ tables_1 := tm_7 (List.mem_of_getElem? (i := 124) rfl)
set_option maxRecDepth 20000 in
theorem w_1565 : (Jvm.Cond.instanceMethod ({ cls := "DialSquareModel", name := "forget", desc := "()I" } : Jvm.MethodName)) ∈ tables_1 := tm_7 (List.mem_of_getElem? (i := 125) rfl)
set_option maxRecDepth 20000 in
theorem w_1566 : (Jvm.Cond.selects "DialSquareModel" ({ cls := "DialSquareModel", name := "forget", desc := "()I" } : Jvm.MethodName) ({ cls := "DialSquareModel", name := "forget", desc := "()I" } : Jvm.MethodName)) ∈ tables_1 := tm_7 (List.mem_of_getElem? (i := 126) rfl)
set_option maxRecDepth 20000 in
theorem w_1567 : (Jvm.Cond.code ({ cls := "DialSquareModel", name := "forget", desc := "()I" } : Jvm.MethodName) prog_14_method_94_code (1 : Nat) (Option.some Jvm.ClassFile.FieldType.int)) ∈ tables_1 := tm_7 (List.mem_of_getElem? (i := 127) rfl)
set_option maxRecDepth 20000 in
theorem w_1568 : (Jvm.Cond.methodLink "DialSquareLaw" (144 : Nat) ({ cls := "DialSquareModel", name := "lone", desc := "(I)I" } : Jvm.MethodName)) ∈ tables_1 := tm_7 (List.mem_of_getElem? (i := 128) rfl)
set_option maxRecDepth 20000 in
theorem w_1569 : (Jvm.Cond.instanceMethod ({ cls := "DialSquareModel", name := "lone", desc := "(I)I" } : Jvm.MethodName)) ∈ tables_1 := tm_7 (List.mem_of_getElem? (i := 129) rfl)
set_option maxRecDepth 20000 in
theorem w_1570 : (Jvm.Cond.selects "DialSquareModel" ({ cls := "DialSquareModel", name := "lone", desc := "(I)I" } : Jvm.MethodName) ({ cls := "DialSquareModel", name := "lone", desc := "(I)I" } : Jvm.MethodName)) ∈ tables_1 := tm_7 (List.mem_of_getElem? (i := 130) rfl)
set_option maxRecDepth 20000 in
theorem w_1571 : (Jvm.Cond.code ({ cls := "DialSquareModel", name := "lone", desc := "(I)I" } : Jvm.MethodName) prog_14_method_98_code (3 : Nat) (Option.some Jvm.ClassFile.FieldType.int)) ∈ tables_1 := tm_7 (List.mem_of_getElem? (i := 131) rfl)
set_option maxRecDepth 20000 in
theorem w_1572 : (Jvm.Cond.methodLink "DialSquareModel" (315 : Nat) ({ cls := "DialSquareModel", name := "fitting", desc := "(I)I" } : Jvm.MethodName)) ∈ tables_1 := tm_7 (List.mem_of_getElem? (i := 132) rfl)
set_option maxRecDepth 20000 in
theorem w_1573 : (Jvm.Cond.privateMethod ({ cls := "DialSquareModel", name := "fitting", desc := "(I)I" } : Jvm.MethodName)) ∈ tables_1 := tm_7 (List.mem_of_getElem? (i := 133) rfl)
set_option maxRecDepth 20000 in
theorem w_1574 : (Jvm.Cond.instanceMethod ({ cls := "DialSquareModel", name := "fitting", desc := "(I)I" } : Jvm.MethodName)) ∈ tables_1 := tm_7 (List.mem_of_getElem? (i := 134) rfl)
set_option maxRecDepth 20000 in
theorem w_1575 : (Jvm.Cond.code ({ cls := "DialSquareModel", name := "fitting", desc := "(I)I" } : Jvm.MethodName) prog_14_method_97_code (6 : Nat) (Option.some Jvm.ClassFile.FieldType.int)) ∈ tables_1 := tm_7 (List.mem_of_getElem? (i := 135) rfl)
set_option maxRecDepth 20000 in
theorem w_1576 : (Jvm.Cond.methodLink "DialSquareModel" (309 : Nat) ({ cls := "DialSquareModel", name := "tellsLone", desc := "(III)V" } : Jvm.MethodName)) ∈ tables_1 := tm_7 (List.mem_of_getElem? (i := 136) rfl)
set_option maxRecDepth 20000 in
theorem w_1577 : (Jvm.Cond.privateMethod ({ cls := "DialSquareModel", name := "tellsLone", desc := "(III)V" } : Jvm.MethodName)) ∈ tables_1 := tm_7 (List.mem_of_getElem? (i := 137) rfl)
set_option maxRecDepth 20000 in
theorem w_1578 : (Jvm.Cond.instanceMethod ({ cls := "DialSquareModel", name := "tellsLone", desc := "(III)V" } : Jvm.MethodName)) ∈ tables_1 := tm_7 (List.mem_of_getElem? (i := 138) rfl)
set_option maxRecDepth 20000 in
theorem w_1579 : (Jvm.Cond.code ({ cls := "DialSquareModel", name := "tellsLone", desc := "(III)V" } : Jvm.MethodName) prog_14_method_95_code (8 : Nat) (Option.none : Option Jvm.ClassFile.FieldType)) ∈ tables_1 := tm_7 (List.mem_of_getElem? (i := 139) rfl)
set_option maxRecDepth 20000 in
theorem w_1580 : (Jvm.Cond.methodLink "DialSquareModel" (312 : Nat) ({ cls := "DialSquareModel", name := "isSo", desc := "(I)Z" } : Jvm.MethodName)) ∈ tables_1 := tm_7 (List.mem_of_getElem? (i := 140) rfl)
set_option maxRecDepth 20000 in
theorem w_1581 : (Jvm.Cond.privateMethod ({ cls := "DialSquareModel", name := "isSo", desc := "(I)Z" } : Jvm.MethodName)) ∈ tables_1 := tm_7 (List.mem_of_getElem? (i := 141) rfl)
set_option maxRecDepth 20000 in
theorem w_1582 : (Jvm.Cond.instanceMethod ({ cls := "DialSquareModel", name := "isSo", desc := "(I)Z" } : Jvm.MethodName)) ∈ tables_1 := tm_7 (List.mem_of_getElem? (i := 142) rfl)
set_option maxRecDepth 20000 in
theorem w_1583 : (Jvm.Cond.code ({ cls := "DialSquareModel", name := "isSo", desc := "(I)Z" } : Jvm.MethodName) prog_14_method_96_code (3 : Nat) (Option.some Jvm.ClassFile.FieldType.boolean)) ∈ tables_1 := tm_7 (List.mem_of_getElem? (i := 143) rfl)
set_option maxRecDepth 20000 in
theorem w_1584 : (Jvm.Cond.methodLink "DialSquareLaw" (148 : Nat) ({ cls := "DialSquareModel", name := "liar", desc := "()I" } : Jvm.MethodName)) ∈ tables_1 := tm_7 (List.mem_of_getElem? (i := 144) rfl)
set_option maxRecDepth 20000 in
theorem w_1585 : (Jvm.Cond.instanceMethod ({ cls := "DialSquareModel", name := "liar", desc := "()I" } : Jvm.MethodName)) ∈ tables_1 := tm_7 (List.mem_of_getElem? (i := 145) rfl)
set_option maxRecDepth 20000 in
theorem w_1586 : (Jvm.Cond.selects "DialSquareModel" ({ cls := "DialSquareModel", name := "liar", desc := "()I" } : Jvm.MethodName) ({ cls := "DialSquareModel", name := "liar", desc := "()I" } : Jvm.MethodName)) ∈ tables_1 := tm_7 (List.mem_of_getElem? (i := 146) rfl)
set_option maxRecDepth 20000 in
theorem w_1587 : (Jvm.Cond.code ({ cls := "DialSquareModel", name := "liar", desc := "()I" } : Jvm.MethodName) prog_14_method_99_code (2 : Nat) (Option.some Jvm.ClassFile.FieldType.int)) ∈ tables_1 := tm_7 (List.mem_of_getElem? (i := 147) rfl)
set_option maxRecDepth 20000 in
theorem w_1588 : (Jvm.Cond.methodLink "DialSquareLaw" (152 : Nat) ({ cls := "DialSquareModel", name := "seed", desc := "(I)I" } : Jvm.MethodName)) ∈ tables_1 := tm_7 (List.mem_of_getElem? (i := 148) rfl)
set_option maxRecDepth 20000 in
theorem w_1589 : (Jvm.Cond.instanceMethod ({ cls := "DialSquareModel", name := "seed", desc := "(I)I" } : Jvm.MethodName)) ∈ tables_1 := tm_7 (List.mem_of_getElem? (i := 149) rfl)
set_option maxRecDepth 20000 in
theorem w_1590 : (Jvm.Cond.selects "DialSquareModel" ({ cls := "DialSquareModel", name := "seed", desc := "(I)I" } : Jvm.MethodName) ({ cls := "DialSquareModel", name := "seed", desc := "(I)I" } : Jvm.MethodName)) ∈ tables_1 := tm_7 (List.mem_of_getElem? (i := 150) rfl)
set_option maxRecDepth 20000 in
theorem w_1591 : (Jvm.Cond.code ({ cls := "DialSquareModel", name := "seed", desc := "(I)I" } : Jvm.MethodName) prog_14_method_100_code (2 : Nat) (Option.some Jvm.ClassFile.FieldType.int)) ∈ tables_1 := tm_7 (List.mem_of_getElem? (i := 151) rfl)
set_option maxRecDepth 20000 in
theorem w_1592 : (Jvm.Cond.methodLink "DialSquareLaw" (156 : Nat) ({ cls := "DialSquareModel", name := "lot", desc := "()I" } : Jvm.MethodName)) ∈ tables_1 := tm_7 (List.mem_of_getElem? (i := 152) rfl)
set_option maxRecDepth 20000 in
theorem w_1593 : (Jvm.Cond.instanceMethod ({ cls := "DialSquareModel", name := "lot", desc := "()I" } : Jvm.MethodName)) ∈ tables_1 := tm_7 (List.mem_of_getElem? (i := 153) rfl)
set_option maxRecDepth 20000 in
theorem w_1594 : (Jvm.Cond.selects "DialSquareModel" ({ cls := "DialSquareModel", name := "lot", desc := "()I" } : Jvm.MethodName) ({ cls := "DialSquareModel", name := "lot", desc := "()I" } : Jvm.MethodName)) ∈ tables_1 := tm_7 (List.mem_of_getElem? (i := 154) rfl)
set_option maxRecDepth 20000 in
theorem w_1595 : (Jvm.Cond.code ({ cls := "DialSquareModel", name := "lot", desc := "()I" } : Jvm.MethodName) prog_14_method_102_code (1 : Nat) (Option.some Jvm.ClassFile.FieldType.int)) ∈ tables_1 := tm_7 (List.mem_of_getElem? (i := 155) rfl)
set_option maxRecDepth 20000 in
theorem w_1596 : (Jvm.Cond.methodLink "DialSquareModel" (319 : Nat) ({ cls := "DialSquareModel", name := "byLot", desc := "()I" } : Jvm.MethodName)) ∈ tables_1 := tm_7 (List.mem_of_getElem? (i := 156) rfl)
set_option maxRecDepth 20000 in
theorem w_1597 : (Jvm.Cond.privateMethod ({ cls := "DialSquareModel", name := "byLot", desc := "()I" } : Jvm.MethodName)) ∈ tables_1 := tm_7 (List.mem_of_getElem? (i := 157) rfl)
set_option maxRecDepth 20000 in
theorem w_1598 : (Jvm.Cond.instanceMethod ({ cls := "DialSquareModel", name := "byLot", desc := "()I" } : Jvm.MethodName)) ∈ tables_1 := tm_7 (List.mem_of_getElem? (i := 158) rfl)
set_option maxRecDepth 20000 in
theorem w_1599 : (Jvm.Cond.code ({ cls := "DialSquareModel", name := "byLot", desc := "()I" } : Jvm.MethodName) prog_14_method_101_code (1 : Nat) (Option.some Jvm.ClassFile.FieldType.int)) ∈ tables_1 := tm_7 (List.mem_of_getElem? (i := 159) rfl)
set_option maxRecDepth 20000 in
theorem w_1600 : (Jvm.Cond.constant "DialSquareModel" (318 : Nat) (1103515245 : Int32)) ∈ tables_1 := tm_7 (List.mem_of_getElem? (i := 160) rfl)
set_option maxRecDepth 20000 in
theorem w_1601 : (Jvm.Cond.methodLink "DialSquareLaw" (160 : Nat) ({ cls := "DialSquareModel", name := "times", desc := "(II)I" } : Jvm.MethodName)) ∈ tables_1 := tm_7 (List.mem_of_getElem? (i := 161) rfl)
set_option maxRecDepth 20000 in
theorem w_1602 : (Jvm.Cond.instanceMethod ({ cls := "DialSquareModel", name := "times", desc := "(II)I" } : Jvm.MethodName)) ∈ tables_1 := tm_7 (List.mem_of_getElem? (i := 162) rfl)
set_option maxRecDepth 20000 in
theorem w_1603 : (Jvm.Cond.selects "DialSquareModel" ({ cls := "DialSquareModel", name := "times", desc := "(II)I" } : Jvm.MethodName) ({ cls := "DialSquareModel", name := "times", desc := "(II)I" } : Jvm.MethodName)) ∈ tables_1 := tm_7 (List.mem_of_getElem? (i := 163) rfl)
set_option maxRecDepth 20000 in
theorem w_1604 : (Jvm.Cond.code ({ cls := "DialSquareModel", name := "times", desc := "(II)I" } : Jvm.MethodName) prog_14_method_103_code (7 : Nat) (Option.some Jvm.ClassFile.FieldType.int)) ∈ tables_1 := tm_7 (List.mem_of_getElem? (i := 164) rfl)
set_option maxRecDepth 20000 in
theorem w_1605 : (Jvm.Cond.methodLink "DialSquareLaw" (164 : Nat) ({ cls := "DialSquareModel", name := "prove", desc := "(I)I" } : Jvm.MethodName)) ∈ tables_1 := tm_7 (List.mem_of_getElem? (i := 165) rfl)
set_option maxRecDepth 20000 in
theorem w_1606 : (Jvm.Cond.instanceMethod ({ cls := "DialSquareModel", name := "prove", desc := "(I)I" } : Jvm.MethodName)) ∈ tables_1 := tm_7 (List.mem_of_getElem? (i := 166) rfl)
set_option maxRecDepth 20000 in
theorem w_1607 : (Jvm.Cond.selects "DialSquareModel" ({ cls := "DialSquareModel", name := "prove", desc := "(I)I" } : Jvm.MethodName) ({ cls := "DialSquareModel", name := "prove", desc := "(I)I" } : Jvm.MethodName)) ∈ tables_1 := tm_7 (List.mem_of_getElem? (i := 167) rfl)
set_option maxRecDepth 20000 in
theorem w_1608 : (Jvm.Cond.code ({ cls := "DialSquareModel", name := "prove", desc := "(I)I" } : Jvm.MethodName) prog_14_method_104_code (3 : Nat) (Option.some Jvm.ClassFile.FieldType.int)) ∈ tables_1 := tm_7 (List.mem_of_getElem? (i := 168) rfl)
set_option maxRecDepth 20000 in
theorem w_1609 : (Jvm.Cond.methodLink "DialSquareLaw" (168 : Nat) ({ cls := "DialSquareModel", name := "row", desc := "(II)I" } : Jvm.MethodName)) ∈ tables_1 := tm_7 (List.mem_of_getElem? (i := 169) rfl)
set_option maxRecDepth 20000 in
theorem w_1610 : (Jvm.Cond.instanceMethod ({ cls := "DialSquareModel", name := "row", desc := "(II)I" } : Jvm.MethodName)) ∈ tables_1 := tm_7 (List.mem_of_getElem? (i := 170) rfl)
set_option maxRecDepth 20000 in
theorem w_1611 : (Jvm.Cond.selects "DialSquareModel" ({ cls := "DialSquareModel", name := "row", desc := "(II)I" } : Jvm.MethodName) ({ cls := "DialSquareModel", name := "row", desc := "(II)I" } : Jvm.MethodName)) ∈ tables_1 := tm_7 (List.mem_of_getElem? (i := 171) rfl)
set_option maxRecDepth 20000 in
theorem w_1612 : (Jvm.Cond.code ({ cls := "DialSquareModel", name := "row", desc := "(II)I" } : Jvm.MethodName) prog_14_method_106_code (3 : Nat) (Option.some Jvm.ClassFile.FieldType.int)) ∈ tables_1 := tm_7 (List.mem_of_getElem? (i := 172) rfl)
set_option maxRecDepth 20000 in
theorem w_1613 : (Jvm.Cond.methodLink "DialSquareModel" (325 : Nat) ({ cls := "DialSquareModel", name := "isRow", desc := "(II)Z" } : Jvm.MethodName)) ∈ tables_1 := tm_7 (List.mem_of_getElem? (i := 173) rfl)
set_option maxRecDepth 20000 in
theorem w_1614 : (Jvm.Cond.privateMethod ({ cls := "DialSquareModel", name := "isRow", desc := "(II)Z" } : Jvm.MethodName)) ∈ tables_1 := tm_7 (List.mem_of_getElem? (i := 174) rfl)
set_option maxRecDepth 20000 in
theorem w_1615 : (Jvm.Cond.instanceMethod ({ cls := "DialSquareModel", name := "isRow", desc := "(II)Z" } : Jvm.MethodName)) ∈ tables_1 := tm_7 (List.mem_of_getElem? (i := 175) rfl)
set_option maxRecDepth 20000 in
theorem w_1616 : (Jvm.Cond.code ({ cls := "DialSquareModel", name := "isRow", desc := "(II)Z" } : Jvm.MethodName) prog_14_method_105_code (3 : Nat) (Option.some Jvm.ClassFile.FieldType.boolean)) ∈ tables_1 := tm_7 (List.mem_of_getElem? (i := 176) rfl)
set_option maxRecDepth 20000 in
theorem w_1617 : (Jvm.Cond.methodLink "DialSquareLaw" (172 : Nat) ({ cls := "DialSquareModel", name := "alterRow", desc := "(III)I" } : Jvm.MethodName)) ∈ tables_1 := tm_7 (List.mem_of_getElem? (i := 177) rfl)
set_option maxRecDepth 20000 in
theorem w_1618 : (Jvm.Cond.instanceMethod ({ cls := "DialSquareModel", name := "alterRow", desc := "(III)I" } : Jvm.MethodName)) ∈ tables_1 := tm_7 (List.mem_of_getElem? (i := 178) rfl)
set_option maxRecDepth 20000 in
theorem w_1619 : (Jvm.Cond.selects "DialSquareModel" ({ cls := "DialSquareModel", name := "alterRow", desc := "(III)I" } : Jvm.MethodName) ({ cls := "DialSquareModel", name := "alterRow", desc := "(III)I" } : Jvm.MethodName)) ∈ tables_1 := tm_7 (List.mem_of_getElem? (i := 179) rfl)
set_option maxRecDepth 20000 in
theorem w_1620 : (Jvm.Cond.code ({ cls := "DialSquareModel", name := "alterRow", desc := "(III)I" } : Jvm.MethodName) prog_14_method_107_code (5 : Nat) (Option.some Jvm.ClassFile.FieldType.int)) ∈ tables_1 := tm_7 (List.mem_of_getElem? (i := 180) rfl)
set_option maxRecDepth 20000 in
theorem w_1621 : (Jvm.Cond.methodLink "DialSquareLaw" (176 : Nat) ({ cls := "DialSquareModel", name := "judge", desc := "()I" } : Jvm.MethodName)) ∈ tables_1 := tm_7 (List.mem_of_getElem? (i := 181) rfl)
set_option maxRecDepth 20000 in
theorem w_1622 : (Jvm.Cond.instanceMethod ({ cls := "DialSquareModel", name := "judge", desc := "()I" } : Jvm.MethodName)) ∈ tables_1 := tm_7 (List.mem_of_getElem? (i := 182) rfl)
set_option maxRecDepth 20000 in
theorem w_1623 : (Jvm.Cond.selects "DialSquareModel" ({ cls := "DialSquareModel", name := "judge", desc := "()I" } : Jvm.MethodName) ({ cls := "DialSquareModel", name := "judge", desc := "()I" } : Jvm.MethodName)) ∈ tables_1 := tm_7 (List.mem_of_getElem? (i := 183) rfl)
set_option maxRecDepth 20000 in
theorem w_1624 : (Jvm.Cond.code ({ cls := "DialSquareModel", name := "judge", desc := "()I" } : Jvm.MethodName) prog_14_method_108_code (6 : Nat) (Option.some Jvm.ClassFile.FieldType.int)) ∈ tables_1 := tm_7 (List.mem_of_getElem? (i := 184) rfl)
set_option maxRecDepth 20000 in
theorem w_1625 : (Jvm.Cond.methodLink "DialSquareModel" (328 : Nat) ({ cls := "DialSquareModel", name := "isAct", desc := "(I)Z" } : Jvm.MethodName)) ∈ tables_1 := tm_7 (List.mem_of_getElem? (i := 185) rfl)
set_option maxRecDepth 20000 in
theorem w_1626 : (Jvm.Cond.privateMethod ({ cls := "DialSquareModel", name := "isAct", desc := "(I)Z" } : Jvm.MethodName)) ∈ tables_1 := tm_7 (List.mem_of_getElem? (i := 186) rfl)
set_option maxRecDepth 20000 in
theorem w_1627 : (Jvm.Cond.instanceMethod ({ cls := "DialSquareModel", name := "isAct", desc := "(I)Z" } : Jvm.MethodName)) ∈ tables_1 := tm_7 (List.mem_of_getElem? (i := 187) rfl)
set_option maxRecDepth 20000 in
theorem w_1628 : (Jvm.Cond.code ({ cls := "DialSquareModel", name := "isAct", desc := "(I)Z" } : Jvm.MethodName) prog_14_method_9_code (2 : Nat) (Option.some Jvm.ClassFile.FieldType.boolean)) ∈ tables_1 := tm_7 (List.mem_of_getElem? (i := 188) rfl)
set_option maxRecDepth 20000 in
theorem w_1629 : (Jvm.Cond.methodLink "DialSquareLaw" (180 : Nat) ({ cls := "DialSquareModel", name := "sheet", desc := "(III)I" } : Jvm.MethodName)) ∈ tables_1 := tm_7 (List.mem_of_getElem? (i := 189) rfl)
set_option maxRecDepth 20000 in
theorem w_1630 : (Jvm.Cond.instanceMethod ({ cls := "DialSquareModel", name := "sheet", desc := "(III)I" } : Jvm.MethodName)) ∈ tables_1 := tm_7 (List.mem_of_getElem? (i := 190) rfl)
set_option maxRecDepth 20000 in
theorem w_1631 : (Jvm.Cond.selects "DialSquareModel" ({ cls := "DialSquareModel", name := "sheet", desc := "(III)I" } : Jvm.MethodName) ({ cls := "DialSquareModel", name := "sheet", desc := "(III)I" } : Jvm.MethodName)) ∈ tables_1 := tm_7 (List.mem_of_getElem? (i := 191) rfl)
set_option maxRecDepth 20000 in
theorem w_1632 : (Jvm.Cond.code ({ cls := "DialSquareModel", name := "sheet", desc := "(III)I" } : Jvm.MethodName) prog_14_method_110_code (5 : Nat) (Option.some Jvm.ClassFile.FieldType.int)) ∈ tables_1 := tm_7 (List.mem_of_getElem? (i := 192) rfl)
set_option maxRecDepth 20000 in
theorem w_1633 : (Jvm.Cond.methodLink "DialSquareModel" (331 : Nat) ({ cls := "DialSquareModel", name := "isSheet", desc := "(I)Z" } : Jvm.MethodName)) ∈ tables_1 := tm_7 (List.mem_of_getElem? (i := 193) rfl)
set_option maxRecDepth 20000 in
theorem w_1634 : (Jvm.Cond.static ({ cls := "DialSquareModel", name := "isSheet", desc := "(I)Z" } : Jvm.MethodName)) ∈ tables_1 := tm_7 (List.mem_of_getElem? (i := 194) rfl)
set_option maxRecDepth 20000 in
theorem w_1635 : (Jvm.Cond.code ({ cls := "DialSquareModel", name := "isSheet", desc := "(I)Z" } : Jvm.MethodName) prog_14_method_109_code (1 : Nat) (Option.some Jvm.ClassFile.FieldType.boolean)) ∈ tables_1 := tm_7 (List.mem_of_getElem? (i := 195) rfl)
set_option maxRecDepth 20000 in
theorem w_1636 : (Jvm.Cond.methodLink "DialSquareLaw" (184 : Nat) ({ cls := "DialSquareModel", name := "write", desc := "(III)I" } : Jvm.MethodName)) ∈ tables_1 := tm_7 (List.mem_of_getElem? (i := 196) rfl)
set_option maxRecDepth 20000 in
theorem w_1637 : (Jvm.Cond.instanceMethod ({ cls := "DialSquareModel", name := "write", desc := "(III)I" } : Jvm.MethodName)) ∈ tables_1 := tm_7 (List.mem_of_getElem? (i := 197) rfl)
set_option maxRecDepth 20000 in
theorem w_1638 : (Jvm.Cond.selects "DialSquareModel" ({ cls := "DialSquareModel", name := "write", desc := "(III)I" } : Jvm.MethodName) ({ cls := "DialSquareModel", name := "write", desc := "(III)I" } : Jvm.MethodName)) ∈ tables_1 := tm_7 (List.mem_of_getElem? (i := 198) rfl)
set_option maxRecDepth 20000 in
theorem w_1639 : (Jvm.Cond.code ({ cls := "DialSquareModel", name := "write", desc := "(III)I" } : Jvm.MethodName) prog_14_method_112_code (4 : Nat) (Option.some Jvm.ClassFile.FieldType.int)) ∈ tables_1 := tm_7 (List.mem_of_getElem? (i := 199) rfl)
set_option maxRecDepth 20000 in
theorem w_1640 : (Jvm.Cond.methodLink "DialSquareModel" (334 : Nat) ({ cls := "DialSquareModel", name := "narrowed", desc := "(II)I" } : Jvm.MethodName)) ∈ tables_1 := tm_7 (List.mem_of_getElem? (i := 200) rfl)
set_option maxRecDepth 20000 in
theorem w_1641 : (Jvm.Cond.static ({ cls := "DialSquareModel", name := "narrowed", desc := "(II)I" } : Jvm.MethodName)) ∈ tables_1 := tm_7 (List.mem_of_getElem? (i := 201) rfl)
set_option maxRecDepth 20000 in
theorem w_1642 : (Jvm.Cond.code ({ cls := "DialSquareModel", name := "narrowed", desc := "(II)I" } : Jvm.MethodName) prog_14_method_111_code (2 : Nat) (Option.some Jvm.ClassFile.FieldType.int)) ∈ tables_1 := tm_7 (List.mem_of_getElem? (i := 202) rfl)
set_option maxRecDepth 20000 in
theorem w_1643 : (Jvm.Cond.methodLink "DialSquareLaw" (188 : Nat) ({ cls := "DialSquareModel", name := "item", desc := "(III)I" } : Jvm.MethodName)) ∈ tables_1 := tm_7 (List.mem_of_getElem? (i := 203) rfl)
set_option maxRecDepth 20000 in
theorem w_1644 : (Jvm.Cond.instanceMethod ({ cls := "DialSquareModel", name := "item", desc := "(III)I" } : Jvm.MethodName)) ∈ tables_1 := tm_7 (List.mem_of_getElem? (i := 204) rfl)
set_option maxRecDepth 20000 in
theorem w_1645 : (Jvm.Cond.selects "DialSquareModel" ({ cls := "DialSquareModel", name := "item", desc := "(III)I" } : Jvm.MethodName) ({ cls := "DialSquareModel", name := "item", desc := "(III)I" } : Jvm.MethodName)) ∈ tables_1 := tm_7 (List.mem_of_getElem? (i := 205) rfl)
set_option maxRecDepth 20000 in
theorem w_1646 : (Jvm.Cond.code ({ cls := "DialSquareModel", name := "item", desc := "(III)I" } : Jvm.MethodName) prog_14_method_114_code (5 : Nat) (Option.some Jvm.ClassFile.FieldType.int)) ∈ tables_1 := tm_7 (List.mem_of_getElem? (i := 206) rfl)
set_option maxRecDepth 20000 in
theorem w_1647 : (Jvm.Cond.methodLink "DialSquareModel" (337 : Nat) ({ cls := "DialSquareModel", name := "lacks", desc := "(II)I" } : Jvm.MethodName)) ∈ tables_1 := tm_7 (List.mem_of_getElem? (i := 207) rfl)
set_option maxRecDepth 20000 in
theorem w_1648 : (Jvm.Cond.privateMethod ({ cls := "DialSquareModel", name := "lacks", desc := "(II)I" } : Jvm.MethodName)) ∈ tables_1 := tm_7 (List.mem_of_getElem? (i := 208) rfl)
set_option maxRecDepth 20000 in
theorem w_1649 : (Jvm.Cond.instanceMethod ({ cls := "DialSquareModel", name := "lacks", desc := "(II)I" } : Jvm.MethodName)) ∈ tables_1 := tm_7 (List.mem_of_getElem? (i := 209) rfl)
set_option maxRecDepth 20000 in
theorem w_1650 : (Jvm.Cond.code ({ cls := "DialSquareModel", name := "lacks", desc := "(II)I" } : Jvm.MethodName) prog_14_method_113_code (3 : Nat) (Option.some Jvm.ClassFile.FieldType.int)) ∈ tables_1 := tm_7 (List.mem_of_getElem? (i := 210) rfl)
set_option maxRecDepth 20000 in
theorem w_1651 : (Jvm.Cond.methodLink "DialSquareLaw" (192 : Nat) ({ cls := "DialSquareModel", name := "goAll", desc := "(III)I" } : Jvm.MethodName)) ∈ tables_1 := tm_7 (List.mem_of_getElem? (i := 211) rfl)
set_option maxRecDepth 20000 in
theorem w_1652 : (Jvm.Cond.instanceMethod ({ cls := "DialSquareModel", name := "goAll", desc := "(III)I" } : Jvm.MethodName)) ∈ tables_1 := tm_7 (List.mem_of_getElem? (i := 212) rfl)
set_option maxRecDepth 20000 in
theorem w_1653 : (Jvm.Cond.selects "DialSquareModel" ({ cls := "DialSquareModel", name := "goAll", desc := "(III)I" } : Jvm.MethodName) ({ cls := "DialSquareModel", name := "goAll", desc := "(III)I" } : Jvm.MethodName)) ∈ tables_1 := tm_7 (List.mem_of_getElem? (i := 213) rfl)
set_option maxRecDepth 20000 in
theorem w_1654 : (Jvm.Cond.code ({ cls := "DialSquareModel", name := "goAll", desc := "(III)I" } : Jvm.MethodName) prog_14_method_116_code (8 : Nat) (Option.some Jvm.ClassFile.FieldType.int)) ∈ tables_1 := tm_7 (List.mem_of_getElem? (i := 214) rfl)
set_option maxRecDepth 20000 in
theorem w_1655 : (Jvm.Cond.methodLink "DialSquareModel" (340 : Nat) ({ cls := "DialSquareModel", name := "isItem", desc := "(III)Z" } : Jvm.MethodName)) ∈ tables_1 := tm_7 (List.mem_of_getElem? (i := 215) rfl)
set_option maxRecDepth 20000 in
theorem w_1656 : (Jvm.Cond.privateMethod ({ cls := "DialSquareModel", name := "isItem", desc := "(III)Z" } : Jvm.MethodName)) ∈ tables_1 := tm_7 (List.mem_of_getElem? (i := 216) rfl)
set_option maxRecDepth 20000 in
theorem w_1657 : (Jvm.Cond.instanceMethod ({ cls := "DialSquareModel", name := "isItem", desc := "(III)Z" } : Jvm.MethodName)) ∈ tables_1 := tm_7 (List.mem_of_getElem? (i := 217) rfl)
set_option maxRecDepth 20000 in
theorem w_1658 : (Jvm.Cond.code ({ cls := "DialSquareModel", name := "isItem", desc := "(III)Z" } : Jvm.MethodName) prog_14_method_115_code (4 : Nat) (Option.some Jvm.ClassFile.FieldType.boolean)) ∈ tables_1 := tm_7 (List.mem_of_getElem? (i := 218) rfl)
set_option maxRecDepth 20000 in
theorem w_1659 : (Jvm.Cond.methodLink "DialSquareLaw" (196 : Nat) ({ cls := "DialSquareModel", name := "wouldBe", desc := "(III)I" } : Jvm.MethodName)) ∈ tables_1 := tm_7 (List.mem_of_getElem? (i := 219) rfl)
set_option maxRecDepth 20000 in
theorem w_1660 : (Jvm.Cond.instanceMethod ({ cls := "DialSquareModel", name := "wouldBe", desc := "(III)I" } : Jvm.MethodName)) ∈ tables_1 := tm_7 (List.mem_of_getElem? (i := 220) rfl)
set_option maxRecDepth 20000 in
theorem w_1661 : (Jvm.Cond.selects "DialSquareModel" ({ cls := "DialSquareModel", name := "wouldBe", desc := "(III)I" } : Jvm.MethodName) ({ cls := "DialSquareModel", name := "wouldBe", desc := "(III)I" } : Jvm.MethodName)) ∈ tables_1 := tm_7 (List.mem_of_getElem? (i := 221) rfl)
set_option maxRecDepth 20000 in
theorem w_1662 : (Jvm.Cond.code ({ cls := "DialSquareModel", name := "wouldBe", desc := "(III)I" } : Jvm.MethodName) prog_14_method_117_code (8 : Nat) (Option.some Jvm.ClassFile.FieldType.int)) ∈ tables_1 := tm_7 (List.mem_of_getElem? (i := 222) rfl)
set_option maxRecDepth 20000 in
theorem w_1663 : (Jvm.Cond.methodLink "DialSquareLaw" (200 : Nat) ({ cls := "DialSquareModel", name := "shelf", desc := "(III)I" } : Jvm.MethodName)) ∈ tables_1 := tm_7 (List.mem_of_getElem? (i := 223) rfl)
set_option maxRecDepth 20000 in
theorem w_1664 : (Jvm.Cond.instanceMethod ({ cls := "DialSquareModel", name := "shelf", desc := "(III)I" } : Jvm.MethodName)) ∈ tables_1 := tm_7 (List.mem_of_getElem? (i := 224) rfl)
set_option maxRecDepth 20000 in
theorem w_1665 : (Jvm.Cond.selects "DialSquareModel" ({ cls := "DialSquareModel", name := "shelf", desc := "(III)I" } : Jvm.MethodName) ({ cls := "DialSquareModel", name := "shelf", desc := "(III)I" } : Jvm.MethodName)) ∈ tables_1 := tm_7 (List.mem_of_getElem? (i := 225) rfl)
set_option maxRecDepth 20000 in
theorem w_1666 : (Jvm.Cond.code ({ cls := "DialSquareModel", name := "shelf", desc := "(III)I" } : Jvm.MethodName) prog_14_method_118_code (4 : Nat) (Option.some Jvm.ClassFile.FieldType.int)) ∈ tables_1 := tm_7 (List.mem_of_getElem? (i := 226) rfl)
set_option maxRecDepth 20000 in
theorem w_1667 : (Jvm.Cond.methodLink "DialSquareLaw" (204 : Nat) ({ cls := "DialSquareModel", name := "taken", desc := "(II)I" } : Jvm.MethodName)) ∈ tables_1 := tm_7 (List.mem_of_getElem? (i := 227) rfl)
set_option maxRecDepth 20000 in
theorem w_1668 : (Jvm.Cond.instanceMethod ({ cls := "DialSquareModel", name := "taken", desc := "(II)I" } : Jvm.MethodName)) ∈ tables_1 := tm_7 (List.mem_of_getElem? (i := 228) rfl)
set_option maxRecDepth 20000 in
theorem w_1669 : (Jvm.Cond.selects "DialSquareModel" ({ cls := "DialSquareModel", name := "taken", desc := "(II)I" } : Jvm.MethodName) ({ cls := "DialSquareModel", name := "taken", desc := "(II)I" } : Jvm.MethodName)) ∈ tables_1 := tm_7 (List.mem_of_getElem? (i := 229) rfl)
set_option maxRecDepth 20000 in
theorem w_1670 : (Jvm.Cond.code ({ cls := "DialSquareModel", name := "taken", desc := "(II)I" } : Jvm.MethodName) prog_14_method_120_code (5 : Nat) (Option.some Jvm.ClassFile.FieldType.int)) ∈ tables_1 := tm_7 (List.mem_of_getElem? (i := 230) rfl)
set_option maxRecDepth 20000 in
theorem w_1671 : (Jvm.Cond.methodLink "DialSquareModel" (343 : Nat) ({ cls := "DialSquareModel", name := "heldOn", desc := "(I)I" } : Jvm.MethodName)) ∈ tables_1 := tm_7 (List.mem_of_getElem? (i := 231) rfl)
set_option maxRecDepth 20000 in
theorem w_1672 : (Jvm.Cond.privateMethod ({ cls := "DialSquareModel", name := "heldOn", desc := "(I)I" } : Jvm.MethodName)) ∈ tables_1 := tm_7 (List.mem_of_getElem? (i := 232) rfl)
set_option maxRecDepth 20000 in
theorem w_1673 : (Jvm.Cond.instanceMethod ({ cls := "DialSquareModel", name := "heldOn", desc := "(I)I" } : Jvm.MethodName)) ∈ tables_1 := tm_7 (List.mem_of_getElem? (i := 233) rfl)
set_option maxRecDepth 20000 in
theorem w_1674 : (Jvm.Cond.code ({ cls := "DialSquareModel", name := "heldOn", desc := "(I)I" } : Jvm.MethodName) prog_14_method_119_code (2 : Nat) (Option.some Jvm.ClassFile.FieldType.int)) ∈ tables_1 := tm_7 (List.mem_of_getElem? (i := 234) rfl)
set_option maxRecDepth 20000 in
theorem w_1675 : (Jvm.Cond.methodLink "DialSquareLaw" (208 : Nat) ({ cls := "DialSquareModel", name := "act", desc := "(III)I" } : Jvm.MethodName)) ∈ tables_1 := tm_7 (List.mem_of_getElem? (i := 235) rfl)
set_option maxRecDepth 20000 in
theorem w_1676 : (Jvm.Cond.instanceMethod ({ cls := "DialSquareModel", name := "act", desc := "(III)I" } : Jvm.MethodName)) ∈ tables_1 := tm_7 (List.mem_of_getElem? (i := 236) rfl)
set_option maxRecDepth 20000 in
theorem w_1677 : (Jvm.Cond.selects "DialSquareModel" ({ cls := "DialSquareModel", name := "act", desc := "(III)I" } : Jvm.MethodName) ({ cls := "DialSquareModel", name := "act", desc := "(III)I" } : Jvm.MethodName)) ∈ tables_1 := tm_7 (List.mem_of_getElem? (i := 237) rfl)
set_option maxRecDepth 20000 in
theorem w_1678 : (Jvm.Cond.code ({ cls := "DialSquareModel", name := "act", desc := "(III)I" } : Jvm.MethodName) prog_14_method_126_code (6 : Nat) (Option.some Jvm.ClassFile.FieldType.int)) ∈ tables_1 := tm_7 (List.mem_of_getElem? (i := 238) rfl)
set_option maxRecDepth 20000 in
theorem w_1679 : (Jvm.Cond.methodLink "DialSquareModel" (352 : Nat) ({ cls := "DialSquareModel", name := "pointsAs", desc := "(II)I" } : Jvm.MethodName)) ∈ tables_1 := tm_7 (List.mem_of_getElem? (i := 239) rfl)
set_option maxRecDepth 20000 in
theorem w_1680 : (Jvm.Cond.privateMethod ({ cls := "DialSquareModel", name := "pointsAs", desc := "(II)I" } : Jvm.MethodName)) ∈ tables_1 := tm_8 (List.mem_of_getElem? (i := 0) rfl)
set_option maxRecDepth 20000 in
theorem w_1681 : (Jvm.Cond.instanceMethod ({ cls := "DialSquareModel", name := "pointsAs", desc := "(II)I" } : Jvm.MethodName)) ∈ tables_1 := tm_8 (List.mem_of_getElem? (i := 1) rfl)
set_option maxRecDepth 20000 in
theorem w_1682 : (Jvm.Cond.code ({ cls := "DialSquareModel", name := "pointsAs", desc := "(II)I" } : Jvm.MethodName) prog_14_method_122_code (3 : Nat) (Option.some Jvm.ClassFile.FieldType.int)) ∈ tables_1 := tm_8 (List.mem_of_getElem? (i := 2) rfl)
set_option maxRecDepth 20000 in
theorem w_1683 : (Jvm.Cond.methodLink "DialSquareModel" (349 : Nat) ({ cls := "DialSquareModel", name := "starts", desc := "(I)V" } : Jvm.MethodName)) ∈ tables_1 := tm_8 (List.mem_of_getElem? (i := 3) rfl)
set_option maxRecDepth 20000 in
theorem w_1684 : (Jvm.Cond.privateMethod ({ cls := "DialSquareModel", name := "starts", desc := "(I)V" } : Jvm.MethodName)) ∈ tables_1 := tm_8 (List.mem_of_getElem? (i := 4) rfl)
set_option maxRecDepth 20000 in
theorem w_1685 : (Jvm.Cond.instanceMethod ({ cls := "DialSquareModel", name := "starts", desc := "(I)V" } : Jvm.MethodName)) ∈ tables_1 := tm_8 (List.mem_of_getElem? (i := 5) rfl)
set_option maxRecDepth 20000 in
theorem w_1686 : (Jvm.Cond.code ({ cls := "DialSquareModel", name := "starts", desc := "(I)V" } : Jvm.MethodName) prog_14_method_121_code (2 : Nat) (Option.none : Option Jvm.ClassFile.FieldType)) ∈ tables_1 := tm_8 (List.mem_of_getElem? (i := 6) rfl)
set_option maxRecDepth 20000 in
theorem w_1687 : (Jvm.Cond.methodLink "DialSquareModel" (358 : Nat) ({ cls := "DialSquareModel", name := "slantsAs", desc := "(II)I" } : Jvm.MethodName)) ∈ tables_1 := tm_8 (List.mem_of_getElem? (i := 7) rfl)
set_option maxRecDepth 20000 in
theorem w_1688 : (Jvm.Cond.privateMethod ({ cls := "DialSquareModel", name := "slantsAs", desc := "(II)I" } : Jvm.MethodName)) ∈ tables_1 := tm_8 (List.mem_of_getElem? (i := 8) rfl)
set_option maxRecDepth 20000 in
theorem w_1689 : (Jvm.Cond.instanceMethod ({ cls := "DialSquareModel", name := "slantsAs", desc := "(II)I" } : Jvm.MethodName)) ∈ tables_1 := tm_8 (List.mem_of_getElem? (i := 9) rfl)
set_option maxRecDepth 20000 in
theorem w_1690 : (Jvm.Cond.code ({ cls := "DialSquareModel", name := "slantsAs", desc := "(II)I" } : Jvm.MethodName) prog_14_method_123_code (3 : Nat) (Option.some Jvm.ClassFile.FieldType.int)) ∈ tables_1 := tm_8 (List.mem_of_getElem? (i := 10) rfl)
set_option maxRecDepth 20000 in
theorem w_1691 : (Jvm.Cond.methodLink "DialSquareModel" (361 : Nat) ({ cls := "DialSquareModel", name := "sharesAs", desc := "(II)I" } : Jvm.MethodName)) ∈ tables_1 := tm_8 (List.mem_of_getElem? (i := 11) rfl)
set_option maxRecDepth 20000 in
theorem w_1692 : (Jvm.Cond.privateMethod ({ cls := "DialSquareModel", name := "sharesAs", desc := "(II)I" } : Jvm.MethodName)) ∈ tables_1 := tm_8 (List.mem_of_getElem? (i := 12) rfl)
set_option maxRecDepth 20000 in
theorem w_1693 : (Jvm.Cond.instanceMethod ({ cls := "DialSquareModel", name := "sharesAs", desc := "(II)I" } : Jvm.MethodName)) ∈ tables_1 := tm_8 (List.mem_of_getElem? (i := 13) rfl)
set_option maxRecDepth 20000 in
theorem w_1694 : (Jvm.Cond.code ({ cls := "DialSquareModel", name := "sharesAs", desc := "(II)I" } : Jvm.MethodName) prog_14_method_124_code (4 : Nat) (Option.some Jvm.ClassFile.FieldType.int)) ∈ tables_1 := tm_8 (List.mem_of_getElem? (i := 14) rfl)
set_option maxRecDepth 20000 in
theorem w_1695 : (Jvm.Cond.methodLink "DialSquareModel" (368 : Nat) ({ cls := "DialSquareModel", name := "tellsAs", desc := "(II)I" } : Jvm.MethodName)) ∈ tables_1 := tm_8 (List.mem_of_getElem? (i := 15) rfl)
set_option maxRecDepth 20000 in
theorem w_1696 : (Jvm.Cond.privateMethod ({ cls := "DialSquareModel", name := "tellsAs", desc := "(II)I" } : Jvm.MethodName)) ∈ tables_1 := tm_8 (List.mem_of_getElem? (i := 16) rfl)
set_option maxRecDepth 20000 in
theorem w_1697 : (Jvm.Cond.instanceMethod ({ cls := "DialSquareModel", name := "tellsAs", desc := "(II)I" } : Jvm.MethodName)) ∈ tables_1 := tm_8 (List.mem_of_getElem? (i := 17) rfl)
set_option maxRecDepth 20000 in
theorem w_1698 : (Jvm.Cond.code ({ cls := "DialSquareModel", name := "tellsAs", desc := "(II)I" } : Jvm.MethodName) prog_14_method_125_code (4 : Nat) (Option.some Jvm.ClassFile.FieldType.int)) ∈ tables_1 := tm_8 (List.mem_of_getElem? (i := 18) rfl)
set_option maxRecDepth 20000 in
theorem w_1699 : (Jvm.Cond.methodLink "DialSquareLaw" (212 : Nat) ({ cls := "DialSquareModel", name := "trace", desc := "(I)I" } : Jvm.MethodName)) ∈ tables_1 := tm_8 (List.mem_of_getElem? (i := 19) rfl)
set_option maxRecDepth 20000 in
theorem w_1700 : (Jvm.Cond.instanceMethod ({ cls := "DialSquareModel", name := "trace", desc := "(I)I" } : Jvm.MethodName)) ∈ tables_1 := tm_8 (List.mem_of_getElem? (i := 20) rfl)
set_option maxRecDepth 20000 in
theorem w_1701 : (Jvm.Cond.selects "DialSquareModel" ({ cls := "DialSquareModel", name := "trace", desc := "(I)I" } : Jvm.MethodName) ({ cls := "DialSquareModel", name := "trace", desc := "(I)I" } : Jvm.MethodName)) ∈ tables_1 := tm_8 (List.mem_of_getElem? (i := 21) rfl)
set_option maxRecDepth 20000 in
theorem w_1702 : (Jvm.Cond.code ({ cls := "DialSquareModel", name := "trace", desc := "(I)I" } : Jvm.MethodName) prog_14_method_127_code (2 : Nat) (Option.some Jvm.ClassFile.FieldType.int)) ∈ tables_1 := tm_8 (List.mem_of_getElem? (i := 22) rfl)
set_option maxRecDepth 20000 in
theorem w_1703 : (Jvm.Cond.methodLink "DialSquareLaw" (216 : Nat) ({ cls := "DialSquareModel", name := "many", desc := "(I)I" } : Jvm.MethodName)) ∈ tables_1 := tm_8 (List.mem_of_getElem? (i := 23) rfl)
set_option maxRecDepth 20000 in
theorem w_1704 : (Jvm.Cond.instanceMethod ({ cls := "DialSquareModel", name := "many", desc := "(I)I" } : Jvm.MethodName)) ∈ tables_1 := tm_8 (List.mem_of_getElem? (i := 24) rfl)
set_option maxRecDepth 20000 in
theorem w_1705 : (Jvm.Cond.selects "DialSquareModel" ({ cls := "DialSquareModel", name := "many", desc := "(I)I" } : Jvm.MethodName) ({ cls := "DialSquareModel", name := "many", desc := "(I)I" } : Jvm.MethodName)) ∈ tables_1 := tm_8 (List.mem_of_getElem? (i := 25) rfl)
set_option maxRecDepth 20000 in
theorem w_1706 : (Jvm.Cond.code ({ cls := "DialSquareModel", name := "many", desc := "(I)I" } : Jvm.MethodName) prog_14_method_129_code (2 : Nat) (Option.some Jvm.ClassFile.FieldType.int)) ∈ tables_1 := tm_8 (List.mem_of_getElem? (i := 26) rfl)
set_option maxRecDepth 20000 in
theorem w_1707 : (Jvm.Cond.methodLink "DialSquareModel" (371 : Nat) ({ cls := "DialSquareModel", name := "ones", desc := "(I)I" } : Jvm.MethodName)) ∈ tables_1 := tm_8 (List.mem_of_getElem? (i := 27) rfl)
set_option maxRecDepth 20000 in
theorem w_1708 : (Jvm.Cond.static ({ cls := "DialSquareModel", name := "ones", desc := "(I)I" } : Jvm.MethodName)) ∈ tables_1 := tm_8 (List.mem_of_getElem? (i := 28) rfl)
set_option maxRecDepth 20000 in
theorem w_1709 : (Jvm.Cond.code ({ cls := "DialSquareModel", name := "ones", desc := "(I)I" } : Jvm.MethodName) prog_14_method_128_code (3 : Nat) (Option.some Jvm.ClassFile.FieldType.int)) ∈ tables_1 := tm_8 (List.mem_of_getElem? (i := 29) rfl)
set_option maxRecDepth 20000 in
theorem w_1710 : (Jvm.Cond.methodLink "DialSquareLaw" (220 : Nat) ({ cls := "DialSquareModel", name := "keep", desc := "()I" } : Jvm.MethodName)) ∈ tables_1 := tm_8 (List.mem_of_getElem? (i := 30) rfl)
set_option maxRecDepth 20000 in
theorem w_1711 : (Jvm.Cond.instanceMethod ({ cls := "DialSquareModel", name := "keep", desc := "()I" } : Jvm.MethodName)) ∈ tables_1 := tm_8 (List.mem_of_getElem? (i := 31) rfl)
set_option maxRecDepth 20000 in
theorem w_1712 : (Jvm.Cond.selects "DialSquareModel" ({ cls := "DialSquareModel", name := "keep", desc := "()I" } : Jvm.MethodName) ({ cls := "DialSquareModel", name := "keep", desc := "()I" } : Jvm.MethodName)) ∈ tables_1 := tm_8 (List.mem_of_getElem? (i := 32) rfl)
set_option maxRecDepth 20000 in
theorem w_1713 : (Jvm.Cond.code ({ cls := "DialSquareModel", name := "keep", desc := "()I" } : Jvm.MethodName) prog_14_method_130_code (2 : Nat) (Option.some Jvm.ClassFile.FieldType.int)) ∈ tables_1 := tm_8 (List.mem_of_getElem? (i := 33) rfl)
set_option maxRecDepth 20000 in
theorem w_1714 : (Jvm.Cond.methodLink "DialSquareLaw" (224 : Nat) ({ cls := "DialSquareModel", name := "again", desc := "()I" } : Jvm.MethodName)) ∈ tables_1 := tm_8 (List.mem_of_getElem? (i := 34) rfl)
set_option maxRecDepth 20000 in
theorem w_1715 : (Jvm.Cond.instanceMethod ({ cls := "DialSquareModel", name := "again", desc := "()I" } : Jvm.MethodName)) ∈ tables_1 := tm_8 (List.mem_of_getElem? (i := 35) rfl)
set_option maxRecDepth 20000 in
theorem w_1716 : (Jvm.Cond.selects "DialSquareModel" ({ cls := "DialSquareModel", name := "again", desc := "()I" } : Jvm.MethodName) ({ cls := "DialSquareModel", name := "again", desc := "()I" } : Jvm.MethodName)) ∈ tables_1 := tm_8 (List.mem_of_getElem? (i := 36) rfl)
set_option maxRecDepth 20000 in
theorem w_1717 : (Jvm.Cond.code ({ cls := "DialSquareModel", name := "again", desc := "()I" } : Jvm.MethodName) prog_14_method_131_code (2 : Nat) (Option.some Jvm.ClassFile.FieldType.int)) ∈ tables_1 := tm_8 (List.mem_of_getElem? (i := 37) rfl)
set_option maxRecDepth 20000 in
theorem w_1718 : (Jvm.Cond.constantLong "DialSquareLaw" (58 : Nat) (4294967295 : Int64)) ∈ tables_1 := tm_8 (List.mem_of_getElem? (i := 38) rfl)
set_option maxRecDepth 20000 in
theorem w_1719 : (Jvm.Cond.sameMethod "DialSquare$Tall" "DialSquare$Tall" "shades" "(II)I") ∈ tables_1 := tm_8 (List.mem_of_getElem? (i := 39) rfl)
set_option maxRecDepth 20000 in
theorem w_1720 : (Jvm.Cond.sameMethod "DialSquare$Low" "DialSquare$Low" "shades" "(II)I") ∈ tables_1 := tm_8 (List.mem_of_getElem? (i := 40) rfl)
set_option maxRecDepth 20000 in
theorem w_1721 : (Jvm.Cond.sameMethod "DialSquare$Tall" "DialSquare$Tall" "slips" "(II)I") ∈ tables_1 := tm_8 (List.mem_of_getElem? (i := 41) rfl)
set_option maxRecDepth 20000 in
theorem w_1722 : (Jvm.Cond.sameMethod "DialSquare$Low" "DialSquare$Low" "slips" "(II)I") ∈ tables_1 := tm_8 (List.mem_of_getElem? (i := 42) rfl)
set_option maxRecDepth 20000 in
theorem w_1723 : (Jvm.Cond.sameMethod "DialSquare$Low" "DialSquare$Low" "shares" "(LDialSquare$Host;I)I") ∈ tables_1 := tm_8 (List.mem_of_getElem? (i := 43) rfl)
set_option maxRecDepth 20000 in
theorem w_1724 : (Jvm.Cond.castable "DialSquare$Noon" "DialSquare$Dial") ∈ tables_1 := tm_8 (List.mem_of_getElem? (i := 44) rfl)
set_option maxRecDepth 20000 in
theorem w_1725 : (Jvm.Cond.castable "DialSquare$Tall" "DialSquare$Dial") ∈ tables_1 := tm_8 (List.mem_of_getElem? (i := 45) rfl)
set_option maxRecDepth 20000 in
theorem w_1726 : (Jvm.Cond.castable "DialSquare$Guild" "DialSquare$Dial") ∈ tables_1 := tm_8 (List.mem_of_getElem? (i := 46) rfl)
set_option maxRecDepth 20000 in
theorem w_1727 : (Jvm.Cond.castable "DialSquare$Low" "DialSquare$Dial") ∈ tables_1 := tm_8 (List.mem_of_getElem? (i := 47) rfl)
set_option maxRecDepth 20000 in
theorem w_1728 : (Jvm.Cond.castable "DialSquare$Slit" "DialSquare$Dial") ∈ tables_1 := tm_8 (List.mem_of_getElem? (i := 48) rfl)
set_option maxRecDepth 20000 in
theorem w_1729 : (Jvm.Cond.fieldLink "java/lang/String" (9 : Nat) "java/lang/String" "value" "[B") ∈ tables_1 := tm_8 (List.mem_of_getElem? (i := 49) rfl)
set_option maxRecDepth 20000 in
theorem w_1730 : (Jvm.Cond.fieldLink "java/lang/String" (15 : Nat) "java/lang/String" "coder" "B") ∈ tables_1 := tm_8 (List.mem_of_getElem? (i := 50) rfl)
