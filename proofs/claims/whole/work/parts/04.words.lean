theorem m1_0 : (Jvm.Cond.initialized "LastCalledLaw") ∈ lw_G := lw_Gm (lw_t1 (List.mem_of_getElem? (i := 0) rfl)) rfl
theorem m1_1 : (Jvm.Cond.initialized "LastCalled") ∈ lw_G := lw_Gm (lw_t1 (List.mem_of_getElem? (i := 1) rfl)) rfl
theorem m1_2 : (Jvm.Cond.initialized "LastCalled$Hamlet") ∈ lw_G := lw_Gm (lw_t1 (List.mem_of_getElem? (i := 2) rfl)) rfl
theorem m1_3 : (Jvm.Cond.initialized "LastCalled$Text") ∈ lw_G := lw_Gm (lw_t1 (List.mem_of_getElem? (i := 3) rfl)) rfl
theorem m1_4 : (Jvm.Cond.initialized "LastCalled$Fraction") ∈ lw_G := lw_Gm (lw_t1 (List.mem_of_getElem? (i := 4) rfl)) rfl
theorem m1_5 : (Jvm.Cond.initialized "LastCalled$Hearing") ∈ lw_G := lw_Gm (lw_t1 (List.mem_of_getElem? (i := 5) rfl)) rfl
theorem m1_6 : (Jvm.Cond.initialized "LastCalled$Plain") ∈ lw_G := lw_Gm (lw_t1 (List.mem_of_getElem? (i := 6) rfl)) rfl
theorem m1_7 : (Jvm.Cond.initialized "LastCalled$Careful") ∈ lw_G := lw_Gm (lw_t1 (List.mem_of_getElem? (i := 7) rfl)) rfl
theorem m1_8 : (Jvm.Cond.initialized "LastCalled$Deaf") ∈ lw_G := lw_Gm (lw_t1 (List.mem_of_getElem? (i := 8) rfl)) rfl
theorem m1_9 : (Jvm.Cond.initialized "LastCalled$Child") ∈ lw_G := lw_Gm (lw_t1 (List.mem_of_getElem? (i := 9) rfl)) rfl
theorem m1_10 : (Jvm.Cond.initialized "LastCalled$Sheep") ∈ lw_G := lw_Gm (lw_t1 (List.mem_of_getElem? (i := 10) rfl)) rfl
theorem m1_11 : (Jvm.Cond.initialized "LastCalled$Cliff") ∈ lw_G := lw_Gm (lw_t1 (List.mem_of_getElem? (i := 11) rfl)) rfl
theorem m1_12 : (Jvm.Cond.initialized "LastCalled$Search") ∈ lw_G := lw_Gm (lw_t1 (List.mem_of_getElem? (i := 12) rfl)) rfl
theorem m1_13 : (Jvm.Cond.initialized "LastCalledModel") ∈ lw_G := lw_Gm (lw_t1 (List.mem_of_getElem? (i := 13) rfl)) rfl
theorem m1_14 : (Jvm.Cond.initialized "java/util/Arrays") ∈ lw_G := lw_Gm (lw_t1 (List.mem_of_getElem? (i := 14) rfl)) rfl
theorem m1_15 : (Jvm.Cond.initialized "java/lang/String") ∈ lw_G := lw_Gm (lw_t1 (List.mem_of_getElem? (i := 15) rfl)) rfl
theorem m1_16 : (Jvm.Cond.initialized "java/lang/StringLatin1") ∈ lw_G := lw_Gm (lw_t1 (List.mem_of_getElem? (i := 16) rfl)) rfl
theorem m1_17 : (Jvm.Cond.initialized "jdk/internal/util/Preconditions") ∈ lw_G := lw_Gm (lw_t1 (List.mem_of_getElem? (i := 17) rfl)) rfl
theorem m1_18 : (Jvm.Cond.initialized "java/lang/StringUTF16") ∈ lw_G := lw_Gm (lw_t1 (List.mem_of_getElem? (i := 18) rfl)) rfl
theorem m1_19 : (Jvm.Cond.initialized "java/lang/System") ∈ lw_G := lw_Gm (lw_t1 (List.mem_of_getElem? (i := 19) rfl)) rfl
theorem m1_20 : (Jvm.Cond.initialized "java/lang/Math") ∈ lw_G := lw_Gm (lw_t1 (List.mem_of_getElem? (i := 20) rfl)) rfl
theorem m1_21 : (Jvm.Cond.initialized "java/lang/Integer") ∈ lw_G := lw_Gm (lw_t1 (List.mem_of_getElem? (i := 21) rfl)) rfl
theorem m1_22 : (Jvm.Cond.classLink "LastCalledLaw" (7 : Nat) "LastCalled") ∈ lw_G := lw_Gm (lw_t1 (List.mem_of_getElem? (i := 22) rfl)) rfl
theorem m1_23 : (Jvm.Cond.instantiable "LastCalled" (9 : Nat)) ∈ lw_G := lw_Gm (lw_t1 (List.mem_of_getElem? (i := 23) rfl)) rfl
theorem m1_24 : (Jvm.Cond.methodLink "LastCalledLaw" (9 : Nat) ({ cls := "LastCalled", name := "<init>", desc := "()V" } : Jvm.MethodName)) ∈ lw_G := lw_Gm (lw_t1 (List.mem_of_getElem? (i := 24) rfl)) rfl
theorem m1_25 : (Jvm.Cond.instanceMethod ({ cls := "LastCalled", name := "<init>", desc := "()V" } : Jvm.MethodName)) ∈ lw_G := lw_Gm (lw_t1 (List.mem_of_getElem? (i := 25) rfl)) rfl
theorem m1_26 : (Jvm.Cond.code ({ cls := "LastCalled", name := "<init>", desc := "()V" } : Jvm.MethodName) prog_1_method_1_code (1 : Nat) (Option.none : Option Jvm.ClassFile.FieldType)) ∈ lw_G := lw_Gm (lw_t1 (List.mem_of_getElem? (i := 26) rfl)) rfl
theorem m1_27 : (Jvm.Cond.methodLink "LastCalled" (1 : Nat) ({ cls := "java/lang/Object", name := "<init>", desc := "()V" } : Jvm.MethodName)) ∈ lw_G := lw_Gm (lw_t1 (List.mem_of_getElem? (i := 27) rfl)) rfl
theorem m1_28 : (Jvm.Cond.instanceMethod ({ cls := "java/lang/Object", name := "<init>", desc := "()V" } : Jvm.MethodName)) ∈ lw_G := lw_Gm (lw_t1 (List.mem_of_getElem? (i := 28) rfl)) rfl
theorem m1_29 : (Jvm.Cond.code ({ cls := "java/lang/Object", name := "<init>", desc := "()V" } : Jvm.MethodName) object_method_1_code (1 : Nat) (Option.none : Option Jvm.ClassFile.FieldType)) ∈ lw_G := lw_Gm (lw_t1 (List.mem_of_getElem? (i := 29) rfl)) rfl
theorem m1_30 : (Jvm.Cond.classLink "LastCalled" (7 : Nat) "LastCalled$Hamlet") ∈ lw_G := lw_Gm (lw_t1 (List.mem_of_getElem? (i := 30) rfl)) rfl
theorem m1_31 : (Jvm.Cond.instantiable "LastCalled$Hamlet" (12 : Nat)) ∈ lw_G := lw_Gm (lw_t1 (List.mem_of_getElem? (i := 31) rfl)) rfl
theorem m1_33 : (Jvm.Cond.instanceMethod ({ cls := "LastCalled$Hamlet", name := "<init>", desc := "()V" } : Jvm.MethodName)) ∈ lw_G := lw_Gm (lw_t1 (List.mem_of_getElem? (i := 33) rfl)) rfl
theorem m1_34 : (Jvm.Cond.code ({ cls := "LastCalled$Hamlet", name := "<init>", desc := "()V" } : Jvm.MethodName) prog_7_method_1_code (1 : Nat) (Option.none : Option Jvm.ClassFile.FieldType)) ∈ lw_G := lw_Gm (lw_t1 (List.mem_of_getElem? (i := 34) rfl)) rfl
theorem m1_35 : (Jvm.Cond.methodLink "LastCalled$Hamlet" (3 : Nat) ({ cls := "java/lang/Object", name := "<init>", desc := "()V" } : Jvm.MethodName)) ∈ lw_G := lw_Gm (lw_t1 (List.mem_of_getElem? (i := 35) rfl)) rfl
theorem m1_36 : (Jvm.Cond.fieldLink "LastCalled$Hamlet" (33 : Nat) "LastCalled$Hamlet" "date" "I") ∈ lw_G := lw_Gm (lw_t1 (List.mem_of_getElem? (i := 36) rfl)) rfl
theorem m1_37 : (Jvm.Cond.fieldLink "LastCalled$Hearing" (72 : Nat) "LastCalled$Hamlet" "date" "I") ∈ lw_G := lw_Gm (lw_t1 (List.mem_of_getElem? (i := 37) rfl)) rfl
theorem m1_38 : (Jvm.Cond.fieldLink "LastCalled" (117 : Nat) "LastCalled$Hamlet" "date" "I") ∈ lw_G := lw_Gm (lw_t1 (List.mem_of_getElem? (i := 38) rfl)) rfl
theorem m1_39 : (Jvm.Cond.fieldLink "LastCalled$Hamlet" (37 : Nat) "LastCalled$Hamlet" "people" "I") ∈ lw_G := lw_Gm (lw_t1 (List.mem_of_getElem? (i := 39) rfl)) rfl
theorem m1_40 : (Jvm.Cond.fieldLink "LastCalled" (67 : Nat) "LastCalled$Hamlet" "people" "I") ∈ lw_G := lw_Gm (lw_t1 (List.mem_of_getElem? (i := 40) rfl)) rfl
theorem m1_41 : (Jvm.Cond.fieldLink "LastCalled$Search" (35 : Nat) "LastCalled$Hamlet" "people" "I") ∈ lw_G := lw_Gm (lw_t1 (List.mem_of_getElem? (i := 41) rfl)) rfl
theorem m1_42 : (Jvm.Cond.fieldLink "LastCalled$Text" (53 : Nat) "LastCalled$Hamlet" "people" "I") ∈ lw_G := lw_Gm (lw_t1 (List.mem_of_getElem? (i := 42) rfl)) rfl
theorem m1_43 : (Jvm.Cond.fieldLink "LastCalled$Hearing" (55 : Nat) "LastCalled$Hamlet" "people" "I") ∈ lw_G := lw_Gm (lw_t1 (List.mem_of_getElem? (i := 43) rfl)) rfl
theorem m1_44 : (Jvm.Cond.fieldLink "LastCalled$Hamlet" (9 : Nat) "LastCalled$Hamlet" "kinds" "[I") ∈ lw_G := lw_Gm (lw_t1 (List.mem_of_getElem? (i := 44) rfl)) rfl
theorem m1_45 : (Jvm.Cond.fieldLink "LastCalled$Hearing" (61 : Nat) "LastCalled$Hamlet" "kinds" "[I") ∈ lw_G := lw_Gm (lw_t1 (List.mem_of_getElem? (i := 45) rfl)) rfl
theorem m1_46 : (Jvm.Cond.fieldLink "LastCalled" (126 : Nat) "LastCalled$Hamlet" "kinds" "[I") ∈ lw_G := lw_Gm (lw_t1 (List.mem_of_getElem? (i := 46) rfl)) rfl
theorem m1_47 : (Jvm.Cond.fieldLink "LastCalled$Hamlet" (15 : Nat) "LastCalled$Hamlet" "places" "[I") ∈ lw_G := lw_Gm (lw_t1 (List.mem_of_getElem? (i := 47) rfl)) rfl
theorem m1_48 : (Jvm.Cond.fieldLink "LastCalled$Hearing" (63 : Nat) "LastCalled$Hamlet" "places" "[I") ∈ lw_G := lw_Gm (lw_t1 (List.mem_of_getElem? (i := 48) rfl)) rfl
theorem m1_49 : (Jvm.Cond.fieldLink "LastCalled" (114 : Nat) "LastCalled$Hamlet" "places" "[I") ∈ lw_G := lw_Gm (lw_t1 (List.mem_of_getElem? (i := 49) rfl)) rfl
theorem m1_50 : (Jvm.Cond.fieldLink "LastCalled$Hamlet" (18 : Nat) "LastCalled$Hamlet" "bearing" "[I") ∈ lw_G := lw_Gm (lw_t1 (List.mem_of_getElem? (i := 50) rfl)) rfl
theorem m1_51 : (Jvm.Cond.fieldLink "LastCalled$Search" (28 : Nat) "LastCalled$Hamlet" "bearing" "[I") ∈ lw_G := lw_Gm (lw_t1 (List.mem_of_getElem? (i := 51) rfl)) rfl
theorem m1_52 : (Jvm.Cond.fieldLink "LastCalled" (107 : Nat) "LastCalled$Hamlet" "bearing" "[I") ∈ lw_G := lw_Gm (lw_t1 (List.mem_of_getElem? (i := 52) rfl)) rfl
theorem m1_53 : (Jvm.Cond.fieldLink "LastCalled$Hamlet" (46 : Nat) "LastCalled$Hamlet" "deeds" "I") ∈ lw_G := lw_Gm (lw_t1 (List.mem_of_getElem? (i := 53) rfl)) rfl
theorem m1_54 : (Jvm.Cond.fieldLink "LastCalled" (157 : Nat) "LastCalled$Hamlet" "deeds" "I") ∈ lw_G := lw_Gm (lw_t1 (List.mem_of_getElem? (i := 54) rfl)) rfl
theorem m1_55 : (Jvm.Cond.fieldLink "LastCalled$Hamlet" (21 : Nat) "LastCalled$Hamlet" "deedNames" "[I") ∈ lw_G := lw_Gm (lw_t1 (List.mem_of_getElem? (i := 55) rfl)) rfl
theorem m1_56 : (Jvm.Cond.fieldLink "LastCalled" (160 : Nat) "LastCalled$Hamlet" "deedNames" "[I") ∈ lw_G := lw_Gm (lw_t1 (List.mem_of_getElem? (i := 56) rfl)) rfl
theorem m1_57 : (Jvm.Cond.fieldLink "LastCalled$Hamlet" (24 : Nat) "LastCalled$Hamlet" "deedPence" "[I") ∈ lw_G := lw_Gm (lw_t1 (List.mem_of_getElem? (i := 57) rfl)) rfl
theorem m1_58 : (Jvm.Cond.fieldLink "LastCalled" (163 : Nat) "LastCalled$Hamlet" "deedPence" "[I") ∈ lw_G := lw_Gm (lw_t1 (List.mem_of_getElem? (i := 58) rfl)) rfl
theorem m1_59 : (Jvm.Cond.fieldLink "LastCalled$Hamlet" (49 : Nat) "LastCalled$Hamlet" "notes" "I") ∈ lw_G := lw_Gm (lw_t1 (List.mem_of_getElem? (i := 59) rfl)) rfl
theorem m1_60 : (Jvm.Cond.fieldLink "LastCalled" (183 : Nat) "LastCalled$Hamlet" "notes" "I") ∈ lw_G := lw_Gm (lw_t1 (List.mem_of_getElem? (i := 60) rfl)) rfl
theorem m1_61 : (Jvm.Cond.fieldLink "LastCalled$Hamlet" (27 : Nat) "LastCalled$Hamlet" "noted" "[I") ∈ lw_G := lw_Gm (lw_t1 (List.mem_of_getElem? (i := 61) rfl)) rfl
theorem m1_62 : (Jvm.Cond.fieldLink "LastCalled" (242 : Nat) "LastCalled$Hamlet" "noted" "[I") ∈ lw_G := lw_Gm (lw_t1 (List.mem_of_getElem? (i := 62) rfl)) rfl
theorem m1_63 : (Jvm.Cond.fieldLink "LastCalled$Hamlet" (52 : Nat) "LastCalled$Hamlet" "pasts" "I") ∈ lw_G := lw_Gm (lw_t1 (List.mem_of_getElem? (i := 63) rfl)) rfl
theorem m1_64 : (Jvm.Cond.fieldLink "LastCalled" (120 : Nat) "LastCalled$Hamlet" "pasts" "I") ∈ lw_G := lw_Gm (lw_t1 (List.mem_of_getElem? (i := 64) rfl)) rfl
theorem m1_65 : (Jvm.Cond.fieldLink "LastCalled$Hamlet" (30 : Nat) "LastCalled$Hamlet" "past" "[I") ∈ lw_G := lw_Gm (lw_t1 (List.mem_of_getElem? (i := 65) rfl)) rfl
theorem m1_66 : (Jvm.Cond.lays "LastCalled$Hamlet" "LastCalled$Hamlet" "date" "I") ∈ lw_G := lw_Gm (lw_t1 (List.mem_of_getElem? (i := 66) rfl)) rfl
theorem m1_68 : (Jvm.Cond.lays "LastCalled$Hamlet" "LastCalled$Hamlet" "people" "I") ∈ lw_G := lw_Gm (lw_t1 (List.mem_of_getElem? (i := 68) rfl)) rfl
theorem m1_70 : (Jvm.Cond.laysFinal "LastCalled$Hamlet" "LastCalled$Hamlet" "kinds" "[I") ∈ lw_G := lw_Gm (lw_t1 (List.mem_of_getElem? (i := 70) rfl)) rfl
theorem m1_72 : (Jvm.Cond.laysFinal "LastCalled$Hamlet" "LastCalled$Hamlet" "places" "[I") ∈ lw_G := lw_Gm (lw_t1 (List.mem_of_getElem? (i := 72) rfl)) rfl
theorem m1_74 : (Jvm.Cond.laysFinal "LastCalled$Hamlet" "LastCalled$Hamlet" "bearing" "[I") ∈ lw_G := lw_Gm (lw_t1 (List.mem_of_getElem? (i := 74) rfl)) rfl
theorem m1_76 : (Jvm.Cond.lays "LastCalled$Hamlet" "LastCalled$Hamlet" "deeds" "I") ∈ lw_G := lw_Gm (lw_t1 (List.mem_of_getElem? (i := 76) rfl)) rfl
theorem m1_78 : (Jvm.Cond.laysFinal "LastCalled$Hamlet" "LastCalled$Hamlet" "deedNames" "[I") ∈ lw_G := lw_Gm (lw_t1 (List.mem_of_getElem? (i := 78) rfl)) rfl
theorem m1_80 : (Jvm.Cond.laysFinal "LastCalled$Hamlet" "LastCalled$Hamlet" "deedPence" "[I") ∈ lw_G := lw_Gm (lw_t1 (List.mem_of_getElem? (i := 80) rfl)) rfl
theorem m1_82 : (Jvm.Cond.lays "LastCalled$Hamlet" "LastCalled$Hamlet" "notes" "I") ∈ lw_G := lw_Gm (lw_t1 (List.mem_of_getElem? (i := 82) rfl)) rfl
theorem m1_84 : (Jvm.Cond.laysFinal "LastCalled$Hamlet" "LastCalled$Hamlet" "noted" "[I") ∈ lw_G := lw_Gm (lw_t1 (List.mem_of_getElem? (i := 84) rfl)) rfl
theorem m1_86 : (Jvm.Cond.lays "LastCalled$Hamlet" "LastCalled$Hamlet" "pasts" "I") ∈ lw_G := lw_Gm (lw_t1 (List.mem_of_getElem? (i := 86) rfl)) rfl
theorem m1_88 : (Jvm.Cond.laysFinal "LastCalled$Hamlet" "LastCalled$Hamlet" "past" "[I") ∈ lw_G := lw_Gm (lw_t1 (List.mem_of_getElem? (i := 88) rfl)) rfl
theorem m1_90 : (Jvm.Cond.superclass "LastCalled$Hamlet" "java/lang/Object") ∈ lw_G := lw_Gm (lw_t1 (List.mem_of_getElem? (i := 90) rfl)) rfl
theorem m1_91 : (Jvm.Cond.arrayClass Jvm.ClassFile.FieldType.int) ∈ lw_G := lw_Gm (lw_t1 (List.mem_of_getElem? (i := 91) rfl)) rfl
theorem m1_93 : (Jvm.Cond.classLink "LastCalled" (27 : Nat) "LastCalled$Text") ∈ lw_G := lw_Gm (lw_t1 (List.mem_of_getElem? (i := 93) rfl)) rfl
theorem m1_94 : (Jvm.Cond.instantiable "LastCalled$Text" (6 : Nat)) ∈ lw_G := lw_Gm (lw_t1 (List.mem_of_getElem? (i := 94) rfl)) rfl
theorem m1_96 : (Jvm.Cond.instanceMethod ({ cls := "LastCalled$Text", name := "<init>", desc := "()V" } : Jvm.MethodName)) ∈ lw_G := lw_Gm (lw_t1 (List.mem_of_getElem? (i := 96) rfl)) rfl
theorem m1_97 : (Jvm.Cond.code ({ cls := "LastCalled$Text", name := "<init>", desc := "()V" } : Jvm.MethodName) prog_12_method_1_code (1 : Nat) (Option.none : Option Jvm.ClassFile.FieldType)) ∈ lw_G := lw_Gm (lw_t1 (List.mem_of_getElem? (i := 97) rfl)) rfl
theorem m1_98 : (Jvm.Cond.methodLink "LastCalled$Text" (3 : Nat) ({ cls := "java/lang/Object", name := "<init>", desc := "()V" } : Jvm.MethodName)) ∈ lw_G := lw_Gm (lw_t1 (List.mem_of_getElem? (i := 98) rfl)) rfl
theorem m1_99 : (Jvm.Cond.fieldLink "LastCalled$Text" (9 : Nat) "LastCalled$Text" "bytes" "[B") ∈ lw_G := lw_Gm (lw_t1 (List.mem_of_getElem? (i := 99) rfl)) rfl
theorem m1_100 : (Jvm.Cond.fieldLink "LastCalled$Text" (15 : Nat) "LastCalled$Text" "length" "I") ∈ lw_G := lw_Gm (lw_t1 (List.mem_of_getElem? (i := 100) rfl)) rfl
theorem m1_101 : (Jvm.Cond.fieldLink "LastCalled" (79 : Nat) "LastCalled$Text" "length" "I") ∈ lw_G := lw_Gm (lw_t1 (List.mem_of_getElem? (i := 101) rfl)) rfl
theorem m1_102 : (Jvm.Cond.fieldLink "LastCalled$Text" (44 : Nat) "LastCalled$Text" "sort" "I") ∈ lw_G := lw_Gm (lw_t1 (List.mem_of_getElem? (i := 102) rfl)) rfl
theorem m1_103 : (Jvm.Cond.fieldLink "LastCalled" (89 : Nat) "LastCalled$Text" "start" "I") ∈ lw_G := lw_Gm (lw_t1 (List.mem_of_getElem? (i := 103) rfl)) rfl
theorem m1_104 : (Jvm.Cond.fieldLink "LastCalled$Text" (76 : Nat) "LastCalled$Text" "start" "I") ∈ lw_G := lw_Gm (lw_t1 (List.mem_of_getElem? (i := 104) rfl)) rfl
theorem m1_105 : (Jvm.Cond.fieldLink "LastCalled$Text" (19 : Nat) "LastCalled$Text" "end" "I") ∈ lw_G := lw_Gm (lw_t1 (List.mem_of_getElem? (i := 105) rfl)) rfl
theorem m1_106 : (Jvm.Cond.fieldLink "LastCalled$Text" (35 : Nat) "LastCalled$Text" "value" "I") ∈ lw_G := lw_Gm (lw_t1 (List.mem_of_getElem? (i := 106) rfl)) rfl
theorem m1_107 : (Jvm.Cond.laysFinal "LastCalled$Text" "LastCalled$Text" "bytes" "[B") ∈ lw_G := lw_Gm (lw_t1 (List.mem_of_getElem? (i := 107) rfl)) rfl
theorem m1_109 : (Jvm.Cond.lays "LastCalled$Text" "LastCalled$Text" "length" "I") ∈ lw_G := lw_Gm (lw_t1 (List.mem_of_getElem? (i := 109) rfl)) rfl
theorem m1_111 : (Jvm.Cond.lays "LastCalled$Text" "LastCalled$Text" "sort" "I") ∈ lw_G := lw_Gm (lw_t1 (List.mem_of_getElem? (i := 111) rfl)) rfl
theorem m1_113 : (Jvm.Cond.lays "LastCalled$Text" "LastCalled$Text" "start" "I") ∈ lw_G := lw_Gm (lw_t1 (List.mem_of_getElem? (i := 113) rfl)) rfl
theorem m1_115 : (Jvm.Cond.lays "LastCalled$Text" "LastCalled$Text" "end" "I") ∈ lw_G := lw_Gm (lw_t1 (List.mem_of_getElem? (i := 115) rfl)) rfl
theorem m1_117 : (Jvm.Cond.lays "LastCalled$Text" "LastCalled$Text" "value" "I") ∈ lw_G := lw_Gm (lw_t1 (List.mem_of_getElem? (i := 117) rfl)) rfl
theorem m1_119 : (Jvm.Cond.superclass "LastCalled$Text" "java/lang/Object") ∈ lw_G := lw_Gm (lw_t1 (List.mem_of_getElem? (i := 119) rfl)) rfl
theorem m1_120 : (Jvm.Cond.arrayClass Jvm.ClassFile.FieldType.boolean) ∈ lw_G := lw_Gm (lw_t1 (List.mem_of_getElem? (i := 120) rfl)) rfl
theorem m1_121 : (Jvm.Cond.arrayClass Jvm.ClassFile.FieldType.byte) ∈ lw_G := lw_Gm (lw_t1 (List.mem_of_getElem? (i := 121) rfl)) rfl
theorem m1_122 : (Jvm.Cond.classLink "LastCalled" (34 : Nat) "LastCalled$Fraction") ∈ lw_G := lw_Gm (lw_t1 (List.mem_of_getElem? (i := 122) rfl)) rfl
theorem m1_123 : (Jvm.Cond.instantiable "LastCalled$Fraction" (2 : Nat)) ∈ lw_G := lw_Gm (lw_t1 (List.mem_of_getElem? (i := 123) rfl)) rfl
theorem m1_125 : (Jvm.Cond.instanceMethod ({ cls := "LastCalled$Fraction", name := "<init>", desc := "()V" } : Jvm.MethodName)) ∈ lw_G := lw_Gm (lw_t1 (List.mem_of_getElem? (i := 125) rfl)) rfl
theorem m1_126 : (Jvm.Cond.code ({ cls := "LastCalled$Fraction", name := "<init>", desc := "()V" } : Jvm.MethodName) prog_6_method_1_code (1 : Nat) (Option.none : Option Jvm.ClassFile.FieldType)) ∈ lw_G := lw_Gm (lw_t1 (List.mem_of_getElem? (i := 126) rfl)) rfl
theorem m1_127 : (Jvm.Cond.methodLink "LastCalled$Fraction" (1 : Nat) ({ cls := "java/lang/Object", name := "<init>", desc := "()V" } : Jvm.MethodName)) ∈ lw_G := lw_Gm (lw_t1 (List.mem_of_getElem? (i := 127) rfl)) rfl
theorem m1_128 : (Jvm.Cond.fieldLink "LastCalled$Fraction" (7 : Nat) "LastCalled$Fraction" "above" "J") ∈ lw_G := lw_Gm (lw_t1 (List.mem_of_getElem? (i := 128) rfl)) rfl
theorem m1_129 : (Jvm.Cond.fieldLink "LastCalled" (212 : Nat) "LastCalled$Fraction" "above" "J") ∈ lw_G := lw_Gm (lw_t1 (List.mem_of_getElem? (i := 129) rfl)) rfl
theorem m1_130 : (Jvm.Cond.fieldLink "LastCalled$Fraction" (13 : Nat) "LastCalled$Fraction" "below" "J") ∈ lw_G := lw_Gm (lw_t1 (List.mem_of_getElem? (i := 130) rfl)) rfl
theorem m1_131 : (Jvm.Cond.fieldLink "LastCalled" (216 : Nat) "LastCalled$Fraction" "below" "J") ∈ lw_G := lw_Gm (lw_t1 (List.mem_of_getElem? (i := 131) rfl)) rfl
theorem m1_132 : (Jvm.Cond.lays "LastCalled$Fraction" "LastCalled$Fraction" "above" "J") ∈ lw_G := lw_Gm (lw_t1 (List.mem_of_getElem? (i := 132) rfl)) rfl
theorem m1_134 : (Jvm.Cond.lays "LastCalled$Fraction" "LastCalled$Fraction" "below" "J") ∈ lw_G := lw_Gm (lw_t1 (List.mem_of_getElem? (i := 134) rfl)) rfl
theorem m1_136 : (Jvm.Cond.superclass "LastCalled$Fraction" "java/lang/Object") ∈ lw_G := lw_Gm (lw_t1 (List.mem_of_getElem? (i := 136) rfl)) rfl
theorem m1_137 : (Jvm.Cond.classLink "LastCalled" (41 : Nat) "LastCalled$Hearing") ∈ lw_G := lw_Gm (lw_t1 (List.mem_of_getElem? (i := 137) rfl)) rfl
theorem m1_138 : (Jvm.Cond.instantiable "LastCalled$Hearing" (4 : Nat)) ∈ lw_G := lw_Gm (lw_t1 (List.mem_of_getElem? (i := 138) rfl)) rfl
theorem m1_140 : (Jvm.Cond.instanceMethod ({ cls := "LastCalled$Hearing", name := "<init>", desc := "()V" } : Jvm.MethodName)) ∈ lw_G := lw_Gm (lw_t1 (List.mem_of_getElem? (i := 140) rfl)) rfl
theorem m1_141 : (Jvm.Cond.code ({ cls := "LastCalled$Hearing", name := "<init>", desc := "()V" } : Jvm.MethodName) prog_8_method_1_code (1 : Nat) (Option.none : Option Jvm.ClassFile.FieldType)) ∈ lw_G := lw_Gm (lw_t1 (List.mem_of_getElem? (i := 141) rfl)) rfl
theorem m1_142 : (Jvm.Cond.methodLink "LastCalled$Hearing" (3 : Nat) ({ cls := "java/lang/Object", name := "<init>", desc := "()V" } : Jvm.MethodName)) ∈ lw_G := lw_Gm (lw_t1 (List.mem_of_getElem? (i := 142) rfl)) rfl
theorem m1_143 : (Jvm.Cond.classLink "LastCalled$Hearing" (9 : Nat) "LastCalled$Plain") ∈ lw_G := lw_Gm (lw_t1 (List.mem_of_getElem? (i := 143) rfl)) rfl
theorem m1_145 : (Jvm.Cond.instantiable "LastCalled$Plain" (0 : Nat)) ∈ lw_G := lw_Gm (lw_t1 (List.mem_of_getElem? (i := 145) rfl)) rfl
theorem m1_147 : (Jvm.Cond.instanceMethod ({ cls := "LastCalled$Plain", name := "<init>", desc := "()V" } : Jvm.MethodName)) ∈ lw_G := lw_Gm (lw_t1 (List.mem_of_getElem? (i := 147) rfl)) rfl
theorem m1_148 : (Jvm.Cond.code ({ cls := "LastCalled$Plain", name := "<init>", desc := "()V" } : Jvm.MethodName) prog_9_method_1_code (1 : Nat) (Option.none : Option Jvm.ClassFile.FieldType)) ∈ lw_G := lw_Gm (lw_t1 (List.mem_of_getElem? (i := 148) rfl)) rfl
theorem m1_149 : (Jvm.Cond.methodLink "LastCalled$Plain" (1 : Nat) ({ cls := "java/lang/Object", name := "<init>", desc := "()V" } : Jvm.MethodName)) ∈ lw_G := lw_Gm (lw_t1 (List.mem_of_getElem? (i := 149) rfl)) rfl
theorem m1_150 : (Jvm.Cond.superclass "LastCalled$Plain" "java/lang/Object") ∈ lw_G := lw_Gm (lw_t1 (List.mem_of_getElem? (i := 150) rfl)) rfl
theorem m1_151 : (Jvm.Cond.classLink "LastCalled$Hearing" (12 : Nat) "LastCalled$Careful") ∈ lw_G := lw_Gm (lw_t1 (List.mem_of_getElem? (i := 151) rfl)) rfl
theorem m1_152 : (Jvm.Cond.instantiable "LastCalled$Careful" (0 : Nat)) ∈ lw_G := lw_Gm (lw_t1 (List.mem_of_getElem? (i := 152) rfl)) rfl
theorem m1_154 : (Jvm.Cond.instanceMethod ({ cls := "LastCalled$Careful", name := "<init>", desc := "()V" } : Jvm.MethodName)) ∈ lw_G := lw_Gm (lw_t1 (List.mem_of_getElem? (i := 154) rfl)) rfl
theorem m1_155 : (Jvm.Cond.code ({ cls := "LastCalled$Careful", name := "<init>", desc := "()V" } : Jvm.MethodName) prog_2_method_1_code (1 : Nat) (Option.none : Option Jvm.ClassFile.FieldType)) ∈ lw_G := lw_Gm (lw_t1 (List.mem_of_getElem? (i := 155) rfl)) rfl
theorem m1_157 : (Jvm.Cond.superclass "LastCalled$Careful" "LastCalled$Plain") ∈ lw_G := lw_Gm (lw_t1 (List.mem_of_getElem? (i := 157) rfl)) rfl
theorem m1_158 : (Jvm.Cond.classLink "LastCalled$Hearing" (15 : Nat) "LastCalled$Deaf") ∈ lw_G := lw_Gm (lw_t1 (List.mem_of_getElem? (i := 158) rfl)) rfl
theorem m1_159 : (Jvm.Cond.instantiable "LastCalled$Deaf" (0 : Nat)) ∈ lw_G := lw_Gm (lw_t1 (List.mem_of_getElem? (i := 159) rfl)) rfl
theorem m1_161 : (Jvm.Cond.instanceMethod ({ cls := "LastCalled$Deaf", name := "<init>", desc := "()V" } : Jvm.MethodName)) ∈ lw_G := lw_Gm (lw_t1 (List.mem_of_getElem? (i := 161) rfl)) rfl
theorem m1_162 : (Jvm.Cond.code ({ cls := "LastCalled$Deaf", name := "<init>", desc := "()V" } : Jvm.MethodName) prog_5_method_1_code (1 : Nat) (Option.none : Option Jvm.ClassFile.FieldType)) ∈ lw_G := lw_Gm (lw_t1 (List.mem_of_getElem? (i := 162) rfl)) rfl
theorem m1_164 : (Jvm.Cond.superclass "LastCalled$Deaf" "LastCalled$Plain") ∈ lw_G := lw_Gm (lw_t1 (List.mem_of_getElem? (i := 164) rfl)) rfl
theorem m1_165 : (Jvm.Cond.classLink "LastCalled$Hearing" (18 : Nat) "LastCalled$Child") ∈ lw_G := lw_Gm (lw_t1 (List.mem_of_getElem? (i := 165) rfl)) rfl
theorem m1_166 : (Jvm.Cond.instantiable "LastCalled$Child" (0 : Nat)) ∈ lw_G := lw_Gm (lw_t1 (List.mem_of_getElem? (i := 166) rfl)) rfl
theorem m1_168 : (Jvm.Cond.instanceMethod ({ cls := "LastCalled$Child", name := "<init>", desc := "()V" } : Jvm.MethodName)) ∈ lw_G := lw_Gm (lw_t1 (List.mem_of_getElem? (i := 168) rfl)) rfl
theorem m1_169 : (Jvm.Cond.code ({ cls := "LastCalled$Child", name := "<init>", desc := "()V" } : Jvm.MethodName) prog_3_method_1_code (1 : Nat) (Option.none : Option Jvm.ClassFile.FieldType)) ∈ lw_G := lw_Gm (lw_t1 (List.mem_of_getElem? (i := 169) rfl)) rfl
theorem m1_171 : (Jvm.Cond.superclass "LastCalled$Child" "LastCalled$Plain") ∈ lw_G := lw_Gm (lw_t1 (List.mem_of_getElem? (i := 171) rfl)) rfl
theorem m1_172 : (Jvm.Cond.classLink "LastCalled$Hearing" (21 : Nat) "LastCalled$Sheep") ∈ lw_G := lw_Gm (lw_t1 (List.mem_of_getElem? (i := 172) rfl)) rfl
theorem m1_173 : (Jvm.Cond.instantiable "LastCalled$Sheep" (0 : Nat)) ∈ lw_G := lw_Gm (lw_t1 (List.mem_of_getElem? (i := 173) rfl)) rfl
theorem m1_175 : (Jvm.Cond.instanceMethod ({ cls := "LastCalled$Sheep", name := "<init>", desc := "()V" } : Jvm.MethodName)) ∈ lw_G := lw_Gm (lw_t1 (List.mem_of_getElem? (i := 175) rfl)) rfl
theorem m1_176 : (Jvm.Cond.code ({ cls := "LastCalled$Sheep", name := "<init>", desc := "()V" } : Jvm.MethodName) prog_11_method_1_code (1 : Nat) (Option.none : Option Jvm.ClassFile.FieldType)) ∈ lw_G := lw_Gm (lw_t1 (List.mem_of_getElem? (i := 176) rfl)) rfl
theorem m1_178 : (Jvm.Cond.superclass "LastCalled$Sheep" "LastCalled$Child") ∈ lw_G := lw_Gm (lw_t1 (List.mem_of_getElem? (i := 178) rfl)) rfl
theorem m1_179 : (Jvm.Cond.classLink "LastCalled$Hearing" (24 : Nat) "LastCalled$Cliff") ∈ lw_G := lw_Gm (lw_t1 (List.mem_of_getElem? (i := 179) rfl)) rfl
theorem m1_180 : (Jvm.Cond.instantiable "LastCalled$Cliff" (0 : Nat)) ∈ lw_G := lw_Gm (lw_t1 (List.mem_of_getElem? (i := 180) rfl)) rfl
theorem m1_182 : (Jvm.Cond.instanceMethod ({ cls := "LastCalled$Cliff", name := "<init>", desc := "()V" } : Jvm.MethodName)) ∈ lw_G := lw_Gm (lw_t1 (List.mem_of_getElem? (i := 182) rfl)) rfl
theorem m1_183 : (Jvm.Cond.code ({ cls := "LastCalled$Cliff", name := "<init>", desc := "()V" } : Jvm.MethodName) prog_4_method_1_code (1 : Nat) (Option.none : Option Jvm.ClassFile.FieldType)) ∈ lw_G := lw_Gm (lw_t1 (List.mem_of_getElem? (i := 183) rfl)) rfl
theorem m1_185 : (Jvm.Cond.superclass "LastCalled$Cliff" "LastCalled$Careful") ∈ lw_G := lw_Gm (lw_t1 (List.mem_of_getElem? (i := 185) rfl)) rfl
theorem m1_186 : (Jvm.Cond.fieldLink "LastCalled$Hearing" (27 : Nat) "LastCalled$Hearing" "kinds" "[LLastCalled$Plain;") ∈ lw_G := lw_Gm (lw_t1 (List.mem_of_getElem? (i := 186) rfl)) rfl
theorem m1_187 : (Jvm.Cond.fieldLink "LastCalled$Hearing" (33 : Nat) "LastCalled$Hearing" "atOwn" "[I") ∈ lw_G := lw_Gm (lw_t1 (List.mem_of_getElem? (i := 187) rfl)) rfl
theorem m1_188 : (Jvm.Cond.fieldLink "LastCalled$Hearing" (37 : Nat) "LastCalled$Hearing" "atOthers" "[I") ∈ lw_G := lw_Gm (lw_t1 (List.mem_of_getElem? (i := 188) rfl)) rfl
theorem m1_189 : (Jvm.Cond.fieldLink "LastCalled$Hearing" (40 : Nat) "LastCalled$Hearing" "atNobodys" "[I") ∈ lw_G := lw_Gm (lw_t1 (List.mem_of_getElem? (i := 189) rfl)) rfl
theorem m1_190 : (Jvm.Cond.laysFinal "LastCalled$Hearing" "LastCalled$Hearing" "kinds" "[LLastCalled$Plain;") ∈ lw_G := lw_Gm (lw_t1 (List.mem_of_getElem? (i := 190) rfl)) rfl
theorem m1_192 : (Jvm.Cond.laysFinal "LastCalled$Hearing" "LastCalled$Hearing" "atOwn" "[I") ∈ lw_G := lw_Gm (lw_t1 (List.mem_of_getElem? (i := 192) rfl)) rfl
theorem m1_194 : (Jvm.Cond.laysFinal "LastCalled$Hearing" "LastCalled$Hearing" "atOthers" "[I") ∈ lw_G := lw_Gm (lw_t1 (List.mem_of_getElem? (i := 194) rfl)) rfl
theorem m1_196 : (Jvm.Cond.laysFinal "LastCalled$Hearing" "LastCalled$Hearing" "atNobodys" "[I") ∈ lw_G := lw_Gm (lw_t1 (List.mem_of_getElem? (i := 196) rfl)) rfl
theorem m1_198 : (Jvm.Cond.superclass "LastCalled$Hearing" "java/lang/Object") ∈ lw_G := lw_Gm (lw_t1 (List.mem_of_getElem? (i := 198) rfl)) rfl
theorem m1_199 : (Jvm.Cond.classLink "LastCalled" (48 : Nat) "LastCalled$Search") ∈ lw_G := lw_Gm (lw_t1 (List.mem_of_getElem? (i := 199) rfl)) rfl
theorem m1_200 : (Jvm.Cond.instantiable "LastCalled$Search" (4 : Nat)) ∈ lw_G := lw_Gm (lw_t1 (List.mem_of_getElem? (i := 200) rfl)) rfl
theorem m1_202 : (Jvm.Cond.instanceMethod ({ cls := "LastCalled$Search", name := "<init>", desc := "()V" } : Jvm.MethodName)) ∈ lw_G := lw_Gm (lw_t1 (List.mem_of_getElem? (i := 202) rfl)) rfl
theorem m1_203 : (Jvm.Cond.code ({ cls := "LastCalled$Search", name := "<init>", desc := "()V" } : Jvm.MethodName) prog_10_method_1_code (1 : Nat) (Option.none : Option Jvm.ClassFile.FieldType)) ∈ lw_G := lw_Gm (lw_t1 (List.mem_of_getElem? (i := 203) rfl)) rfl
theorem m1_204 : (Jvm.Cond.methodLink "LastCalled$Search" (3 : Nat) ({ cls := "java/lang/Object", name := "<init>", desc := "()V" } : Jvm.MethodName)) ∈ lw_G := lw_Gm (lw_t1 (List.mem_of_getElem? (i := 204) rfl)) rfl
theorem m1_205 : (Jvm.Cond.fieldLink "LastCalled$Search" (9 : Nat) "LastCalled$Search" "behind" "[I") ∈ lw_G := lw_Gm (lw_t1 (List.mem_of_getElem? (i := 205) rfl)) rfl
theorem m1_206 : (Jvm.Cond.fieldLink "LastCalled$Search" (15 : Nat) "LastCalled$Search" "fewest" "I") ∈ lw_G := lw_Gm (lw_t1 (List.mem_of_getElem? (i := 206) rfl)) rfl
theorem m1_207 : (Jvm.Cond.fieldLink "LastCalled" (144 : Nat) "LastCalled$Search" "fewest" "I") ∈ lw_G := lw_Gm (lw_t1 (List.mem_of_getElem? (i := 207) rfl)) rfl
theorem m1_208 : (Jvm.Cond.fieldLink "LastCalled$Search" (19 : Nat) "LastCalled$Search" "first" "I") ∈ lw_G := lw_Gm (lw_t1 (List.mem_of_getElem? (i := 208) rfl)) rfl
theorem m1_209 : (Jvm.Cond.fieldLink "LastCalled" (147 : Nat) "LastCalled$Search" "first" "I") ∈ lw_G := lw_Gm (lw_t1 (List.mem_of_getElem? (i := 209) rfl)) rfl
theorem m1_210 : (Jvm.Cond.fieldLink "LastCalled$Search" (61 : Nat) "LastCalled$Search" "most" "I") ∈ lw_G := lw_Gm (lw_t1 (List.mem_of_getElem? (i := 210) rfl)) rfl
theorem m1_211 : (Jvm.Cond.fieldLink "LastCalled" (154 : Nat) "LastCalled$Search" "most" "I") ∈ lw_G := lw_Gm (lw_t1 (List.mem_of_getElem? (i := 211) rfl)) rfl
theorem m1_212 : (Jvm.Cond.laysFinal "LastCalled$Search" "LastCalled$Search" "behind" "[I") ∈ lw_G := lw_Gm (lw_t1 (List.mem_of_getElem? (i := 212) rfl)) rfl
theorem m1_214 : (Jvm.Cond.lays "LastCalled$Search" "LastCalled$Search" "fewest" "I") ∈ lw_G := lw_Gm (lw_t1 (List.mem_of_getElem? (i := 214) rfl)) rfl
theorem m1_216 : (Jvm.Cond.lays "LastCalled$Search" "LastCalled$Search" "first" "I") ∈ lw_G := lw_Gm (lw_t1 (List.mem_of_getElem? (i := 216) rfl)) rfl
theorem m1_218 : (Jvm.Cond.lays "LastCalled$Search" "LastCalled$Search" "most" "I") ∈ lw_G := lw_Gm (lw_t1 (List.mem_of_getElem? (i := 218) rfl)) rfl
theorem m1_220 : (Jvm.Cond.superclass "LastCalled$Search" "java/lang/Object") ∈ lw_G := lw_Gm (lw_t1 (List.mem_of_getElem? (i := 220) rfl)) rfl
theorem m1_221 : (Jvm.Cond.fieldLink "LastCalled" (10 : Nat) "LastCalled" "now" "LLastCalled$Hamlet;") ∈ lw_G := lw_Gm (lw_t1 (List.mem_of_getElem? (i := 221) rfl)) rfl
theorem m1_222 : (Jvm.Cond.fieldLink "LastCalled" (16 : Nat) "LastCalled" "draft" "LLastCalled$Hamlet;") ∈ lw_G := lw_Gm (lw_t1 (List.mem_of_getElem? (i := 222) rfl)) rfl
theorem m1_223 : (Jvm.Cond.fieldLink "LastCalled" (19 : Nat) "LastCalled" "images" "[LLastCalled$Hamlet;") ∈ lw_G := lw_Gm (lw_t1 (List.mem_of_getElem? (i := 223) rfl)) rfl
theorem m1_224 : (Jvm.Cond.fieldLink "LastCalled" (23 : Nat) "LastCalled" "kept" "[Z") ∈ lw_G := lw_Gm (lw_t1 (List.mem_of_getElem? (i := 224) rfl)) rfl
theorem m1_225 : (Jvm.Cond.fieldLink "LastCalled" (30 : Nat) "LastCalled" "text" "LLastCalled$Text;") ∈ lw_G := lw_Gm (lw_t1 (List.mem_of_getElem? (i := 225) rfl)) rfl
theorem m1_226 : (Jvm.Cond.fieldLink "LastCalled" (37 : Nat) "LastCalled" "fraction" "LLastCalled$Fraction;") ∈ lw_G := lw_Gm (lw_t1 (List.mem_of_getElem? (i := 226) rfl)) rfl
theorem m1_227 : (Jvm.Cond.fieldLink "LastCalled" (44 : Nat) "LastCalled" "hearing" "LLastCalled$Hearing;") ∈ lw_G := lw_Gm (lw_t1 (List.mem_of_getElem? (i := 227) rfl)) rfl
theorem m1_228 : (Jvm.Cond.fieldLink "LastCalled" (51 : Nat) "LastCalled" "search" "LLastCalled$Search;") ∈ lw_G := lw_Gm (lw_t1 (List.mem_of_getElem? (i := 228) rfl)) rfl
theorem m1_229 : (Jvm.Cond.fieldLink "LastCalled" (55 : Nat) "LastCalled" "refused" "[I") ∈ lw_G := lw_Gm (lw_t1 (List.mem_of_getElem? (i := 229) rfl)) rfl
theorem m1_230 : (Jvm.Cond.laysFinal "LastCalled" "LastCalled" "now" "LLastCalled$Hamlet;") ∈ lw_G := lw_Gm (lw_t1 (List.mem_of_getElem? (i := 230) rfl)) rfl
theorem m1_232 : (Jvm.Cond.laysFinal "LastCalled" "LastCalled" "draft" "LLastCalled$Hamlet;") ∈ lw_G := lw_Gm (lw_t1 (List.mem_of_getElem? (i := 232) rfl)) rfl
theorem m1_234 : (Jvm.Cond.laysFinal "LastCalled" "LastCalled" "images" "[LLastCalled$Hamlet;") ∈ lw_G := lw_Gm (lw_t1 (List.mem_of_getElem? (i := 234) rfl)) rfl
theorem m1_236 : (Jvm.Cond.laysFinal "LastCalled" "LastCalled" "kept" "[Z") ∈ lw_G := lw_Gm (lw_t1 (List.mem_of_getElem? (i := 236) rfl)) rfl
theorem m1_238 : (Jvm.Cond.laysFinal "LastCalled" "LastCalled" "text" "LLastCalled$Text;") ∈ lw_G := lw_Gm (lw_t1 (List.mem_of_getElem? (i := 238) rfl)) rfl
theorem m2_0 : (Jvm.Cond.laysFinal "LastCalled" "LastCalled" "fraction" "LLastCalled$Fraction;") ∈ lw_G := lw_Gm (lw_t2 (List.mem_of_getElem? (i := 0) rfl)) rfl
theorem m2_2 : (Jvm.Cond.laysFinal "LastCalled" "LastCalled" "hearing" "LLastCalled$Hearing;") ∈ lw_G := lw_Gm (lw_t2 (List.mem_of_getElem? (i := 2) rfl)) rfl
theorem m2_4 : (Jvm.Cond.laysFinal "LastCalled" "LastCalled" "search" "LLastCalled$Search;") ∈ lw_G := lw_Gm (lw_t2 (List.mem_of_getElem? (i := 4) rfl)) rfl
theorem m2_6 : (Jvm.Cond.laysFinal "LastCalled" "LastCalled" "refused" "[I") ∈ lw_G := lw_Gm (lw_t2 (List.mem_of_getElem? (i := 6) rfl)) rfl
theorem m2_8 : (Jvm.Cond.superclass "LastCalled" "java/lang/Object") ∈ lw_G := lw_Gm (lw_t2 (List.mem_of_getElem? (i := 8) rfl)) rfl
theorem m2_9 : (Jvm.Cond.methodLink "LastCalledLaw" (13 : Nat) ({ cls := "LastCalled", name := "hamlet", desc := "(I)I" } : Jvm.MethodName)) ∈ lw_G := lw_Gm (lw_t2 (List.mem_of_getElem? (i := 9) rfl)) rfl
theorem m2_10 : (Jvm.Cond.instanceMethod ({ cls := "LastCalled", name := "hamlet", desc := "(I)I" } : Jvm.MethodName)) ∈ lw_G := lw_Gm (lw_t2 (List.mem_of_getElem? (i := 10) rfl)) rfl
theorem m2_11 : (Jvm.Cond.selects "LastCalled" ({ cls := "LastCalled", name := "hamlet", desc := "(I)I" } : Jvm.MethodName) ({ cls := "LastCalled", name := "hamlet", desc := "(I)I" } : Jvm.MethodName)) ∈ lw_G := lw_Gm (lw_t2 (List.mem_of_getElem? (i := 11) rfl)) rfl
theorem m2_12 : (Jvm.Cond.code ({ cls := "LastCalled", name := "hamlet", desc := "(I)I" } : Jvm.MethodName) prog_1_method_2_code (3 : Nat) (Option.some Jvm.ClassFile.FieldType.int)) ∈ lw_G := lw_Gm (lw_t2 (List.mem_of_getElem? (i := 12) rfl)) rfl
theorem m2_13 : (Jvm.Cond.methodLink "LastCalled" (59 : Nat) ({ cls := "LastCalled", name := "within", desc := "(II)Z" } : Jvm.MethodName)) ∈ lw_G := lw_Gm (lw_t2 (List.mem_of_getElem? (i := 13) rfl)) rfl
theorem m2_14 : (Jvm.Cond.static ({ cls := "LastCalled", name := "within", desc := "(II)Z" } : Jvm.MethodName)) ∈ lw_G := lw_Gm (lw_t2 (List.mem_of_getElem? (i := 14) rfl)) rfl
theorem m2_15 : (Jvm.Cond.code ({ cls := "LastCalled", name := "within", desc := "(II)Z" } : Jvm.MethodName) prog_1_method_35_code (2 : Nat) (Option.some Jvm.ClassFile.FieldType.boolean)) ∈ lw_G := lw_Gm (lw_t2 (List.mem_of_getElem? (i := 15) rfl)) rfl
theorem m2_16 : (Jvm.Cond.methodLink "LastCalled" (63 : Nat) ({ cls := "LastCalled", name := "refuse", desc := "(I)I" } : Jvm.MethodName)) ∈ lw_G := lw_Gm (lw_t2 (List.mem_of_getElem? (i := 16) rfl)) rfl
theorem m2_18 : (Jvm.Cond.instanceMethod ({ cls := "LastCalled", name := "refuse", desc := "(I)I" } : Jvm.MethodName)) ∈ lw_G := lw_Gm (lw_t2 (List.mem_of_getElem? (i := 18) rfl)) rfl
theorem m2_19 : (Jvm.Cond.code ({ cls := "LastCalled", name := "refuse", desc := "(I)I" } : Jvm.MethodName) prog_1_method_38_code (3 : Nat) (Option.some Jvm.ClassFile.FieldType.int)) ∈ lw_G := lw_Gm (lw_t2 (List.mem_of_getElem? (i := 19) rfl)) rfl
theorem m2_20 : (Jvm.Cond.methodLink "LastCalled" (71 : Nat) ({ cls := "LastCalled$Hamlet", name := "begin", desc := "(I)V" } : Jvm.MethodName)) ∈ lw_G := lw_Gm (lw_t2 (List.mem_of_getElem? (i := 20) rfl)) rfl
theorem m2_21 : (Jvm.Cond.instanceMethod ({ cls := "LastCalled$Hamlet", name := "begin", desc := "(I)V" } : Jvm.MethodName)) ∈ lw_G := lw_Gm (lw_t2 (List.mem_of_getElem? (i := 21) rfl)) rfl
theorem m2_22 : (Jvm.Cond.selects "LastCalled$Hamlet" ({ cls := "LastCalled$Hamlet", name := "begin", desc := "(I)V" } : Jvm.MethodName) ({ cls := "LastCalled$Hamlet", name := "begin", desc := "(I)V" } : Jvm.MethodName)) ∈ lw_G := lw_Gm (lw_t2 (List.mem_of_getElem? (i := 22) rfl)) rfl
theorem m2_23 : (Jvm.Cond.code ({ cls := "LastCalled$Hamlet", name := "begin", desc := "(I)V" } : Jvm.MethodName) prog_7_method_2_code (2 : Nat) (Option.none : Option Jvm.ClassFile.FieldType)) ∈ lw_G := lw_Gm (lw_t2 (List.mem_of_getElem? (i := 23) rfl)) rfl
theorem m2_24 : (Jvm.Cond.methodLink "LastCalled$Hamlet" (40 : Nat) ({ cls := "java/util/Arrays", name := "fill", desc := "([II)V" } : Jvm.MethodName)) ∈ lw_G := lw_Gm (lw_t2 (List.mem_of_getElem? (i := 24) rfl)) rfl
theorem m2_25 : (Jvm.Cond.static ({ cls := "java/util/Arrays", name := "fill", desc := "([II)V" } : Jvm.MethodName)) ∈ lw_G := lw_Gm (lw_t2 (List.mem_of_getElem? (i := 25) rfl)) rfl
theorem m2_26 : (Jvm.Cond.code ({ cls := "java/util/Arrays", name := "fill", desc := "([II)V" } : Jvm.MethodName) prog_21_method_103_code (4 : Nat) (Option.none : Option Jvm.ClassFile.FieldType)) ∈ lw_G := lw_Gm (lw_t2 (List.mem_of_getElem? (i := 26) rfl)) rfl
theorem m2_27 : (Jvm.Cond.methodLink "LastCalledLaw" (18 : Nat) ({ cls := "LastCalled", name := "one", desc := "(II)I" } : Jvm.MethodName)) ∈ lw_G := lw_Gm (lw_t2 (List.mem_of_getElem? (i := 27) rfl)) rfl
theorem m2_28 : (Jvm.Cond.instanceMethod ({ cls := "LastCalled", name := "one", desc := "(II)I" } : Jvm.MethodName)) ∈ lw_G := lw_Gm (lw_t2 (List.mem_of_getElem? (i := 28) rfl)) rfl
theorem m2_29 : (Jvm.Cond.selects "LastCalled" ({ cls := "LastCalled", name := "one", desc := "(II)I" } : Jvm.MethodName) ({ cls := "LastCalled", name := "one", desc := "(II)I" } : Jvm.MethodName)) ∈ lw_G := lw_Gm (lw_t2 (List.mem_of_getElem? (i := 29) rfl)) rfl
theorem m2_30 : (Jvm.Cond.code ({ cls := "LastCalled", name := "one", desc := "(II)I" } : Jvm.MethodName) prog_1_method_3_code (3 : Nat) (Option.some Jvm.ClassFile.FieldType.int)) ∈ lw_G := lw_Gm (lw_t2 (List.mem_of_getElem? (i := 30) rfl)) rfl
theorem m2_31 : (Jvm.Cond.methodLink "LastCalled" (75 : Nat) ({ cls := "LastCalled$Hamlet", name := "join", desc := "(II)V" } : Jvm.MethodName)) ∈ lw_G := lw_Gm (lw_t2 (List.mem_of_getElem? (i := 31) rfl)) rfl
theorem m2_32 : (Jvm.Cond.instanceMethod ({ cls := "LastCalled$Hamlet", name := "join", desc := "(II)V" } : Jvm.MethodName)) ∈ lw_G := lw_Gm (lw_t2 (List.mem_of_getElem? (i := 32) rfl)) rfl
theorem m2_33 : (Jvm.Cond.selects "LastCalled$Hamlet" ({ cls := "LastCalled$Hamlet", name := "join", desc := "(II)V" } : Jvm.MethodName) ({ cls := "LastCalled$Hamlet", name := "join", desc := "(II)V" } : Jvm.MethodName)) ∈ lw_G := lw_Gm (lw_t2 (List.mem_of_getElem? (i := 33) rfl)) rfl
theorem m2_34 : (Jvm.Cond.code ({ cls := "LastCalled$Hamlet", name := "join", desc := "(II)V" } : Jvm.MethodName) prog_7_method_4_code (3 : Nat) (Option.none : Option Jvm.ClassFile.FieldType)) ∈ lw_G := lw_Gm (lw_t2 (List.mem_of_getElem? (i := 34) rfl)) rfl
theorem m2_35 : (Jvm.Cond.methodLink "LastCalledLaw" (23 : Nat) ({ cls := "LastCalled", name := "type", desc := "(I)I" } : Jvm.MethodName)) ∈ lw_G := lw_Gm (lw_t2 (List.mem_of_getElem? (i := 35) rfl)) rfl
theorem m2_36 : (Jvm.Cond.instanceMethod ({ cls := "LastCalled", name := "type", desc := "(I)I" } : Jvm.MethodName)) ∈ lw_G := lw_Gm (lw_t2 (List.mem_of_getElem? (i := 36) rfl)) rfl
theorem m2_37 : (Jvm.Cond.selects "LastCalled" ({ cls := "LastCalled", name := "type", desc := "(I)I" } : Jvm.MethodName) ({ cls := "LastCalled", name := "type", desc := "(I)I" } : Jvm.MethodName)) ∈ lw_G := lw_Gm (lw_t2 (List.mem_of_getElem? (i := 37) rfl)) rfl
theorem m2_38 : (Jvm.Cond.code ({ cls := "LastCalled", name := "type", desc := "(I)I" } : Jvm.MethodName) prog_1_method_4_code (2 : Nat) (Option.some Jvm.ClassFile.FieldType.int)) ∈ lw_G := lw_Gm (lw_t2 (List.mem_of_getElem? (i := 38) rfl)) rfl
theorem m2_39 : (Jvm.Cond.methodLink "LastCalled" (82 : Nat) ({ cls := "LastCalled$Text", name := "append", desc := "(I)V" } : Jvm.MethodName)) ∈ lw_G := lw_Gm (lw_t2 (List.mem_of_getElem? (i := 39) rfl)) rfl
theorem m2_40 : (Jvm.Cond.instanceMethod ({ cls := "LastCalled$Text", name := "append", desc := "(I)V" } : Jvm.MethodName)) ∈ lw_G := lw_Gm (lw_t2 (List.mem_of_getElem? (i := 40) rfl)) rfl
theorem m2_41 : (Jvm.Cond.selects "LastCalled$Text" ({ cls := "LastCalled$Text", name := "append", desc := "(I)V" } : Jvm.MethodName) ({ cls := "LastCalled$Text", name := "append", desc := "(I)V" } : Jvm.MethodName)) ∈ lw_G := lw_Gm (lw_t2 (List.mem_of_getElem? (i := 41) rfl)) rfl
theorem m2_42 : (Jvm.Cond.code ({ cls := "LastCalled$Text", name := "append", desc := "(I)V" } : Jvm.MethodName) prog_12_method_2_code (2 : Nat) (Option.none : Option Jvm.ClassFile.FieldType)) ∈ lw_G := lw_Gm (lw_t2 (List.mem_of_getElem? (i := 42) rfl)) rfl
theorem m2_43 : (Jvm.Cond.methodLink "LastCalledLaw" (27 : Nat) ({ cls := "LastCalled", name := "clear", desc := "()I" } : Jvm.MethodName)) ∈ lw_G := lw_Gm (lw_t2 (List.mem_of_getElem? (i := 43) rfl)) rfl
theorem m2_44 : (Jvm.Cond.instanceMethod ({ cls := "LastCalled", name := "clear", desc := "()I" } : Jvm.MethodName)) ∈ lw_G := lw_Gm (lw_t2 (List.mem_of_getElem? (i := 44) rfl)) rfl
theorem m2_45 : (Jvm.Cond.selects "LastCalled" ({ cls := "LastCalled", name := "clear", desc := "()I" } : Jvm.MethodName) ({ cls := "LastCalled", name := "clear", desc := "()I" } : Jvm.MethodName)) ∈ lw_G := lw_Gm (lw_t2 (List.mem_of_getElem? (i := 45) rfl)) rfl
theorem m2_46 : (Jvm.Cond.code ({ cls := "LastCalled", name := "clear", desc := "()I" } : Jvm.MethodName) prog_1_method_5_code (2 : Nat) (Option.some Jvm.ClassFile.FieldType.int)) ∈ lw_G := lw_Gm (lw_t2 (List.mem_of_getElem? (i := 46) rfl)) rfl
theorem m2_47 : (Jvm.Cond.methodLink "LastCalledLaw" (32 : Nat) ({ cls := "LastCalled", name := "read", desc := "()I" } : Jvm.MethodName)) ∈ lw_G := lw_Gm (lw_t2 (List.mem_of_getElem? (i := 47) rfl)) rfl
theorem m2_48 : (Jvm.Cond.instanceMethod ({ cls := "LastCalled", name := "read", desc := "()I" } : Jvm.MethodName)) ∈ lw_G := lw_Gm (lw_t2 (List.mem_of_getElem? (i := 48) rfl)) rfl
theorem m2_49 : (Jvm.Cond.selects "LastCalled" ({ cls := "LastCalled", name := "read", desc := "()I" } : Jvm.MethodName) ({ cls := "LastCalled", name := "read", desc := "()I" } : Jvm.MethodName)) ∈ lw_G := lw_Gm (lw_t2 (List.mem_of_getElem? (i := 49) rfl)) rfl
theorem m2_50 : (Jvm.Cond.code ({ cls := "LastCalled", name := "read", desc := "()I" } : Jvm.MethodName) prog_1_method_6_code (2 : Nat) (Option.some Jvm.ClassFile.FieldType.int)) ∈ lw_G := lw_Gm (lw_t2 (List.mem_of_getElem? (i := 50) rfl)) rfl
theorem m2_51 : (Jvm.Cond.methodLink "LastCalled" (85 : Nat) ({ cls := "LastCalled$Text", name := "tell", desc := "(LLastCalled$Hamlet;)I" } : Jvm.MethodName)) ∈ lw_G := lw_Gm (lw_t2 (List.mem_of_getElem? (i := 51) rfl)) rfl
theorem m2_52 : (Jvm.Cond.instanceMethod ({ cls := "LastCalled$Text", name := "tell", desc := "(LLastCalled$Hamlet;)I" } : Jvm.MethodName)) ∈ lw_G := lw_Gm (lw_t2 (List.mem_of_getElem? (i := 52) rfl)) rfl
theorem m2_53 : (Jvm.Cond.selects "LastCalled$Text" ({ cls := "LastCalled$Text", name := "tell", desc := "(LLastCalled$Hamlet;)I" } : Jvm.MethodName) ({ cls := "LastCalled$Text", name := "tell", desc := "(LLastCalled$Hamlet;)I" } : Jvm.MethodName)) ∈ lw_G := lw_Gm (lw_t2 (List.mem_of_getElem? (i := 53) rfl)) rfl
theorem m2_54 : (Jvm.Cond.code ({ cls := "LastCalled$Text", name := "tell", desc := "(LLastCalled$Hamlet;)I" } : Jvm.MethodName) prog_12_method_3_code (3 : Nat) (Option.some Jvm.ClassFile.FieldType.int)) ∈ lw_G := lw_Gm (lw_t2 (List.mem_of_getElem? (i := 54) rfl)) rfl
theorem m2_55 : (Jvm.Cond.methodLink "LastCalled$Text" (22 : Nat) ({ cls := "LastCalled$Text", name := "advance", desc := "()V" } : Jvm.MethodName)) ∈ lw_G := lw_Gm (lw_t2 (List.mem_of_getElem? (i := 55) rfl)) rfl
theorem m2_57 : (Jvm.Cond.instanceMethod ({ cls := "LastCalled$Text", name := "advance", desc := "()V" } : Jvm.MethodName)) ∈ lw_G := lw_Gm (lw_t2 (List.mem_of_getElem? (i := 57) rfl)) rfl
theorem m2_58 : (Jvm.Cond.code ({ cls := "LastCalled$Text", name := "advance", desc := "()V" } : Jvm.MethodName) prog_12_method_10_code (2 : Nat) (Option.none : Option Jvm.ClassFile.FieldType)) ∈ lw_G := lw_Gm (lw_t2 (List.mem_of_getElem? (i := 58) rfl)) rfl
theorem m2_59 : (Jvm.Cond.methodLink "LastCalled$Text" (88 : Nat) ({ cls := "LastCalled$Text", name := "sortOf", desc := "(I)I" } : Jvm.MethodName)) ∈ lw_G := lw_Gm (lw_t2 (List.mem_of_getElem? (i := 59) rfl)) rfl
theorem m2_60 : (Jvm.Cond.static ({ cls := "LastCalled$Text", name := "sortOf", desc := "(I)I" } : Jvm.MethodName)) ∈ lw_G := lw_Gm (lw_t2 (List.mem_of_getElem? (i := 60) rfl)) rfl
theorem m2_61 : (Jvm.Cond.code ({ cls := "LastCalled$Text", name := "sortOf", desc := "(I)I" } : Jvm.MethodName) prog_12_method_11_code (1 : Nat) (Option.some Jvm.ClassFile.FieldType.int)) ∈ lw_G := lw_Gm (lw_t2 (List.mem_of_getElem? (i := 61) rfl)) rfl
theorem m2_63 : (Jvm.Cond.methodLink "LastCalled$Text" (27 : Nat) ({ cls := "LastCalled$Text", name := "isWord", desc := "(Ljava/lang/String;)Z" } : Jvm.MethodName)) ∈ lw_G := lw_Gm (lw_t2 (List.mem_of_getElem? (i := 63) rfl)) rfl
theorem m2_65 : (Jvm.Cond.instanceMethod ({ cls := "LastCalled$Text", name := "isWord", desc := "(Ljava/lang/String;)Z" } : Jvm.MethodName)) ∈ lw_G := lw_Gm (lw_t2 (List.mem_of_getElem? (i := 65) rfl)) rfl
theorem m2_66 : (Jvm.Cond.code ({ cls := "LastCalled$Text", name := "isWord", desc := "(Ljava/lang/String;)Z" } : Jvm.MethodName) prog_12_method_9_code (3 : Nat) (Option.some Jvm.ClassFile.FieldType.boolean)) ∈ lw_G := lw_Gm (lw_t2 (List.mem_of_getElem? (i := 66) rfl)) rfl
theorem m2_67 : (Jvm.Cond.methodLink "LastCalled$Text" (79 : Nat) ({ cls := "java/lang/String", name := "length", desc := "()I" } : Jvm.MethodName)) ∈ lw_G := lw_Gm (lw_t2 (List.mem_of_getElem? (i := 67) rfl)) rfl
theorem m2_68 : (Jvm.Cond.instanceMethod ({ cls := "java/lang/String", name := "length", desc := "()I" } : Jvm.MethodName)) ∈ lw_G := lw_Gm (lw_t2 (List.mem_of_getElem? (i := 68) rfl)) rfl
theorem m2_69 : (Jvm.Cond.selects "java/lang/String" ({ cls := "java/lang/String", name := "length", desc := "()I" } : Jvm.MethodName) ({ cls := "java/lang/String", name := "length", desc := "()I" } : Jvm.MethodName)) ∈ lw_G := lw_Gm (lw_t2 (List.mem_of_getElem? (i := 69) rfl)) rfl
theorem m2_70 : (Jvm.Cond.code ({ cls := "java/lang/String", name := "length", desc := "()I" } : Jvm.MethodName) prog_17_method_54_code (1 : Nat) (Option.some Jvm.ClassFile.FieldType.int)) ∈ lw_G := lw_Gm (lw_t2 (List.mem_of_getElem? (i := 70) rfl)) rfl
theorem m2_71 : (Jvm.Cond.methodLink "java/lang/String" (335 : Nat) ({ cls := "java/lang/String", name := "coder", desc := "()B" } : Jvm.MethodName)) ∈ lw_G := lw_Gm (lw_t2 (List.mem_of_getElem? (i := 71) rfl)) rfl
theorem m2_72 : (Jvm.Cond.instanceMethod ({ cls := "java/lang/String", name := "coder", desc := "()B" } : Jvm.MethodName)) ∈ lw_G := lw_Gm (lw_t2 (List.mem_of_getElem? (i := 72) rfl)) rfl
theorem m2_73 : (Jvm.Cond.selects "java/lang/String" ({ cls := "java/lang/String", name := "coder", desc := "()B" } : Jvm.MethodName) ({ cls := "java/lang/String", name := "coder", desc := "()B" } : Jvm.MethodName)) ∈ lw_G := lw_Gm (lw_t2 (List.mem_of_getElem? (i := 73) rfl)) rfl
theorem m2_74 : (Jvm.Cond.code ({ cls := "java/lang/String", name := "coder", desc := "()B" } : Jvm.MethodName) prog_17_method_152_code (1 : Nat) (Option.some Jvm.ClassFile.FieldType.byte)) ∈ lw_G := lw_Gm (lw_t2 (List.mem_of_getElem? (i := 74) rfl)) rfl
theorem m2_75 : (Jvm.Cond.fieldLink "java/lang/String" (38 : Nat) "java/lang/String" "COMPACT_STRINGS" "Z") ∈ lw_G := lw_Gm (lw_t2 (List.mem_of_getElem? (i := 75) rfl)) rfl
theorem m2_77 : (Jvm.Cond.methodLink "LastCalled$Text" (84 : Nat) ({ cls := "java/lang/String", name := "charAt", desc := "(I)C" } : Jvm.MethodName)) ∈ lw_G := lw_Gm (lw_t2 (List.mem_of_getElem? (i := 77) rfl)) rfl
theorem m2_78 : (Jvm.Cond.instanceMethod ({ cls := "java/lang/String", name := "charAt", desc := "(I)C" } : Jvm.MethodName)) ∈ lw_G := lw_Gm (lw_t2 (List.mem_of_getElem? (i := 78) rfl)) rfl
theorem m2_79 : (Jvm.Cond.selects "java/lang/String" ({ cls := "java/lang/String", name := "charAt", desc := "(I)C" } : Jvm.MethodName) ({ cls := "java/lang/String", name := "charAt", desc := "(I)C" } : Jvm.MethodName)) ∈ lw_G := lw_Gm (lw_t2 (List.mem_of_getElem? (i := 79) rfl)) rfl
theorem m2_80 : (Jvm.Cond.code ({ cls := "java/lang/String", name := "charAt", desc := "(I)C" } : Jvm.MethodName) prog_17_method_56_code (2 : Nat) (Option.some Jvm.ClassFile.FieldType.char)) ∈ lw_G := lw_Gm (lw_t2 (List.mem_of_getElem? (i := 80) rfl)) rfl
theorem m2_81 : (Jvm.Cond.methodLink "java/lang/String" (492 : Nat) ({ cls := "java/lang/String", name := "isLatin1", desc := "()Z" } : Jvm.MethodName)) ∈ lw_G := lw_Gm (lw_t2 (List.mem_of_getElem? (i := 81) rfl)) rfl
theorem m2_82 : (Jvm.Cond.instanceMethod ({ cls := "java/lang/String", name := "isLatin1", desc := "()Z" } : Jvm.MethodName)) ∈ lw_G := lw_Gm (lw_t2 (List.mem_of_getElem? (i := 82) rfl)) rfl
theorem m2_83 : (Jvm.Cond.selects "java/lang/String" ({ cls := "java/lang/String", name := "isLatin1", desc := "()Z" } : Jvm.MethodName) ({ cls := "java/lang/String", name := "isLatin1", desc := "()Z" } : Jvm.MethodName)) ∈ lw_G := lw_Gm (lw_t2 (List.mem_of_getElem? (i := 83) rfl)) rfl
theorem m2_84 : (Jvm.Cond.code ({ cls := "java/lang/String", name := "isLatin1", desc := "()Z" } : Jvm.MethodName) prog_17_method_154_code (1 : Nat) (Option.some Jvm.ClassFile.FieldType.boolean)) ∈ lw_G := lw_Gm (lw_t2 (List.mem_of_getElem? (i := 84) rfl)) rfl
theorem m2_85 : (Jvm.Cond.methodLink "java/lang/String" (495 : Nat) ({ cls := "java/lang/StringLatin1", name := "charAt", desc := "([BI)C" } : Jvm.MethodName)) ∈ lw_G := lw_Gm (lw_t2 (List.mem_of_getElem? (i := 85) rfl)) rfl
theorem m2_86 : (Jvm.Cond.static ({ cls := "java/lang/StringLatin1", name := "charAt", desc := "([BI)C" } : Jvm.MethodName)) ∈ lw_G := lw_Gm (lw_t2 (List.mem_of_getElem? (i := 86) rfl)) rfl
theorem m2_87 : (Jvm.Cond.code ({ cls := "java/lang/StringLatin1", name := "charAt", desc := "([BI)C" } : Jvm.MethodName) prog_18_method_2_code (2 : Nat) (Option.some Jvm.ClassFile.FieldType.char)) ∈ lw_G := lw_Gm (lw_t2 (List.mem_of_getElem? (i := 87) rfl)) rfl
theorem m2_88 : (Jvm.Cond.methodLink "java/lang/StringLatin1" (9 : Nat) ({ cls := "java/lang/String", name := "checkIndex", desc := "(II)V" } : Jvm.MethodName)) ∈ lw_G := lw_Gm (lw_t2 (List.mem_of_getElem? (i := 88) rfl)) rfl
theorem m2_89 : (Jvm.Cond.static ({ cls := "java/lang/String", name := "checkIndex", desc := "(II)V" } : Jvm.MethodName)) ∈ lw_G := lw_Gm (lw_t2 (List.mem_of_getElem? (i := 89) rfl)) rfl
theorem m2_90 : (Jvm.Cond.code ({ cls := "java/lang/String", name := "checkIndex", desc := "(II)V" } : Jvm.MethodName) prog_17_method_155_code (2 : Nat) (Option.none : Option Jvm.ClassFile.FieldType)) ∈ lw_G := lw_Gm (lw_t2 (List.mem_of_getElem? (i := 90) rfl)) rfl
theorem m2_91 : (Jvm.Cond.fieldLink "java/lang/String" (1053 : Nat) "jdk/internal/util/Preconditions" "SIOOBE_FORMATTER" "Ljava/util/function/BiFunction;") ∈ lw_G := lw_Gm (lw_t2 (List.mem_of_getElem? (i := 91) rfl)) rfl
theorem m2_93 : (Jvm.Cond.methodLink "java/lang/String" (1059 : Nat) ({ cls := "jdk/internal/util/Preconditions", name := "checkIndex", desc := "(IILjava/util/function/BiFunction;)I" } : Jvm.MethodName)) ∈ lw_G := lw_Gm (lw_t2 (List.mem_of_getElem? (i := 93) rfl)) rfl
theorem m2_94 : (Jvm.Cond.static ({ cls := "jdk/internal/util/Preconditions", name := "checkIndex", desc := "(IILjava/util/function/BiFunction;)I" } : Jvm.MethodName)) ∈ lw_G := lw_Gm (lw_t2 (List.mem_of_getElem? (i := 94) rfl)) rfl
theorem m2_95 : (Jvm.Cond.code ({ cls := "jdk/internal/util/Preconditions", name := "checkIndex", desc := "(IILjava/util/function/BiFunction;)I" } : Jvm.MethodName) prog_22_method_11_code (3 : Nat) (Option.some Jvm.ClassFile.FieldType.int)) ∈ lw_G := lw_Gm (lw_t2 (List.mem_of_getElem? (i := 95) rfl)) rfl
theorem m2_96 : (Jvm.Cond.methodLink "java/lang/String" (498 : Nat) ({ cls := "java/lang/StringUTF16", name := "charAt", desc := "([BI)C" } : Jvm.MethodName)) ∈ lw_G := lw_Gm (lw_t2 (List.mem_of_getElem? (i := 96) rfl)) rfl
theorem m2_97 : (Jvm.Cond.static ({ cls := "java/lang/StringUTF16", name := "charAt", desc := "([BI)C" } : Jvm.MethodName)) ∈ lw_G := lw_Gm (lw_t2 (List.mem_of_getElem? (i := 97) rfl)) rfl
theorem m2_98 : (Jvm.Cond.code ({ cls := "java/lang/StringUTF16", name := "charAt", desc := "([BI)C" } : Jvm.MethodName) prog_19_method_83_code (2 : Nat) (Option.some Jvm.ClassFile.FieldType.char)) ∈ lw_G := lw_Gm (lw_t2 (List.mem_of_getElem? (i := 98) rfl)) rfl
theorem m2_99 : (Jvm.Cond.methodLink "java/lang/StringUTF16" (67 : Nat) ({ cls := "java/lang/StringUTF16", name := "checkIndex", desc := "(I[B)V" } : Jvm.MethodName)) ∈ lw_G := lw_Gm (lw_t2 (List.mem_of_getElem? (i := 99) rfl)) rfl
theorem m2_100 : (Jvm.Cond.static ({ cls := "java/lang/StringUTF16", name := "checkIndex", desc := "(I[B)V" } : Jvm.MethodName)) ∈ lw_G := lw_Gm (lw_t2 (List.mem_of_getElem? (i := 100) rfl)) rfl
theorem m2_101 : (Jvm.Cond.code ({ cls := "java/lang/StringUTF16", name := "checkIndex", desc := "(I[B)V" } : Jvm.MethodName) prog_19_method_91_code (2 : Nat) (Option.none : Option Jvm.ClassFile.FieldType)) ∈ lw_G := lw_Gm (lw_t2 (List.mem_of_getElem? (i := 101) rfl)) rfl
theorem m2_102 : (Jvm.Cond.methodLink "java/lang/StringUTF16" (48 : Nat) ({ cls := "java/lang/StringUTF16", name := "length", desc := "([B)I" } : Jvm.MethodName)) ∈ lw_G := lw_Gm (lw_t2 (List.mem_of_getElem? (i := 102) rfl)) rfl
theorem m2_103 : (Jvm.Cond.static ({ cls := "java/lang/StringUTF16", name := "length", desc := "([B)I" } : Jvm.MethodName)) ∈ lw_G := lw_Gm (lw_t2 (List.mem_of_getElem? (i := 103) rfl)) rfl
theorem m2_104 : (Jvm.Cond.code ({ cls := "java/lang/StringUTF16", name := "length", desc := "([B)I" } : Jvm.MethodName) prog_19_method_6_code (1 : Nat) (Option.some Jvm.ClassFile.FieldType.int)) ∈ lw_G := lw_Gm (lw_t2 (List.mem_of_getElem? (i := 104) rfl)) rfl
theorem m2_105 : (Jvm.Cond.methodLink "java/lang/StringUTF16" (414 : Nat) ({ cls := "java/lang/String", name := "checkIndex", desc := "(II)V" } : Jvm.MethodName)) ∈ lw_G := lw_Gm (lw_t2 (List.mem_of_getElem? (i := 105) rfl)) rfl
theorem m2_106 : (Jvm.Cond.methodLink "java/lang/StringUTF16" (71 : Nat) ({ cls := "java/lang/StringUTF16", name := "getChar", desc := "([BI)C" } : Jvm.MethodName)) ∈ lw_G := lw_Gm (lw_t2 (List.mem_of_getElem? (i := 106) rfl)) rfl
theorem m2_107 : (Jvm.Cond.static ({ cls := "java/lang/StringUTF16", name := "getChar", desc := "([BI)C" } : Jvm.MethodName)) ∈ lw_G := lw_Gm (lw_t2 (List.mem_of_getElem? (i := 107) rfl)) rfl
theorem m2_108 : (Jvm.Cond.code ({ cls := "java/lang/StringUTF16", name := "getChar", desc := "([BI)C" } : Jvm.MethodName) prog_19_method_5_code (2 : Nat) (Option.some Jvm.ClassFile.FieldType.char)) ∈ lw_G := lw_Gm (lw_t2 (List.mem_of_getElem? (i := 108) rfl)) rfl
theorem m2_109 : (Jvm.Cond.fieldLink "java/lang/StringUTF16" (44 : Nat) "java/lang/StringUTF16" "$assertionsDisabled" "Z") ∈ lw_G := lw_Gm (lw_t2 (List.mem_of_getElem? (i := 109) rfl)) rfl
theorem m2_111 : (Jvm.Cond.fieldLink "java/lang/StringUTF16" (59 : Nat) "java/lang/StringUTF16" "HI_BYTE_SHIFT" "I") ∈ lw_G := lw_Gm (lw_t2 (List.mem_of_getElem? (i := 111) rfl)) rfl
theorem m2_113 : (Jvm.Cond.fieldLink "java/lang/StringUTF16" (63 : Nat) "java/lang/StringUTF16" "LO_BYTE_SHIFT" "I") ∈ lw_G := lw_Gm (lw_t2 (List.mem_of_getElem? (i := 113) rfl)) rfl
theorem m2_115 : (Jvm.Cond.methodLink "LastCalled$Text" (31 : Nat) ({ cls := "LastCalled$Text", name := "isNumberNext", desc := "(I)Z" } : Jvm.MethodName)) ∈ lw_G := lw_Gm (lw_t2 (List.mem_of_getElem? (i := 115) rfl)) rfl
theorem m2_117 : (Jvm.Cond.instanceMethod ({ cls := "LastCalled$Text", name := "isNumberNext", desc := "(I)Z" } : Jvm.MethodName)) ∈ lw_G := lw_Gm (lw_t2 (List.mem_of_getElem? (i := 117) rfl)) rfl
theorem m2_118 : (Jvm.Cond.code ({ cls := "LastCalled$Text", name := "isNumberNext", desc := "(I)Z" } : Jvm.MethodName) prog_12_method_8_code (3 : Nat) (Option.some Jvm.ClassFile.FieldType.boolean)) ∈ lw_G := lw_Gm (lw_t2 (List.mem_of_getElem? (i := 118) rfl)) rfl
theorem m2_119 : (Jvm.Cond.methodLink "LastCalled$Text" (38 : Nat) ({ cls := "LastCalled$Hamlet", name := "begin", desc := "(I)V" } : Jvm.MethodName)) ∈ lw_G := lw_Gm (lw_t2 (List.mem_of_getElem? (i := 119) rfl)) rfl
theorem m2_120 : (Jvm.Cond.methodLink "LastCalled$Text" (47 : Nat) ({ cls := "LastCalled$Text", name := "isItem", desc := "(LLastCalled$Hamlet;)Z" } : Jvm.MethodName)) ∈ lw_G := lw_Gm (lw_t2 (List.mem_of_getElem? (i := 120) rfl)) rfl
theorem m2_122 : (Jvm.Cond.instanceMethod ({ cls := "LastCalled$Text", name := "isItem", desc := "(LLastCalled$Hamlet;)Z" } : Jvm.MethodName)) ∈ lw_G := lw_Gm (lw_t2 (List.mem_of_getElem? (i := 122) rfl)) rfl
theorem m2_123 : (Jvm.Cond.code ({ cls := "LastCalled$Text", name := "isItem", desc := "(LLastCalled$Hamlet;)Z" } : Jvm.MethodName) prog_12_method_4_code (2 : Nat) (Option.some Jvm.ClassFile.FieldType.boolean)) ∈ lw_G := lw_Gm (lw_t2 (List.mem_of_getElem? (i := 123) rfl)) rfl
theorem m2_125 : (Jvm.Cond.methodLink "LastCalled$Text" (56 : Nat) ({ cls := "LastCalled$Text", name := "isOne", desc := "(LLastCalled$Hamlet;)Z" } : Jvm.MethodName)) ∈ lw_G := lw_Gm (lw_t2 (List.mem_of_getElem? (i := 125) rfl)) rfl
theorem m2_127 : (Jvm.Cond.instanceMethod ({ cls := "LastCalled$Text", name := "isOne", desc := "(LLastCalled$Hamlet;)Z" } : Jvm.MethodName)) ∈ lw_G := lw_Gm (lw_t2 (List.mem_of_getElem? (i := 127) rfl)) rfl
theorem m2_128 : (Jvm.Cond.code ({ cls := "LastCalled$Text", name := "isOne", desc := "(LLastCalled$Hamlet;)Z" } : Jvm.MethodName) prog_12_method_5_code (3 : Nat) (Option.some Jvm.ClassFile.FieldType.boolean)) ∈ lw_G := lw_Gm (lw_t2 (List.mem_of_getElem? (i := 128) rfl)) rfl
theorem m2_129 : (Jvm.Cond.methodLink "LastCalled$Text" (69 : Nat) ({ cls := "LastCalled$Hamlet", name := "join", desc := "(II)V" } : Jvm.MethodName)) ∈ lw_G := lw_Gm (lw_t2 (List.mem_of_getElem? (i := 129) rfl)) rfl
theorem m2_131 : (Jvm.Cond.methodLink "LastCalled$Text" (61 : Nat) ({ cls := "LastCalled$Text", name := "isBears", desc := "(LLastCalled$Hamlet;)Z" } : Jvm.MethodName)) ∈ lw_G := lw_Gm (lw_t2 (List.mem_of_getElem? (i := 131) rfl)) rfl
theorem m2_133 : (Jvm.Cond.instanceMethod ({ cls := "LastCalled$Text", name := "isBears", desc := "(LLastCalled$Hamlet;)Z" } : Jvm.MethodName)) ∈ lw_G := lw_Gm (lw_t2 (List.mem_of_getElem? (i := 133) rfl)) rfl
theorem m2_134 : (Jvm.Cond.code ({ cls := "LastCalled$Text", name := "isBears", desc := "(LLastCalled$Hamlet;)Z" } : Jvm.MethodName) prog_12_method_6_code (3 : Nat) (Option.some Jvm.ClassFile.FieldType.boolean)) ∈ lw_G := lw_Gm (lw_t2 (List.mem_of_getElem? (i := 134) rfl)) rfl
theorem m2_135 : (Jvm.Cond.methodLink "LastCalled$Text" (73 : Nat) ({ cls := "LastCalled$Hamlet", name := "give", desc := "(II)V" } : Jvm.MethodName)) ∈ lw_G := lw_Gm (lw_t2 (List.mem_of_getElem? (i := 135) rfl)) rfl
theorem m2_136 : (Jvm.Cond.instanceMethod ({ cls := "LastCalled$Hamlet", name := "give", desc := "(II)V" } : Jvm.MethodName)) ∈ lw_G := lw_Gm (lw_t2 (List.mem_of_getElem? (i := 136) rfl)) rfl
theorem m2_137 : (Jvm.Cond.selects "LastCalled$Hamlet" ({ cls := "LastCalled$Hamlet", name := "give", desc := "(II)V" } : Jvm.MethodName) ({ cls := "LastCalled$Hamlet", name := "give", desc := "(II)V" } : Jvm.MethodName)) ∈ lw_G := lw_Gm (lw_t2 (List.mem_of_getElem? (i := 137) rfl)) rfl
theorem m2_138 : (Jvm.Cond.code ({ cls := "LastCalled$Hamlet", name := "give", desc := "(II)V" } : Jvm.MethodName) prog_7_method_6_code (4 : Nat) (Option.none : Option Jvm.ClassFile.FieldType)) ∈ lw_G := lw_Gm (lw_t2 (List.mem_of_getElem? (i := 138) rfl)) rfl
theorem m2_141 : (Jvm.Cond.methodLink "LastCalled$Text" (66 : Nat) ({ cls := "LastCalled$Text", name := "isNone", desc := "(LLastCalled$Hamlet;)Z" } : Jvm.MethodName)) ∈ lw_G := lw_Gm (lw_t2 (List.mem_of_getElem? (i := 141) rfl)) rfl
theorem m2_143 : (Jvm.Cond.instanceMethod ({ cls := "LastCalled$Text", name := "isNone", desc := "(LLastCalled$Hamlet;)Z" } : Jvm.MethodName)) ∈ lw_G := lw_Gm (lw_t2 (List.mem_of_getElem? (i := 143) rfl)) rfl
theorem m2_144 : (Jvm.Cond.code ({ cls := "LastCalled$Text", name := "isNone", desc := "(LLastCalled$Hamlet;)Z" } : Jvm.MethodName) prog_12_method_7_code (2 : Nat) (Option.some Jvm.ClassFile.FieldType.boolean)) ∈ lw_G := lw_Gm (lw_t2 (List.mem_of_getElem? (i := 144) rfl)) rfl
theorem m2_145 : (Jvm.Cond.methodLink "LastCalled" (92 : Nat) ({ cls := "LastCalled$Hamlet", name := "copyFrom", desc := "(LLastCalled$Hamlet;)V" } : Jvm.MethodName)) ∈ lw_G := lw_Gm (lw_t2 (List.mem_of_getElem? (i := 145) rfl)) rfl
theorem m2_146 : (Jvm.Cond.instanceMethod ({ cls := "LastCalled$Hamlet", name := "copyFrom", desc := "(LLastCalled$Hamlet;)V" } : Jvm.MethodName)) ∈ lw_G := lw_Gm (lw_t2 (List.mem_of_getElem? (i := 146) rfl)) rfl
theorem m2_147 : (Jvm.Cond.selects "LastCalled$Hamlet" ({ cls := "LastCalled$Hamlet", name := "copyFrom", desc := "(LLastCalled$Hamlet;)V" } : Jvm.MethodName) ({ cls := "LastCalled$Hamlet", name := "copyFrom", desc := "(LLastCalled$Hamlet;)V" } : Jvm.MethodName)) ∈ lw_G := lw_Gm (lw_t2 (List.mem_of_getElem? (i := 147) rfl)) rfl
theorem m2_148 : (Jvm.Cond.code ({ cls := "LastCalled$Hamlet", name := "copyFrom", desc := "(LLastCalled$Hamlet;)V" } : Jvm.MethodName) prog_7_method_3_code (2 : Nat) (Option.none : Option Jvm.ClassFile.FieldType)) ∈ lw_G := lw_Gm (lw_t2 (List.mem_of_getElem? (i := 148) rfl)) rfl
theorem m2_149 : (Jvm.Cond.methodLink "LastCalled$Hamlet" (55 : Nat) ({ cls := "java/lang/System", name := "arraycopy", desc := "(Ljava/lang/Object;ILjava/lang/Object;II)V" } : Jvm.MethodName)) ∈ lw_G := lw_Gm (lw_t2 (List.mem_of_getElem? (i := 149) rfl)) rfl
theorem m2_150 : (Jvm.Cond.static ({ cls := "java/lang/System", name := "arraycopy", desc := "(Ljava/lang/Object;ILjava/lang/Object;II)V" } : Jvm.MethodName)) ∈ lw_G := lw_Gm (lw_t2 (List.mem_of_getElem? (i := 150) rfl)) rfl
theorem m2_151 : (Jvm.Cond.native ({ cls := "java/lang/System", name := "arraycopy", desc := "(Ljava/lang/Object;ILjava/lang/Object;II)V" } : Jvm.MethodName)) ∈ lw_G := lw_Gm (lw_t2 (List.mem_of_getElem? (i := 151) rfl)) rfl
theorem m2_152 : (Jvm.Cond.methodLink "LastCalledLaw" (36 : Nat) ({ cls := "LastCalled", name := "call", desc := "(II)I" } : Jvm.MethodName)) ∈ lw_G := lw_Gm (lw_t2 (List.mem_of_getElem? (i := 152) rfl)) rfl
theorem m2_153 : (Jvm.Cond.instanceMethod ({ cls := "LastCalled", name := "call", desc := "(II)I" } : Jvm.MethodName)) ∈ lw_G := lw_Gm (lw_t2 (List.mem_of_getElem? (i := 153) rfl)) rfl
theorem m2_154 : (Jvm.Cond.selects "LastCalled" ({ cls := "LastCalled", name := "call", desc := "(II)I" } : Jvm.MethodName) ({ cls := "LastCalled", name := "call", desc := "(II)I" } : Jvm.MethodName)) ∈ lw_G := lw_Gm (lw_t2 (List.mem_of_getElem? (i := 154) rfl)) rfl
theorem m2_155 : (Jvm.Cond.code ({ cls := "LastCalled", name := "call", desc := "(II)I" } : Jvm.MethodName) prog_1_method_7_code (4 : Nat) (Option.some Jvm.ClassFile.FieldType.int)) ∈ lw_G := lw_Gm (lw_t2 (List.mem_of_getElem? (i := 155) rfl)) rfl
theorem m2_156 : (Jvm.Cond.methodLink "LastCalled" (96 : Nat) ({ cls := "LastCalled", name := "isThere", desc := "(I)Z" } : Jvm.MethodName)) ∈ lw_G := lw_Gm (lw_t2 (List.mem_of_getElem? (i := 156) rfl)) rfl
theorem m2_158 : (Jvm.Cond.instanceMethod ({ cls := "LastCalled", name := "isThere", desc := "(I)Z" } : Jvm.MethodName)) ∈ lw_G := lw_Gm (lw_t2 (List.mem_of_getElem? (i := 158) rfl)) rfl
theorem m2_159 : (Jvm.Cond.code ({ cls := "LastCalled", name := "isThere", desc := "(I)Z" } : Jvm.MethodName) prog_1_method_37_code (2 : Nat) (Option.some Jvm.ClassFile.FieldType.boolean)) ∈ lw_G := lw_Gm (lw_t2 (List.mem_of_getElem? (i := 159) rfl)) rfl
theorem m2_160 : (Jvm.Cond.methodLink "LastCalled" (100 : Nat) ({ cls := "LastCalled", name := "turnersAt", desc := "(II)I" } : Jvm.MethodName)) ∈ lw_G := lw_Gm (lw_t2 (List.mem_of_getElem? (i := 160) rfl)) rfl
theorem m2_162 : (Jvm.Cond.instanceMethod ({ cls := "LastCalled", name := "turnersAt", desc := "(II)I" } : Jvm.MethodName)) ∈ lw_G := lw_Gm (lw_t2 (List.mem_of_getElem? (i := 162) rfl)) rfl
theorem m2_163 : (Jvm.Cond.code ({ cls := "LastCalled", name := "turnersAt", desc := "(II)I" } : Jvm.MethodName) prog_1_method_40_code (3 : Nat) (Option.some Jvm.ClassFile.FieldType.int)) ∈ lw_G := lw_Gm (lw_t2 (List.mem_of_getElem? (i := 163) rfl)) rfl
theorem m2_164 : (Jvm.Cond.methodLink "LastCalled" (234 : Nat) ({ cls := "LastCalled$Hearing", name := "listenAt", desc := "(LLastCalled$Hamlet;I)V" } : Jvm.MethodName)) ∈ lw_G := lw_Gm (lw_t2 (List.mem_of_getElem? (i := 164) rfl)) rfl
theorem m2_165 : (Jvm.Cond.instanceMethod ({ cls := "LastCalled$Hearing", name := "listenAt", desc := "(LLastCalled$Hamlet;I)V" } : Jvm.MethodName)) ∈ lw_G := lw_Gm (lw_t2 (List.mem_of_getElem? (i := 165) rfl)) rfl
theorem m2_166 : (Jvm.Cond.selects "LastCalled$Hearing" ({ cls := "LastCalled$Hearing", name := "listenAt", desc := "(LLastCalled$Hamlet;I)V" } : Jvm.MethodName) ({ cls := "LastCalled$Hearing", name := "listenAt", desc := "(LLastCalled$Hamlet;I)V" } : Jvm.MethodName)) ∈ lw_G := lw_Gm (lw_t2 (List.mem_of_getElem? (i := 166) rfl)) rfl
theorem m2_167 : (Jvm.Cond.code ({ cls := "LastCalled$Hearing", name := "listenAt", desc := "(LLastCalled$Hamlet;I)V" } : Jvm.MethodName) prog_8_method_4_code (6 : Nat) (Option.none : Option Jvm.ClassFile.FieldType)) ∈ lw_G := lw_Gm (lw_t2 (List.mem_of_getElem? (i := 167) rfl)) rfl
theorem m2_169 : (Jvm.Cond.methodLink "LastCalled$Hearing" (66 : Nat) ({ cls := "java/lang/Math", name := "abs", desc := "(I)I" } : Jvm.MethodName)) ∈ lw_G := lw_Gm (lw_t2 (List.mem_of_getElem? (i := 169) rfl)) rfl
theorem m2_170 : (Jvm.Cond.static ({ cls := "java/lang/Math", name := "abs", desc := "(I)I" } : Jvm.MethodName)) ∈ lw_G := lw_Gm (lw_t2 (List.mem_of_getElem? (i := 170) rfl)) rfl
theorem m2_171 : (Jvm.Cond.code ({ cls := "java/lang/Math", name := "abs", desc := "(I)I" } : Jvm.MethodName) prog_16_method_59_code (1 : Nat) (Option.some Jvm.ClassFile.FieldType.int)) ∈ lw_G := lw_Gm (lw_t2 (List.mem_of_getElem? (i := 171) rfl)) rfl
theorem m2_172 : (Jvm.Cond.methodLink "LastCalled$Hearing" (75 : Nat) ({ cls := "LastCalled$Hearing", name := "turnsAs", desc := "(IIZZI)Z" } : Jvm.MethodName)) ∈ lw_G := lw_Gm (lw_t2 (List.mem_of_getElem? (i := 172) rfl)) rfl
theorem m2_173 : (Jvm.Cond.instanceMethod ({ cls := "LastCalled$Hearing", name := "turnsAs", desc := "(IIZZI)Z" } : Jvm.MethodName)) ∈ lw_G := lw_Gm (lw_t2 (List.mem_of_getElem? (i := 173) rfl)) rfl
theorem m2_174 : (Jvm.Cond.selects "LastCalled$Hearing" ({ cls := "LastCalled$Hearing", name := "turnsAs", desc := "(IIZZI)Z" } : Jvm.MethodName) ({ cls := "LastCalled$Hearing", name := "turnsAs", desc := "(IIZZI)Z" } : Jvm.MethodName)) ∈ lw_G := lw_Gm (lw_t2 (List.mem_of_getElem? (i := 174) rfl)) rfl
theorem m2_175 : (Jvm.Cond.code ({ cls := "LastCalled$Hearing", name := "turnsAs", desc := "(IIZZI)Z" } : Jvm.MethodName) prog_8_method_2_code (6 : Nat) (Option.some Jvm.ClassFile.FieldType.boolean)) ∈ lw_G := lw_Gm (lw_t2 (List.mem_of_getElem? (i := 175) rfl)) rfl
theorem m2_176 : (Jvm.Cond.methodLink "LastCalled$Hearing" (47 : Nat) ({ cls := "LastCalled$Plain", name := "turns", desc := "(IZZI)Z" } : Jvm.MethodName)) ∈ lw_G := lw_Gm (lw_t2 (List.mem_of_getElem? (i := 176) rfl)) rfl
theorem m2_177 : (Jvm.Cond.instanceMethod ({ cls := "LastCalled$Plain", name := "turns", desc := "(IZZI)Z" } : Jvm.MethodName)) ∈ lw_G := lw_Gm (lw_t2 (List.mem_of_getElem? (i := 177) rfl)) rfl
theorem m2_178 : (Jvm.Cond.selects "LastCalled$Plain" ({ cls := "LastCalled$Plain", name := "turns", desc := "(IZZI)Z" } : Jvm.MethodName) ({ cls := "LastCalled$Plain", name := "turns", desc := "(IZZI)Z" } : Jvm.MethodName)) ∈ lw_G := lw_Gm (lw_t2 (List.mem_of_getElem? (i := 178) rfl)) rfl
theorem m2_179 : (Jvm.Cond.sameMethod "LastCalled$Plain" "LastCalled$Plain" "turns" "(IZZI)Z") ∈ lw_G := lw_Gm (lw_t2 (List.mem_of_getElem? (i := 179) rfl)) rfl
theorem m2_180 : (Jvm.Cond.selects "LastCalled$Careful" ({ cls := "LastCalled$Plain", name := "turns", desc := "(IZZI)Z" } : Jvm.MethodName) ({ cls := "LastCalled$Careful", name := "turns", desc := "(IZZI)Z" } : Jvm.MethodName)) ∈ lw_G := lw_Gm (lw_t2 (List.mem_of_getElem? (i := 180) rfl)) rfl
theorem m2_181 : (Jvm.Cond.instanceMethod ({ cls := "LastCalled$Careful", name := "turns", desc := "(IZZI)Z" } : Jvm.MethodName)) ∈ lw_G := lw_Gm (lw_t2 (List.mem_of_getElem? (i := 181) rfl)) rfl
theorem m2_182 : (Jvm.Cond.code ({ cls := "LastCalled$Careful", name := "turns", desc := "(IZZI)Z" } : Jvm.MethodName) prog_2_method_2_code (5 : Nat) (Option.some Jvm.ClassFile.FieldType.boolean)) ∈ lw_G := lw_Gm (lw_t2 (List.mem_of_getElem? (i := 182) rfl)) rfl
theorem m2_183 : (Jvm.Cond.methodLink "LastCalled$Careful" (7 : Nat) ({ cls := "LastCalled$Plain", name := "turns", desc := "(IZZI)Z" } : Jvm.MethodName)) ∈ lw_G := lw_Gm (lw_t2 (List.mem_of_getElem? (i := 183) rfl)) rfl
theorem m2_184 : (Jvm.Cond.selects "LastCalled$Child" ({ cls := "LastCalled$Plain", name := "turns", desc := "(IZZI)Z" } : Jvm.MethodName) ({ cls := "LastCalled$Child", name := "turns", desc := "(IZZI)Z" } : Jvm.MethodName)) ∈ lw_G := lw_Gm (lw_t2 (List.mem_of_getElem? (i := 184) rfl)) rfl
theorem m2_185 : (Jvm.Cond.instanceMethod ({ cls := "LastCalled$Child", name := "turns", desc := "(IZZI)Z" } : Jvm.MethodName)) ∈ lw_G := lw_Gm (lw_t2 (List.mem_of_getElem? (i := 185) rfl)) rfl
theorem m2_186 : (Jvm.Cond.code ({ cls := "LastCalled$Child", name := "turns", desc := "(IZZI)Z" } : Jvm.MethodName) prog_3_method_2_code (5 : Nat) (Option.some Jvm.ClassFile.FieldType.boolean)) ∈ lw_G := lw_Gm (lw_t2 (List.mem_of_getElem? (i := 186) rfl)) rfl
theorem m2_187 : (Jvm.Cond.methodLink "LastCalled$Child" (7 : Nat) ({ cls := "LastCalled$Plain", name := "turns", desc := "(IZZI)Z" } : Jvm.MethodName)) ∈ lw_G := lw_Gm (lw_t2 (List.mem_of_getElem? (i := 187) rfl)) rfl
theorem m2_188 : (Jvm.Cond.selects "LastCalled$Cliff" ({ cls := "LastCalled$Plain", name := "turns", desc := "(IZZI)Z" } : Jvm.MethodName) ({ cls := "LastCalled$Cliff", name := "turns", desc := "(IZZI)Z" } : Jvm.MethodName)) ∈ lw_G := lw_Gm (lw_t2 (List.mem_of_getElem? (i := 188) rfl)) rfl
theorem m2_189 : (Jvm.Cond.instanceMethod ({ cls := "LastCalled$Cliff", name := "turns", desc := "(IZZI)Z" } : Jvm.MethodName)) ∈ lw_G := lw_Gm (lw_t2 (List.mem_of_getElem? (i := 189) rfl)) rfl
theorem m2_190 : (Jvm.Cond.code ({ cls := "LastCalled$Cliff", name := "turns", desc := "(IZZI)Z" } : Jvm.MethodName) prog_4_method_2_code (5 : Nat) (Option.some Jvm.ClassFile.FieldType.boolean)) ∈ lw_G := lw_Gm (lw_t2 (List.mem_of_getElem? (i := 190) rfl)) rfl
theorem m2_191 : (Jvm.Cond.methodLink "LastCalled$Cliff" (7 : Nat) ({ cls := "LastCalled$Careful", name := "turns", desc := "(IZZI)Z" } : Jvm.MethodName)) ∈ lw_G := lw_Gm (lw_t2 (List.mem_of_getElem? (i := 191) rfl)) rfl
theorem m2_192 : (Jvm.Cond.selects "LastCalled$Deaf" ({ cls := "LastCalled$Plain", name := "turns", desc := "(IZZI)Z" } : Jvm.MethodName) ({ cls := "LastCalled$Deaf", name := "turns", desc := "(IZZI)Z" } : Jvm.MethodName)) ∈ lw_G := lw_Gm (lw_t2 (List.mem_of_getElem? (i := 192) rfl)) rfl
theorem m2_193 : (Jvm.Cond.instanceMethod ({ cls := "LastCalled$Deaf", name := "turns", desc := "(IZZI)Z" } : Jvm.MethodName)) ∈ lw_G := lw_Gm (lw_t2 (List.mem_of_getElem? (i := 193) rfl)) rfl
theorem m2_194 : (Jvm.Cond.code ({ cls := "LastCalled$Deaf", name := "turns", desc := "(IZZI)Z" } : Jvm.MethodName) prog_5_method_2_code (5 : Nat) (Option.some Jvm.ClassFile.FieldType.boolean)) ∈ lw_G := lw_Gm (lw_t2 (List.mem_of_getElem? (i := 194) rfl)) rfl
theorem m2_195 : (Jvm.Cond.methodLink "LastCalled$Deaf" (7 : Nat) ({ cls := "LastCalled$Plain", name := "turns", desc := "(IZZI)Z" } : Jvm.MethodName)) ∈ lw_G := lw_Gm (lw_t2 (List.mem_of_getElem? (i := 195) rfl)) rfl
theorem m2_196 : (Jvm.Cond.selects "LastCalled$Sheep" ({ cls := "LastCalled$Plain", name := "turns", desc := "(IZZI)Z" } : Jvm.MethodName) ({ cls := "LastCalled$Sheep", name := "turns", desc := "(IZZI)Z" } : Jvm.MethodName)) ∈ lw_G := lw_Gm (lw_t2 (List.mem_of_getElem? (i := 196) rfl)) rfl
theorem m2_197 : (Jvm.Cond.instanceMethod ({ cls := "LastCalled$Sheep", name := "turns", desc := "(IZZI)Z" } : Jvm.MethodName)) ∈ lw_G := lw_Gm (lw_t2 (List.mem_of_getElem? (i := 197) rfl)) rfl
theorem m2_198 : (Jvm.Cond.code ({ cls := "LastCalled$Sheep", name := "turns", desc := "(IZZI)Z" } : Jvm.MethodName) prog_11_method_2_code (5 : Nat) (Option.some Jvm.ClassFile.FieldType.boolean)) ∈ lw_G := lw_Gm (lw_t2 (List.mem_of_getElem? (i := 198) rfl)) rfl
theorem m2_199 : (Jvm.Cond.methodLink "LastCalled$Sheep" (7 : Nat) ({ cls := "LastCalled$Child", name := "turns", desc := "(IZZI)Z" } : Jvm.MethodName)) ∈ lw_G := lw_Gm (lw_t2 (List.mem_of_getElem? (i := 199) rfl)) rfl
theorem m2_200 : (Jvm.Cond.code ({ cls := "LastCalled$Plain", name := "turns", desc := "(IZZI)Z" } : Jvm.MethodName) prog_9_method_2_code (5 : Nat) (Option.some Jvm.ClassFile.FieldType.boolean)) ∈ lw_G := lw_Gm (lw_t2 (List.mem_of_getElem? (i := 200) rfl)) rfl
theorem m2_201 : (Jvm.Cond.methodLink "LastCalled" (238 : Nat) ({ cls := "LastCalled$Hearing", name := "turners", desc := "([III)I" } : Jvm.MethodName)) ∈ lw_G := lw_Gm (lw_t2 (List.mem_of_getElem? (i := 201) rfl)) rfl
theorem m2_202 : (Jvm.Cond.instanceMethod ({ cls := "LastCalled$Hearing", name := "turners", desc := "([III)I" } : Jvm.MethodName)) ∈ lw_G := lw_Gm (lw_t2 (List.mem_of_getElem? (i := 202) rfl)) rfl
theorem m2_203 : (Jvm.Cond.selects "LastCalled$Hearing" ({ cls := "LastCalled$Hearing", name := "turners", desc := "([III)I" } : Jvm.MethodName) ({ cls := "LastCalled$Hearing", name := "turners", desc := "([III)I" } : Jvm.MethodName)) ∈ lw_G := lw_Gm (lw_t2 (List.mem_of_getElem? (i := 203) rfl)) rfl
theorem m2_204 : (Jvm.Cond.code ({ cls := "LastCalled$Hearing", name := "turners", desc := "([III)I" } : Jvm.MethodName) prog_8_method_5_code (5 : Nat) (Option.some Jvm.ClassFile.FieldType.int)) ∈ lw_G := lw_Gm (lw_t2 (List.mem_of_getElem? (i := 204) rfl)) rfl
theorem m2_205 : (Jvm.Cond.methodLink "LastCalled" (104 : Nat) ({ cls := "LastCalled$Hamlet", name := "remember", desc := "()V" } : Jvm.MethodName)) ∈ lw_G := lw_Gm (lw_t2 (List.mem_of_getElem? (i := 205) rfl)) rfl
theorem m2_206 : (Jvm.Cond.instanceMethod ({ cls := "LastCalled$Hamlet", name := "remember", desc := "()V" } : Jvm.MethodName)) ∈ lw_G := lw_Gm (lw_t2 (List.mem_of_getElem? (i := 206) rfl)) rfl
theorem m2_207 : (Jvm.Cond.selects "LastCalled$Hamlet" ({ cls := "LastCalled$Hamlet", name := "remember", desc := "()V" } : Jvm.MethodName) ({ cls := "LastCalled$Hamlet", name := "remember", desc := "()V" } : Jvm.MethodName)) ∈ lw_G := lw_Gm (lw_t2 (List.mem_of_getElem? (i := 207) rfl)) rfl
theorem m2_208 : (Jvm.Cond.code ({ cls := "LastCalled$Hamlet", name := "remember", desc := "()V" } : Jvm.MethodName) prog_7_method_9_code (2 : Nat) (Option.none : Option Jvm.ClassFile.FieldType)) ∈ lw_G := lw_Gm (lw_t2 (List.mem_of_getElem? (i := 208) rfl)) rfl
theorem m2_209 : (Jvm.Cond.methodLink "LastCalled" (110 : Nat) ({ cls := "LastCalled", name := "settle", desc := "([III)V" } : Jvm.MethodName)) ∈ lw_G := lw_Gm (lw_t2 (List.mem_of_getElem? (i := 209) rfl)) rfl
theorem m2_210 : (Jvm.Cond.static ({ cls := "LastCalled", name := "settle", desc := "([III)V" } : Jvm.MethodName)) ∈ lw_G := lw_Gm (lw_t2 (List.mem_of_getElem? (i := 210) rfl)) rfl
theorem m2_211 : (Jvm.Cond.code ({ cls := "LastCalled", name := "settle", desc := "([III)V" } : Jvm.MethodName) prog_1_method_41_code (4 : Nat) (Option.none : Option Jvm.ClassFile.FieldType)) ∈ lw_G := lw_Gm (lw_t2 (List.mem_of_getElem? (i := 211) rfl)) rfl
theorem m2_212 : (Jvm.Cond.methodLink "LastCalledLaw" (40 : Nat) ({ cls := "LastCalled", name := "goes", desc := "(II)I" } : Jvm.MethodName)) ∈ lw_G := lw_Gm (lw_t2 (List.mem_of_getElem? (i := 212) rfl)) rfl
theorem m2_213 : (Jvm.Cond.instanceMethod ({ cls := "LastCalled", name := "goes", desc := "(II)I" } : Jvm.MethodName)) ∈ lw_G := lw_Gm (lw_t2 (List.mem_of_getElem? (i := 213) rfl)) rfl
theorem m2_214 : (Jvm.Cond.selects "LastCalled" ({ cls := "LastCalled", name := "goes", desc := "(II)I" } : Jvm.MethodName) ({ cls := "LastCalled", name := "goes", desc := "(II)I" } : Jvm.MethodName)) ∈ lw_G := lw_Gm (lw_t2 (List.mem_of_getElem? (i := 214) rfl)) rfl
theorem m2_215 : (Jvm.Cond.code ({ cls := "LastCalled", name := "goes", desc := "(II)I" } : Jvm.MethodName) prog_1_method_8_code (4 : Nat) (Option.some Jvm.ClassFile.FieldType.int)) ∈ lw_G := lw_Gm (lw_t2 (List.mem_of_getElem? (i := 215) rfl)) rfl
theorem m2_216 : (Jvm.Cond.methodLink "LastCalledLaw" (44 : Nat) ({ cls := "LastCalled", name := "day", desc := "()I" } : Jvm.MethodName)) ∈ lw_G := lw_Gm (lw_t2 (List.mem_of_getElem? (i := 216) rfl)) rfl
theorem m2_217 : (Jvm.Cond.instanceMethod ({ cls := "LastCalled", name := "day", desc := "()I" } : Jvm.MethodName)) ∈ lw_G := lw_Gm (lw_t2 (List.mem_of_getElem? (i := 217) rfl)) rfl
theorem m2_218 : (Jvm.Cond.selects "LastCalled" ({ cls := "LastCalled", name := "day", desc := "()I" } : Jvm.MethodName) ({ cls := "LastCalled", name := "day", desc := "()I" } : Jvm.MethodName)) ∈ lw_G := lw_Gm (lw_t2 (List.mem_of_getElem? (i := 218) rfl)) rfl
theorem m2_219 : (Jvm.Cond.code ({ cls := "LastCalled", name := "day", desc := "()I" } : Jvm.MethodName) prog_1_method_9_code (1 : Nat) (Option.some Jvm.ClassFile.FieldType.int)) ∈ lw_G := lw_Gm (lw_t2 (List.mem_of_getElem? (i := 219) rfl)) rfl
theorem m2_220 : (Jvm.Cond.methodLink "LastCalledLaw" (48 : Nat) ({ cls := "LastCalled", name := "undo", desc := "()I" } : Jvm.MethodName)) ∈ lw_G := lw_Gm (lw_t2 (List.mem_of_getElem? (i := 220) rfl)) rfl
theorem m2_221 : (Jvm.Cond.instanceMethod ({ cls := "LastCalled", name := "undo", desc := "()I" } : Jvm.MethodName)) ∈ lw_G := lw_Gm (lw_t2 (List.mem_of_getElem? (i := 221) rfl)) rfl
theorem m2_222 : (Jvm.Cond.selects "LastCalled" ({ cls := "LastCalled", name := "undo", desc := "()I" } : Jvm.MethodName) ({ cls := "LastCalled", name := "undo", desc := "()I" } : Jvm.MethodName)) ∈ lw_G := lw_Gm (lw_t2 (List.mem_of_getElem? (i := 222) rfl)) rfl
theorem m2_223 : (Jvm.Cond.code ({ cls := "LastCalled", name := "undo", desc := "()I" } : Jvm.MethodName) prog_1_method_10_code (1 : Nat) (Option.some Jvm.ClassFile.FieldType.int)) ∈ lw_G := lw_Gm (lw_t2 (List.mem_of_getElem? (i := 223) rfl)) rfl
theorem m2_224 : (Jvm.Cond.methodLink "LastCalled" (123 : Nat) ({ cls := "LastCalled$Hamlet", name := "goBack", desc := "()V" } : Jvm.MethodName)) ∈ lw_G := lw_Gm (lw_t2 (List.mem_of_getElem? (i := 224) rfl)) rfl
theorem m2_225 : (Jvm.Cond.instanceMethod ({ cls := "LastCalled$Hamlet", name := "goBack", desc := "()V" } : Jvm.MethodName)) ∈ lw_G := lw_Gm (lw_t2 (List.mem_of_getElem? (i := 225) rfl)) rfl
theorem m2_226 : (Jvm.Cond.selects "LastCalled$Hamlet" ({ cls := "LastCalled$Hamlet", name := "goBack", desc := "()V" } : Jvm.MethodName) ({ cls := "LastCalled$Hamlet", name := "goBack", desc := "()V" } : Jvm.MethodName)) ∈ lw_G := lw_Gm (lw_t2 (List.mem_of_getElem? (i := 226) rfl)) rfl
theorem m2_227 : (Jvm.Cond.code ({ cls := "LastCalled$Hamlet", name := "goBack", desc := "()V" } : Jvm.MethodName) prog_7_method_10_code (2 : Nat) (Option.none : Option Jvm.ClassFile.FieldType)) ∈ lw_G := lw_Gm (lw_t2 (List.mem_of_getElem? (i := 227) rfl)) rfl
theorem m2_228 : (Jvm.Cond.methodLink "LastCalledLaw" (52 : Nat) ({ cls := "LastCalled", name := "of", desc := "(II)I" } : Jvm.MethodName)) ∈ lw_G := lw_Gm (lw_t2 (List.mem_of_getElem? (i := 228) rfl)) rfl
theorem m2_229 : (Jvm.Cond.instanceMethod ({ cls := "LastCalled", name := "of", desc := "(II)I" } : Jvm.MethodName)) ∈ lw_G := lw_Gm (lw_t2 (List.mem_of_getElem? (i := 229) rfl)) rfl
theorem m2_230 : (Jvm.Cond.selects "LastCalled" ({ cls := "LastCalled", name := "of", desc := "(II)I" } : Jvm.MethodName) ({ cls := "LastCalled", name := "of", desc := "(II)I" } : Jvm.MethodName)) ∈ lw_G := lw_Gm (lw_t2 (List.mem_of_getElem? (i := 230) rfl)) rfl
theorem m2_231 : (Jvm.Cond.code ({ cls := "LastCalled", name := "of", desc := "(II)I" } : Jvm.MethodName) prog_1_method_11_code (3 : Nat) (Option.some Jvm.ClassFile.FieldType.int)) ∈ lw_G := lw_Gm (lw_t2 (List.mem_of_getElem? (i := 231) rfl)) rfl
theorem m2_232 : (Jvm.Cond.methodLink "LastCalled" (129 : Nat) ({ cls := "LastCalled$Hamlet", name := "nameOf", desc := "(I)I" } : Jvm.MethodName)) ∈ lw_G := lw_Gm (lw_t2 (List.mem_of_getElem? (i := 232) rfl)) rfl
theorem m2_233 : (Jvm.Cond.instanceMethod ({ cls := "LastCalled$Hamlet", name := "nameOf", desc := "(I)I" } : Jvm.MethodName)) ∈ lw_G := lw_Gm (lw_t2 (List.mem_of_getElem? (i := 233) rfl)) rfl
theorem m2_234 : (Jvm.Cond.selects "LastCalled$Hamlet" ({ cls := "LastCalled$Hamlet", name := "nameOf", desc := "(I)I" } : Jvm.MethodName) ({ cls := "LastCalled$Hamlet", name := "nameOf", desc := "(I)I" } : Jvm.MethodName)) ∈ lw_G := lw_Gm (lw_t2 (List.mem_of_getElem? (i := 234) rfl)) rfl
theorem m2_235 : (Jvm.Cond.code ({ cls := "LastCalled$Hamlet", name := "nameOf", desc := "(I)I" } : Jvm.MethodName) prog_7_method_5_code (3 : Nat) (Option.some Jvm.ClassFile.FieldType.int)) ∈ lw_G := lw_Gm (lw_t2 (List.mem_of_getElem? (i := 235) rfl)) rfl
theorem m2_237 : (Jvm.Cond.static ({ cls := "LastCalled", name := "bit", desc := "(II)I" } : Jvm.MethodName)) ∈ lw_G := lw_Gm (lw_t2 (List.mem_of_getElem? (i := 237) rfl)) rfl
theorem m2_238 : (Jvm.Cond.code ({ cls := "LastCalled", name := "bit", desc := "(II)I" } : Jvm.MethodName) prog_1_method_36_code (2 : Nat) (Option.some Jvm.ClassFile.FieldType.int)) ∈ lw_G := lw_Gm (lw_t2 (List.mem_of_getElem? (i := 238) rfl)) rfl
theorem m2_239 : (Jvm.Cond.methodLink "LastCalledLaw" (56 : Nat) ({ cls := "LastCalled", name := "turn", desc := "(II)I" } : Jvm.MethodName)) ∈ lw_G := lw_Gm (lw_t2 (List.mem_of_getElem? (i := 239) rfl)) rfl
theorem m3_0 : (Jvm.Cond.instanceMethod ({ cls := "LastCalled", name := "turn", desc := "(II)I" } : Jvm.MethodName)) ∈ lw_G := lw_Gm (lw_t3 (List.mem_of_getElem? (i := 0) rfl)) rfl
theorem m3_1 : (Jvm.Cond.selects "LastCalled" ({ cls := "LastCalled", name := "turn", desc := "(II)I" } : Jvm.MethodName) ({ cls := "LastCalled", name := "turn", desc := "(II)I" } : Jvm.MethodName)) ∈ lw_G := lw_Gm (lw_t3 (List.mem_of_getElem? (i := 1) rfl)) rfl
theorem m3_2 : (Jvm.Cond.code ({ cls := "LastCalled", name := "turn", desc := "(II)I" } : Jvm.MethodName) prog_1_method_12_code (3 : Nat) (Option.some Jvm.ClassFile.FieldType.int)) ∈ lw_G := lw_Gm (lw_t3 (List.mem_of_getElem? (i := 2) rfl)) rfl
theorem m3_3 : (Jvm.Cond.methodLink "LastCalledLaw" (60 : Nat) ({ cls := "LastCalled", name := "bearers", desc := "(I)I" } : Jvm.MethodName)) ∈ lw_G := lw_Gm (lw_t3 (List.mem_of_getElem? (i := 3) rfl)) rfl
theorem m3_4 : (Jvm.Cond.instanceMethod ({ cls := "LastCalled", name := "bearers", desc := "(I)I" } : Jvm.MethodName)) ∈ lw_G := lw_Gm (lw_t3 (List.mem_of_getElem? (i := 4) rfl)) rfl
theorem m3_5 : (Jvm.Cond.selects "LastCalled" ({ cls := "LastCalled", name := "bearers", desc := "(I)I" } : Jvm.MethodName) ({ cls := "LastCalled", name := "bearers", desc := "(I)I" } : Jvm.MethodName)) ∈ lw_G := lw_Gm (lw_t3 (List.mem_of_getElem? (i := 5) rfl)) rfl
theorem m3_6 : (Jvm.Cond.code ({ cls := "LastCalled", name := "bearers", desc := "(I)I" } : Jvm.MethodName) prog_1_method_13_code (2 : Nat) (Option.some Jvm.ClassFile.FieldType.int)) ∈ lw_G := lw_Gm (lw_t3 (List.mem_of_getElem? (i := 6) rfl)) rfl
theorem m3_7 : (Jvm.Cond.methodLink "LastCalledLaw" (64 : Nat) ({ cls := "LastCalled", name := "names", desc := "(I)I" } : Jvm.MethodName)) ∈ lw_G := lw_Gm (lw_t3 (List.mem_of_getElem? (i := 7) rfl)) rfl
theorem m3_8 : (Jvm.Cond.instanceMethod ({ cls := "LastCalled", name := "names", desc := "(I)I" } : Jvm.MethodName)) ∈ lw_G := lw_Gm (lw_t3 (List.mem_of_getElem? (i := 8) rfl)) rfl
theorem m3_9 : (Jvm.Cond.selects "LastCalled" ({ cls := "LastCalled", name := "names", desc := "(I)I" } : Jvm.MethodName) ({ cls := "LastCalled", name := "names", desc := "(I)I" } : Jvm.MethodName)) ∈ lw_G := lw_Gm (lw_t3 (List.mem_of_getElem? (i := 9) rfl)) rfl
theorem m3_10 : (Jvm.Cond.code ({ cls := "LastCalled", name := "names", desc := "(I)I" } : Jvm.MethodName) prog_1_method_14_code (5 : Nat) (Option.some Jvm.ClassFile.FieldType.int)) ∈ lw_G := lw_Gm (lw_t3 (List.mem_of_getElem? (i := 10) rfl)) rfl
theorem m3_11 : (Jvm.Cond.methodLink "LastCalled" (132 : Nat) ({ cls := "java/lang/Integer", name := "bitCount", desc := "(I)I" } : Jvm.MethodName)) ∈ lw_G := lw_Gm (lw_t3 (List.mem_of_getElem? (i := 11) rfl)) rfl
theorem m3_12 : (Jvm.Cond.static ({ cls := "java/lang/Integer", name := "bitCount", desc := "(I)I" } : Jvm.MethodName)) ∈ lw_G := lw_Gm (lw_t3 (List.mem_of_getElem? (i := 12) rfl)) rfl
theorem m3_13 : (Jvm.Cond.code ({ cls := "java/lang/Integer", name := "bitCount", desc := "(I)I" } : Jvm.MethodName) prog_15_method_49_code (1 : Nat) (Option.some Jvm.ClassFile.FieldType.int)) ∈ lw_G := lw_Gm (lw_t3 (List.mem_of_getElem? (i := 13) rfl)) rfl
theorem m3_14 : (Jvm.Cond.constant "java/lang/Integer" (265 : Nat) (1431655765 : Int32)) ∈ lw_G := lw_Gm (lw_t3 (List.mem_of_getElem? (i := 14) rfl)) rfl
theorem m3_15 : (Jvm.Cond.constant "java/lang/Integer" (266 : Nat) (858993459 : Int32)) ∈ lw_G := lw_Gm (lw_t3 (List.mem_of_getElem? (i := 15) rfl)) rfl
theorem m3_16 : (Jvm.Cond.constant "java/lang/Integer" (267 : Nat) (252645135 : Int32)) ∈ lw_G := lw_Gm (lw_t3 (List.mem_of_getElem? (i := 16) rfl)) rfl
theorem m3_17 : (Jvm.Cond.methodLink "LastCalledLaw" (68 : Nat) ({ cls := "LastCalled", name := "calls", desc := "(III)I" } : Jvm.MethodName)) ∈ lw_G := lw_Gm (lw_t3 (List.mem_of_getElem? (i := 17) rfl)) rfl
theorem m3_18 : (Jvm.Cond.instanceMethod ({ cls := "LastCalled", name := "calls", desc := "(III)I" } : Jvm.MethodName)) ∈ lw_G := lw_Gm (lw_t3 (List.mem_of_getElem? (i := 18) rfl)) rfl
theorem m3_19 : (Jvm.Cond.selects "LastCalled" ({ cls := "LastCalled", name := "calls", desc := "(III)I" } : Jvm.MethodName) ({ cls := "LastCalled", name := "calls", desc := "(III)I" } : Jvm.MethodName)) ∈ lw_G := lw_Gm (lw_t3 (List.mem_of_getElem? (i := 19) rfl)) rfl
theorem m3_20 : (Jvm.Cond.code ({ cls := "LastCalled", name := "calls", desc := "(III)I" } : Jvm.MethodName) prog_1_method_15_code (4 : Nat) (Option.some Jvm.ClassFile.FieldType.int)) ∈ lw_G := lw_Gm (lw_t3 (List.mem_of_getElem? (i := 20) rfl)) rfl
theorem m3_21 : (Jvm.Cond.methodLink "LastCalled" (137 : Nat) ({ cls := "LastCalled$Hearing", name := "listen", desc := "(LLastCalled$Hamlet;)V" } : Jvm.MethodName)) ∈ lw_G := lw_Gm (lw_t3 (List.mem_of_getElem? (i := 21) rfl)) rfl
theorem m3_22 : (Jvm.Cond.instanceMethod ({ cls := "LastCalled$Hearing", name := "listen", desc := "(LLastCalled$Hamlet;)V" } : Jvm.MethodName)) ∈ lw_G := lw_Gm (lw_t3 (List.mem_of_getElem? (i := 22) rfl)) rfl
theorem m3_23 : (Jvm.Cond.selects "LastCalled$Hearing" ({ cls := "LastCalled$Hearing", name := "listen", desc := "(LLastCalled$Hamlet;)V" } : Jvm.MethodName) ({ cls := "LastCalled$Hearing", name := "listen", desc := "(LLastCalled$Hamlet;)V" } : Jvm.MethodName)) ∈ lw_G := lw_Gm (lw_t3 (List.mem_of_getElem? (i := 23) rfl)) rfl
theorem m3_24 : (Jvm.Cond.code ({ cls := "LastCalled$Hearing", name := "listen", desc := "(LLastCalled$Hamlet;)V" } : Jvm.MethodName) prog_8_method_3_code (3 : Nat) (Option.none : Option Jvm.ClassFile.FieldType)) ∈ lw_G := lw_Gm (lw_t3 (List.mem_of_getElem? (i := 24) rfl)) rfl
theorem m3_25 : (Jvm.Cond.methodLink "LastCalled$Hearing" (51 : Nat) ({ cls := "LastCalled$Hearing", name := "listenAt", desc := "(LLastCalled$Hamlet;I)V" } : Jvm.MethodName)) ∈ lw_G := lw_Gm (lw_t3 (List.mem_of_getElem? (i := 25) rfl)) rfl
theorem m3_26 : (Jvm.Cond.methodLink "LastCalled" (140 : Nat) ({ cls := "LastCalled$Search", name := "toBear", desc := "(LLastCalled$Hamlet;LLastCalled$Hearing;II)V" } : Jvm.MethodName)) ∈ lw_G := lw_Gm (lw_t3 (List.mem_of_getElem? (i := 26) rfl)) rfl
theorem m3_27 : (Jvm.Cond.instanceMethod ({ cls := "LastCalled$Search", name := "toBear", desc := "(LLastCalled$Hamlet;LLastCalled$Hearing;II)V" } : Jvm.MethodName)) ∈ lw_G := lw_Gm (lw_t3 (List.mem_of_getElem? (i := 27) rfl)) rfl
theorem m3_28 : (Jvm.Cond.selects "LastCalled$Search" ({ cls := "LastCalled$Search", name := "toBear", desc := "(LLastCalled$Hamlet;LLastCalled$Hearing;II)V" } : Jvm.MethodName) ({ cls := "LastCalled$Search", name := "toBear", desc := "(LLastCalled$Hamlet;LLastCalled$Hearing;II)V" } : Jvm.MethodName)) ∈ lw_G := lw_Gm (lw_t3 (List.mem_of_getElem? (i := 28) rfl)) rfl
theorem m3_29 : (Jvm.Cond.code ({ cls := "LastCalled$Search", name := "toBear", desc := "(LLastCalled$Hamlet;LLastCalled$Hearing;II)V" } : Jvm.MethodName) prog_10_method_2_code (6 : Nat) (Option.none : Option Jvm.ClassFile.FieldType)) ∈ lw_G := lw_Gm (lw_t3 (List.mem_of_getElem? (i := 29) rfl)) rfl
theorem m3_30 : (Jvm.Cond.methodLink "LastCalled$Search" (22 : Nat) ({ cls := "LastCalled$Hamlet", name := "nameOf", desc := "(I)I" } : Jvm.MethodName)) ∈ lw_G := lw_Gm (lw_t3 (List.mem_of_getElem? (i := 30) rfl)) rfl
theorem m3_31 : (Jvm.Cond.methodLink "LastCalled$Search" (31 : Nat) ({ cls := "LastCalled$Search", name := "lastCall", desc := "([ILLastCalled$Hearing;II)I" } : Jvm.MethodName)) ∈ lw_G := lw_Gm (lw_t3 (List.mem_of_getElem? (i := 31) rfl)) rfl
theorem m3_33 : (Jvm.Cond.instanceMethod ({ cls := "LastCalled$Search", name := "lastCall", desc := "([ILLastCalled$Hearing;II)I" } : Jvm.MethodName)) ∈ lw_G := lw_Gm (lw_t3 (List.mem_of_getElem? (i := 33) rfl)) rfl
theorem m3_34 : (Jvm.Cond.code ({ cls := "LastCalled$Search", name := "lastCall", desc := "([ILLastCalled$Hearing;II)I" } : Jvm.MethodName) prog_10_method_3_code (6 : Nat) (Option.some Jvm.ClassFile.FieldType.int)) ∈ lw_G := lw_Gm (lw_t3 (List.mem_of_getElem? (i := 34) rfl)) rfl
theorem m3_35 : (Jvm.Cond.methodLink "LastCalled$Search" (42 : Nat) ({ cls := "LastCalled$Hearing", name := "turners", desc := "([III)I" } : Jvm.MethodName)) ∈ lw_G := lw_Gm (lw_t3 (List.mem_of_getElem? (i := 35) rfl)) rfl
theorem m3_37 : (Jvm.Cond.methodLink "LastCalled$Search" (38 : Nat) ({ cls := "LastCalled$Search", name := "callOnce", desc := "(LLastCalled$Hamlet;LLastCalled$Hearing;I)V" } : Jvm.MethodName)) ∈ lw_G := lw_Gm (lw_t3 (List.mem_of_getElem? (i := 37) rfl)) rfl
theorem m3_39 : (Jvm.Cond.instanceMethod ({ cls := "LastCalled$Search", name := "callOnce", desc := "(LLastCalled$Hamlet;LLastCalled$Hearing;I)V" } : Jvm.MethodName)) ∈ lw_G := lw_Gm (lw_t3 (List.mem_of_getElem? (i := 39) rfl)) rfl
theorem m3_40 : (Jvm.Cond.code ({ cls := "LastCalled$Search", name := "callOnce", desc := "(LLastCalled$Hamlet;LLastCalled$Hearing;I)V" } : Jvm.MethodName) prog_10_method_7_code (5 : Nat) (Option.none : Option Jvm.ClassFile.FieldType)) ∈ lw_G := lw_Gm (lw_t3 (List.mem_of_getElem? (i := 40) rfl)) rfl
theorem m3_41 : (Jvm.Cond.methodLink "LastCalled$Search" (72 : Nat) ({ cls := "java/lang/System", name := "arraycopy", desc := "(Ljava/lang/Object;ILjava/lang/Object;II)V" } : Jvm.MethodName)) ∈ lw_G := lw_Gm (lw_t3 (List.mem_of_getElem? (i := 41) rfl)) rfl
theorem m3_43 : (Jvm.Cond.methodLink "LastCalledLaw" (73 : Nat) ({ cls := "LastCalled", name := "own", desc := "(I)I" } : Jvm.MethodName)) ∈ lw_G := lw_Gm (lw_t3 (List.mem_of_getElem? (i := 43) rfl)) rfl
theorem m3_44 : (Jvm.Cond.instanceMethod ({ cls := "LastCalled", name := "own", desc := "(I)I" } : Jvm.MethodName)) ∈ lw_G := lw_Gm (lw_t3 (List.mem_of_getElem? (i := 44) rfl)) rfl
theorem m3_45 : (Jvm.Cond.selects "LastCalled" ({ cls := "LastCalled", name := "own", desc := "(I)I" } : Jvm.MethodName) ({ cls := "LastCalled", name := "own", desc := "(I)I" } : Jvm.MethodName)) ∈ lw_G := lw_Gm (lw_t3 (List.mem_of_getElem? (i := 45) rfl)) rfl
theorem m3_46 : (Jvm.Cond.code ({ cls := "LastCalled", name := "own", desc := "(I)I" } : Jvm.MethodName) prog_1_method_16_code (2 : Nat) (Option.some Jvm.ClassFile.FieldType.int)) ∈ lw_G := lw_Gm (lw_t3 (List.mem_of_getElem? (i := 46) rfl)) rfl
theorem m3_47 : (Jvm.Cond.methodLink "LastCalled" (150 : Nat) ({ cls := "LastCalled$Search", name := "ownAgain", desc := "(LLastCalled$Hamlet;LLastCalled$Hearing;)V" } : Jvm.MethodName)) ∈ lw_G := lw_Gm (lw_t3 (List.mem_of_getElem? (i := 47) rfl)) rfl
theorem m3_48 : (Jvm.Cond.instanceMethod ({ cls := "LastCalled$Search", name := "ownAgain", desc := "(LLastCalled$Hamlet;LLastCalled$Hearing;)V" } : Jvm.MethodName)) ∈ lw_G := lw_Gm (lw_t3 (List.mem_of_getElem? (i := 48) rfl)) rfl
theorem m3_49 : (Jvm.Cond.selects "LastCalled$Search" ({ cls := "LastCalled$Search", name := "ownAgain", desc := "(LLastCalled$Hamlet;LLastCalled$Hearing;)V" } : Jvm.MethodName) ({ cls := "LastCalled$Search", name := "ownAgain", desc := "(LLastCalled$Hamlet;LLastCalled$Hearing;)V" } : Jvm.MethodName)) ∈ lw_G := lw_Gm (lw_t3 (List.mem_of_getElem? (i := 49) rfl)) rfl
theorem m3_50 : (Jvm.Cond.code ({ cls := "LastCalled$Search", name := "ownAgain", desc := "(LLastCalled$Hamlet;LLastCalled$Hearing;)V" } : Jvm.MethodName) prog_10_method_4_code (5 : Nat) (Option.none : Option Jvm.ClassFile.FieldType)) ∈ lw_G := lw_Gm (lw_t3 (List.mem_of_getElem? (i := 50) rfl)) rfl
theorem m3_52 : (Jvm.Cond.static ({ cls := "LastCalled", name := "owners", desc := "([I)I" } : Jvm.MethodName)) ∈ lw_G := lw_Gm (lw_t3 (List.mem_of_getElem? (i := 52) rfl)) rfl
theorem m3_53 : (Jvm.Cond.code ({ cls := "LastCalled", name := "owners", desc := "([I)I" } : Jvm.MethodName) prog_1_method_43_code (3 : Nat) (Option.some Jvm.ClassFile.FieldType.int)) ∈ lw_G := lw_Gm (lw_t3 (List.mem_of_getElem? (i := 53) rfl)) rfl
theorem m3_54 : (Jvm.Cond.methodLink "LastCalled$Search" (56 : Nat) ({ cls := "java/lang/Integer", name := "bitCount", desc := "(I)I" } : Jvm.MethodName)) ∈ lw_G := lw_Gm (lw_t3 (List.mem_of_getElem? (i := 54) rfl)) rfl
theorem m3_55 : (Jvm.Cond.methodLink "LastCalled$Search" (64 : Nat) ({ cls := "LastCalled$Search", name := "tryLastCalls", desc := "([ILLastCalled$Hearing;II)V" } : Jvm.MethodName)) ∈ lw_G := lw_Gm (lw_t3 (List.mem_of_getElem? (i := 55) rfl)) rfl
theorem m3_57 : (Jvm.Cond.instanceMethod ({ cls := "LastCalled$Search", name := "tryLastCalls", desc := "([ILLastCalled$Hearing;II)V" } : Jvm.MethodName)) ∈ lw_G := lw_Gm (lw_t3 (List.mem_of_getElem? (i := 57) rfl)) rfl
theorem m3_58 : (Jvm.Cond.code ({ cls := "LastCalled$Search", name := "tryLastCalls", desc := "([ILLastCalled$Hearing;II)V" } : Jvm.MethodName) prog_10_method_5_code (10 : Nat) (Option.none : Option Jvm.ClassFile.FieldType)) ∈ lw_G := lw_Gm (lw_t3 (List.mem_of_getElem? (i := 58) rfl)) rfl
theorem m3_59 : (Jvm.Cond.methodLink "LastCalled$Search" (68 : Nat) ({ cls := "LastCalled$Search", name := "ownersBehind", desc := "(III)I" } : Jvm.MethodName)) ∈ lw_G := lw_Gm (lw_t3 (List.mem_of_getElem? (i := 59) rfl)) rfl
theorem m3_61 : (Jvm.Cond.instanceMethod ({ cls := "LastCalled$Search", name := "ownersBehind", desc := "(III)I" } : Jvm.MethodName)) ∈ lw_G := lw_Gm (lw_t3 (List.mem_of_getElem? (i := 61) rfl)) rfl
theorem m3_62 : (Jvm.Cond.code ({ cls := "LastCalled$Search", name := "ownersBehind", desc := "(III)I" } : Jvm.MethodName) prog_10_method_6_code (5 : Nat) (Option.some Jvm.ClassFile.FieldType.int)) ∈ lw_G := lw_Gm (lw_t3 (List.mem_of_getElem? (i := 62) rfl)) rfl
theorem m3_63 : (Jvm.Cond.methodLink "LastCalledLaw" (77 : Nat) ({ cls := "LastCalled", name := "ring", desc := "(I)I" } : Jvm.MethodName)) ∈ lw_G := lw_Gm (lw_t3 (List.mem_of_getElem? (i := 63) rfl)) rfl
theorem m3_64 : (Jvm.Cond.instanceMethod ({ cls := "LastCalled", name := "ring", desc := "(I)I" } : Jvm.MethodName)) ∈ lw_G := lw_Gm (lw_t3 (List.mem_of_getElem? (i := 64) rfl)) rfl
theorem m3_65 : (Jvm.Cond.selects "LastCalled" ({ cls := "LastCalled", name := "ring", desc := "(I)I" } : Jvm.MethodName) ({ cls := "LastCalled", name := "ring", desc := "(I)I" } : Jvm.MethodName)) ∈ lw_G := lw_Gm (lw_t3 (List.mem_of_getElem? (i := 65) rfl)) rfl
theorem m3_66 : (Jvm.Cond.code ({ cls := "LastCalled", name := "ring", desc := "(I)I" } : Jvm.MethodName) prog_1_method_17_code (4 : Nat) (Option.some Jvm.ClassFile.FieldType.int)) ∈ lw_G := lw_Gm (lw_t3 (List.mem_of_getElem? (i := 66) rfl)) rfl
theorem m3_67 : (Jvm.Cond.methodLink "LastCalledLaw" (81 : Nat) ({ cls := "LastCalled", name := "deed", desc := "(II)I" } : Jvm.MethodName)) ∈ lw_G := lw_Gm (lw_t3 (List.mem_of_getElem? (i := 67) rfl)) rfl
theorem m3_68 : (Jvm.Cond.instanceMethod ({ cls := "LastCalled", name := "deed", desc := "(II)I" } : Jvm.MethodName)) ∈ lw_G := lw_Gm (lw_t3 (List.mem_of_getElem? (i := 68) rfl)) rfl
theorem m3_69 : (Jvm.Cond.selects "LastCalled" ({ cls := "LastCalled", name := "deed", desc := "(II)I" } : Jvm.MethodName) ({ cls := "LastCalled", name := "deed", desc := "(II)I" } : Jvm.MethodName)) ∈ lw_G := lw_Gm (lw_t3 (List.mem_of_getElem? (i := 69) rfl)) rfl
theorem m3_70 : (Jvm.Cond.code ({ cls := "LastCalled", name := "deed", desc := "(II)I" } : Jvm.MethodName) prog_1_method_18_code (3 : Nat) (Option.some Jvm.ClassFile.FieldType.int)) ∈ lw_G := lw_Gm (lw_t3 (List.mem_of_getElem? (i := 70) rfl)) rfl
theorem m3_71 : (Jvm.Cond.methodLink "LastCalledLaw" (85 : Nat) ({ cls := "LastCalled", name := "owes", desc := "(I)I" } : Jvm.MethodName)) ∈ lw_G := lw_Gm (lw_t3 (List.mem_of_getElem? (i := 71) rfl)) rfl
theorem m3_72 : (Jvm.Cond.instanceMethod ({ cls := "LastCalled", name := "owes", desc := "(I)I" } : Jvm.MethodName)) ∈ lw_G := lw_Gm (lw_t3 (List.mem_of_getElem? (i := 72) rfl)) rfl
theorem m3_73 : (Jvm.Cond.selects "LastCalled" ({ cls := "LastCalled", name := "owes", desc := "(I)I" } : Jvm.MethodName) ({ cls := "LastCalled", name := "owes", desc := "(I)I" } : Jvm.MethodName)) ∈ lw_G := lw_Gm (lw_t3 (List.mem_of_getElem? (i := 73) rfl)) rfl
theorem m3_74 : (Jvm.Cond.code ({ cls := "LastCalled", name := "owes", desc := "(I)I" } : Jvm.MethodName) prog_1_method_19_code (3 : Nat) (Option.some Jvm.ClassFile.FieldType.int)) ∈ lw_G := lw_Gm (lw_t3 (List.mem_of_getElem? (i := 74) rfl)) rfl
theorem m3_75 : (Jvm.Cond.methodLink "LastCalled" (166 : Nat) ({ cls := "LastCalled$Fraction", name := "become", desc := "(JJ)V" } : Jvm.MethodName)) ∈ lw_G := lw_Gm (lw_t3 (List.mem_of_getElem? (i := 75) rfl)) rfl
theorem m3_76 : (Jvm.Cond.instanceMethod ({ cls := "LastCalled$Fraction", name := "become", desc := "(JJ)V" } : Jvm.MethodName)) ∈ lw_G := lw_Gm (lw_t3 (List.mem_of_getElem? (i := 76) rfl)) rfl
theorem m3_77 : (Jvm.Cond.selects "LastCalled$Fraction" ({ cls := "LastCalled$Fraction", name := "become", desc := "(JJ)V" } : Jvm.MethodName) ({ cls := "LastCalled$Fraction", name := "become", desc := "(JJ)V" } : Jvm.MethodName)) ∈ lw_G := lw_Gm (lw_t3 (List.mem_of_getElem? (i := 77) rfl)) rfl
theorem m3_78 : (Jvm.Cond.code ({ cls := "LastCalled$Fraction", name := "become", desc := "(JJ)V" } : Jvm.MethodName) prog_6_method_2_code (7 : Nat) (Option.none : Option Jvm.ClassFile.FieldType)) ∈ lw_G := lw_Gm (lw_t3 (List.mem_of_getElem? (i := 78) rfl)) rfl
theorem m3_79 : (Jvm.Cond.methodLink "LastCalled$Fraction" (16 : Nat) ({ cls := "LastCalled$Fraction", name := "commonDivisor", desc := "(JJ)J" } : Jvm.MethodName)) ∈ lw_G := lw_Gm (lw_t3 (List.mem_of_getElem? (i := 79) rfl)) rfl
theorem m3_80 : (Jvm.Cond.static ({ cls := "LastCalled$Fraction", name := "commonDivisor", desc := "(JJ)J" } : Jvm.MethodName)) ∈ lw_G := lw_Gm (lw_t3 (List.mem_of_getElem? (i := 80) rfl)) rfl
theorem m3_81 : (Jvm.Cond.code ({ cls := "LastCalled$Fraction", name := "commonDivisor", desc := "(JJ)J" } : Jvm.MethodName) prog_6_method_3_code (11 : Nat) (Option.some Jvm.ClassFile.FieldType.long)) ∈ lw_G := lw_Gm (lw_t3 (List.mem_of_getElem? (i := 81) rfl)) rfl
theorem m3_82 : (Jvm.Cond.methodLink "LastCalled" (170 : Nat) ({ cls := "LastCalled$Hamlet", name := "penceOn", desc := "(I)I" } : Jvm.MethodName)) ∈ lw_G := lw_Gm (lw_t3 (List.mem_of_getElem? (i := 82) rfl)) rfl
theorem m3_83 : (Jvm.Cond.instanceMethod ({ cls := "LastCalled$Hamlet", name := "penceOn", desc := "(I)I" } : Jvm.MethodName)) ∈ lw_G := lw_Gm (lw_t3 (List.mem_of_getElem? (i := 83) rfl)) rfl
theorem m3_84 : (Jvm.Cond.selects "LastCalled$Hamlet" ({ cls := "LastCalled$Hamlet", name := "penceOn", desc := "(I)I" } : Jvm.MethodName) ({ cls := "LastCalled$Hamlet", name := "penceOn", desc := "(I)I" } : Jvm.MethodName)) ∈ lw_G := lw_Gm (lw_t3 (List.mem_of_getElem? (i := 84) rfl)) rfl
theorem m3_85 : (Jvm.Cond.code ({ cls := "LastCalled$Hamlet", name := "penceOn", desc := "(I)I" } : Jvm.MethodName) prog_7_method_7_code (4 : Nat) (Option.some Jvm.ClassFile.FieldType.int)) ∈ lw_G := lw_Gm (lw_t3 (List.mem_of_getElem? (i := 85) rfl)) rfl
theorem m3_86 : (Jvm.Cond.methodLink "LastCalledLaw" (89 : Nat) ({ cls := "LastCalled", name := "unpaid", desc := "()I" } : Jvm.MethodName)) ∈ lw_G := lw_Gm (lw_t3 (List.mem_of_getElem? (i := 86) rfl)) rfl
theorem m3_87 : (Jvm.Cond.instanceMethod ({ cls := "LastCalled", name := "unpaid", desc := "()I" } : Jvm.MethodName)) ∈ lw_G := lw_Gm (lw_t3 (List.mem_of_getElem? (i := 87) rfl)) rfl
theorem m3_88 : (Jvm.Cond.selects "LastCalled" ({ cls := "LastCalled", name := "unpaid", desc := "()I" } : Jvm.MethodName) ({ cls := "LastCalled", name := "unpaid", desc := "()I" } : Jvm.MethodName)) ∈ lw_G := lw_Gm (lw_t3 (List.mem_of_getElem? (i := 88) rfl)) rfl
theorem m3_89 : (Jvm.Cond.code ({ cls := "LastCalled", name := "unpaid", desc := "()I" } : Jvm.MethodName) prog_1_method_20_code (3 : Nat) (Option.some Jvm.ClassFile.FieldType.int)) ∈ lw_G := lw_Gm (lw_t3 (List.mem_of_getElem? (i := 89) rfl)) rfl
theorem m3_90 : (Jvm.Cond.methodLink "LastCalledLaw" (93 : Nat) ({ cls := "LastCalled", name := "ears", desc := "(IIII)I" } : Jvm.MethodName)) ∈ lw_G := lw_Gm (lw_t3 (List.mem_of_getElem? (i := 90) rfl)) rfl
theorem m3_91 : (Jvm.Cond.instanceMethod ({ cls := "LastCalled", name := "ears", desc := "(IIII)I" } : Jvm.MethodName)) ∈ lw_G := lw_Gm (lw_t3 (List.mem_of_getElem? (i := 91) rfl)) rfl
theorem m3_92 : (Jvm.Cond.selects "LastCalled" ({ cls := "LastCalled", name := "ears", desc := "(IIII)I" } : Jvm.MethodName) ({ cls := "LastCalled", name := "ears", desc := "(IIII)I" } : Jvm.MethodName)) ∈ lw_G := lw_Gm (lw_t3 (List.mem_of_getElem? (i := 92) rfl)) rfl
theorem m3_93 : (Jvm.Cond.code ({ cls := "LastCalled", name := "ears", desc := "(IIII)I" } : Jvm.MethodName) prog_1_method_21_code (12 : Nat) (Option.some Jvm.ClassFile.FieldType.int)) ∈ lw_G := lw_Gm (lw_t3 (List.mem_of_getElem? (i := 93) rfl)) rfl
theorem m3_94 : (Jvm.Cond.methodLink "LastCalled" (173 : Nat) ({ cls := "LastCalled", name := "stopped", desc := "(III)I" } : Jvm.MethodName)) ∈ lw_G := lw_Gm (lw_t3 (List.mem_of_getElem? (i := 94) rfl)) rfl
theorem m3_95 : (Jvm.Cond.static ({ cls := "LastCalled", name := "stopped", desc := "(III)I" } : Jvm.MethodName)) ∈ lw_G := lw_Gm (lw_t3 (List.mem_of_getElem? (i := 95) rfl)) rfl
theorem m3_96 : (Jvm.Cond.code ({ cls := "LastCalled", name := "stopped", desc := "(III)I" } : Jvm.MethodName) prog_1_method_44_code (3 : Nat) (Option.some Jvm.ClassFile.FieldType.int)) ∈ lw_G := lw_Gm (lw_t3 (List.mem_of_getElem? (i := 96) rfl)) rfl
theorem m3_97 : (Jvm.Cond.methodLink "LastCalled" (180 : Nat) ({ cls := "LastCalled", name := "bit", desc := "(II)I" } : Jvm.MethodName)) ∈ lw_G := lw_Gm (lw_t3 (List.mem_of_getElem? (i := 97) rfl)) rfl
theorem m3_98 : (Jvm.Cond.methodLink "LastCalled" (177 : Nat) ({ cls := "LastCalled", name := "bearersBehind", desc := "(II)I" } : Jvm.MethodName)) ∈ lw_G := lw_Gm (lw_t3 (List.mem_of_getElem? (i := 98) rfl)) rfl
theorem m3_99 : (Jvm.Cond.static ({ cls := "LastCalled", name := "bearersBehind", desc := "(II)I" } : Jvm.MethodName)) ∈ lw_G := lw_Gm (lw_t3 (List.mem_of_getElem? (i := 99) rfl)) rfl
theorem m3_100 : (Jvm.Cond.code ({ cls := "LastCalled", name := "bearersBehind", desc := "(II)I" } : Jvm.MethodName) prog_1_method_42_code (2 : Nat) (Option.some Jvm.ClassFile.FieldType.int)) ∈ lw_G := lw_Gm (lw_t3 (List.mem_of_getElem? (i := 100) rfl)) rfl
theorem m3_101 : (Jvm.Cond.methodLink "LastCalledLaw" (98 : Nat) ({ cls := "LastCalled", name := "note", desc := "(IIIII)I" } : Jvm.MethodName)) ∈ lw_G := lw_Gm (lw_t3 (List.mem_of_getElem? (i := 101) rfl)) rfl
theorem m3_102 : (Jvm.Cond.instanceMethod ({ cls := "LastCalled", name := "note", desc := "(IIIII)I" } : Jvm.MethodName)) ∈ lw_G := lw_Gm (lw_t3 (List.mem_of_getElem? (i := 102) rfl)) rfl
theorem m3_103 : (Jvm.Cond.selects "LastCalled" ({ cls := "LastCalled", name := "note", desc := "(IIIII)I" } : Jvm.MethodName) ({ cls := "LastCalled", name := "note", desc := "(IIIII)I" } : Jvm.MethodName)) ∈ lw_G := lw_Gm (lw_t3 (List.mem_of_getElem? (i := 103) rfl)) rfl
theorem m3_104 : (Jvm.Cond.code ({ cls := "LastCalled", name := "note", desc := "(IIIII)I" } : Jvm.MethodName) prog_1_method_22_code (6 : Nat) (Option.some Jvm.ClassFile.FieldType.int)) ∈ lw_G := lw_Gm (lw_t3 (List.mem_of_getElem? (i := 104) rfl)) rfl
theorem m3_105 : (Jvm.Cond.methodLink "LastCalled" (186 : Nat) ({ cls := "LastCalled$Hamlet", name := "write", desc := "(IIIII)V" } : Jvm.MethodName)) ∈ lw_G := lw_Gm (lw_t3 (List.mem_of_getElem? (i := 105) rfl)) rfl
theorem m3_106 : (Jvm.Cond.instanceMethod ({ cls := "LastCalled$Hamlet", name := "write", desc := "(IIIII)V" } : Jvm.MethodName)) ∈ lw_G := lw_Gm (lw_t3 (List.mem_of_getElem? (i := 106) rfl)) rfl
theorem m3_107 : (Jvm.Cond.selects "LastCalled$Hamlet" ({ cls := "LastCalled$Hamlet", name := "write", desc := "(IIIII)V" } : Jvm.MethodName) ({ cls := "LastCalled$Hamlet", name := "write", desc := "(IIIII)V" } : Jvm.MethodName)) ∈ lw_G := lw_Gm (lw_t3 (List.mem_of_getElem? (i := 107) rfl)) rfl
theorem m3_108 : (Jvm.Cond.code ({ cls := "LastCalled$Hamlet", name := "write", desc := "(IIIII)V" } : Jvm.MethodName) prog_7_method_8_code (7 : Nat) (Option.none : Option Jvm.ClassFile.FieldType)) ∈ lw_G := lw_Gm (lw_t3 (List.mem_of_getElem? (i := 108) rfl)) rfl
theorem m3_109 : (Jvm.Cond.methodLink "LastCalledLaw" (103 : Nat) ({ cls := "LastCalled", name := "forget", desc := "(I)I" } : Jvm.MethodName)) ∈ lw_G := lw_Gm (lw_t3 (List.mem_of_getElem? (i := 109) rfl)) rfl
theorem m3_110 : (Jvm.Cond.instanceMethod ({ cls := "LastCalled", name := "forget", desc := "(I)I" } : Jvm.MethodName)) ∈ lw_G := lw_Gm (lw_t3 (List.mem_of_getElem? (i := 110) rfl)) rfl
theorem m3_111 : (Jvm.Cond.selects "LastCalled" ({ cls := "LastCalled", name := "forget", desc := "(I)I" } : Jvm.MethodName) ({ cls := "LastCalled", name := "forget", desc := "(I)I" } : Jvm.MethodName)) ∈ lw_G := lw_Gm (lw_t3 (List.mem_of_getElem? (i := 111) rfl)) rfl
theorem m3_112 : (Jvm.Cond.code ({ cls := "LastCalled", name := "forget", desc := "(I)I" } : Jvm.MethodName) prog_1_method_23_code (3 : Nat) (Option.some Jvm.ClassFile.FieldType.int)) ∈ lw_G := lw_Gm (lw_t3 (List.mem_of_getElem? (i := 112) rfl)) rfl
theorem m3_113 : (Jvm.Cond.methodLink "LastCalledLaw" (107 : Nat) ({ cls := "LastCalled", name := "is", desc := "(I)I" } : Jvm.MethodName)) ∈ lw_G := lw_Gm (lw_t3 (List.mem_of_getElem? (i := 113) rfl)) rfl
theorem m3_114 : (Jvm.Cond.instanceMethod ({ cls := "LastCalled", name := "is", desc := "(I)I" } : Jvm.MethodName)) ∈ lw_G := lw_Gm (lw_t3 (List.mem_of_getElem? (i := 114) rfl)) rfl
theorem m3_115 : (Jvm.Cond.selects "LastCalled" ({ cls := "LastCalled", name := "is", desc := "(I)I" } : Jvm.MethodName) ({ cls := "LastCalled", name := "is", desc := "(I)I" } : Jvm.MethodName)) ∈ lw_G := lw_Gm (lw_t3 (List.mem_of_getElem? (i := 115) rfl)) rfl
theorem m3_116 : (Jvm.Cond.code ({ cls := "LastCalled", name := "is", desc := "(I)I" } : Jvm.MethodName) prog_1_method_24_code (4 : Nat) (Option.some Jvm.ClassFile.FieldType.int)) ∈ lw_G := lw_Gm (lw_t3 (List.mem_of_getElem? (i := 116) rfl)) rfl
theorem m3_117 : (Jvm.Cond.methodLink "LastCalled" (190 : Nat) ({ cls := "LastCalled", name := "fits", desc := "(III)Z" } : Jvm.MethodName)) ∈ lw_G := lw_Gm (lw_t3 (List.mem_of_getElem? (i := 117) rfl)) rfl
theorem m3_119 : (Jvm.Cond.instanceMethod ({ cls := "LastCalled", name := "fits", desc := "(III)Z" } : Jvm.MethodName)) ∈ lw_G := lw_Gm (lw_t3 (List.mem_of_getElem? (i := 119) rfl)) rfl
theorem m3_120 : (Jvm.Cond.code ({ cls := "LastCalled", name := "fits", desc := "(III)Z" } : Jvm.MethodName) prog_1_method_45_code (8 : Nat) (Option.some Jvm.ClassFile.FieldType.boolean)) ∈ lw_G := lw_Gm (lw_t3 (List.mem_of_getElem? (i := 120) rfl)) rfl
theorem m3_121 : (Jvm.Cond.methodLink "LastCalled" (245 : Nat) ({ cls := "java/lang/Math", name := "abs", desc := "(I)I" } : Jvm.MethodName)) ∈ lw_G := lw_Gm (lw_t3 (List.mem_of_getElem? (i := 121) rfl)) rfl
theorem m3_122 : (Jvm.Cond.methodLink "LastCalled" (248 : Nat) ({ cls := "LastCalled$Hearing", name := "turnsAs", desc := "(IIZZI)Z" } : Jvm.MethodName)) ∈ lw_G := lw_Gm (lw_t3 (List.mem_of_getElem? (i := 122) rfl)) rfl
theorem m3_123 : (Jvm.Cond.methodLink "LastCalledLaw" (111 : Nat) ({ cls := "LastCalled", name := "stood", desc := "(I)I" } : Jvm.MethodName)) ∈ lw_G := lw_Gm (lw_t3 (List.mem_of_getElem? (i := 123) rfl)) rfl
theorem m3_124 : (Jvm.Cond.instanceMethod ({ cls := "LastCalled", name := "stood", desc := "(I)I" } : Jvm.MethodName)) ∈ lw_G := lw_Gm (lw_t3 (List.mem_of_getElem? (i := 124) rfl)) rfl
theorem m3_125 : (Jvm.Cond.selects "LastCalled" ({ cls := "LastCalled", name := "stood", desc := "(I)I" } : Jvm.MethodName) ({ cls := "LastCalled", name := "stood", desc := "(I)I" } : Jvm.MethodName)) ∈ lw_G := lw_Gm (lw_t3 (List.mem_of_getElem? (i := 125) rfl)) rfl
theorem m3_126 : (Jvm.Cond.code ({ cls := "LastCalled", name := "stood", desc := "(I)I" } : Jvm.MethodName) prog_1_method_25_code (2 : Nat) (Option.some Jvm.ClassFile.FieldType.int)) ∈ lw_G := lw_Gm (lw_t3 (List.mem_of_getElem? (i := 126) rfl)) rfl
theorem m3_127 : (Jvm.Cond.methodLink "LastCalled" (194 : Nat) ({ cls := "LastCalled", name := "placesThatFit", desc := "(I)I" } : Jvm.MethodName)) ∈ lw_G := lw_Gm (lw_t3 (List.mem_of_getElem? (i := 127) rfl)) rfl
theorem m3_129 : (Jvm.Cond.instanceMethod ({ cls := "LastCalled", name := "placesThatFit", desc := "(I)I" } : Jvm.MethodName)) ∈ lw_G := lw_Gm (lw_t3 (List.mem_of_getElem? (i := 129) rfl)) rfl
theorem m3_130 : (Jvm.Cond.code ({ cls := "LastCalled", name := "placesThatFit", desc := "(I)I" } : Jvm.MethodName) prog_1_method_46_code (4 : Nat) (Option.some Jvm.ClassFile.FieldType.int)) ∈ lw_G := lw_Gm (lw_t3 (List.mem_of_getElem? (i := 130) rfl)) rfl
theorem m3_131 : (Jvm.Cond.methodLink "LastCalledLaw" (115 : Nat) ({ cls := "LastCalled", name := "next", desc := "(I)I" } : Jvm.MethodName)) ∈ lw_G := lw_Gm (lw_t3 (List.mem_of_getElem? (i := 131) rfl)) rfl
theorem m3_132 : (Jvm.Cond.instanceMethod ({ cls := "LastCalled", name := "next", desc := "(I)I" } : Jvm.MethodName)) ∈ lw_G := lw_Gm (lw_t3 (List.mem_of_getElem? (i := 132) rfl)) rfl
theorem m3_133 : (Jvm.Cond.selects "LastCalled" ({ cls := "LastCalled", name := "next", desc := "(I)I" } : Jvm.MethodName) ({ cls := "LastCalled", name := "next", desc := "(I)I" } : Jvm.MethodName)) ∈ lw_G := lw_Gm (lw_t3 (List.mem_of_getElem? (i := 133) rfl)) rfl
theorem m3_134 : (Jvm.Cond.code ({ cls := "LastCalled", name := "next", desc := "(I)I" } : Jvm.MethodName) prog_1_method_26_code (8 : Nat) (Option.some Jvm.ClassFile.FieldType.int)) ∈ lw_G := lw_Gm (lw_t3 (List.mem_of_getElem? (i := 134) rfl)) rfl
theorem m3_135 : (Jvm.Cond.methodLink "LastCalled" (197 : Nat) ({ cls := "LastCalled", name := "placesTurningAt", desc := "(II)I" } : Jvm.MethodName)) ∈ lw_G := lw_Gm (lw_t3 (List.mem_of_getElem? (i := 135) rfl)) rfl
theorem m3_137 : (Jvm.Cond.instanceMethod ({ cls := "LastCalled", name := "placesTurningAt", desc := "(II)I" } : Jvm.MethodName)) ∈ lw_G := lw_Gm (lw_t3 (List.mem_of_getElem? (i := 137) rfl)) rfl
theorem m3_138 : (Jvm.Cond.code ({ cls := "LastCalled", name := "placesTurningAt", desc := "(II)I" } : Jvm.MethodName) prog_1_method_47_code (5 : Nat) (Option.some Jvm.ClassFile.FieldType.int)) ∈ lw_G := lw_Gm (lw_t3 (List.mem_of_getElem? (i := 138) rfl)) rfl
theorem m3_139 : (Jvm.Cond.methodLink "LastCalled" (200 : Nat) ({ cls := "java/lang/Math", name := "max", desc := "(II)I" } : Jvm.MethodName)) ∈ lw_G := lw_Gm (lw_t3 (List.mem_of_getElem? (i := 139) rfl)) rfl
theorem m3_140 : (Jvm.Cond.static ({ cls := "java/lang/Math", name := "max", desc := "(II)I" } : Jvm.MethodName)) ∈ lw_G := lw_Gm (lw_t3 (List.mem_of_getElem? (i := 140) rfl)) rfl
theorem m3_141 : (Jvm.Cond.code ({ cls := "java/lang/Math", name := "max", desc := "(II)I" } : Jvm.MethodName) prog_16_method_65_code (2 : Nat) (Option.some Jvm.ClassFile.FieldType.int)) ∈ lw_G := lw_Gm (lw_t3 (List.mem_of_getElem? (i := 141) rfl)) rfl
theorem m3_142 : (Jvm.Cond.methodLink "LastCalledLaw" (119 : Nat) ({ cls := "LastCalled", name := "trippers", desc := "(IIII)I" } : Jvm.MethodName)) ∈ lw_G := lw_Gm (lw_t3 (List.mem_of_getElem? (i := 142) rfl)) rfl
theorem m3_143 : (Jvm.Cond.instanceMethod ({ cls := "LastCalled", name := "trippers", desc := "(IIII)I" } : Jvm.MethodName)) ∈ lw_G := lw_Gm (lw_t3 (List.mem_of_getElem? (i := 143) rfl)) rfl
theorem m3_144 : (Jvm.Cond.selects "LastCalled" ({ cls := "LastCalled", name := "trippers", desc := "(IIII)I" } : Jvm.MethodName) ({ cls := "LastCalled", name := "trippers", desc := "(IIII)I" } : Jvm.MethodName)) ∈ lw_G := lw_Gm (lw_t3 (List.mem_of_getElem? (i := 144) rfl)) rfl
theorem m3_145 : (Jvm.Cond.code ({ cls := "LastCalled", name := "trippers", desc := "(IIII)I" } : Jvm.MethodName) prog_1_method_27_code (12 : Nat) (Option.some Jvm.ClassFile.FieldType.int)) ∈ lw_G := lw_Gm (lw_t3 (List.mem_of_getElem? (i := 145) rfl)) rfl
theorem m3_146 : (Jvm.Cond.constantLong "LastCalled" (205 : Nat) (10 : Int64)) ∈ lw_G := lw_Gm (lw_t3 (List.mem_of_getElem? (i := 146) rfl)) rfl
theorem m3_147 : (Jvm.Cond.methodLink "LastCalledLaw" (123 : Nat) ({ cls := "LastCalled", name := "weeks", desc := "(II)I" } : Jvm.MethodName)) ∈ lw_G := lw_Gm (lw_t3 (List.mem_of_getElem? (i := 147) rfl)) rfl
theorem m3_148 : (Jvm.Cond.instanceMethod ({ cls := "LastCalled", name := "weeks", desc := "(II)I" } : Jvm.MethodName)) ∈ lw_G := lw_Gm (lw_t3 (List.mem_of_getElem? (i := 148) rfl)) rfl
theorem m3_149 : (Jvm.Cond.selects "LastCalled" ({ cls := "LastCalled", name := "weeks", desc := "(II)I" } : Jvm.MethodName) ({ cls := "LastCalled", name := "weeks", desc := "(II)I" } : Jvm.MethodName)) ∈ lw_G := lw_Gm (lw_t3 (List.mem_of_getElem? (i := 149) rfl)) rfl
theorem m3_150 : (Jvm.Cond.code ({ cls := "LastCalled", name := "weeks", desc := "(II)I" } : Jvm.MethodName) prog_1_method_28_code (3 : Nat) (Option.some Jvm.ClassFile.FieldType.int)) ∈ lw_G := lw_Gm (lw_t3 (List.mem_of_getElem? (i := 150) rfl)) rfl
theorem m3_151 : (Jvm.Cond.constant "LastCalled" (207 : Nat) (1000000 : Int32)) ∈ lw_G := lw_Gm (lw_t3 (List.mem_of_getElem? (i := 151) rfl)) rfl
theorem m3_152 : (Jvm.Cond.methodLink "LastCalled" (208 : Nat) ({ cls := "LastCalled$Search", name := "ownersBehindWeeks", desc := "(LLastCalled$Hamlet;LLastCalled$Hearing;II)I" } : Jvm.MethodName)) ∈ lw_G := lw_Gm (lw_t3 (List.mem_of_getElem? (i := 152) rfl)) rfl
theorem m3_153 : (Jvm.Cond.instanceMethod ({ cls := "LastCalled$Search", name := "ownersBehindWeeks", desc := "(LLastCalled$Hamlet;LLastCalled$Hearing;II)I" } : Jvm.MethodName)) ∈ lw_G := lw_Gm (lw_t3 (List.mem_of_getElem? (i := 153) rfl)) rfl
theorem m3_154 : (Jvm.Cond.selects "LastCalled$Search" ({ cls := "LastCalled$Search", name := "ownersBehindWeeks", desc := "(LLastCalled$Hamlet;LLastCalled$Hearing;II)I" } : Jvm.MethodName) ({ cls := "LastCalled$Search", name := "ownersBehindWeeks", desc := "(LLastCalled$Hamlet;LLastCalled$Hearing;II)I" } : Jvm.MethodName)) ∈ lw_G := lw_Gm (lw_t3 (List.mem_of_getElem? (i := 154) rfl)) rfl
theorem m3_155 : (Jvm.Cond.code ({ cls := "LastCalled$Search", name := "ownersBehindWeeks", desc := "(LLastCalled$Hamlet;LLastCalled$Hearing;II)I" } : Jvm.MethodName) prog_10_method_8_code (10 : Nat) (Option.some Jvm.ClassFile.FieldType.int)) ∈ lw_G := lw_Gm (lw_t3 (List.mem_of_getElem? (i := 155) rfl)) rfl
theorem m3_156 : (Jvm.Cond.constantLong "LastCalled$Search" (82 : Nat) (1103515245 : Int64)) ∈ lw_G := lw_Gm (lw_t3 (List.mem_of_getElem? (i := 156) rfl)) rfl
theorem m3_157 : (Jvm.Cond.constantLong "LastCalled$Search" (84 : Nat) (12345 : Int64)) ∈ lw_G := lw_Gm (lw_t3 (List.mem_of_getElem? (i := 157) rfl)) rfl
theorem m3_158 : (Jvm.Cond.constantLong "LastCalled$Search" (86 : Nat) (2147483648 : Int64)) ∈ lw_G := lw_Gm (lw_t3 (List.mem_of_getElem? (i := 158) rfl)) rfl
theorem m3_159 : (Jvm.Cond.constantLong "LastCalled$Search" (88 : Nat) (65536 : Int64)) ∈ lw_G := lw_Gm (lw_t3 (List.mem_of_getElem? (i := 159) rfl)) rfl
theorem m3_160 : (Jvm.Cond.constantLong "LastCalled$Search" (90 : Nat) (1048576 : Int64)) ∈ lw_G := lw_Gm (lw_t3 (List.mem_of_getElem? (i := 160) rfl)) rfl
theorem m3_161 : (Jvm.Cond.constantLong "LastCalled$Search" (92 : Nat) (10 : Int64)) ∈ lw_G := lw_Gm (lw_t3 (List.mem_of_getElem? (i := 161) rfl)) rfl
theorem m3_162 : (Jvm.Cond.methodLink "LastCalledLaw" (127 : Nat) ({ cls := "LastCalled", name := "part", desc := "(I)J" } : Jvm.MethodName)) ∈ lw_G := lw_Gm (lw_t3 (List.mem_of_getElem? (i := 162) rfl)) rfl
theorem m3_163 : (Jvm.Cond.instanceMethod ({ cls := "LastCalled", name := "part", desc := "(I)J" } : Jvm.MethodName)) ∈ lw_G := lw_Gm (lw_t3 (List.mem_of_getElem? (i := 163) rfl)) rfl
theorem m3_164 : (Jvm.Cond.selects "LastCalled" ({ cls := "LastCalled", name := "part", desc := "(I)J" } : Jvm.MethodName) ({ cls := "LastCalled", name := "part", desc := "(I)J" } : Jvm.MethodName)) ∈ lw_G := lw_Gm (lw_t3 (List.mem_of_getElem? (i := 164) rfl)) rfl
theorem m3_165 : (Jvm.Cond.code ({ cls := "LastCalled", name := "part", desc := "(I)J" } : Jvm.MethodName) prog_1_method_29_code (2 : Nat) (Option.some Jvm.ClassFile.FieldType.long)) ∈ lw_G := lw_Gm (lw_t3 (List.mem_of_getElem? (i := 165) rfl)) rfl
theorem m3_166 : (Jvm.Cond.methodLink "LastCalledLaw" (132 : Nat) ({ cls := "LastCalled", name := "image", desc := "(I)I" } : Jvm.MethodName)) ∈ lw_G := lw_Gm (lw_t3 (List.mem_of_getElem? (i := 166) rfl)) rfl
theorem m3_167 : (Jvm.Cond.instanceMethod ({ cls := "LastCalled", name := "image", desc := "(I)I" } : Jvm.MethodName)) ∈ lw_G := lw_Gm (lw_t3 (List.mem_of_getElem? (i := 167) rfl)) rfl
theorem m3_168 : (Jvm.Cond.selects "LastCalled" ({ cls := "LastCalled", name := "image", desc := "(I)I" } : Jvm.MethodName) ({ cls := "LastCalled", name := "image", desc := "(I)I" } : Jvm.MethodName)) ∈ lw_G := lw_Gm (lw_t3 (List.mem_of_getElem? (i := 168) rfl)) rfl
theorem m3_169 : (Jvm.Cond.code ({ cls := "LastCalled", name := "image", desc := "(I)I" } : Jvm.MethodName) prog_1_method_30_code (2 : Nat) (Option.some Jvm.ClassFile.FieldType.int)) ∈ lw_G := lw_Gm (lw_t3 (List.mem_of_getElem? (i := 169) rfl)) rfl
theorem m3_170 : (Jvm.Cond.methodLink "LastCalledLaw" (136 : Nat) ({ cls := "LastCalled", name := "from", desc := "(I)I" } : Jvm.MethodName)) ∈ lw_G := lw_Gm (lw_t3 (List.mem_of_getElem? (i := 170) rfl)) rfl
theorem m3_171 : (Jvm.Cond.instanceMethod ({ cls := "LastCalled", name := "from", desc := "(I)I" } : Jvm.MethodName)) ∈ lw_G := lw_Gm (lw_t3 (List.mem_of_getElem? (i := 171) rfl)) rfl
theorem m3_172 : (Jvm.Cond.selects "LastCalled" ({ cls := "LastCalled", name := "from", desc := "(I)I" } : Jvm.MethodName) ({ cls := "LastCalled", name := "from", desc := "(I)I" } : Jvm.MethodName)) ∈ lw_G := lw_Gm (lw_t3 (List.mem_of_getElem? (i := 172) rfl)) rfl
theorem m3_173 : (Jvm.Cond.code ({ cls := "LastCalled", name := "from", desc := "(I)I" } : Jvm.MethodName) prog_1_method_31_code (2 : Nat) (Option.some Jvm.ClassFile.FieldType.int)) ∈ lw_G := lw_Gm (lw_t3 (List.mem_of_getElem? (i := 173) rfl)) rfl
theorem m3_174 : (Jvm.Cond.methodLink "LastCalledLaw" (140 : Nat) ({ cls := "LastCalled", name := "status", desc := "(I)I" } : Jvm.MethodName)) ∈ lw_G := lw_Gm (lw_t3 (List.mem_of_getElem? (i := 174) rfl)) rfl
theorem m3_175 : (Jvm.Cond.instanceMethod ({ cls := "LastCalled", name := "status", desc := "(I)I" } : Jvm.MethodName)) ∈ lw_G := lw_Gm (lw_t3 (List.mem_of_getElem? (i := 175) rfl)) rfl
theorem m3_176 : (Jvm.Cond.selects "LastCalled" ({ cls := "LastCalled", name := "status", desc := "(I)I" } : Jvm.MethodName) ({ cls := "LastCalled", name := "status", desc := "(I)I" } : Jvm.MethodName)) ∈ lw_G := lw_Gm (lw_t3 (List.mem_of_getElem? (i := 176) rfl)) rfl
theorem m3_177 : (Jvm.Cond.code ({ cls := "LastCalled", name := "status", desc := "(I)I" } : Jvm.MethodName) prog_1_method_32_code (2 : Nat) (Option.some Jvm.ClassFile.FieldType.int)) ∈ lw_G := lw_Gm (lw_t3 (List.mem_of_getElem? (i := 177) rfl)) rfl
theorem m3_178 : (Jvm.Cond.methodLink "LastCalledLaw" (144 : Nat) ({ cls := "LastCalled", name := "count", desc := "(I)I" } : Jvm.MethodName)) ∈ lw_G := lw_Gm (lw_t3 (List.mem_of_getElem? (i := 178) rfl)) rfl
theorem m3_179 : (Jvm.Cond.instanceMethod ({ cls := "LastCalled", name := "count", desc := "(I)I" } : Jvm.MethodName)) ∈ lw_G := lw_Gm (lw_t3 (List.mem_of_getElem? (i := 179) rfl)) rfl
theorem m3_180 : (Jvm.Cond.selects "LastCalled" ({ cls := "LastCalled", name := "count", desc := "(I)I" } : Jvm.MethodName) ({ cls := "LastCalled", name := "count", desc := "(I)I" } : Jvm.MethodName)) ∈ lw_G := lw_Gm (lw_t3 (List.mem_of_getElem? (i := 180) rfl)) rfl
theorem m3_181 : (Jvm.Cond.code ({ cls := "LastCalled", name := "count", desc := "(I)I" } : Jvm.MethodName) prog_1_method_33_code (2 : Nat) (Option.some Jvm.ClassFile.FieldType.int)) ∈ lw_G := lw_Gm (lw_t3 (List.mem_of_getElem? (i := 181) rfl)) rfl
theorem m3_182 : (Jvm.Cond.methodLink "LastCalled" (219 : Nat) ({ cls := "LastCalled", name := "amount", desc := "(I)I" } : Jvm.MethodName)) ∈ lw_G := lw_Gm (lw_t3 (List.mem_of_getElem? (i := 182) rfl)) rfl
theorem m3_184 : (Jvm.Cond.instanceMethod ({ cls := "LastCalled", name := "amount", desc := "(I)I" } : Jvm.MethodName)) ∈ lw_G := lw_Gm (lw_t3 (List.mem_of_getElem? (i := 184) rfl)) rfl
theorem m3_185 : (Jvm.Cond.code ({ cls := "LastCalled", name := "amount", desc := "(I)I" } : Jvm.MethodName) prog_1_method_39_code (2 : Nat) (Option.some Jvm.ClassFile.FieldType.int)) ∈ lw_G := lw_Gm (lw_t3 (List.mem_of_getElem? (i := 185) rfl)) rfl
theorem m3_186 : (Jvm.Cond.methodLink "LastCalled" (230 : Nat) ({ cls := "LastCalled", name := "owners", desc := "([I)I" } : Jvm.MethodName)) ∈ lw_G := lw_Gm (lw_t3 (List.mem_of_getElem? (i := 186) rfl)) rfl
theorem m3_187 : (Jvm.Cond.methodLink "LastCalledLaw" (148 : Nat) ({ cls := "LastCalled", name := "digest", desc := "()J" } : Jvm.MethodName)) ∈ lw_G := lw_Gm (lw_t3 (List.mem_of_getElem? (i := 187) rfl)) rfl
theorem m3_188 : (Jvm.Cond.instanceMethod ({ cls := "LastCalled", name := "digest", desc := "()J" } : Jvm.MethodName)) ∈ lw_G := lw_Gm (lw_t3 (List.mem_of_getElem? (i := 188) rfl)) rfl
theorem m3_189 : (Jvm.Cond.selects "LastCalled" ({ cls := "LastCalled", name := "digest", desc := "()J" } : Jvm.MethodName) ({ cls := "LastCalled", name := "digest", desc := "()J" } : Jvm.MethodName)) ∈ lw_G := lw_Gm (lw_t3 (List.mem_of_getElem? (i := 189) rfl)) rfl
theorem m3_190 : (Jvm.Cond.code ({ cls := "LastCalled", name := "digest", desc := "()J" } : Jvm.MethodName) prog_1_method_34_code (4 : Nat) (Option.some Jvm.ClassFile.FieldType.long)) ∈ lw_G := lw_Gm (lw_t3 (List.mem_of_getElem? (i := 190) rfl)) rfl
theorem m3_191 : (Jvm.Cond.constantLong "LastCalled" (222 : Nat) (1201 : Int64)) ∈ lw_G := lw_Gm (lw_t3 (List.mem_of_getElem? (i := 191) rfl)) rfl
theorem m3_192 : (Jvm.Cond.constantLong "LastCalled" (224 : Nat) (31 : Int64)) ∈ lw_G := lw_Gm (lw_t3 (List.mem_of_getElem? (i := 192) rfl)) rfl
theorem m3_193 : (Jvm.Cond.methodLink "LastCalled" (226 : Nat) ({ cls := "LastCalled$Hamlet", name := "mixInto", desc := "(J)J" } : Jvm.MethodName)) ∈ lw_G := lw_Gm (lw_t3 (List.mem_of_getElem? (i := 193) rfl)) rfl
theorem m3_194 : (Jvm.Cond.instanceMethod ({ cls := "LastCalled$Hamlet", name := "mixInto", desc := "(J)J" } : Jvm.MethodName)) ∈ lw_G := lw_Gm (lw_t3 (List.mem_of_getElem? (i := 194) rfl)) rfl
theorem m3_195 : (Jvm.Cond.selects "LastCalled$Hamlet" ({ cls := "LastCalled$Hamlet", name := "mixInto", desc := "(J)J" } : Jvm.MethodName) ({ cls := "LastCalled$Hamlet", name := "mixInto", desc := "(J)J" } : Jvm.MethodName)) ∈ lw_G := lw_Gm (lw_t3 (List.mem_of_getElem? (i := 195) rfl)) rfl
theorem m3_196 : (Jvm.Cond.code ({ cls := "LastCalled$Hamlet", name := "mixInto", desc := "(J)J" } : Jvm.MethodName) prog_7_method_11_code (6 : Nat) (Option.some Jvm.ClassFile.FieldType.long)) ∈ lw_G := lw_Gm (lw_t3 (List.mem_of_getElem? (i := 196) rfl)) rfl
theorem m3_197 : (Jvm.Cond.constantLong "LastCalled$Hamlet" (69 : Nat) (31 : Int64)) ∈ lw_G := lw_Gm (lw_t3 (List.mem_of_getElem? (i := 197) rfl)) rfl
theorem m3_198 : (Jvm.Cond.methodLink "LastCalled$Hamlet" (71 : Nat) ({ cls := "LastCalled$Hamlet", name := "nameOf", desc := "(I)I" } : Jvm.MethodName)) ∈ lw_G := lw_Gm (lw_t3 (List.mem_of_getElem? (i := 198) rfl)) rfl
theorem m3_199 : (Jvm.Cond.classLink "LastCalledLaw" (10 : Nat) "LastCalledModel") ∈ lw_G := lw_Gm (lw_t3 (List.mem_of_getElem? (i := 199) rfl)) rfl
theorem m3_200 : (Jvm.Cond.instantiable "LastCalledModel" (19 : Nat)) ∈ lw_G := lw_Gm (lw_t3 (List.mem_of_getElem? (i := 200) rfl)) rfl
theorem m3_201 : (Jvm.Cond.methodLink "LastCalledLaw" (12 : Nat) ({ cls := "LastCalledModel", name := "<init>", desc := "()V" } : Jvm.MethodName)) ∈ lw_G := lw_Gm (lw_t3 (List.mem_of_getElem? (i := 201) rfl)) rfl
theorem m3_202 : (Jvm.Cond.instanceMethod ({ cls := "LastCalledModel", name := "<init>", desc := "()V" } : Jvm.MethodName)) ∈ lw_G := lw_Gm (lw_t3 (List.mem_of_getElem? (i := 202) rfl)) rfl
theorem m3_203 : (Jvm.Cond.code ({ cls := "LastCalledModel", name := "<init>", desc := "()V" } : Jvm.MethodName) prog_14_method_1_code (1 : Nat) (Option.none : Option Jvm.ClassFile.FieldType)) ∈ lw_G := lw_Gm (lw_t3 (List.mem_of_getElem? (i := 203) rfl)) rfl
theorem m3_204 : (Jvm.Cond.methodLink "LastCalledModel" (1 : Nat) ({ cls := "java/lang/Object", name := "<init>", desc := "()V" } : Jvm.MethodName)) ∈ lw_G := lw_Gm (lw_t3 (List.mem_of_getElem? (i := 204) rfl)) rfl
theorem m3_205 : (Jvm.Cond.methodLink "LastCalledModel" (42 : Nat) ({ cls := "LastCalledModel", name := "begin", desc := "([II)V" } : Jvm.MethodName)) ∈ lw_G := lw_Gm (lw_t3 (List.mem_of_getElem? (i := 205) rfl)) rfl
theorem m3_206 : (Jvm.Cond.static ({ cls := "LastCalledModel", name := "begin", desc := "([II)V" } : Jvm.MethodName)) ∈ lw_G := lw_Gm (lw_t3 (List.mem_of_getElem? (i := 206) rfl)) rfl
theorem m3_207 : (Jvm.Cond.code ({ cls := "LastCalledModel", name := "begin", desc := "([II)V" } : Jvm.MethodName) prog_14_method_9_code (3 : Nat) (Option.none : Option Jvm.ClassFile.FieldType)) ∈ lw_G := lw_Gm (lw_t3 (List.mem_of_getElem? (i := 207) rfl)) rfl
theorem m3_208 : (Jvm.Cond.fieldLink "LastCalledModel" (7 : Nat) "LastCalledModel" "now" "[I") ∈ lw_G := lw_Gm (lw_t3 (List.mem_of_getElem? (i := 208) rfl)) rfl
theorem m3_209 : (Jvm.Cond.fieldLink "LastCalledModel" (13 : Nat) "LastCalledModel" "kept" "[I") ∈ lw_G := lw_Gm (lw_t3 (List.mem_of_getElem? (i := 209) rfl)) rfl
theorem m3_210 : (Jvm.Cond.fieldLink "LastCalledModel" (16 : Nat) "LastCalledModel" "isKept" "[Z") ∈ lw_G := lw_Gm (lw_t3 (List.mem_of_getElem? (i := 210) rfl)) rfl
theorem m3_211 : (Jvm.Cond.fieldLink "LastCalledModel" (20 : Nat) "LastCalledModel" "refused" "[I") ∈ lw_G := lw_Gm (lw_t3 (List.mem_of_getElem? (i := 211) rfl)) rfl
theorem m3_212 : (Jvm.Cond.fieldLink "LastCalledModel" (144 : Nat) "LastCalledModel" "above" "J") ∈ lw_G := lw_Gm (lw_t3 (List.mem_of_getElem? (i := 212) rfl)) rfl
theorem m3_213 : (Jvm.Cond.fieldLink "LastCalledModel" (23 : Nat) "LastCalledModel" "below" "J") ∈ lw_G := lw_Gm (lw_t3 (List.mem_of_getElem? (i := 213) rfl)) rfl
theorem m3_214 : (Jvm.Cond.fieldLink "LastCalledModel" (27 : Nat) "LastCalledModel" "named" "[I") ∈ lw_G := lw_Gm (lw_t3 (List.mem_of_getElem? (i := 214) rfl)) rfl
theorem m3_215 : (Jvm.Cond.fieldLink "LastCalledModel" (120 : Nat) "LastCalledModel" "fewest" "I") ∈ lw_G := lw_Gm (lw_t3 (List.mem_of_getElem? (i := 215) rfl)) rfl
theorem m3_216 : (Jvm.Cond.fieldLink "LastCalledModel" (124 : Nat) "LastCalledModel" "firstCall" "I") ∈ lw_G := lw_Gm (lw_t3 (List.mem_of_getElem? (i := 216) rfl)) rfl
theorem m3_217 : (Jvm.Cond.fieldLink "LastCalledModel" (133 : Nat) "LastCalledModel" "mostOwn" "I") ∈ lw_G := lw_Gm (lw_t3 (List.mem_of_getElem? (i := 217) rfl)) rfl
theorem m3_218 : (Jvm.Cond.fieldLink "LastCalledModel" (30 : Nat) "LastCalledModel" "bearing" "[I") ∈ lw_G := lw_Gm (lw_t3 (List.mem_of_getElem? (i := 218) rfl)) rfl
theorem m3_219 : (Jvm.Cond.fieldLink "LastCalledModel" (33 : Nat) "LastCalledModel" "bytes" "[I") ∈ lw_G := lw_Gm (lw_t3 (List.mem_of_getElem? (i := 219) rfl)) rfl
theorem m3_220 : (Jvm.Cond.fieldLink "LastCalledModel" (178 : Nat) "LastCalledModel" "bytesLong" "I") ∈ lw_G := lw_Gm (lw_t3 (List.mem_of_getElem? (i := 220) rfl)) rfl
theorem m3_221 : (Jvm.Cond.fieldLink "LastCalledModel" (189 : Nat) "LastCalledModel" "tokenAt" "I") ∈ lw_G := lw_Gm (lw_t3 (List.mem_of_getElem? (i := 221) rfl)) rfl
theorem m3_222 : (Jvm.Cond.fieldLink "LastCalledModel" (192 : Nat) "LastCalledModel" "tokenLong" "I") ∈ lw_G := lw_Gm (lw_t3 (List.mem_of_getElem? (i := 222) rfl)) rfl
theorem m3_223 : (Jvm.Cond.fieldLink "LastCalledModel" (195 : Nat) "LastCalledModel" "token" "I") ∈ lw_G := lw_Gm (lw_t3 (List.mem_of_getElem? (i := 223) rfl)) rfl
theorem m3_224 : (Jvm.Cond.fieldLink "LastCalledModel" (198 : Nat) "LastCalledModel" "value" "I") ∈ lw_G := lw_Gm (lw_t3 (List.mem_of_getElem? (i := 224) rfl)) rfl
theorem m3_225 : (Jvm.Cond.fieldLink "LastCalledModel" (36 : Nat) "LastCalledModel" "anew" "[I") ∈ lw_G := lw_Gm (lw_t3 (List.mem_of_getElem? (i := 225) rfl)) rfl
theorem m3_226 : (Jvm.Cond.fieldLink "LastCalledModel" (39 : Nat) "LastCalledModel" "values" "[I") ∈ lw_G := lw_Gm (lw_t3 (List.mem_of_getElem? (i := 226) rfl)) rfl
theorem m3_227 : (Jvm.Cond.laysFinal "LastCalledModel" "LastCalledModel" "now" "[I") ∈ lw_G := lw_Gm (lw_t3 (List.mem_of_getElem? (i := 227) rfl)) rfl
theorem m3_229 : (Jvm.Cond.laysFinal "LastCalledModel" "LastCalledModel" "kept" "[I") ∈ lw_G := lw_Gm (lw_t3 (List.mem_of_getElem? (i := 229) rfl)) rfl
theorem m3_231 : (Jvm.Cond.laysFinal "LastCalledModel" "LastCalledModel" "isKept" "[Z") ∈ lw_G := lw_Gm (lw_t3 (List.mem_of_getElem? (i := 231) rfl)) rfl
theorem m3_233 : (Jvm.Cond.laysFinal "LastCalledModel" "LastCalledModel" "refused" "[I") ∈ lw_G := lw_Gm (lw_t3 (List.mem_of_getElem? (i := 233) rfl)) rfl
theorem m3_235 : (Jvm.Cond.lays "LastCalledModel" "LastCalledModel" "above" "J") ∈ lw_G := lw_Gm (lw_t3 (List.mem_of_getElem? (i := 235) rfl)) rfl
theorem m3_237 : (Jvm.Cond.lays "LastCalledModel" "LastCalledModel" "below" "J") ∈ lw_G := lw_Gm (lw_t3 (List.mem_of_getElem? (i := 237) rfl)) rfl
theorem m3_239 : (Jvm.Cond.laysFinal "LastCalledModel" "LastCalledModel" "named" "[I") ∈ lw_G := lw_Gm (lw_t3 (List.mem_of_getElem? (i := 239) rfl)) rfl
theorem m4_1 : (Jvm.Cond.lays "LastCalledModel" "LastCalledModel" "fewest" "I") ∈ lw_G := lw_Gm (lw_t4 (List.mem_of_getElem? (i := 1) rfl)) rfl
theorem m4_3 : (Jvm.Cond.lays "LastCalledModel" "LastCalledModel" "firstCall" "I") ∈ lw_G := lw_Gm (lw_t4 (List.mem_of_getElem? (i := 3) rfl)) rfl
theorem m4_5 : (Jvm.Cond.lays "LastCalledModel" "LastCalledModel" "mostOwn" "I") ∈ lw_G := lw_Gm (lw_t4 (List.mem_of_getElem? (i := 5) rfl)) rfl
theorem m4_7 : (Jvm.Cond.laysFinal "LastCalledModel" "LastCalledModel" "bearing" "[I") ∈ lw_G := lw_Gm (lw_t4 (List.mem_of_getElem? (i := 7) rfl)) rfl
theorem m4_9 : (Jvm.Cond.laysFinal "LastCalledModel" "LastCalledModel" "bytes" "[I") ∈ lw_G := lw_Gm (lw_t4 (List.mem_of_getElem? (i := 9) rfl)) rfl
theorem m4_11 : (Jvm.Cond.lays "LastCalledModel" "LastCalledModel" "bytesLong" "I") ∈ lw_G := lw_Gm (lw_t4 (List.mem_of_getElem? (i := 11) rfl)) rfl
theorem m4_13 : (Jvm.Cond.lays "LastCalledModel" "LastCalledModel" "tokenAt" "I") ∈ lw_G := lw_Gm (lw_t4 (List.mem_of_getElem? (i := 13) rfl)) rfl
theorem m4_15 : (Jvm.Cond.lays "LastCalledModel" "LastCalledModel" "tokenLong" "I") ∈ lw_G := lw_Gm (lw_t4 (List.mem_of_getElem? (i := 15) rfl)) rfl
theorem m4_17 : (Jvm.Cond.lays "LastCalledModel" "LastCalledModel" "token" "I") ∈ lw_G := lw_Gm (lw_t4 (List.mem_of_getElem? (i := 17) rfl)) rfl
theorem m4_19 : (Jvm.Cond.lays "LastCalledModel" "LastCalledModel" "value" "I") ∈ lw_G := lw_Gm (lw_t4 (List.mem_of_getElem? (i := 19) rfl)) rfl
theorem m4_21 : (Jvm.Cond.laysFinal "LastCalledModel" "LastCalledModel" "anew" "[I") ∈ lw_G := lw_Gm (lw_t4 (List.mem_of_getElem? (i := 21) rfl)) rfl
theorem m4_23 : (Jvm.Cond.laysFinal "LastCalledModel" "LastCalledModel" "values" "[I") ∈ lw_G := lw_Gm (lw_t4 (List.mem_of_getElem? (i := 23) rfl)) rfl
theorem m4_25 : (Jvm.Cond.superclass "LastCalledModel" "java/lang/Object") ∈ lw_G := lw_Gm (lw_t4 (List.mem_of_getElem? (i := 25) rfl)) rfl
theorem m4_26 : (Jvm.Cond.methodLink "LastCalledLaw" (17 : Nat) ({ cls := "LastCalledModel", name := "hamlet", desc := "(I)I" } : Jvm.MethodName)) ∈ lw_G := lw_Gm (lw_t4 (List.mem_of_getElem? (i := 26) rfl)) rfl
theorem m4_27 : (Jvm.Cond.instanceMethod ({ cls := "LastCalledModel", name := "hamlet", desc := "(I)I" } : Jvm.MethodName)) ∈ lw_G := lw_Gm (lw_t4 (List.mem_of_getElem? (i := 27) rfl)) rfl
theorem m4_28 : (Jvm.Cond.selects "LastCalledModel" ({ cls := "LastCalledModel", name := "hamlet", desc := "(I)I" } : Jvm.MethodName) ({ cls := "LastCalledModel", name := "hamlet", desc := "(I)I" } : Jvm.MethodName)) ∈ lw_G := lw_Gm (lw_t4 (List.mem_of_getElem? (i := 28) rfl)) rfl
theorem m4_29 : (Jvm.Cond.code ({ cls := "LastCalledModel", name := "hamlet", desc := "(I)I" } : Jvm.MethodName) prog_14_method_13_code (3 : Nat) (Option.some Jvm.ClassFile.FieldType.int)) ∈ lw_G := lw_Gm (lw_t4 (List.mem_of_getElem? (i := 29) rfl)) rfl
theorem m4_30 : (Jvm.Cond.constantLong "LastCalledModel" (56 : Nat) (99 : Int64)) ∈ lw_G := lw_Gm (lw_t4 (List.mem_of_getElem? (i := 30) rfl)) rfl
theorem m4_31 : (Jvm.Cond.methodLink "LastCalledModel" (50 : Nat) ({ cls := "LastCalledModel", name := "in", desc := "(JJJ)Z" } : Jvm.MethodName)) ∈ lw_G := lw_Gm (lw_t4 (List.mem_of_getElem? (i := 31) rfl)) rfl
theorem m4_32 : (Jvm.Cond.static ({ cls := "LastCalledModel", name := "in", desc := "(JJJ)Z" } : Jvm.MethodName)) ∈ lw_G := lw_Gm (lw_t4 (List.mem_of_getElem? (i := 32) rfl)) rfl
theorem m4_33 : (Jvm.Cond.code ({ cls := "LastCalledModel", name := "in", desc := "(JJJ)Z" } : Jvm.MethodName) prog_14_method_3_code (6 : Nat) (Option.some Jvm.ClassFile.FieldType.boolean)) ∈ lw_G := lw_Gm (lw_t4 (List.mem_of_getElem? (i := 33) rfl)) rfl
theorem m4_34 : (Jvm.Cond.methodLink "LastCalledModel" (58 : Nat) ({ cls := "LastCalledModel", name := "bad", desc := "(I)I" } : Jvm.MethodName)) ∈ lw_G := lw_Gm (lw_t4 (List.mem_of_getElem? (i := 34) rfl)) rfl
theorem m4_36 : (Jvm.Cond.instanceMethod ({ cls := "LastCalledModel", name := "bad", desc := "(I)I" } : Jvm.MethodName)) ∈ lw_G := lw_Gm (lw_t4 (List.mem_of_getElem? (i := 36) rfl)) rfl
theorem m4_37 : (Jvm.Cond.code ({ cls := "LastCalledModel", name := "bad", desc := "(I)I" } : Jvm.MethodName) prog_14_method_4_code (2 : Nat) (Option.some Jvm.ClassFile.FieldType.int)) ∈ lw_G := lw_Gm (lw_t4 (List.mem_of_getElem? (i := 37) rfl)) rfl
theorem m4_38 : (Jvm.Cond.methodLink "LastCalledModel" (46 : Nat) ({ cls := "LastCalledModel", name := "many", desc := "()I" } : Jvm.MethodName)) ∈ lw_G := lw_Gm (lw_t4 (List.mem_of_getElem? (i := 38) rfl)) rfl
theorem m4_40 : (Jvm.Cond.instanceMethod ({ cls := "LastCalledModel", name := "many", desc := "()I" } : Jvm.MethodName)) ∈ lw_G := lw_Gm (lw_t4 (List.mem_of_getElem? (i := 40) rfl)) rfl
theorem m4_41 : (Jvm.Cond.code ({ cls := "LastCalledModel", name := "many", desc := "()I" } : Jvm.MethodName) prog_14_method_10_code (1 : Nat) (Option.some Jvm.ClassFile.FieldType.int)) ∈ lw_G := lw_Gm (lw_t4 (List.mem_of_getElem? (i := 41) rfl)) rfl
theorem m4_42 : (Jvm.Cond.methodLink "LastCalledLaw" (22 : Nat) ({ cls := "LastCalledModel", name := "one", desc := "(II)I" } : Jvm.MethodName)) ∈ lw_G := lw_Gm (lw_t4 (List.mem_of_getElem? (i := 42) rfl)) rfl
theorem m4_43 : (Jvm.Cond.instanceMethod ({ cls := "LastCalledModel", name := "one", desc := "(II)I" } : Jvm.MethodName)) ∈ lw_G := lw_Gm (lw_t4 (List.mem_of_getElem? (i := 43) rfl)) rfl
theorem m4_44 : (Jvm.Cond.selects "LastCalledModel" ({ cls := "LastCalledModel", name := "one", desc := "(II)I" } : Jvm.MethodName) ({ cls := "LastCalledModel", name := "one", desc := "(II)I" } : Jvm.MethodName)) ∈ lw_G := lw_Gm (lw_t4 (List.mem_of_getElem? (i := 44) rfl)) rfl
theorem m4_45 : (Jvm.Cond.code ({ cls := "LastCalledModel", name := "one", desc := "(II)I" } : Jvm.MethodName) prog_14_method_15_code (3 : Nat) (Option.some Jvm.ClassFile.FieldType.int)) ∈ lw_G := lw_Gm (lw_t4 (List.mem_of_getElem? (i := 45) rfl)) rfl
theorem m4_46 : (Jvm.Cond.constantLong "LastCalledModel" (62 : Nat) (5 : Int64)) ∈ lw_G := lw_Gm (lw_t4 (List.mem_of_getElem? (i := 46) rfl)) rfl
theorem m4_47 : (Jvm.Cond.methodLink "LastCalledModel" (64 : Nat) ({ cls := "LastCalledModel", name := "isPlace", desc := "(I)Z" } : Jvm.MethodName)) ∈ lw_G := lw_Gm (lw_t4 (List.mem_of_getElem? (i := 47) rfl)) rfl
theorem m4_48 : (Jvm.Cond.static ({ cls := "LastCalledModel", name := "isPlace", desc := "(I)Z" } : Jvm.MethodName)) ∈ lw_G := lw_Gm (lw_t4 (List.mem_of_getElem? (i := 48) rfl)) rfl
theorem m4_49 : (Jvm.Cond.code ({ cls := "LastCalledModel", name := "isPlace", desc := "(I)Z" } : Jvm.MethodName) prog_14_method_12_code (1 : Nat) (Option.some Jvm.ClassFile.FieldType.boolean)) ∈ lw_G := lw_Gm (lw_t4 (List.mem_of_getElem? (i := 49) rfl)) rfl
theorem m4_50 : (Jvm.Cond.constantLong "LastCalledModel" (54 : Nat) (9 : Int64)) ∈ lw_G := lw_Gm (lw_t4 (List.mem_of_getElem? (i := 50) rfl)) rfl
theorem m4_51 : (Jvm.Cond.methodLink "LastCalledModel" (68 : Nat) ({ cls := "LastCalledModel", name := "full", desc := "()I" } : Jvm.MethodName)) ∈ lw_G := lw_Gm (lw_t4 (List.mem_of_getElem? (i := 51) rfl)) rfl
theorem m4_53 : (Jvm.Cond.instanceMethod ({ cls := "LastCalledModel", name := "full", desc := "()I" } : Jvm.MethodName)) ∈ lw_G := lw_Gm (lw_t4 (List.mem_of_getElem? (i := 53) rfl)) rfl
theorem m4_54 : (Jvm.Cond.code ({ cls := "LastCalledModel", name := "full", desc := "()I" } : Jvm.MethodName) prog_14_method_6_code (1 : Nat) (Option.some Jvm.ClassFile.FieldType.int)) ∈ lw_G := lw_Gm (lw_t4 (List.mem_of_getElem? (i := 54) rfl)) rfl
theorem m4_55 : (Jvm.Cond.methodLink "LastCalledModel" (71 : Nat) ({ cls := "LastCalledModel", name := "layOne", desc := "([III)V" } : Jvm.MethodName)) ∈ lw_G := lw_Gm (lw_t4 (List.mem_of_getElem? (i := 55) rfl)) rfl
theorem m4_56 : (Jvm.Cond.static ({ cls := "LastCalledModel", name := "layOne", desc := "([III)V" } : Jvm.MethodName)) ∈ lw_G := lw_Gm (lw_t4 (List.mem_of_getElem? (i := 56) rfl)) rfl
theorem m4_57 : (Jvm.Cond.code ({ cls := "LastCalledModel", name := "layOne", desc := "([III)V" } : Jvm.MethodName) prog_14_method_14_code (4 : Nat) (Option.none : Option Jvm.ClassFile.FieldType)) ∈ lw_G := lw_Gm (lw_t4 (List.mem_of_getElem? (i := 57) rfl)) rfl
theorem m4_58 : (Jvm.Cond.methodLink "LastCalledLaw" (39 : Nat) ({ cls := "LastCalledModel", name := "call", desc := "(II)I" } : Jvm.MethodName)) ∈ lw_G := lw_Gm (lw_t4 (List.mem_of_getElem? (i := 58) rfl)) rfl
theorem m4_59 : (Jvm.Cond.instanceMethod ({ cls := "LastCalledModel", name := "call", desc := "(II)I" } : Jvm.MethodName)) ∈ lw_G := lw_Gm (lw_t4 (List.mem_of_getElem? (i := 59) rfl)) rfl
theorem m4_60 : (Jvm.Cond.selects "LastCalledModel" ({ cls := "LastCalledModel", name := "call", desc := "(II)I" } : Jvm.MethodName) ({ cls := "LastCalledModel", name := "call", desc := "(II)I" } : Jvm.MethodName)) ∈ lw_G := lw_Gm (lw_t4 (List.mem_of_getElem? (i := 60) rfl)) rfl
theorem m4_61 : (Jvm.Cond.code ({ cls := "LastCalledModel", name := "call", desc := "(II)I" } : Jvm.MethodName) prog_14_method_25_code (5 : Nat) (Option.some Jvm.ClassFile.FieldType.int)) ∈ lw_G := lw_Gm (lw_t4 (List.mem_of_getElem? (i := 61) rfl)) rfl
theorem m4_62 : (Jvm.Cond.methodLink "LastCalledModel" (97 : Nat) ({ cls := "LastCalledModel", name := "isOne", desc := "(I)Z" } : Jvm.MethodName)) ∈ lw_G := lw_Gm (lw_t4 (List.mem_of_getElem? (i := 62) rfl)) rfl
theorem m4_64 : (Jvm.Cond.instanceMethod ({ cls := "LastCalledModel", name := "isOne", desc := "(I)Z" } : Jvm.MethodName)) ∈ lw_G := lw_Gm (lw_t4 (List.mem_of_getElem? (i := 64) rfl)) rfl
theorem m4_65 : (Jvm.Cond.code ({ cls := "LastCalledModel", name := "isOne", desc := "(I)Z" } : Jvm.MethodName) prog_14_method_11_code (2 : Nat) (Option.some Jvm.ClassFile.FieldType.boolean)) ∈ lw_G := lw_Gm (lw_t4 (List.mem_of_getElem? (i := 65) rfl)) rfl
theorem m4_66 : (Jvm.Cond.methodLink "LastCalledModel" (100 : Nat) ({ cls := "LastCalledModel", name := "keep", desc := "()V" } : Jvm.MethodName)) ∈ lw_G := lw_Gm (lw_t4 (List.mem_of_getElem? (i := 66) rfl)) rfl
theorem m4_68 : (Jvm.Cond.instanceMethod ({ cls := "LastCalledModel", name := "keep", desc := "()V" } : Jvm.MethodName)) ∈ lw_G := lw_Gm (lw_t4 (List.mem_of_getElem? (i := 68) rfl)) rfl
theorem m4_69 : (Jvm.Cond.code ({ cls := "LastCalledModel", name := "keep", desc := "()V" } : Jvm.MethodName) prog_14_method_24_code (3 : Nat) (Option.none : Option Jvm.ClassFile.FieldType)) ∈ lw_G := lw_Gm (lw_t4 (List.mem_of_getElem? (i := 69) rfl)) rfl
theorem m4_70 : (Jvm.Cond.methodLink "LastCalledModel" (103 : Nat) ({ cls := "LastCalledModel", name := "layHand", desc := "()V" } : Jvm.MethodName)) ∈ lw_G := lw_Gm (lw_t4 (List.mem_of_getElem? (i := 70) rfl)) rfl
theorem m4_72 : (Jvm.Cond.instanceMethod ({ cls := "LastCalledModel", name := "layHand", desc := "()V" } : Jvm.MethodName)) ∈ lw_G := lw_Gm (lw_t4 (List.mem_of_getElem? (i := 72) rfl)) rfl
theorem m4_73 : (Jvm.Cond.code ({ cls := "LastCalledModel", name := "layHand", desc := "()V" } : Jvm.MethodName) prog_14_method_18_code (2 : Nat) (Option.none : Option Jvm.ClassFile.FieldType)) ∈ lw_G := lw_Gm (lw_t4 (List.mem_of_getElem? (i := 73) rfl)) rfl
theorem m4_74 : (Jvm.Cond.methodLink "LastCalledModel" (106 : Nat) ({ cls := "LastCalledModel", name := "goCall", desc := "(II)I" } : Jvm.MethodName)) ∈ lw_G := lw_Gm (lw_t4 (List.mem_of_getElem? (i := 74) rfl)) rfl
theorem m4_76 : (Jvm.Cond.instanceMethod ({ cls := "LastCalledModel", name := "goCall", desc := "(II)I" } : Jvm.MethodName)) ∈ lw_G := lw_Gm (lw_t4 (List.mem_of_getElem? (i := 76) rfl)) rfl
theorem m4_77 : (Jvm.Cond.code ({ cls := "LastCalledModel", name := "goCall", desc := "(II)I" } : Jvm.MethodName) prog_14_method_22_code (4 : Nat) (Option.some Jvm.ClassFile.FieldType.int)) ∈ lw_G := lw_Gm (lw_t4 (List.mem_of_getElem? (i := 77) rfl)) rfl
theorem m4_78 : (Jvm.Cond.methodLink "LastCalledModel" (90 : Nat) ({ cls := "LastCalledModel", name := "turning", desc := "(II)I" } : Jvm.MethodName)) ∈ lw_G := lw_Gm (lw_t4 (List.mem_of_getElem? (i := 78) rfl)) rfl
theorem m4_80 : (Jvm.Cond.instanceMethod ({ cls := "LastCalledModel", name := "turning", desc := "(II)I" } : Jvm.MethodName)) ∈ lw_G := lw_Gm (lw_t4 (List.mem_of_getElem? (i := 80) rfl)) rfl
theorem m4_81 : (Jvm.Cond.code ({ cls := "LastCalledModel", name := "turning", desc := "(II)I" } : Jvm.MethodName) prog_14_method_20_code (7 : Nat) (Option.some Jvm.ClassFile.FieldType.int)) ∈ lw_G := lw_Gm (lw_t4 (List.mem_of_getElem? (i := 81) rfl)) rfl
theorem m4_82 : (Jvm.Cond.methodLink "LastCalledModel" (75 : Nat) ({ cls := "LastCalledModel", name := "bearersOf", desc := "(I)I" } : Jvm.MethodName)) ∈ lw_G := lw_Gm (lw_t4 (List.mem_of_getElem? (i := 82) rfl)) rfl
theorem m4_84 : (Jvm.Cond.instanceMethod ({ cls := "LastCalledModel", name := "bearersOf", desc := "(I)I" } : Jvm.MethodName)) ∈ lw_G := lw_Gm (lw_t4 (List.mem_of_getElem? (i := 84) rfl)) rfl
theorem m4_85 : (Jvm.Cond.code ({ cls := "LastCalledModel", name := "bearersOf", desc := "(I)I" } : Jvm.MethodName) prog_14_method_19_code (4 : Nat) (Option.some Jvm.ClassFile.FieldType.int)) ∈ lw_G := lw_Gm (lw_t4 (List.mem_of_getElem? (i := 85) rfl)) rfl
theorem m4_86 : (Jvm.Cond.methodLink "LastCalledModel" (78 : Nat) ({ cls := "LastCalledModel", name := "farOf", desc := "(II)I" } : Jvm.MethodName)) ∈ lw_G := lw_Gm (lw_t4 (List.mem_of_getElem? (i := 86) rfl)) rfl
theorem m4_87 : (Jvm.Cond.static ({ cls := "LastCalledModel", name := "farOf", desc := "(II)I" } : Jvm.MethodName)) ∈ lw_G := lw_Gm (lw_t4 (List.mem_of_getElem? (i := 87) rfl)) rfl
theorem m4_88 : (Jvm.Cond.code ({ cls := "LastCalledModel", name := "farOf", desc := "(II)I" } : Jvm.MethodName) prog_14_method_17_code (2 : Nat) (Option.some Jvm.ClassFile.FieldType.int)) ∈ lw_G := lw_Gm (lw_t4 (List.mem_of_getElem? (i := 88) rfl)) rfl
theorem m4_89 : (Jvm.Cond.methodLink "LastCalledModel" (82 : Nat) ({ cls := "LastCalledModel", name := "has", desc := "(II)Z" } : Jvm.MethodName)) ∈ lw_G := lw_Gm (lw_t4 (List.mem_of_getElem? (i := 89) rfl)) rfl
theorem m4_90 : (Jvm.Cond.static ({ cls := "LastCalledModel", name := "has", desc := "(II)Z" } : Jvm.MethodName)) ∈ lw_G := lw_Gm (lw_t4 (List.mem_of_getElem? (i := 90) rfl)) rfl
theorem m4_91 : (Jvm.Cond.code ({ cls := "LastCalledModel", name := "has", desc := "(II)Z" } : Jvm.MethodName) prog_14_method_8_code (2 : Nat) (Option.some Jvm.ClassFile.FieldType.boolean)) ∈ lw_G := lw_Gm (lw_t4 (List.mem_of_getElem? (i := 91) rfl)) rfl
theorem m4_92 : (Jvm.Cond.methodLink "LastCalledModel" (86 : Nat) ({ cls := "LastCalledModel", name := "turnsAs", desc := "(IIZZI)Z" } : Jvm.MethodName)) ∈ lw_G := lw_Gm (lw_t4 (List.mem_of_getElem? (i := 92) rfl)) rfl
theorem m4_93 : (Jvm.Cond.static ({ cls := "LastCalledModel", name := "turnsAs", desc := "(IIZZI)Z" } : Jvm.MethodName)) ∈ lw_G := lw_Gm (lw_t4 (List.mem_of_getElem? (i := 93) rfl)) rfl
theorem m4_94 : (Jvm.Cond.code ({ cls := "LastCalledModel", name := "turnsAs", desc := "(IIZZI)Z" } : Jvm.MethodName) prog_14_method_16_code (6 : Nat) (Option.some Jvm.ClassFile.FieldType.boolean)) ∈ lw_G := lw_Gm (lw_t4 (List.mem_of_getElem? (i := 94) rfl)) rfl
theorem m4_95 : (Jvm.Cond.methodLink "LastCalledModel" (93 : Nat) ({ cls := "LastCalledModel", name := "goTurn", desc := "(II)V" } : Jvm.MethodName)) ∈ lw_G := lw_Gm (lw_t4 (List.mem_of_getElem? (i := 95) rfl)) rfl
theorem m4_97 : (Jvm.Cond.instanceMethod ({ cls := "LastCalledModel", name := "goTurn", desc := "(II)V" } : Jvm.MethodName)) ∈ lw_G := lw_Gm (lw_t4 (List.mem_of_getElem? (i := 97) rfl)) rfl
theorem m4_98 : (Jvm.Cond.code ({ cls := "LastCalledModel", name := "goTurn", desc := "(II)V" } : Jvm.MethodName) prog_14_method_21_code (4 : Nat) (Option.none : Option Jvm.ClassFile.FieldType)) ∈ lw_G := lw_Gm (lw_t4 (List.mem_of_getElem? (i := 98) rfl)) rfl
theorem m4_99 : (Jvm.Cond.methodLink "LastCalledLaw" (43 : Nat) ({ cls := "LastCalledModel", name := "goes", desc := "(II)I" } : Jvm.MethodName)) ∈ lw_G := lw_Gm (lw_t4 (List.mem_of_getElem? (i := 99) rfl)) rfl
theorem m4_100 : (Jvm.Cond.instanceMethod ({ cls := "LastCalledModel", name := "goes", desc := "(II)I" } : Jvm.MethodName)) ∈ lw_G := lw_Gm (lw_t4 (List.mem_of_getElem? (i := 100) rfl)) rfl
theorem m4_101 : (Jvm.Cond.selects "LastCalledModel" ({ cls := "LastCalledModel", name := "goes", desc := "(II)I" } : Jvm.MethodName) ({ cls := "LastCalledModel", name := "goes", desc := "(II)I" } : Jvm.MethodName)) ∈ lw_G := lw_Gm (lw_t4 (List.mem_of_getElem? (i := 101) rfl)) rfl
theorem m4_102 : (Jvm.Cond.code ({ cls := "LastCalledModel", name := "goes", desc := "(II)I" } : Jvm.MethodName) prog_14_method_26_code (4 : Nat) (Option.some Jvm.ClassFile.FieldType.int)) ∈ lw_G := lw_Gm (lw_t4 (List.mem_of_getElem? (i := 102) rfl)) rfl
theorem m4_103 : (Jvm.Cond.methodLink "LastCalledLaw" (47 : Nat) ({ cls := "LastCalledModel", name := "day", desc := "()I" } : Jvm.MethodName)) ∈ lw_G := lw_Gm (lw_t4 (List.mem_of_getElem? (i := 103) rfl)) rfl
theorem m4_104 : (Jvm.Cond.instanceMethod ({ cls := "LastCalledModel", name := "day", desc := "()I" } : Jvm.MethodName)) ∈ lw_G := lw_Gm (lw_t4 (List.mem_of_getElem? (i := 104) rfl)) rfl
theorem m4_105 : (Jvm.Cond.selects "LastCalledModel" ({ cls := "LastCalledModel", name := "day", desc := "()I" } : Jvm.MethodName) ({ cls := "LastCalledModel", name := "day", desc := "()I" } : Jvm.MethodName)) ∈ lw_G := lw_Gm (lw_t4 (List.mem_of_getElem? (i := 105) rfl)) rfl
theorem m4_106 : (Jvm.Cond.code ({ cls := "LastCalledModel", name := "day", desc := "()I" } : Jvm.MethodName) prog_14_method_27_code (1 : Nat) (Option.some Jvm.ClassFile.FieldType.int)) ∈ lw_G := lw_Gm (lw_t4 (List.mem_of_getElem? (i := 106) rfl)) rfl
theorem m4_107 : (Jvm.Cond.methodLink "LastCalledLaw" (51 : Nat) ({ cls := "LastCalledModel", name := "undo", desc := "()I" } : Jvm.MethodName)) ∈ lw_G := lw_Gm (lw_t4 (List.mem_of_getElem? (i := 107) rfl)) rfl
theorem m4_108 : (Jvm.Cond.instanceMethod ({ cls := "LastCalledModel", name := "undo", desc := "()I" } : Jvm.MethodName)) ∈ lw_G := lw_Gm (lw_t4 (List.mem_of_getElem? (i := 108) rfl)) rfl
theorem m4_109 : (Jvm.Cond.selects "LastCalledModel" ({ cls := "LastCalledModel", name := "undo", desc := "()I" } : Jvm.MethodName) ({ cls := "LastCalledModel", name := "undo", desc := "()I" } : Jvm.MethodName)) ∈ lw_G := lw_Gm (lw_t4 (List.mem_of_getElem? (i := 109) rfl)) rfl
theorem m4_110 : (Jvm.Cond.code ({ cls := "LastCalledModel", name := "undo", desc := "()I" } : Jvm.MethodName) prog_14_method_28_code (3 : Nat) (Option.some Jvm.ClassFile.FieldType.int)) ∈ lw_G := lw_Gm (lw_t4 (List.mem_of_getElem? (i := 110) rfl)) rfl
theorem m4_111 : (Jvm.Cond.methodLink "LastCalledModel" (109 : Nat) ({ cls := "LastCalledModel", name := "no", desc := "()I" } : Jvm.MethodName)) ∈ lw_G := lw_Gm (lw_t4 (List.mem_of_getElem? (i := 111) rfl)) rfl
theorem m4_113 : (Jvm.Cond.instanceMethod ({ cls := "LastCalledModel", name := "no", desc := "()I" } : Jvm.MethodName)) ∈ lw_G := lw_Gm (lw_t4 (List.mem_of_getElem? (i := 113) rfl)) rfl
theorem m4_114 : (Jvm.Cond.code ({ cls := "LastCalledModel", name := "no", desc := "()I" } : Jvm.MethodName) prog_14_method_5_code (1 : Nat) (Option.some Jvm.ClassFile.FieldType.int)) ∈ lw_G := lw_Gm (lw_t4 (List.mem_of_getElem? (i := 114) rfl)) rfl
theorem m4_115 : (Jvm.Cond.methodLink "LastCalledLaw" (55 : Nat) ({ cls := "LastCalledModel", name := "of", desc := "(II)I" } : Jvm.MethodName)) ∈ lw_G := lw_Gm (lw_t4 (List.mem_of_getElem? (i := 115) rfl)) rfl
theorem m4_116 : (Jvm.Cond.instanceMethod ({ cls := "LastCalledModel", name := "of", desc := "(II)I" } : Jvm.MethodName)) ∈ lw_G := lw_Gm (lw_t4 (List.mem_of_getElem? (i := 116) rfl)) rfl
theorem m4_117 : (Jvm.Cond.selects "LastCalledModel" ({ cls := "LastCalledModel", name := "of", desc := "(II)I" } : Jvm.MethodName) ({ cls := "LastCalledModel", name := "of", desc := "(II)I" } : Jvm.MethodName)) ∈ lw_G := lw_Gm (lw_t4 (List.mem_of_getElem? (i := 117) rfl)) rfl
theorem m4_118 : (Jvm.Cond.code ({ cls := "LastCalledModel", name := "of", desc := "(II)I" } : Jvm.MethodName) prog_14_method_29_code (3 : Nat) (Option.some Jvm.ClassFile.FieldType.int)) ∈ lw_G := lw_Gm (lw_t4 (List.mem_of_getElem? (i := 118) rfl)) rfl
theorem m4_119 : (Jvm.Cond.constantLong "LastCalledModel" (112 : Nat) (2 : Int64)) ∈ lw_G := lw_Gm (lw_t4 (List.mem_of_getElem? (i := 119) rfl)) rfl
theorem m4_120 : (Jvm.Cond.methodLink "LastCalledLaw" (59 : Nat) ({ cls := "LastCalledModel", name := "turn", desc := "(II)I" } : Jvm.MethodName)) ∈ lw_G := lw_Gm (lw_t4 (List.mem_of_getElem? (i := 120) rfl)) rfl
theorem m4_121 : (Jvm.Cond.instanceMethod ({ cls := "LastCalledModel", name := "turn", desc := "(II)I" } : Jvm.MethodName)) ∈ lw_G := lw_Gm (lw_t4 (List.mem_of_getElem? (i := 121) rfl)) rfl
theorem m4_122 : (Jvm.Cond.selects "LastCalledModel" ({ cls := "LastCalledModel", name := "turn", desc := "(II)I" } : Jvm.MethodName) ({ cls := "LastCalledModel", name := "turn", desc := "(II)I" } : Jvm.MethodName)) ∈ lw_G := lw_Gm (lw_t4 (List.mem_of_getElem? (i := 122) rfl)) rfl
theorem m4_123 : (Jvm.Cond.code ({ cls := "LastCalledModel", name := "turn", desc := "(II)I" } : Jvm.MethodName) prog_14_method_30_code (3 : Nat) (Option.some Jvm.ClassFile.FieldType.int)) ∈ lw_G := lw_Gm (lw_t4 (List.mem_of_getElem? (i := 123) rfl)) rfl
theorem m4_124 : (Jvm.Cond.methodLink "LastCalledLaw" (63 : Nat) ({ cls := "LastCalledModel", name := "bearers", desc := "(I)I" } : Jvm.MethodName)) ∈ lw_G := lw_Gm (lw_t4 (List.mem_of_getElem? (i := 124) rfl)) rfl
theorem m4_125 : (Jvm.Cond.instanceMethod ({ cls := "LastCalledModel", name := "bearers", desc := "(I)I" } : Jvm.MethodName)) ∈ lw_G := lw_Gm (lw_t4 (List.mem_of_getElem? (i := 125) rfl)) rfl
theorem m4_126 : (Jvm.Cond.selects "LastCalledModel" ({ cls := "LastCalledModel", name := "bearers", desc := "(I)I" } : Jvm.MethodName) ({ cls := "LastCalledModel", name := "bearers", desc := "(I)I" } : Jvm.MethodName)) ∈ lw_G := lw_Gm (lw_t4 (List.mem_of_getElem? (i := 126) rfl)) rfl
theorem m4_127 : (Jvm.Cond.code ({ cls := "LastCalledModel", name := "bearers", desc := "(I)I" } : Jvm.MethodName) prog_14_method_31_code (2 : Nat) (Option.some Jvm.ClassFile.FieldType.int)) ∈ lw_G := lw_Gm (lw_t4 (List.mem_of_getElem? (i := 127) rfl)) rfl
theorem m4_128 : (Jvm.Cond.methodLink "LastCalledLaw" (67 : Nat) ({ cls := "LastCalledModel", name := "names", desc := "(I)I" } : Jvm.MethodName)) ∈ lw_G := lw_Gm (lw_t4 (List.mem_of_getElem? (i := 128) rfl)) rfl
theorem m4_129 : (Jvm.Cond.instanceMethod ({ cls := "LastCalledModel", name := "names", desc := "(I)I" } : Jvm.MethodName)) ∈ lw_G := lw_Gm (lw_t4 (List.mem_of_getElem? (i := 129) rfl)) rfl
theorem m4_130 : (Jvm.Cond.selects "LastCalledModel" ({ cls := "LastCalledModel", name := "names", desc := "(I)I" } : Jvm.MethodName) ({ cls := "LastCalledModel", name := "names", desc := "(I)I" } : Jvm.MethodName)) ∈ lw_G := lw_Gm (lw_t4 (List.mem_of_getElem? (i := 130) rfl)) rfl
theorem m4_131 : (Jvm.Cond.code ({ cls := "LastCalledModel", name := "names", desc := "(I)I" } : Jvm.MethodName) prog_14_method_32_code (5 : Nat) (Option.some Jvm.ClassFile.FieldType.int)) ∈ lw_G := lw_Gm (lw_t4 (List.mem_of_getElem? (i := 131) rfl)) rfl
theorem m4_132 : (Jvm.Cond.methodLink "LastCalledModel" (114 : Nat) ({ cls := "LastCalledModel", name := "bits", desc := "(I)I" } : Jvm.MethodName)) ∈ lw_G := lw_Gm (lw_t4 (List.mem_of_getElem? (i := 132) rfl)) rfl
theorem m4_133 : (Jvm.Cond.static ({ cls := "LastCalledModel", name := "bits", desc := "(I)I" } : Jvm.MethodName)) ∈ lw_G := lw_Gm (lw_t4 (List.mem_of_getElem? (i := 133) rfl)) rfl
theorem m4_134 : (Jvm.Cond.code ({ cls := "LastCalledModel", name := "bits", desc := "(I)I" } : Jvm.MethodName) prog_14_method_7_code (3 : Nat) (Option.some Jvm.ClassFile.FieldType.int)) ∈ lw_G := lw_Gm (lw_t4 (List.mem_of_getElem? (i := 134) rfl)) rfl
theorem m4_135 : (Jvm.Cond.methodLink "LastCalledLaw" (72 : Nat) ({ cls := "LastCalledModel", name := "calls", desc := "(III)I" } : Jvm.MethodName)) ∈ lw_G := lw_Gm (lw_t4 (List.mem_of_getElem? (i := 135) rfl)) rfl
theorem m4_136 : (Jvm.Cond.instanceMethod ({ cls := "LastCalledModel", name := "calls", desc := "(III)I" } : Jvm.MethodName)) ∈ lw_G := lw_Gm (lw_t4 (List.mem_of_getElem? (i := 136) rfl)) rfl
theorem m4_137 : (Jvm.Cond.selects "LastCalledModel" ({ cls := "LastCalledModel", name := "calls", desc := "(III)I" } : Jvm.MethodName) ({ cls := "LastCalledModel", name := "calls", desc := "(III)I" } : Jvm.MethodName)) ∈ lw_G := lw_Gm (lw_t4 (List.mem_of_getElem? (i := 137) rfl)) rfl
theorem m4_138 : (Jvm.Cond.code ({ cls := "LastCalledModel", name := "calls", desc := "(III)I" } : Jvm.MethodName) prog_14_method_35_code (4 : Nat) (Option.some Jvm.ClassFile.FieldType.int)) ∈ lw_G := lw_Gm (lw_t4 (List.mem_of_getElem? (i := 138) rfl)) rfl
theorem m4_139 : (Jvm.Cond.methodLink "LastCalledModel" (127 : Nat) ({ cls := "LastCalledModel", name := "layCalls", desc := "(II)V" } : Jvm.MethodName)) ∈ lw_G := lw_Gm (lw_t4 (List.mem_of_getElem? (i := 139) rfl)) rfl
theorem m4_141 : (Jvm.Cond.instanceMethod ({ cls := "LastCalledModel", name := "layCalls", desc := "(II)V" } : Jvm.MethodName)) ∈ lw_G := lw_Gm (lw_t4 (List.mem_of_getElem? (i := 141) rfl)) rfl
theorem m4_142 : (Jvm.Cond.code ({ cls := "LastCalledModel", name := "layCalls", desc := "(II)V" } : Jvm.MethodName) prog_14_method_34_code (6 : Nat) (Option.none : Option Jvm.ClassFile.FieldType)) ∈ lw_G := lw_Gm (lw_t4 (List.mem_of_getElem? (i := 142) rfl)) rfl
theorem m4_143 : (Jvm.Cond.methodLink "LastCalledModel" (117 : Nat) ({ cls := "LastCalledModel", name := "goCodes", desc := "(II)V" } : Jvm.MethodName)) ∈ lw_G := lw_Gm (lw_t4 (List.mem_of_getElem? (i := 143) rfl)) rfl
theorem m4_145 : (Jvm.Cond.instanceMethod ({ cls := "LastCalledModel", name := "goCodes", desc := "(II)V" } : Jvm.MethodName)) ∈ lw_G := lw_Gm (lw_t4 (List.mem_of_getElem? (i := 145) rfl)) rfl
theorem m4_146 : (Jvm.Cond.code ({ cls := "LastCalledModel", name := "goCodes", desc := "(II)V" } : Jvm.MethodName) prog_14_method_33_code (4 : Nat) (Option.none : Option Jvm.ClassFile.FieldType)) ∈ lw_G := lw_Gm (lw_t4 (List.mem_of_getElem? (i := 146) rfl)) rfl
theorem m4_147 : (Jvm.Cond.methodLink "LastCalledLaw" (76 : Nat) ({ cls := "LastCalledModel", name := "own", desc := "(I)I" } : Jvm.MethodName)) ∈ lw_G := lw_Gm (lw_t4 (List.mem_of_getElem? (i := 147) rfl)) rfl
theorem m4_148 : (Jvm.Cond.instanceMethod ({ cls := "LastCalledModel", name := "own", desc := "(I)I" } : Jvm.MethodName)) ∈ lw_G := lw_Gm (lw_t4 (List.mem_of_getElem? (i := 148) rfl)) rfl
theorem m4_149 : (Jvm.Cond.selects "LastCalledModel" ({ cls := "LastCalledModel", name := "own", desc := "(I)I" } : Jvm.MethodName) ({ cls := "LastCalledModel", name := "own", desc := "(I)I" } : Jvm.MethodName)) ∈ lw_G := lw_Gm (lw_t4 (List.mem_of_getElem? (i := 149) rfl)) rfl
theorem m4_150 : (Jvm.Cond.code ({ cls := "LastCalledModel", name := "own", desc := "(I)I" } : Jvm.MethodName) prog_14_method_38_code (2 : Nat) (Option.some Jvm.ClassFile.FieldType.int)) ∈ lw_G := lw_Gm (lw_t4 (List.mem_of_getElem? (i := 150) rfl)) rfl
theorem m4_151 : (Jvm.Cond.methodLink "LastCalledModel" (139 : Nat) ({ cls := "LastCalledModel", name := "layOwn", desc := "()V" } : Jvm.MethodName)) ∈ lw_G := lw_Gm (lw_t4 (List.mem_of_getElem? (i := 151) rfl)) rfl
theorem m4_153 : (Jvm.Cond.instanceMethod ({ cls := "LastCalledModel", name := "layOwn", desc := "()V" } : Jvm.MethodName)) ∈ lw_G := lw_Gm (lw_t4 (List.mem_of_getElem? (i := 153) rfl)) rfl
theorem m4_154 : (Jvm.Cond.code ({ cls := "LastCalledModel", name := "layOwn", desc := "()V" } : Jvm.MethodName) prog_14_method_37_code (4 : Nat) (Option.none : Option Jvm.ClassFile.FieldType)) ∈ lw_G := lw_Gm (lw_t4 (List.mem_of_getElem? (i := 154) rfl)) rfl
theorem m4_155 : (Jvm.Cond.methodLink "LastCalledModel" (136 : Nat) ({ cls := "LastCalledModel", name := "judgeOwn", desc := "(II)V" } : Jvm.MethodName)) ∈ lw_G := lw_Gm (lw_t4 (List.mem_of_getElem? (i := 155) rfl)) rfl
theorem m4_157 : (Jvm.Cond.instanceMethod ({ cls := "LastCalledModel", name := "judgeOwn", desc := "(II)V" } : Jvm.MethodName)) ∈ lw_G := lw_Gm (lw_t4 (List.mem_of_getElem? (i := 157) rfl)) rfl
theorem m4_158 : (Jvm.Cond.code ({ cls := "LastCalledModel", name := "judgeOwn", desc := "(II)V" } : Jvm.MethodName) prog_14_method_36_code (4 : Nat) (Option.none : Option Jvm.ClassFile.FieldType)) ∈ lw_G := lw_Gm (lw_t4 (List.mem_of_getElem? (i := 158) rfl)) rfl
theorem m4_159 : (Jvm.Cond.methodLink "LastCalledModel" (130 : Nat) ({ cls := "LastCalledModel", name := "ownNow", desc := "()I" } : Jvm.MethodName)) ∈ lw_G := lw_Gm (lw_t4 (List.mem_of_getElem? (i := 159) rfl)) rfl
theorem m4_161 : (Jvm.Cond.instanceMethod ({ cls := "LastCalledModel", name := "ownNow", desc := "()I" } : Jvm.MethodName)) ∈ lw_G := lw_Gm (lw_t4 (List.mem_of_getElem? (i := 161) rfl)) rfl
theorem m4_162 : (Jvm.Cond.code ({ cls := "LastCalledModel", name := "ownNow", desc := "()I" } : Jvm.MethodName) prog_14_method_23_code (3 : Nat) (Option.some Jvm.ClassFile.FieldType.int)) ∈ lw_G := lw_Gm (lw_t4 (List.mem_of_getElem? (i := 162) rfl)) rfl
theorem m4_163 : (Jvm.Cond.methodLink "LastCalledLaw" (80 : Nat) ({ cls := "LastCalledModel", name := "ring", desc := "(I)I" } : Jvm.MethodName)) ∈ lw_G := lw_Gm (lw_t4 (List.mem_of_getElem? (i := 163) rfl)) rfl
theorem m4_164 : (Jvm.Cond.instanceMethod ({ cls := "LastCalledModel", name := "ring", desc := "(I)I" } : Jvm.MethodName)) ∈ lw_G := lw_Gm (lw_t4 (List.mem_of_getElem? (i := 164) rfl)) rfl
theorem m4_165 : (Jvm.Cond.selects "LastCalledModel" ({ cls := "LastCalledModel", name := "ring", desc := "(I)I" } : Jvm.MethodName) ({ cls := "LastCalledModel", name := "ring", desc := "(I)I" } : Jvm.MethodName)) ∈ lw_G := lw_Gm (lw_t4 (List.mem_of_getElem? (i := 165) rfl)) rfl
theorem m4_166 : (Jvm.Cond.code ({ cls := "LastCalledModel", name := "ring", desc := "(I)I" } : Jvm.MethodName) prog_14_method_39_code (4 : Nat) (Option.some Jvm.ClassFile.FieldType.int)) ∈ lw_G := lw_Gm (lw_t4 (List.mem_of_getElem? (i := 166) rfl)) rfl
theorem m4_167 : (Jvm.Cond.methodLink "LastCalledLaw" (84 : Nat) ({ cls := "LastCalledModel", name := "deed", desc := "(II)I" } : Jvm.MethodName)) ∈ lw_G := lw_Gm (lw_t4 (List.mem_of_getElem? (i := 167) rfl)) rfl
theorem m4_168 : (Jvm.Cond.instanceMethod ({ cls := "LastCalledModel", name := "deed", desc := "(II)I" } : Jvm.MethodName)) ∈ lw_G := lw_Gm (lw_t4 (List.mem_of_getElem? (i := 168) rfl)) rfl
theorem m4_169 : (Jvm.Cond.selects "LastCalledModel" ({ cls := "LastCalledModel", name := "deed", desc := "(II)I" } : Jvm.MethodName) ({ cls := "LastCalledModel", name := "deed", desc := "(II)I" } : Jvm.MethodName)) ∈ lw_G := lw_Gm (lw_t4 (List.mem_of_getElem? (i := 169) rfl)) rfl
theorem m4_170 : (Jvm.Cond.code ({ cls := "LastCalledModel", name := "deed", desc := "(II)I" } : Jvm.MethodName) prog_14_method_40_code (3 : Nat) (Option.some Jvm.ClassFile.FieldType.int)) ∈ lw_G := lw_Gm (lw_t4 (List.mem_of_getElem? (i := 170) rfl)) rfl
theorem m4_171 : (Jvm.Cond.constantLong "LastCalledModel" (142 : Nat) (60 : Int64)) ∈ lw_G := lw_Gm (lw_t4 (List.mem_of_getElem? (i := 171) rfl)) rfl
theorem m4_172 : (Jvm.Cond.methodLink "LastCalledLaw" (88 : Nat) ({ cls := "LastCalledModel", name := "owes", desc := "(I)I" } : Jvm.MethodName)) ∈ lw_G := lw_Gm (lw_t4 (List.mem_of_getElem? (i := 172) rfl)) rfl
theorem m4_173 : (Jvm.Cond.instanceMethod ({ cls := "LastCalledModel", name := "owes", desc := "(I)I" } : Jvm.MethodName)) ∈ lw_G := lw_Gm (lw_t4 (List.mem_of_getElem? (i := 173) rfl)) rfl
theorem m4_174 : (Jvm.Cond.selects "LastCalledModel" ({ cls := "LastCalledModel", name := "owes", desc := "(I)I" } : Jvm.MethodName) ({ cls := "LastCalledModel", name := "owes", desc := "(I)I" } : Jvm.MethodName)) ∈ lw_G := lw_Gm (lw_t4 (List.mem_of_getElem? (i := 174) rfl)) rfl
theorem m4_175 : (Jvm.Cond.code ({ cls := "LastCalledModel", name := "owes", desc := "(I)I" } : Jvm.MethodName) prog_14_method_43_code (3 : Nat) (Option.some Jvm.ClassFile.FieldType.int)) ∈ lw_G := lw_Gm (lw_t4 (List.mem_of_getElem? (i := 175) rfl)) rfl
theorem m4_176 : (Jvm.Cond.methodLink "LastCalledModel" (147 : Nat) ({ cls := "LastCalledModel", name := "fraction", desc := "(JJ)V" } : Jvm.MethodName)) ∈ lw_G := lw_Gm (lw_t4 (List.mem_of_getElem? (i := 176) rfl)) rfl
theorem m4_178 : (Jvm.Cond.instanceMethod ({ cls := "LastCalledModel", name := "fraction", desc := "(JJ)V" } : Jvm.MethodName)) ∈ lw_G := lw_Gm (lw_t4 (List.mem_of_getElem? (i := 178) rfl)) rfl
theorem m4_179 : (Jvm.Cond.code ({ cls := "LastCalledModel", name := "fraction", desc := "(JJ)V" } : Jvm.MethodName) prog_14_method_42_code (11 : Nat) (Option.none : Option Jvm.ClassFile.FieldType)) ∈ lw_G := lw_Gm (lw_t4 (List.mem_of_getElem? (i := 179) rfl)) rfl
theorem m4_180 : (Jvm.Cond.methodLink "LastCalledModel" (151 : Nat) ({ cls := "LastCalledModel", name := "penceOn", desc := "(I)I" } : Jvm.MethodName)) ∈ lw_G := lw_Gm (lw_t4 (List.mem_of_getElem? (i := 180) rfl)) rfl
theorem m4_182 : (Jvm.Cond.instanceMethod ({ cls := "LastCalledModel", name := "penceOn", desc := "(I)I" } : Jvm.MethodName)) ∈ lw_G := lw_Gm (lw_t4 (List.mem_of_getElem? (i := 182) rfl)) rfl
theorem m4_183 : (Jvm.Cond.code ({ cls := "LastCalledModel", name := "penceOn", desc := "(I)I" } : Jvm.MethodName) prog_14_method_41_code (4 : Nat) (Option.some Jvm.ClassFile.FieldType.int)) ∈ lw_G := lw_Gm (lw_t4 (List.mem_of_getElem? (i := 183) rfl)) rfl
theorem m4_184 : (Jvm.Cond.methodLink "LastCalledLaw" (92 : Nat) ({ cls := "LastCalledModel", name := "unpaid", desc := "()I" } : Jvm.MethodName)) ∈ lw_G := lw_Gm (lw_t4 (List.mem_of_getElem? (i := 184) rfl)) rfl
theorem m4_185 : (Jvm.Cond.instanceMethod ({ cls := "LastCalledModel", name := "unpaid", desc := "()I" } : Jvm.MethodName)) ∈ lw_G := lw_Gm (lw_t4 (List.mem_of_getElem? (i := 185) rfl)) rfl
theorem m4_186 : (Jvm.Cond.selects "LastCalledModel" ({ cls := "LastCalledModel", name := "unpaid", desc := "()I" } : Jvm.MethodName) ({ cls := "LastCalledModel", name := "unpaid", desc := "()I" } : Jvm.MethodName)) ∈ lw_G := lw_Gm (lw_t4 (List.mem_of_getElem? (i := 186) rfl)) rfl
theorem m4_187 : (Jvm.Cond.code ({ cls := "LastCalledModel", name := "unpaid", desc := "()I" } : Jvm.MethodName) prog_14_method_44_code (3 : Nat) (Option.some Jvm.ClassFile.FieldType.int)) ∈ lw_G := lw_Gm (lw_t4 (List.mem_of_getElem? (i := 187) rfl)) rfl
theorem m4_188 : (Jvm.Cond.methodLink "LastCalledLaw" (97 : Nat) ({ cls := "LastCalledModel", name := "ears", desc := "(IIII)I" } : Jvm.MethodName)) ∈ lw_G := lw_Gm (lw_t4 (List.mem_of_getElem? (i := 188) rfl)) rfl
theorem m4_189 : (Jvm.Cond.instanceMethod ({ cls := "LastCalledModel", name := "ears", desc := "(IIII)I" } : Jvm.MethodName)) ∈ lw_G := lw_Gm (lw_t4 (List.mem_of_getElem? (i := 189) rfl)) rfl
theorem m4_190 : (Jvm.Cond.selects "LastCalledModel" ({ cls := "LastCalledModel", name := "ears", desc := "(IIII)I" } : Jvm.MethodName) ({ cls := "LastCalledModel", name := "ears", desc := "(IIII)I" } : Jvm.MethodName)) ∈ lw_G := lw_Gm (lw_t4 (List.mem_of_getElem? (i := 190) rfl)) rfl
theorem m4_191 : (Jvm.Cond.code ({ cls := "LastCalledModel", name := "ears", desc := "(IIII)I" } : Jvm.MethodName) prog_14_method_45_code (9 : Nat) (Option.some Jvm.ClassFile.FieldType.int)) ∈ lw_G := lw_Gm (lw_t4 (List.mem_of_getElem? (i := 191) rfl)) rfl
theorem m4_192 : (Jvm.Cond.methodLink "LastCalledLaw" (102 : Nat) ({ cls := "LastCalledModel", name := "note", desc := "(IIIII)I" } : Jvm.MethodName)) ∈ lw_G := lw_Gm (lw_t4 (List.mem_of_getElem? (i := 192) rfl)) rfl
theorem m4_193 : (Jvm.Cond.instanceMethod ({ cls := "LastCalledModel", name := "note", desc := "(IIIII)I" } : Jvm.MethodName)) ∈ lw_G := lw_Gm (lw_t4 (List.mem_of_getElem? (i := 193) rfl)) rfl
theorem m4_194 : (Jvm.Cond.selects "LastCalledModel" ({ cls := "LastCalledModel", name := "note", desc := "(IIIII)I" } : Jvm.MethodName) ({ cls := "LastCalledModel", name := "note", desc := "(IIIII)I" } : Jvm.MethodName)) ∈ lw_G := lw_Gm (lw_t4 (List.mem_of_getElem? (i := 194) rfl)) rfl
theorem m4_195 : (Jvm.Cond.code ({ cls := "LastCalledModel", name := "note", desc := "(IIIII)I" } : Jvm.MethodName) prog_14_method_46_code (7 : Nat) (Option.some Jvm.ClassFile.FieldType.int)) ∈ lw_G := lw_Gm (lw_t4 (List.mem_of_getElem? (i := 195) rfl)) rfl
theorem m4_196 : (Jvm.Cond.methodLink "LastCalledLaw" (106 : Nat) ({ cls := "LastCalledModel", name := "forget", desc := "(I)I" } : Jvm.MethodName)) ∈ lw_G := lw_Gm (lw_t4 (List.mem_of_getElem? (i := 196) rfl)) rfl
theorem m4_197 : (Jvm.Cond.instanceMethod ({ cls := "LastCalledModel", name := "forget", desc := "(I)I" } : Jvm.MethodName)) ∈ lw_G := lw_Gm (lw_t4 (List.mem_of_getElem? (i := 197) rfl)) rfl
theorem m4_198 : (Jvm.Cond.selects "LastCalledModel" ({ cls := "LastCalledModel", name := "forget", desc := "(I)I" } : Jvm.MethodName) ({ cls := "LastCalledModel", name := "forget", desc := "(I)I" } : Jvm.MethodName)) ∈ lw_G := lw_Gm (lw_t4 (List.mem_of_getElem? (i := 198) rfl)) rfl
theorem m4_199 : (Jvm.Cond.code ({ cls := "LastCalledModel", name := "forget", desc := "(I)I" } : Jvm.MethodName) prog_14_method_47_code (3 : Nat) (Option.some Jvm.ClassFile.FieldType.int)) ∈ lw_G := lw_Gm (lw_t4 (List.mem_of_getElem? (i := 199) rfl)) rfl
theorem m4_200 : (Jvm.Cond.methodLink "LastCalledLaw" (110 : Nat) ({ cls := "LastCalledModel", name := "is", desc := "(I)I" } : Jvm.MethodName)) ∈ lw_G := lw_Gm (lw_t4 (List.mem_of_getElem? (i := 200) rfl)) rfl
theorem m4_201 : (Jvm.Cond.instanceMethod ({ cls := "LastCalledModel", name := "is", desc := "(I)I" } : Jvm.MethodName)) ∈ lw_G := lw_Gm (lw_t4 (List.mem_of_getElem? (i := 201) rfl)) rfl
theorem m4_202 : (Jvm.Cond.selects "LastCalledModel" ({ cls := "LastCalledModel", name := "is", desc := "(I)I" } : Jvm.MethodName) ({ cls := "LastCalledModel", name := "is", desc := "(I)I" } : Jvm.MethodName)) ∈ lw_G := lw_Gm (lw_t4 (List.mem_of_getElem? (i := 202) rfl)) rfl
theorem m4_203 : (Jvm.Cond.code ({ cls := "LastCalledModel", name := "is", desc := "(I)I" } : Jvm.MethodName) prog_14_method_49_code (4 : Nat) (Option.some Jvm.ClassFile.FieldType.int)) ∈ lw_G := lw_Gm (lw_t4 (List.mem_of_getElem? (i := 203) rfl)) rfl
theorem m4_204 : (Jvm.Cond.methodLink "LastCalledModel" (154 : Nat) ({ cls := "LastCalledModel", name := "areSo", desc := "(III)Z" } : Jvm.MethodName)) ∈ lw_G := lw_Gm (lw_t4 (List.mem_of_getElem? (i := 204) rfl)) rfl
theorem m4_206 : (Jvm.Cond.instanceMethod ({ cls := "LastCalledModel", name := "areSo", desc := "(III)Z" } : Jvm.MethodName)) ∈ lw_G := lw_Gm (lw_t4 (List.mem_of_getElem? (i := 206) rfl)) rfl
theorem m4_207 : (Jvm.Cond.code ({ cls := "LastCalledModel", name := "areSo", desc := "(III)Z" } : Jvm.MethodName) prog_14_method_48_code (8 : Nat) (Option.some Jvm.ClassFile.FieldType.boolean)) ∈ lw_G := lw_Gm (lw_t4 (List.mem_of_getElem? (i := 207) rfl)) rfl
theorem m4_208 : (Jvm.Cond.methodLink "LastCalledLaw" (114 : Nat) ({ cls := "LastCalledModel", name := "stood", desc := "(I)I" } : Jvm.MethodName)) ∈ lw_G := lw_Gm (lw_t4 (List.mem_of_getElem? (i := 208) rfl)) rfl
theorem m4_209 : (Jvm.Cond.instanceMethod ({ cls := "LastCalledModel", name := "stood", desc := "(I)I" } : Jvm.MethodName)) ∈ lw_G := lw_Gm (lw_t4 (List.mem_of_getElem? (i := 209) rfl)) rfl
theorem m4_210 : (Jvm.Cond.selects "LastCalledModel" ({ cls := "LastCalledModel", name := "stood", desc := "(I)I" } : Jvm.MethodName) ({ cls := "LastCalledModel", name := "stood", desc := "(I)I" } : Jvm.MethodName)) ∈ lw_G := lw_Gm (lw_t4 (List.mem_of_getElem? (i := 210) rfl)) rfl
theorem m4_211 : (Jvm.Cond.code ({ cls := "LastCalledModel", name := "stood", desc := "(I)I" } : Jvm.MethodName) prog_14_method_51_code (2 : Nat) (Option.some Jvm.ClassFile.FieldType.int)) ∈ lw_G := lw_Gm (lw_t4 (List.mem_of_getElem? (i := 211) rfl)) rfl
theorem m4_212 : (Jvm.Cond.methodLink "LastCalledModel" (158 : Nat) ({ cls := "LastCalledModel", name := "placesOf", desc := "(I)I" } : Jvm.MethodName)) ∈ lw_G := lw_Gm (lw_t4 (List.mem_of_getElem? (i := 212) rfl)) rfl
theorem m4_214 : (Jvm.Cond.instanceMethod ({ cls := "LastCalledModel", name := "placesOf", desc := "(I)I" } : Jvm.MethodName)) ∈ lw_G := lw_Gm (lw_t4 (List.mem_of_getElem? (i := 214) rfl)) rfl
theorem m4_215 : (Jvm.Cond.code ({ cls := "LastCalledModel", name := "placesOf", desc := "(I)I" } : Jvm.MethodName) prog_14_method_50_code (4 : Nat) (Option.some Jvm.ClassFile.FieldType.int)) ∈ lw_G := lw_Gm (lw_t4 (List.mem_of_getElem? (i := 215) rfl)) rfl
theorem m4_216 : (Jvm.Cond.methodLink "LastCalledLaw" (118 : Nat) ({ cls := "LastCalledModel", name := "next", desc := "(I)I" } : Jvm.MethodName)) ∈ lw_G := lw_Gm (lw_t4 (List.mem_of_getElem? (i := 216) rfl)) rfl
theorem m4_217 : (Jvm.Cond.instanceMethod ({ cls := "LastCalledModel", name := "next", desc := "(I)I" } : Jvm.MethodName)) ∈ lw_G := lw_Gm (lw_t4 (List.mem_of_getElem? (i := 217) rfl)) rfl
theorem m4_218 : (Jvm.Cond.selects "LastCalledModel" ({ cls := "LastCalledModel", name := "next", desc := "(I)I" } : Jvm.MethodName) ({ cls := "LastCalledModel", name := "next", desc := "(I)I" } : Jvm.MethodName)) ∈ lw_G := lw_Gm (lw_t4 (List.mem_of_getElem? (i := 218) rfl)) rfl
theorem m4_219 : (Jvm.Cond.code ({ cls := "LastCalledModel", name := "next", desc := "(I)I" } : Jvm.MethodName) prog_14_method_52_code (8 : Nat) (Option.some Jvm.ClassFile.FieldType.int)) ∈ lw_G := lw_Gm (lw_t4 (List.mem_of_getElem? (i := 219) rfl)) rfl
theorem m4_220 : (Jvm.Cond.constant "LastCalledModel" (161 : Nat) (1000000 : Int32)) ∈ lw_G := lw_Gm (lw_t4 (List.mem_of_getElem? (i := 220) rfl)) rfl
theorem m4_221 : (Jvm.Cond.methodLink "LastCalledLaw" (122 : Nat) ({ cls := "LastCalledModel", name := "trippers", desc := "(IIII)I" } : Jvm.MethodName)) ∈ lw_G := lw_Gm (lw_t4 (List.mem_of_getElem? (i := 221) rfl)) rfl
theorem m4_222 : (Jvm.Cond.instanceMethod ({ cls := "LastCalledModel", name := "trippers", desc := "(IIII)I" } : Jvm.MethodName)) ∈ lw_G := lw_Gm (lw_t4 (List.mem_of_getElem? (i := 222) rfl)) rfl
theorem m4_223 : (Jvm.Cond.selects "LastCalledModel" ({ cls := "LastCalledModel", name := "trippers", desc := "(IIII)I" } : Jvm.MethodName) ({ cls := "LastCalledModel", name := "trippers", desc := "(IIII)I" } : Jvm.MethodName)) ∈ lw_G := lw_Gm (lw_t4 (List.mem_of_getElem? (i := 223) rfl)) rfl
theorem m4_224 : (Jvm.Cond.code ({ cls := "LastCalledModel", name := "trippers", desc := "(IIII)I" } : Jvm.MethodName) prog_14_method_53_code (13 : Nat) (Option.some Jvm.ClassFile.FieldType.int)) ∈ lw_G := lw_Gm (lw_t4 (List.mem_of_getElem? (i := 224) rfl)) rfl
theorem m4_225 : (Jvm.Cond.constantLong "LastCalledModel" (162 : Nat) (10 : Int64)) ∈ lw_G := lw_Gm (lw_t4 (List.mem_of_getElem? (i := 225) rfl)) rfl
theorem m4_226 : (Jvm.Cond.methodLink "LastCalledLaw" (126 : Nat) ({ cls := "LastCalledModel", name := "weeks", desc := "(II)I" } : Jvm.MethodName)) ∈ lw_G := lw_Gm (lw_t4 (List.mem_of_getElem? (i := 226) rfl)) rfl
theorem m4_227 : (Jvm.Cond.instanceMethod ({ cls := "LastCalledModel", name := "weeks", desc := "(II)I" } : Jvm.MethodName)) ∈ lw_G := lw_Gm (lw_t4 (List.mem_of_getElem? (i := 227) rfl)) rfl
theorem m4_228 : (Jvm.Cond.selects "LastCalledModel" ({ cls := "LastCalledModel", name := "weeks", desc := "(II)I" } : Jvm.MethodName) ({ cls := "LastCalledModel", name := "weeks", desc := "(II)I" } : Jvm.MethodName)) ∈ lw_G := lw_Gm (lw_t4 (List.mem_of_getElem? (i := 228) rfl)) rfl
theorem m4_229 : (Jvm.Cond.code ({ cls := "LastCalledModel", name := "weeks", desc := "(II)I" } : Jvm.MethodName) prog_14_method_54_code (7 : Nat) (Option.some Jvm.ClassFile.FieldType.int)) ∈ lw_G := lw_Gm (lw_t4 (List.mem_of_getElem? (i := 229) rfl)) rfl
theorem m4_230 : (Jvm.Cond.constantLong "LastCalledModel" (164 : Nat) (999999 : Int64)) ∈ lw_G := lw_Gm (lw_t4 (List.mem_of_getElem? (i := 230) rfl)) rfl
theorem m4_231 : (Jvm.Cond.constantLong "LastCalledModel" (166 : Nat) (1103515245 : Int64)) ∈ lw_G := lw_Gm (lw_t4 (List.mem_of_getElem? (i := 231) rfl)) rfl
theorem m4_232 : (Jvm.Cond.constantLong "LastCalledModel" (168 : Nat) (12345 : Int64)) ∈ lw_G := lw_Gm (lw_t4 (List.mem_of_getElem? (i := 232) rfl)) rfl
theorem m4_233 : (Jvm.Cond.constantLong "LastCalledModel" (170 : Nat) (2147483648 : Int64)) ∈ lw_G := lw_Gm (lw_t4 (List.mem_of_getElem? (i := 233) rfl)) rfl
theorem m4_234 : (Jvm.Cond.constantLong "LastCalledModel" (172 : Nat) (65536 : Int64)) ∈ lw_G := lw_Gm (lw_t4 (List.mem_of_getElem? (i := 234) rfl)) rfl
theorem m4_235 : (Jvm.Cond.constantLong "LastCalledModel" (174 : Nat) (1048576 : Int64)) ∈ lw_G := lw_Gm (lw_t4 (List.mem_of_getElem? (i := 235) rfl)) rfl
theorem m4_236 : (Jvm.Cond.methodLink "LastCalledLaw" (26 : Nat) ({ cls := "LastCalledModel", name := "type", desc := "(I)I" } : Jvm.MethodName)) ∈ lw_G := lw_Gm (lw_t4 (List.mem_of_getElem? (i := 236) rfl)) rfl
theorem m4_237 : (Jvm.Cond.instanceMethod ({ cls := "LastCalledModel", name := "type", desc := "(I)I" } : Jvm.MethodName)) ∈ lw_G := lw_Gm (lw_t4 (List.mem_of_getElem? (i := 237) rfl)) rfl
theorem m4_238 : (Jvm.Cond.selects "LastCalledModel" ({ cls := "LastCalledModel", name := "type", desc := "(I)I" } : Jvm.MethodName) ({ cls := "LastCalledModel", name := "type", desc := "(I)I" } : Jvm.MethodName)) ∈ lw_G := lw_Gm (lw_t4 (List.mem_of_getElem? (i := 238) rfl)) rfl
theorem m4_239 : (Jvm.Cond.code ({ cls := "LastCalledModel", name := "type", desc := "(I)I" } : Jvm.MethodName) prog_14_method_55_code (2 : Nat) (Option.some Jvm.ClassFile.FieldType.int)) ∈ lw_G := lw_Gm (lw_t4 (List.mem_of_getElem? (i := 239) rfl)) rfl
theorem m5_0 : (Jvm.Cond.constantLong "LastCalledModel" (176 : Nat) (127 : Int64)) ∈ lw_G := lw_Gm (lw_t5 (List.mem_of_getElem? (i := 0) rfl)) rfl
theorem m5_1 : (Jvm.Cond.methodLink "LastCalledLaw" (31 : Nat) ({ cls := "LastCalledModel", name := "clear", desc := "()I" } : Jvm.MethodName)) ∈ lw_G := lw_Gm (lw_t5 (List.mem_of_getElem? (i := 1) rfl)) rfl
theorem m5_2 : (Jvm.Cond.instanceMethod ({ cls := "LastCalledModel", name := "clear", desc := "()I" } : Jvm.MethodName)) ∈ lw_G := lw_Gm (lw_t5 (List.mem_of_getElem? (i := 2) rfl)) rfl
theorem m5_3 : (Jvm.Cond.selects "LastCalledModel" ({ cls := "LastCalledModel", name := "clear", desc := "()I" } : Jvm.MethodName) ({ cls := "LastCalledModel", name := "clear", desc := "()I" } : Jvm.MethodName)) ∈ lw_G := lw_Gm (lw_t5 (List.mem_of_getElem? (i := 3) rfl)) rfl
theorem m5_4 : (Jvm.Cond.code ({ cls := "LastCalledModel", name := "clear", desc := "()I" } : Jvm.MethodName) prog_14_method_56_code (2 : Nat) (Option.some Jvm.ClassFile.FieldType.int)) ∈ lw_G := lw_Gm (lw_t5 (List.mem_of_getElem? (i := 4) rfl)) rfl
theorem m5_5 : (Jvm.Cond.methodLink "LastCalledLaw" (35 : Nat) ({ cls := "LastCalledModel", name := "read", desc := "()I" } : Jvm.MethodName)) ∈ lw_G := lw_Gm (lw_t5 (List.mem_of_getElem? (i := 5) rfl)) rfl
theorem m5_6 : (Jvm.Cond.instanceMethod ({ cls := "LastCalledModel", name := "read", desc := "()I" } : Jvm.MethodName)) ∈ lw_G := lw_Gm (lw_t5 (List.mem_of_getElem? (i := 6) rfl)) rfl
theorem m5_7 : (Jvm.Cond.selects "LastCalledModel" ({ cls := "LastCalledModel", name := "read", desc := "()I" } : Jvm.MethodName) ({ cls := "LastCalledModel", name := "read", desc := "()I" } : Jvm.MethodName)) ∈ lw_G := lw_Gm (lw_t5 (List.mem_of_getElem? (i := 7) rfl)) rfl
theorem m5_8 : (Jvm.Cond.code ({ cls := "LastCalledModel", name := "read", desc := "()I" } : Jvm.MethodName) prog_14_method_67_code (3 : Nat) (Option.some Jvm.ClassFile.FieldType.int)) ∈ lw_G := lw_Gm (lw_t5 (List.mem_of_getElem? (i := 8) rfl)) rfl
theorem m5_9 : (Jvm.Cond.methodLink "LastCalledModel" (207 : Nat) ({ cls := "LastCalledModel", name := "lookAt", desc := "(I)V" } : Jvm.MethodName)) ∈ lw_G := lw_Gm (lw_t5 (List.mem_of_getElem? (i := 9) rfl)) rfl
theorem m5_11 : (Jvm.Cond.instanceMethod ({ cls := "LastCalledModel", name := "lookAt", desc := "(I)V" } : Jvm.MethodName)) ∈ lw_G := lw_Gm (lw_t5 (List.mem_of_getElem? (i := 11) rfl)) rfl
theorem m5_12 : (Jvm.Cond.code ({ cls := "LastCalledModel", name := "lookAt", desc := "(I)V" } : Jvm.MethodName) prog_14_method_59_code (5 : Nat) (Option.none : Option Jvm.ClassFile.FieldType)) ∈ lw_G := lw_Gm (lw_t5 (List.mem_of_getElem? (i := 12) rfl)) rfl
theorem m5_13 : (Jvm.Cond.methodLink "LastCalledModel" (201 : Nat) ({ cls := "LastCalledModel", name := "isSmall", desc := "(I)Z" } : Jvm.MethodName)) ∈ lw_G := lw_Gm (lw_t5 (List.mem_of_getElem? (i := 13) rfl)) rfl
theorem m5_14 : (Jvm.Cond.static ({ cls := "LastCalledModel", name := "isSmall", desc := "(I)Z" } : Jvm.MethodName)) ∈ lw_G := lw_Gm (lw_t5 (List.mem_of_getElem? (i := 14) rfl)) rfl
theorem m5_15 : (Jvm.Cond.code ({ cls := "LastCalledModel", name := "isSmall", desc := "(I)Z" } : Jvm.MethodName) prog_14_method_57_code (1 : Nat) (Option.some Jvm.ClassFile.FieldType.boolean)) ∈ lw_G := lw_Gm (lw_t5 (List.mem_of_getElem? (i := 15) rfl)) rfl
theorem m5_16 : (Jvm.Cond.constantLong "LastCalledModel" (181 : Nat) (97 : Int64)) ∈ lw_G := lw_Gm (lw_t5 (List.mem_of_getElem? (i := 16) rfl)) rfl
theorem m5_17 : (Jvm.Cond.constantLong "LastCalledModel" (183 : Nat) (122 : Int64)) ∈ lw_G := lw_Gm (lw_t5 (List.mem_of_getElem? (i := 17) rfl)) rfl
theorem m5_18 : (Jvm.Cond.methodLink "LastCalledModel" (204 : Nat) ({ cls := "LastCalledModel", name := "isFigure", desc := "(I)Z" } : Jvm.MethodName)) ∈ lw_G := lw_Gm (lw_t5 (List.mem_of_getElem? (i := 18) rfl)) rfl
theorem m5_19 : (Jvm.Cond.static ({ cls := "LastCalledModel", name := "isFigure", desc := "(I)Z" } : Jvm.MethodName)) ∈ lw_G := lw_Gm (lw_t5 (List.mem_of_getElem? (i := 19) rfl)) rfl
theorem m5_20 : (Jvm.Cond.code ({ cls := "LastCalledModel", name := "isFigure", desc := "(I)Z" } : Jvm.MethodName) prog_14_method_58_code (1 : Nat) (Option.some Jvm.ClassFile.FieldType.boolean)) ∈ lw_G := lw_Gm (lw_t5 (List.mem_of_getElem? (i := 20) rfl)) rfl
theorem m5_21 : (Jvm.Cond.constantLong "LastCalledModel" (185 : Nat) (48 : Int64)) ∈ lw_G := lw_Gm (lw_t5 (List.mem_of_getElem? (i := 21) rfl)) rfl
theorem m5_22 : (Jvm.Cond.constantLong "LastCalledModel" (187 : Nat) (57 : Int64)) ∈ lw_G := lw_Gm (lw_t5 (List.mem_of_getElem? (i := 22) rfl)) rfl
theorem m5_23 : (Jvm.Cond.methodLink "LastCalledModel" (229 : Nat) ({ cls := "LastCalledModel", name := "takesHamlet", desc := "()Z" } : Jvm.MethodName)) ∈ lw_G := lw_Gm (lw_t5 (List.mem_of_getElem? (i := 23) rfl)) rfl
theorem m5_25 : (Jvm.Cond.instanceMethod ({ cls := "LastCalledModel", name := "takesHamlet", desc := "()Z" } : Jvm.MethodName)) ∈ lw_G := lw_Gm (lw_t5 (List.mem_of_getElem? (i := 25) rfl)) rfl
theorem m5_26 : (Jvm.Cond.code ({ cls := "LastCalledModel", name := "takesHamlet", desc := "()Z" } : Jvm.MethodName) prog_14_method_63_code (1 : Nat) (Option.some Jvm.ClassFile.FieldType.boolean)) ∈ lw_G := lw_Gm (lw_t5 (List.mem_of_getElem? (i := 26) rfl)) rfl
theorem m5_27 : (Jvm.Cond.methodLink "LastCalledModel" (214 : Nat) ({ cls := "LastCalledModel", name := "spells", desc := "(IIIIIII)Z" } : Jvm.MethodName)) ∈ lw_G := lw_Gm (lw_t5 (List.mem_of_getElem? (i := 27) rfl)) rfl
theorem m5_29 : (Jvm.Cond.instanceMethod ({ cls := "LastCalledModel", name := "spells", desc := "(IIIIIII)Z" } : Jvm.MethodName)) ∈ lw_G := lw_Gm (lw_t5 (List.mem_of_getElem? (i := 29) rfl)) rfl
theorem m5_30 : (Jvm.Cond.code ({ cls := "LastCalledModel", name := "spells", desc := "(IIIIIII)Z" } : Jvm.MethodName) prog_14_method_61_code (10 : Nat) (Option.some Jvm.ClassFile.FieldType.boolean)) ∈ lw_G := lw_Gm (lw_t5 (List.mem_of_getElem? (i := 30) rfl)) rfl
theorem m5_31 : (Jvm.Cond.methodLink "LastCalledModel" (211 : Nat) ({ cls := "LastCalledModel", name := "goBehind", desc := "()V" } : Jvm.MethodName)) ∈ lw_G := lw_Gm (lw_t5 (List.mem_of_getElem? (i := 31) rfl)) rfl
theorem m5_33 : (Jvm.Cond.instanceMethod ({ cls := "LastCalledModel", name := "goBehind", desc := "()V" } : Jvm.MethodName)) ∈ lw_G := lw_Gm (lw_t5 (List.mem_of_getElem? (i := 33) rfl)) rfl
theorem m5_34 : (Jvm.Cond.code ({ cls := "LastCalledModel", name := "goBehind", desc := "()V" } : Jvm.MethodName) prog_14_method_60_code (1 : Nat) (Option.none : Option Jvm.ClassFile.FieldType)) ∈ lw_G := lw_Gm (lw_t5 (List.mem_of_getElem? (i := 34) rfl)) rfl
theorem m5_35 : (Jvm.Cond.methodLink "LastCalledModel" (218 : Nat) ({ cls := "LastCalledModel", name := "takes", desc := "(III)Z" } : Jvm.MethodName)) ∈ lw_G := lw_Gm (lw_t5 (List.mem_of_getElem? (i := 35) rfl)) rfl
theorem m5_37 : (Jvm.Cond.instanceMethod ({ cls := "LastCalledModel", name := "takes", desc := "(III)Z" } : Jvm.MethodName)) ∈ lw_G := lw_Gm (lw_t5 (List.mem_of_getElem? (i := 37) rfl)) rfl
theorem m5_38 : (Jvm.Cond.code ({ cls := "LastCalledModel", name := "takes", desc := "(III)Z" } : Jvm.MethodName) prog_14_method_62_code (4 : Nat) (Option.some Jvm.ClassFile.FieldType.boolean)) ∈ lw_G := lw_Gm (lw_t5 (List.mem_of_getElem? (i := 38) rfl)) rfl
theorem m5_39 : (Jvm.Cond.methodLink "LastCalledModel" (232 : Nat) ({ cls := "LastCalledModel", name := "takesItem", desc := "()Z" } : Jvm.MethodName)) ∈ lw_G := lw_Gm (lw_t5 (List.mem_of_getElem? (i := 39) rfl)) rfl
theorem m5_41 : (Jvm.Cond.instanceMethod ({ cls := "LastCalledModel", name := "takesItem", desc := "()Z" } : Jvm.MethodName)) ∈ lw_G := lw_Gm (lw_t5 (List.mem_of_getElem? (i := 41) rfl)) rfl
theorem m5_42 : (Jvm.Cond.code ({ cls := "LastCalledModel", name := "takesItem", desc := "()Z" } : Jvm.MethodName) prog_14_method_66_code (1 : Nat) (Option.some Jvm.ClassFile.FieldType.boolean)) ∈ lw_G := lw_Gm (lw_t5 (List.mem_of_getElem? (i := 42) rfl)) rfl
theorem m5_43 : (Jvm.Cond.methodLink "LastCalledModel" (221 : Nat) ({ cls := "LastCalledModel", name := "takesOne", desc := "()Z" } : Jvm.MethodName)) ∈ lw_G := lw_Gm (lw_t5 (List.mem_of_getElem? (i := 43) rfl)) rfl
theorem m5_45 : (Jvm.Cond.instanceMethod ({ cls := "LastCalledModel", name := "takesOne", desc := "()Z" } : Jvm.MethodName)) ∈ lw_G := lw_Gm (lw_t5 (List.mem_of_getElem? (i := 45) rfl)) rfl
theorem m5_46 : (Jvm.Cond.code ({ cls := "LastCalledModel", name := "takesOne", desc := "()Z" } : Jvm.MethodName) prog_14_method_64_code (1 : Nat) (Option.some Jvm.ClassFile.FieldType.boolean)) ∈ lw_G := lw_Gm (lw_t5 (List.mem_of_getElem? (i := 46) rfl)) rfl
theorem m5_47 : (Jvm.Cond.methodLink "LastCalledModel" (225 : Nat) ({ cls := "LastCalledModel", name := "takesBears", desc := "(Z)Z" } : Jvm.MethodName)) ∈ lw_G := lw_Gm (lw_t5 (List.mem_of_getElem? (i := 47) rfl)) rfl
theorem m5_49 : (Jvm.Cond.instanceMethod ({ cls := "LastCalledModel", name := "takesBears", desc := "(Z)Z" } : Jvm.MethodName)) ∈ lw_G := lw_Gm (lw_t5 (List.mem_of_getElem? (i := 49) rfl)) rfl
theorem m5_50 : (Jvm.Cond.code ({ cls := "LastCalledModel", name := "takesBears", desc := "(Z)Z" } : Jvm.MethodName) prog_14_method_65_code (2 : Nat) (Option.some Jvm.ClassFile.FieldType.boolean)) ∈ lw_G := lw_Gm (lw_t5 (List.mem_of_getElem? (i := 50) rfl)) rfl
theorem m5_51 : (Jvm.Cond.methodLink "LastCalledLaw" (131 : Nat) ({ cls := "LastCalledModel", name := "part", desc := "(I)J" } : Jvm.MethodName)) ∈ lw_G := lw_Gm (lw_t5 (List.mem_of_getElem? (i := 51) rfl)) rfl
theorem m5_52 : (Jvm.Cond.instanceMethod ({ cls := "LastCalledModel", name := "part", desc := "(I)J" } : Jvm.MethodName)) ∈ lw_G := lw_Gm (lw_t5 (List.mem_of_getElem? (i := 52) rfl)) rfl
theorem m5_53 : (Jvm.Cond.selects "LastCalledModel" ({ cls := "LastCalledModel", name := "part", desc := "(I)J" } : Jvm.MethodName) ({ cls := "LastCalledModel", name := "part", desc := "(I)J" } : Jvm.MethodName)) ∈ lw_G := lw_Gm (lw_t5 (List.mem_of_getElem? (i := 53) rfl)) rfl
theorem m5_54 : (Jvm.Cond.code ({ cls := "LastCalledModel", name := "part", desc := "(I)J" } : Jvm.MethodName) prog_14_method_68_code (2 : Nat) (Option.some Jvm.ClassFile.FieldType.long)) ∈ lw_G := lw_Gm (lw_t5 (List.mem_of_getElem? (i := 54) rfl)) rfl
theorem m5_55 : (Jvm.Cond.methodLink "LastCalledLaw" (135 : Nat) ({ cls := "LastCalledModel", name := "image", desc := "(I)I" } : Jvm.MethodName)) ∈ lw_G := lw_Gm (lw_t5 (List.mem_of_getElem? (i := 55) rfl)) rfl
theorem m5_56 : (Jvm.Cond.instanceMethod ({ cls := "LastCalledModel", name := "image", desc := "(I)I" } : Jvm.MethodName)) ∈ lw_G := lw_Gm (lw_t5 (List.mem_of_getElem? (i := 56) rfl)) rfl
theorem m5_57 : (Jvm.Cond.selects "LastCalledModel" ({ cls := "LastCalledModel", name := "image", desc := "(I)I" } : Jvm.MethodName) ({ cls := "LastCalledModel", name := "image", desc := "(I)I" } : Jvm.MethodName)) ∈ lw_G := lw_Gm (lw_t5 (List.mem_of_getElem? (i := 57) rfl)) rfl
theorem m5_58 : (Jvm.Cond.code ({ cls := "LastCalledModel", name := "image", desc := "(I)I" } : Jvm.MethodName) prog_14_method_69_code (3 : Nat) (Option.some Jvm.ClassFile.FieldType.int)) ∈ lw_G := lw_Gm (lw_t5 (List.mem_of_getElem? (i := 58) rfl)) rfl
theorem m5_59 : (Jvm.Cond.methodLink "LastCalledLaw" (139 : Nat) ({ cls := "LastCalledModel", name := "from", desc := "(I)I" } : Jvm.MethodName)) ∈ lw_G := lw_Gm (lw_t5 (List.mem_of_getElem? (i := 59) rfl)) rfl
theorem m5_60 : (Jvm.Cond.instanceMethod ({ cls := "LastCalledModel", name := "from", desc := "(I)I" } : Jvm.MethodName)) ∈ lw_G := lw_Gm (lw_t5 (List.mem_of_getElem? (i := 60) rfl)) rfl
theorem m5_61 : (Jvm.Cond.selects "LastCalledModel" ({ cls := "LastCalledModel", name := "from", desc := "(I)I" } : Jvm.MethodName) ({ cls := "LastCalledModel", name := "from", desc := "(I)I" } : Jvm.MethodName)) ∈ lw_G := lw_Gm (lw_t5 (List.mem_of_getElem? (i := 61) rfl)) rfl
theorem m5_62 : (Jvm.Cond.code ({ cls := "LastCalledModel", name := "from", desc := "(I)I" } : Jvm.MethodName) prog_14_method_70_code (3 : Nat) (Option.some Jvm.ClassFile.FieldType.int)) ∈ lw_G := lw_Gm (lw_t5 (List.mem_of_getElem? (i := 62) rfl)) rfl
theorem m5_63 : (Jvm.Cond.methodLink "LastCalledLaw" (143 : Nat) ({ cls := "LastCalledModel", name := "status", desc := "(I)I" } : Jvm.MethodName)) ∈ lw_G := lw_Gm (lw_t5 (List.mem_of_getElem? (i := 63) rfl)) rfl
theorem m5_64 : (Jvm.Cond.instanceMethod ({ cls := "LastCalledModel", name := "status", desc := "(I)I" } : Jvm.MethodName)) ∈ lw_G := lw_Gm (lw_t5 (List.mem_of_getElem? (i := 64) rfl)) rfl
theorem m5_65 : (Jvm.Cond.selects "LastCalledModel" ({ cls := "LastCalledModel", name := "status", desc := "(I)I" } : Jvm.MethodName) ({ cls := "LastCalledModel", name := "status", desc := "(I)I" } : Jvm.MethodName)) ∈ lw_G := lw_Gm (lw_t5 (List.mem_of_getElem? (i := 65) rfl)) rfl
theorem m5_66 : (Jvm.Cond.code ({ cls := "LastCalledModel", name := "status", desc := "(I)I" } : Jvm.MethodName) prog_14_method_71_code (2 : Nat) (Option.some Jvm.ClassFile.FieldType.int)) ∈ lw_G := lw_Gm (lw_t5 (List.mem_of_getElem? (i := 66) rfl)) rfl
theorem m5_67 : (Jvm.Cond.methodLink "LastCalledLaw" (147 : Nat) ({ cls := "LastCalledModel", name := "count", desc := "(I)I" } : Jvm.MethodName)) ∈ lw_G := lw_Gm (lw_t5 (List.mem_of_getElem? (i := 67) rfl)) rfl
theorem m5_68 : (Jvm.Cond.instanceMethod ({ cls := "LastCalledModel", name := "count", desc := "(I)I" } : Jvm.MethodName)) ∈ lw_G := lw_Gm (lw_t5 (List.mem_of_getElem? (i := 68) rfl)) rfl
theorem m5_69 : (Jvm.Cond.selects "LastCalledModel" ({ cls := "LastCalledModel", name := "count", desc := "(I)I" } : Jvm.MethodName) ({ cls := "LastCalledModel", name := "count", desc := "(I)I" } : Jvm.MethodName)) ∈ lw_G := lw_Gm (lw_t5 (List.mem_of_getElem? (i := 69) rfl)) rfl
theorem m5_70 : (Jvm.Cond.code ({ cls := "LastCalledModel", name := "count", desc := "(I)I" } : Jvm.MethodName) prog_14_method_73_code (2 : Nat) (Option.some Jvm.ClassFile.FieldType.int)) ∈ lw_G := lw_Gm (lw_t5 (List.mem_of_getElem? (i := 70) rfl)) rfl
theorem m5_71 : (Jvm.Cond.constantLong "LastCalledModel" (235 : Nat) (6 : Int64)) ∈ lw_G := lw_Gm (lw_t5 (List.mem_of_getElem? (i := 71) rfl)) rfl
theorem m5_72 : (Jvm.Cond.methodLink "LastCalledModel" (237 : Nat) ({ cls := "LastCalledModel", name := "counted", desc := "(I)I" } : Jvm.MethodName)) ∈ lw_G := lw_Gm (lw_t5 (List.mem_of_getElem? (i := 72) rfl)) rfl
theorem m5_74 : (Jvm.Cond.instanceMethod ({ cls := "LastCalledModel", name := "counted", desc := "(I)I" } : Jvm.MethodName)) ∈ lw_G := lw_Gm (lw_t5 (List.mem_of_getElem? (i := 74) rfl)) rfl
theorem m5_75 : (Jvm.Cond.code ({ cls := "LastCalledModel", name := "counted", desc := "(I)I" } : Jvm.MethodName) prog_14_method_72_code (2 : Nat) (Option.some Jvm.ClassFile.FieldType.int)) ∈ lw_G := lw_Gm (lw_t5 (List.mem_of_getElem? (i := 75) rfl)) rfl
theorem m5_76 : (Jvm.Cond.methodLink "LastCalledLaw" (152 : Nat) ({ cls := "LastCalledModel", name := "digest", desc := "()J" } : Jvm.MethodName)) ∈ lw_G := lw_Gm (lw_t5 (List.mem_of_getElem? (i := 76) rfl)) rfl
theorem m5_77 : (Jvm.Cond.instanceMethod ({ cls := "LastCalledModel", name := "digest", desc := "()J" } : Jvm.MethodName)) ∈ lw_G := lw_Gm (lw_t5 (List.mem_of_getElem? (i := 77) rfl)) rfl
theorem m5_78 : (Jvm.Cond.selects "LastCalledModel" ({ cls := "LastCalledModel", name := "digest", desc := "()J" } : Jvm.MethodName) ({ cls := "LastCalledModel", name := "digest", desc := "()J" } : Jvm.MethodName)) ∈ lw_G := lw_Gm (lw_t5 (List.mem_of_getElem? (i := 78) rfl)) rfl
theorem m5_79 : (Jvm.Cond.code ({ cls := "LastCalledModel", name := "digest", desc := "()J" } : Jvm.MethodName) prog_14_method_75_code (4 : Nat) (Option.some Jvm.ClassFile.FieldType.long)) ∈ lw_G := lw_Gm (lw_t5 (List.mem_of_getElem? (i := 79) rfl)) rfl
theorem m5_80 : (Jvm.Cond.constantLong "LastCalledModel" (242 : Nat) (1201 : Int64)) ∈ lw_G := lw_Gm (lw_t5 (List.mem_of_getElem? (i := 80) rfl)) rfl
theorem m5_81 : (Jvm.Cond.constantLong "LastCalledModel" (240 : Nat) (31 : Int64)) ∈ lw_G := lw_Gm (lw_t5 (List.mem_of_getElem? (i := 81) rfl)) rfl
theorem m5_82 : (Jvm.Cond.methodLink "LastCalledModel" (244 : Nat) ({ cls := "LastCalledModel", name := "sums", desc := "(JII)J" } : Jvm.MethodName)) ∈ lw_G := lw_Gm (lw_t5 (List.mem_of_getElem? (i := 82) rfl)) rfl
theorem m5_84 : (Jvm.Cond.instanceMethod ({ cls := "LastCalledModel", name := "sums", desc := "(JII)J" } : Jvm.MethodName)) ∈ lw_G := lw_Gm (lw_t5 (List.mem_of_getElem? (i := 84) rfl)) rfl
theorem m5_85 : (Jvm.Cond.code ({ cls := "LastCalledModel", name := "sums", desc := "(JII)J" } : Jvm.MethodName) prog_14_method_74_code (8 : Nat) (Option.some Jvm.ClassFile.FieldType.long)) ∈ lw_G := lw_Gm (lw_t5 (List.mem_of_getElem? (i := 85) rfl)) rfl
theorem m5_86 : (Jvm.Cond.sameMethod "LastCalled$Careful" "LastCalled$Careful" "turns" "(IZZI)Z") ∈ lw_G := lw_Gm (lw_t5 (List.mem_of_getElem? (i := 86) rfl)) rfl
theorem m5_87 : (Jvm.Cond.sameMethod "LastCalled$Child" "LastCalled$Child" "turns" "(IZZI)Z") ∈ lw_G := lw_Gm (lw_t5 (List.mem_of_getElem? (i := 87) rfl)) rfl
theorem m5_93 : (Jvm.Cond.fieldLink "java/lang/String" (9 : Nat) "java/lang/String" "value" "[B") ∈ lw_G := lw_Gm (lw_t5 (List.mem_of_getElem? (i := 93) rfl)) rfl
theorem m5_94 : (Jvm.Cond.fieldLink "java/lang/String" (15 : Nat) "java/lang/String" "coder" "B") ∈ lw_G := lw_Gm (lw_t5 (List.mem_of_getElem? (i := 94) rfl)) rfl
theorem ms_0 : Cond.selects "LastCalled" (⟨"LastCalled", "refuse", "(I)I"⟩ : MethodName) (⟨"LastCalled", "refuse", "(I)I"⟩ : MethodName) ∈ lw_G := lw_s1 (q := ((⟨"LastCalled", "refuse", "(I)I"⟩ : MethodName), 9)) (List.mem_of_getElem? (i := 0) rfl) rfl rfl
theorem ms_1 : Cond.selects "LastCalled$Text" (⟨"LastCalled$Text", "advance", "()V"⟩ : MethodName) (⟨"LastCalled$Text", "advance", "()V"⟩ : MethodName) ∈ lw_G := lw_s1 (q := ((⟨"LastCalled$Text", "advance", "()V"⟩ : MethodName), 6)) (List.mem_of_getElem? (i := 1) rfl) rfl rfl
theorem ms_2 : Cond.selects "LastCalled$Text" (⟨"LastCalled$Text", "isWord", "(Ljava/lang/String;)Z"⟩ : MethodName) (⟨"LastCalled$Text", "isWord", "(Ljava/lang/String;)Z"⟩ : MethodName) ∈ lw_G := lw_s1 (q := ((⟨"LastCalled$Text", "isWord", "(Ljava/lang/String;)Z"⟩ : MethodName), 6)) (List.mem_of_getElem? (i := 2) rfl) rfl rfl
theorem ms_3 : Cond.selects "LastCalled$Text" (⟨"LastCalled$Text", "isNumberNext", "(I)Z"⟩ : MethodName) (⟨"LastCalled$Text", "isNumberNext", "(I)Z"⟩ : MethodName) ∈ lw_G := lw_s1 (q := ((⟨"LastCalled$Text", "isNumberNext", "(I)Z"⟩ : MethodName), 6)) (List.mem_of_getElem? (i := 3) rfl) rfl rfl
theorem ms_4 : Cond.selects "LastCalled$Text" (⟨"LastCalled$Text", "isItem", "(LLastCalled$Hamlet;)Z"⟩ : MethodName) (⟨"LastCalled$Text", "isItem", "(LLastCalled$Hamlet;)Z"⟩ : MethodName) ∈ lw_G := lw_s1 (q := ((⟨"LastCalled$Text", "isItem", "(LLastCalled$Hamlet;)Z"⟩ : MethodName), 6)) (List.mem_of_getElem? (i := 4) rfl) rfl rfl
theorem ms_5 : Cond.selects "LastCalled$Text" (⟨"LastCalled$Text", "isOne", "(LLastCalled$Hamlet;)Z"⟩ : MethodName) (⟨"LastCalled$Text", "isOne", "(LLastCalled$Hamlet;)Z"⟩ : MethodName) ∈ lw_G := lw_s1 (q := ((⟨"LastCalled$Text", "isOne", "(LLastCalled$Hamlet;)Z"⟩ : MethodName), 6)) (List.mem_of_getElem? (i := 5) rfl) rfl rfl
theorem ms_6 : Cond.selects "LastCalled$Text" (⟨"LastCalled$Text", "isBears", "(LLastCalled$Hamlet;)Z"⟩ : MethodName) (⟨"LastCalled$Text", "isBears", "(LLastCalled$Hamlet;)Z"⟩ : MethodName) ∈ lw_G := lw_s1 (q := ((⟨"LastCalled$Text", "isBears", "(LLastCalled$Hamlet;)Z"⟩ : MethodName), 6)) (List.mem_of_getElem? (i := 6) rfl) rfl rfl
theorem ms_7 : Cond.selects "LastCalled$Text" (⟨"LastCalled$Text", "isNone", "(LLastCalled$Hamlet;)Z"⟩ : MethodName) (⟨"LastCalled$Text", "isNone", "(LLastCalled$Hamlet;)Z"⟩ : MethodName) ∈ lw_G := lw_s1 (q := ((⟨"LastCalled$Text", "isNone", "(LLastCalled$Hamlet;)Z"⟩ : MethodName), 6)) (List.mem_of_getElem? (i := 7) rfl) rfl rfl
theorem ms_8 : Cond.selects "LastCalled" (⟨"LastCalled", "isThere", "(I)Z"⟩ : MethodName) (⟨"LastCalled", "isThere", "(I)Z"⟩ : MethodName) ∈ lw_G := lw_s1 (q := ((⟨"LastCalled", "isThere", "(I)Z"⟩ : MethodName), 9)) (List.mem_of_getElem? (i := 8) rfl) rfl rfl
theorem ms_9 : Cond.selects "LastCalled" (⟨"LastCalled", "turnersAt", "(II)I"⟩ : MethodName) (⟨"LastCalled", "turnersAt", "(II)I"⟩ : MethodName) ∈ lw_G := lw_s1 (q := ((⟨"LastCalled", "turnersAt", "(II)I"⟩ : MethodName), 9)) (List.mem_of_getElem? (i := 9) rfl) rfl rfl
theorem ms_10 : Cond.selects "LastCalled$Search" (⟨"LastCalled$Search", "lastCall", "([ILLastCalled$Hearing;II)I"⟩ : MethodName) (⟨"LastCalled$Search", "lastCall", "([ILLastCalled$Hearing;II)I"⟩ : MethodName) ∈ lw_G := lw_s1 (q := ((⟨"LastCalled$Search", "lastCall", "([ILLastCalled$Hearing;II)I"⟩ : MethodName), 4)) (List.mem_of_getElem? (i := 10) rfl) rfl rfl
theorem ms_11 : Cond.selects "LastCalled$Search" (⟨"LastCalled$Search", "callOnce", "(LLastCalled$Hamlet;LLastCalled$Hearing;I)V"⟩ : MethodName) (⟨"LastCalled$Search", "callOnce", "(LLastCalled$Hamlet;LLastCalled$Hearing;I)V"⟩ : MethodName) ∈ lw_G := lw_s1 (q := ((⟨"LastCalled$Search", "callOnce", "(LLastCalled$Hamlet;LLastCalled$Hearing;I)V"⟩ : MethodName), 4)) (List.mem_of_getElem? (i := 11) rfl) rfl rfl
theorem ms_12 : Cond.selects "LastCalled$Search" (⟨"LastCalled$Search", "tryLastCalls", "([ILLastCalled$Hearing;II)V"⟩ : MethodName) (⟨"LastCalled$Search", "tryLastCalls", "([ILLastCalled$Hearing;II)V"⟩ : MethodName) ∈ lw_G := lw_s1 (q := ((⟨"LastCalled$Search", "tryLastCalls", "([ILLastCalled$Hearing;II)V"⟩ : MethodName), 4)) (List.mem_of_getElem? (i := 12) rfl) rfl rfl
theorem ms_13 : Cond.selects "LastCalled$Search" (⟨"LastCalled$Search", "ownersBehind", "(III)I"⟩ : MethodName) (⟨"LastCalled$Search", "ownersBehind", "(III)I"⟩ : MethodName) ∈ lw_G := lw_s1 (q := ((⟨"LastCalled$Search", "ownersBehind", "(III)I"⟩ : MethodName), 4)) (List.mem_of_getElem? (i := 13) rfl) rfl rfl
theorem ms_14 : Cond.selects "LastCalled" (⟨"LastCalled", "fits", "(III)Z"⟩ : MethodName) (⟨"LastCalled", "fits", "(III)Z"⟩ : MethodName) ∈ lw_G := lw_s1 (q := ((⟨"LastCalled", "fits", "(III)Z"⟩ : MethodName), 9)) (List.mem_of_getElem? (i := 14) rfl) rfl rfl
theorem ms_15 : Cond.selects "LastCalled" (⟨"LastCalled", "placesThatFit", "(I)I"⟩ : MethodName) (⟨"LastCalled", "placesThatFit", "(I)I"⟩ : MethodName) ∈ lw_G := lw_s1 (q := ((⟨"LastCalled", "placesThatFit", "(I)I"⟩ : MethodName), 9)) (List.mem_of_getElem? (i := 15) rfl) rfl rfl
theorem ms_16 : Cond.selects "LastCalled" (⟨"LastCalled", "placesTurningAt", "(II)I"⟩ : MethodName) (⟨"LastCalled", "placesTurningAt", "(II)I"⟩ : MethodName) ∈ lw_G := lw_s1 (q := ((⟨"LastCalled", "placesTurningAt", "(II)I"⟩ : MethodName), 9)) (List.mem_of_getElem? (i := 16) rfl) rfl rfl
theorem ms_17 : Cond.selects "LastCalled" (⟨"LastCalled", "amount", "(I)I"⟩ : MethodName) (⟨"LastCalled", "amount", "(I)I"⟩ : MethodName) ∈ lw_G := lw_s1 (q := ((⟨"LastCalled", "amount", "(I)I"⟩ : MethodName), 9)) (List.mem_of_getElem? (i := 17) rfl) rfl rfl
theorem ms_18 : Cond.selects "LastCalledModel" (⟨"LastCalledModel", "bad", "(I)I"⟩ : MethodName) (⟨"LastCalledModel", "bad", "(I)I"⟩ : MethodName) ∈ lw_G := lw_s1 (q := ((⟨"LastCalledModel", "bad", "(I)I"⟩ : MethodName), 19)) (List.mem_of_getElem? (i := 18) rfl) rfl rfl
theorem ms_19 : Cond.selects "LastCalledModel" (⟨"LastCalledModel", "many", "()I"⟩ : MethodName) (⟨"LastCalledModel", "many", "()I"⟩ : MethodName) ∈ lw_G := lw_s1 (q := ((⟨"LastCalledModel", "many", "()I"⟩ : MethodName), 19)) (List.mem_of_getElem? (i := 19) rfl) rfl rfl
theorem ms_20 : Cond.selects "LastCalledModel" (⟨"LastCalledModel", "full", "()I"⟩ : MethodName) (⟨"LastCalledModel", "full", "()I"⟩ : MethodName) ∈ lw_G := lw_s1 (q := ((⟨"LastCalledModel", "full", "()I"⟩ : MethodName), 19)) (List.mem_of_getElem? (i := 20) rfl) rfl rfl
theorem ms_21 : Cond.selects "LastCalledModel" (⟨"LastCalledModel", "isOne", "(I)Z"⟩ : MethodName) (⟨"LastCalledModel", "isOne", "(I)Z"⟩ : MethodName) ∈ lw_G := lw_s1 (q := ((⟨"LastCalledModel", "isOne", "(I)Z"⟩ : MethodName), 19)) (List.mem_of_getElem? (i := 21) rfl) rfl rfl
theorem ms_22 : Cond.selects "LastCalledModel" (⟨"LastCalledModel", "keep", "()V"⟩ : MethodName) (⟨"LastCalledModel", "keep", "()V"⟩ : MethodName) ∈ lw_G := lw_s1 (q := ((⟨"LastCalledModel", "keep", "()V"⟩ : MethodName), 19)) (List.mem_of_getElem? (i := 22) rfl) rfl rfl
theorem ms_23 : Cond.selects "LastCalledModel" (⟨"LastCalledModel", "layHand", "()V"⟩ : MethodName) (⟨"LastCalledModel", "layHand", "()V"⟩ : MethodName) ∈ lw_G := lw_s1 (q := ((⟨"LastCalledModel", "layHand", "()V"⟩ : MethodName), 19)) (List.mem_of_getElem? (i := 23) rfl) rfl rfl
theorem ms_24 : Cond.selects "LastCalledModel" (⟨"LastCalledModel", "goCall", "(II)I"⟩ : MethodName) (⟨"LastCalledModel", "goCall", "(II)I"⟩ : MethodName) ∈ lw_G := lw_s1 (q := ((⟨"LastCalledModel", "goCall", "(II)I"⟩ : MethodName), 19)) (List.mem_of_getElem? (i := 24) rfl) rfl rfl
theorem ms_25 : Cond.selects "LastCalledModel" (⟨"LastCalledModel", "turning", "(II)I"⟩ : MethodName) (⟨"LastCalledModel", "turning", "(II)I"⟩ : MethodName) ∈ lw_G := lw_s1 (q := ((⟨"LastCalledModel", "turning", "(II)I"⟩ : MethodName), 19)) (List.mem_of_getElem? (i := 25) rfl) rfl rfl
theorem ms_26 : Cond.selects "LastCalledModel" (⟨"LastCalledModel", "bearersOf", "(I)I"⟩ : MethodName) (⟨"LastCalledModel", "bearersOf", "(I)I"⟩ : MethodName) ∈ lw_G := lw_s1 (q := ((⟨"LastCalledModel", "bearersOf", "(I)I"⟩ : MethodName), 19)) (List.mem_of_getElem? (i := 26) rfl) rfl rfl
theorem ms_27 : Cond.selects "LastCalledModel" (⟨"LastCalledModel", "goTurn", "(II)V"⟩ : MethodName) (⟨"LastCalledModel", "goTurn", "(II)V"⟩ : MethodName) ∈ lw_G := lw_s1 (q := ((⟨"LastCalledModel", "goTurn", "(II)V"⟩ : MethodName), 19)) (List.mem_of_getElem? (i := 27) rfl) rfl rfl
theorem ms_28 : Cond.selects "LastCalledModel" (⟨"LastCalledModel", "no", "()I"⟩ : MethodName) (⟨"LastCalledModel", "no", "()I"⟩ : MethodName) ∈ lw_G := lw_s1 (q := ((⟨"LastCalledModel", "no", "()I"⟩ : MethodName), 19)) (List.mem_of_getElem? (i := 28) rfl) rfl rfl
theorem ms_29 : Cond.selects "LastCalledModel" (⟨"LastCalledModel", "layCalls", "(II)V"⟩ : MethodName) (⟨"LastCalledModel", "layCalls", "(II)V"⟩ : MethodName) ∈ lw_G := lw_s1 (q := ((⟨"LastCalledModel", "layCalls", "(II)V"⟩ : MethodName), 19)) (List.mem_of_getElem? (i := 29) rfl) rfl rfl
theorem ms_30 : Cond.selects "LastCalledModel" (⟨"LastCalledModel", "goCodes", "(II)V"⟩ : MethodName) (⟨"LastCalledModel", "goCodes", "(II)V"⟩ : MethodName) ∈ lw_G := lw_s1 (q := ((⟨"LastCalledModel", "goCodes", "(II)V"⟩ : MethodName), 19)) (List.mem_of_getElem? (i := 30) rfl) rfl rfl
theorem ms_31 : Cond.selects "LastCalledModel" (⟨"LastCalledModel", "layOwn", "()V"⟩ : MethodName) (⟨"LastCalledModel", "layOwn", "()V"⟩ : MethodName) ∈ lw_G := lw_s1 (q := ((⟨"LastCalledModel", "layOwn", "()V"⟩ : MethodName), 19)) (List.mem_of_getElem? (i := 31) rfl) rfl rfl
theorem ms_32 : Cond.selects "LastCalledModel" (⟨"LastCalledModel", "judgeOwn", "(II)V"⟩ : MethodName) (⟨"LastCalledModel", "judgeOwn", "(II)V"⟩ : MethodName) ∈ lw_G := lw_s1 (q := ((⟨"LastCalledModel", "judgeOwn", "(II)V"⟩ : MethodName), 19)) (List.mem_of_getElem? (i := 32) rfl) rfl rfl
theorem ms_33 : Cond.selects "LastCalledModel" (⟨"LastCalledModel", "ownNow", "()I"⟩ : MethodName) (⟨"LastCalledModel", "ownNow", "()I"⟩ : MethodName) ∈ lw_G := lw_s1 (q := ((⟨"LastCalledModel", "ownNow", "()I"⟩ : MethodName), 19)) (List.mem_of_getElem? (i := 33) rfl) rfl rfl
theorem ms_34 : Cond.selects "LastCalledModel" (⟨"LastCalledModel", "fraction", "(JJ)V"⟩ : MethodName) (⟨"LastCalledModel", "fraction", "(JJ)V"⟩ : MethodName) ∈ lw_G := lw_s1 (q := ((⟨"LastCalledModel", "fraction", "(JJ)V"⟩ : MethodName), 19)) (List.mem_of_getElem? (i := 34) rfl) rfl rfl
theorem ms_35 : Cond.selects "LastCalledModel" (⟨"LastCalledModel", "penceOn", "(I)I"⟩ : MethodName) (⟨"LastCalledModel", "penceOn", "(I)I"⟩ : MethodName) ∈ lw_G := lw_s1 (q := ((⟨"LastCalledModel", "penceOn", "(I)I"⟩ : MethodName), 19)) (List.mem_of_getElem? (i := 35) rfl) rfl rfl
theorem ms_36 : Cond.selects "LastCalledModel" (⟨"LastCalledModel", "areSo", "(III)Z"⟩ : MethodName) (⟨"LastCalledModel", "areSo", "(III)Z"⟩ : MethodName) ∈ lw_G := lw_s1 (q := ((⟨"LastCalledModel", "areSo", "(III)Z"⟩ : MethodName), 19)) (List.mem_of_getElem? (i := 36) rfl) rfl rfl
theorem ms_37 : Cond.selects "LastCalledModel" (⟨"LastCalledModel", "placesOf", "(I)I"⟩ : MethodName) (⟨"LastCalledModel", "placesOf", "(I)I"⟩ : MethodName) ∈ lw_G := lw_s1 (q := ((⟨"LastCalledModel", "placesOf", "(I)I"⟩ : MethodName), 19)) (List.mem_of_getElem? (i := 37) rfl) rfl rfl
theorem ms_38 : Cond.selects "LastCalledModel" (⟨"LastCalledModel", "lookAt", "(I)V"⟩ : MethodName) (⟨"LastCalledModel", "lookAt", "(I)V"⟩ : MethodName) ∈ lw_G := lw_s1 (q := ((⟨"LastCalledModel", "lookAt", "(I)V"⟩ : MethodName), 19)) (List.mem_of_getElem? (i := 38) rfl) rfl rfl
theorem ms_39 : Cond.selects "LastCalledModel" (⟨"LastCalledModel", "takesHamlet", "()Z"⟩ : MethodName) (⟨"LastCalledModel", "takesHamlet", "()Z"⟩ : MethodName) ∈ lw_G := lw_s1 (q := ((⟨"LastCalledModel", "takesHamlet", "()Z"⟩ : MethodName), 19)) (List.mem_of_getElem? (i := 39) rfl) rfl rfl
theorem ms_40 : Cond.selects "LastCalledModel" (⟨"LastCalledModel", "spells", "(IIIIIII)Z"⟩ : MethodName) (⟨"LastCalledModel", "spells", "(IIIIIII)Z"⟩ : MethodName) ∈ lw_G := lw_s1 (q := ((⟨"LastCalledModel", "spells", "(IIIIIII)Z"⟩ : MethodName), 19)) (List.mem_of_getElem? (i := 40) rfl) rfl rfl
theorem ms_41 : Cond.selects "LastCalledModel" (⟨"LastCalledModel", "goBehind", "()V"⟩ : MethodName) (⟨"LastCalledModel", "goBehind", "()V"⟩ : MethodName) ∈ lw_G := lw_s1 (q := ((⟨"LastCalledModel", "goBehind", "()V"⟩ : MethodName), 19)) (List.mem_of_getElem? (i := 41) rfl) rfl rfl
theorem ms_42 : Cond.selects "LastCalledModel" (⟨"LastCalledModel", "takes", "(III)Z"⟩ : MethodName) (⟨"LastCalledModel", "takes", "(III)Z"⟩ : MethodName) ∈ lw_G := lw_s1 (q := ((⟨"LastCalledModel", "takes", "(III)Z"⟩ : MethodName), 19)) (List.mem_of_getElem? (i := 42) rfl) rfl rfl
theorem ms_43 : Cond.selects "LastCalledModel" (⟨"LastCalledModel", "takesItem", "()Z"⟩ : MethodName) (⟨"LastCalledModel", "takesItem", "()Z"⟩ : MethodName) ∈ lw_G := lw_s1 (q := ((⟨"LastCalledModel", "takesItem", "()Z"⟩ : MethodName), 19)) (List.mem_of_getElem? (i := 43) rfl) rfl rfl
theorem ms_44 : Cond.selects "LastCalledModel" (⟨"LastCalledModel", "takesOne", "()Z"⟩ : MethodName) (⟨"LastCalledModel", "takesOne", "()Z"⟩ : MethodName) ∈ lw_G := lw_s1 (q := ((⟨"LastCalledModel", "takesOne", "()Z"⟩ : MethodName), 19)) (List.mem_of_getElem? (i := 44) rfl) rfl rfl
theorem ms_45 : Cond.selects "LastCalledModel" (⟨"LastCalledModel", "takesBears", "(Z)Z"⟩ : MethodName) (⟨"LastCalledModel", "takesBears", "(Z)Z"⟩ : MethodName) ∈ lw_G := lw_s1 (q := ((⟨"LastCalledModel", "takesBears", "(Z)Z"⟩ : MethodName), 19)) (List.mem_of_getElem? (i := 45) rfl) rfl rfl
theorem ms_46 : Cond.selects "LastCalledModel" (⟨"LastCalledModel", "counted", "(I)I"⟩ : MethodName) (⟨"LastCalledModel", "counted", "(I)I"⟩ : MethodName) ∈ lw_G := lw_s1 (q := ((⟨"LastCalledModel", "counted", "(I)I"⟩ : MethodName), 19)) (List.mem_of_getElem? (i := 46) rfl) rfl rfl
theorem ms_47 : Cond.selects "LastCalledModel" (⟨"LastCalledModel", "sums", "(JII)J"⟩ : MethodName) (⟨"LastCalledModel", "sums", "(JII)J"⟩ : MethodName) ∈ lw_G := lw_s1 (q := ((⟨"LastCalledModel", "sums", "(JII)J"⟩ : MethodName), 19)) (List.mem_of_getElem? (i := 47) rfl) rfl rfl
theorem wX11_hamlet : wdV yX11_hamlet cX11_hamlet 3 (some .int) 1 := ⟨⟨m2_10, m2_11⟩, m1_1, m2_12, by decide, by decide +kernel⟩
theorem wX11_within : wdS yX11_within cX11_within 2 (some .boolean) 2 := ⟨m2_14, m1_1, m2_15, by decide, by decide +kernel⟩
theorem wX11_refuse : wdV yX11_refuse cX11_refuse 3 (some .int) 1 := ⟨⟨m2_18, ms_0⟩, m1_1, m2_19, by decide, by decide +kernel⟩
theorem wX5_begin : wdV yX5_begin cX5_begin 2 none 1 := ⟨⟨m2_21, m2_22⟩, m1_2, m2_23, by decide, by decide +kernel⟩
theorem wJ7_fill_53178 : wdS yJ7_fill_53178 cJ7_fill_53178 4 none 2 := ⟨m2_25, m1_14, m2_26, by decide, by decide +kernel⟩
theorem wX11_one : wdV yX11_one cX11_one 3 (some .int) 2 := ⟨⟨m2_28, m2_29⟩, m1_1, m2_30, by decide, by decide +kernel⟩
theorem wX5_join : wdV yX5_join cX5_join 3 none 2 := ⟨⟨m2_32, m2_33⟩, m1_2, m2_34, by decide, by decide +kernel⟩
theorem wX11_type : wdV yX11_type cX11_type 2 (some .int) 1 := ⟨⟨m2_36, m2_37⟩, m1_1, m2_38, by decide, by decide +kernel⟩
theorem wX10_append : wdV yX10_append cX10_append 2 none 1 := ⟨⟨m2_40, m2_41⟩, m1_3, m2_42, by decide, by decide +kernel⟩
theorem wX11_clear : wdV yX11_clear cX11_clear 2 (some .int) 0 := ⟨⟨m2_44, m2_45⟩, m1_1, m2_46, by decide, by decide +kernel⟩
theorem wX11_read : wdV yX11_read cX11_read 2 (some .int) 0 := ⟨⟨m2_48, m2_49⟩, m1_1, m2_50, by decide, by decide +kernel⟩
theorem wX10_tell : wdV yX10_tell cX10_tell 3 (some .int) 1 := ⟨⟨m2_52, m2_53⟩, m1_3, m2_54, by decide, by decide +kernel⟩
theorem wX10_advance : wdV yX10_advance cX10_advance 2 none 0 := ⟨⟨m2_57, ms_1⟩, m1_3, m2_58, by decide, by decide +kernel⟩
theorem wX10_sortOf : wdS yX10_sortOf cX10_sortOf 1 (some .int) 1 := ⟨m2_60, m1_3, m2_61, by decide, by decide +kernel⟩
theorem wX10_isWord : wdV yX10_isWord cX10_isWord 3 (some .boolean) 1 := ⟨⟨m2_65, ms_2⟩, m1_3, m2_66, by decide, by decide +kernel⟩
theorem wJ0_length_8abf5 : wdV yJ0_length_8abf5 cJ0_length_8abf5 1 (some .int) 0 := ⟨⟨m2_68, m2_69⟩, m1_15, m2_70, by decide, by decide +kernel⟩
theorem wJ0_coder_7d493 : wdV yJ0_coder_7d493 cJ0_coder_7d493 1 (some .byte) 0 := ⟨⟨m2_72, m2_73⟩, m1_15, m2_74, by decide, by decide +kernel⟩
theorem wJ0_charAt_5068e : wdV yJ0_charAt_5068e cJ0_charAt_5068e 2 (some .char) 1 := ⟨⟨m2_78, m2_79⟩, m1_15, m2_80, by decide, by decide +kernel⟩
theorem wJ0_isLatin1_aae02 : wdV yJ0_isLatin1_aae02 cJ0_isLatin1_aae02 1 (some .boolean) 0 := ⟨⟨m2_82, m2_83⟩, m1_15, m2_84, by decide, by decide +kernel⟩
theorem wJ1_charAt_3b067 : wdS yJ1_charAt_3b067 cJ1_charAt_3b067 2 (some .char) 2 := ⟨m2_86, m1_16, m2_87, by decide, by decide +kernel⟩
theorem wJ0_checkIndex_df160 : wdS yJ0_checkIndex_df160 cJ0_checkIndex_df160 2 none 2 := ⟨m2_89, m1_15, m2_90, by decide, by decide +kernel⟩
theorem wJ3_checkIndex_8e157 : wdS yJ3_checkIndex_8e157 cJ3_checkIndex_8e157 3 (some .int) 3 := ⟨m2_94, m1_17, m2_95, by decide, by decide +kernel⟩
theorem wJ2_charAt_3b067 : wdS yJ2_charAt_3b067 cJ2_charAt_3b067 2 (some .char) 2 := ⟨m2_97, m1_18, m2_98, by decide, by decide +kernel⟩
theorem wJ2_checkIndex_2214a : wdS yJ2_checkIndex_2214a cJ2_checkIndex_2214a 2 none 2 := ⟨m2_100, m1_18, m2_101, by decide, by decide +kernel⟩
theorem wJ2_length_9d52b : wdS yJ2_length_9d52b cJ2_length_9d52b 1 (some .int) 1 := ⟨m2_103, m1_18, m2_104, by decide, by decide +kernel⟩
theorem wJ2_getChar_3b067 : wdS yJ2_getChar_3b067 cJ2_getChar_3b067 2 (some .char) 2 := ⟨m2_107, m1_18, m2_108, by decide, by decide +kernel⟩
theorem wX10_isNumberNext : wdV yX10_isNumberNext cX10_isNumberNext 3 (some .boolean) 1 := ⟨⟨m2_117, ms_3⟩, m1_3, m2_118, by decide, by decide +kernel⟩
theorem wX10_isItem : wdV yX10_isItem cX10_isItem 2 (some .boolean) 1 := ⟨⟨m2_122, ms_4⟩, m1_3, m2_123, by decide, by decide +kernel⟩
theorem wX10_isOne : wdV yX10_isOne cX10_isOne 3 (some .boolean) 1 := ⟨⟨m2_127, ms_5⟩, m1_3, m2_128, by decide, by decide +kernel⟩
theorem wX10_isBears : wdV yX10_isBears cX10_isBears 3 (some .boolean) 1 := ⟨⟨m2_133, ms_6⟩, m1_3, m2_134, by decide, by decide +kernel⟩
theorem wX5_give : wdV yX5_give cX5_give 4 none 2 := ⟨⟨m2_136, m2_137⟩, m1_2, m2_138, by decide, by decide +kernel⟩
theorem wX10_isNone : wdV yX10_isNone cX10_isNone 2 (some .boolean) 1 := ⟨⟨m2_143, ms_7⟩, m1_3, m2_144, by decide, by decide +kernel⟩
theorem wX5_copyFrom : wdV yX5_copyFrom cX5_copyFrom 2 none 1 := ⟨⟨m2_146, m2_147⟩, m1_2, m2_148, by decide, by decide +kernel⟩
theorem wX11_call : wdV yX11_call cX11_call 4 (some .int) 2 := ⟨⟨m2_153, m2_154⟩, m1_1, m2_155, by decide, by decide +kernel⟩
theorem wX11_isThere : wdV yX11_isThere cX11_isThere 2 (some .boolean) 1 := ⟨⟨m2_158, ms_8⟩, m1_1, m2_159, by decide, by decide +kernel⟩
theorem wX11_turnersAt : wdV yX11_turnersAt cX11_turnersAt 3 (some .int) 2 := ⟨⟨m2_162, ms_9⟩, m1_1, m2_163, by decide, by decide +kernel⟩
theorem wX6_listenAt : wdV yX6_listenAt cX6_listenAt 6 none 2 := ⟨⟨m2_165, m2_166⟩, m1_5, m2_167, by decide, by decide +kernel⟩
theorem wJ9_abs_0f7a4 : wdS yJ9_abs_0f7a4 cJ9_abs_0f7a4 1 (some .int) 1 := ⟨m2_170, m1_20, m2_171, by decide, by decide +kernel⟩
theorem wX6_turnsAs : wdV yX6_turnsAs cX6_turnsAs 6 (some .boolean) 5 := ⟨⟨m2_173, m2_174⟩, m1_5, m2_175, by decide, by decide +kernel⟩
theorem wX7_turns : wdV yX7_turns cX7_turns 5 (some .boolean) 4 := ⟨⟨m2_177, m2_178⟩, m1_6, m2_200, by decide, by decide +kernel⟩
theorem wX6_turners : wdV yX6_turners cX6_turners 5 (some .int) 3 := ⟨⟨m2_202, m2_203⟩, m1_5, m2_204, by decide, by decide +kernel⟩
theorem wX5_remember : wdV yX5_remember cX5_remember 2 none 0 := ⟨⟨m2_206, m2_207⟩, m1_2, m2_208, by decide, by decide +kernel⟩
theorem wX11_settle : wdS yX11_settle cX11_settle 4 none 3 := ⟨m2_210, m1_1, m2_211, by decide, by decide +kernel⟩
theorem wX11_goes : wdV yX11_goes cX11_goes 4 (some .int) 2 := ⟨⟨m2_213, m2_214⟩, m1_1, m2_215, by decide, by decide +kernel⟩
theorem wX11_day : wdV yX11_day cX11_day 1 (some .int) 0 := ⟨⟨m2_217, m2_218⟩, m1_1, m2_219, by decide, by decide +kernel⟩
theorem wX11_undo : wdV yX11_undo cX11_undo 1 (some .int) 0 := ⟨⟨m2_221, m2_222⟩, m1_1, m2_223, by decide, by decide +kernel⟩
theorem wX5_goBack : wdV yX5_goBack cX5_goBack 2 none 0 := ⟨⟨m2_225, m2_226⟩, m1_2, m2_227, by decide, by decide +kernel⟩
theorem wX11_of : wdV yX11_of cX11_of 3 (some .int) 2 := ⟨⟨m2_229, m2_230⟩, m1_1, m2_231, by decide, by decide +kernel⟩
theorem wX5_nameOf : wdV yX5_nameOf cX5_nameOf 3 (some .int) 1 := ⟨⟨m2_233, m2_234⟩, m1_2, m2_235, by decide, by decide +kernel⟩
theorem wX11_bit : wdS yX11_bit cX11_bit 2 (some .int) 2 := ⟨m2_237, m1_1, m2_238, by decide, by decide +kernel⟩
theorem wX11_turn : wdV yX11_turn cX11_turn 3 (some .int) 2 := ⟨⟨m3_0, m3_1⟩, m1_1, m3_2, by decide, by decide +kernel⟩
theorem wX11_bearers : wdV yX11_bearers cX11_bearers 2 (some .int) 1 := ⟨⟨m3_4, m3_5⟩, m1_1, m3_6, by decide, by decide +kernel⟩
theorem wX11_names : wdV yX11_names cX11_names 5 (some .int) 1 := ⟨⟨m3_8, m3_9⟩, m1_1, m3_10, by decide, by decide +kernel⟩
theorem wJ6_bitCount_0f7a4 : wdS yJ6_bitCount_0f7a4 cJ6_bitCount_0f7a4 1 (some .int) 1 := ⟨m3_12, m1_21, m3_13, by decide, by decide +kernel⟩
theorem wX11_calls : wdV yX11_calls cX11_calls 4 (some .int) 3 := ⟨⟨m3_18, m3_19⟩, m1_1, m3_20, by decide, by decide +kernel⟩
theorem wX6_listen : wdV yX6_listen cX6_listen 3 none 1 := ⟨⟨m3_22, m3_23⟩, m1_5, m3_24, by decide, by decide +kernel⟩
theorem wX8_toBear : wdV yX8_toBear cX8_toBear 6 none 4 := ⟨⟨m3_27, m3_28⟩, m1_12, m3_29, by decide, by decide +kernel⟩
theorem wX8_lastCall : wdV yX8_lastCall cX8_lastCall 6 (some .int) 4 := ⟨⟨m3_33, ms_10⟩, m1_12, m3_34, by decide, by decide +kernel⟩
theorem wX8_callOnce : wdV yX8_callOnce cX8_callOnce 5 none 3 := ⟨⟨m3_39, ms_11⟩, m1_12, m3_40, by decide, by decide +kernel⟩
theorem wX11_own : wdV yX11_own cX11_own 2 (some .int) 1 := ⟨⟨m3_44, m3_45⟩, m1_1, m3_46, by decide, by decide +kernel⟩
theorem wX8_ownAgain : wdV yX8_ownAgain cX8_ownAgain 5 none 2 := ⟨⟨m3_48, m3_49⟩, m1_12, m3_50, by decide, by decide +kernel⟩
theorem wX11_owners : wdS yX11_owners cX11_owners 3 (some .int) 1 := ⟨m3_52, m1_1, m3_53, by decide, by decide +kernel⟩
theorem wX8_tryLastCalls : wdV yX8_tryLastCalls cX8_tryLastCalls 10 none 4 := ⟨⟨m3_57, ms_12⟩, m1_12, m3_58, by decide, by decide +kernel⟩
theorem wX8_ownersBehind : wdV yX8_ownersBehind cX8_ownersBehind 5 (some .int) 3 := ⟨⟨m3_61, ms_13⟩, m1_12, m3_62, by decide, by decide +kernel⟩
theorem wX11_ring : wdV yX11_ring cX11_ring 4 (some .int) 1 := ⟨⟨m3_64, m3_65⟩, m1_1, m3_66, by decide, by decide +kernel⟩
theorem wX11_deed : wdV yX11_deed cX11_deed 3 (some .int) 2 := ⟨⟨m3_68, m3_69⟩, m1_1, m3_70, by decide, by decide +kernel⟩
theorem wX11_owes : wdV yX11_owes cX11_owes 3 (some .int) 1 := ⟨⟨m3_72, m3_73⟩, m1_1, m3_74, by decide, by decide +kernel⟩
theorem wX4_become : wdV yX4_become cX4_become 7 none 2 := ⟨⟨m3_76, m3_77⟩, m1_4, m3_78, by decide, by decide +kernel⟩
theorem wX4_commonDivisor : wdS yX4_commonDivisor cX4_commonDivisor 11 (some .long) 2 := ⟨m3_80, m1_4, m3_81, by decide, by decide +kernel⟩
theorem wX5_penceOn : wdV yX5_penceOn cX5_penceOn 4 (some .int) 1 := ⟨⟨m3_83, m3_84⟩, m1_2, m3_85, by decide, by decide +kernel⟩
theorem wX11_unpaid : wdV yX11_unpaid cX11_unpaid 3 (some .int) 0 := ⟨⟨m3_87, m3_88⟩, m1_1, m3_89, by decide, by decide +kernel⟩
theorem wX11_ears : wdV yX11_ears cX11_ears 12 (some .int) 4 := ⟨⟨m3_91, m3_92⟩, m1_1, m3_93, by decide, by decide +kernel⟩
theorem wX11_stopped : wdS yX11_stopped cX11_stopped 3 (some .int) 3 := ⟨m3_95, m1_1, m3_96, by decide, by decide +kernel⟩
theorem wX11_bearersBehind : wdS yX11_bearersBehind cX11_bearersBehind 2 (some .int) 2 := ⟨m3_99, m1_1, m3_100, by decide, by decide +kernel⟩
theorem wX11_note : wdV yX11_note cX11_note 6 (some .int) 5 := ⟨⟨m3_102, m3_103⟩, m1_1, m3_104, by decide, by decide +kernel⟩
theorem wX5_write : wdV yX5_write cX5_write 7 none 5 := ⟨⟨m3_106, m3_107⟩, m1_2, m3_108, by decide, by decide +kernel⟩
theorem wX11_forget : wdV yX11_forget cX11_forget 3 (some .int) 1 := ⟨⟨m3_110, m3_111⟩, m1_1, m3_112, by decide, by decide +kernel⟩
theorem wX11_is : wdV yX11_is cX11_is 4 (some .int) 1 := ⟨⟨m3_114, m3_115⟩, m1_1, m3_116, by decide, by decide +kernel⟩
theorem wX11_fits : wdV yX11_fits cX11_fits 8 (some .boolean) 3 := ⟨⟨m3_119, ms_14⟩, m1_1, m3_120, by decide, by decide +kernel⟩
theorem wX11_stood : wdV yX11_stood cX11_stood 2 (some .int) 1 := ⟨⟨m3_124, m3_125⟩, m1_1, m3_126, by decide, by decide +kernel⟩
theorem wX11_placesThatFit : wdV yX11_placesThatFit cX11_placesThatFit 4 (some .int) 1 := ⟨⟨m3_129, ms_15⟩, m1_1, m3_130, by decide, by decide +kernel⟩
theorem wX11_next : wdV yX11_next cX11_next 8 (some .int) 1 := ⟨⟨m3_132, m3_133⟩, m1_1, m3_134, by decide, by decide +kernel⟩
theorem wX11_placesTurningAt : wdV yX11_placesTurningAt cX11_placesTurningAt 5 (some .int) 2 := ⟨⟨m3_137, ms_16⟩, m1_1, m3_138, by decide, by decide +kernel⟩
theorem wJ9_max_7cf53 : wdS yJ9_max_7cf53 cJ9_max_7cf53 2 (some .int) 2 := ⟨m3_140, m1_20, m3_141, by decide, by decide +kernel⟩
theorem wX11_trippers : wdV yX11_trippers cX11_trippers 12 (some .int) 4 := ⟨⟨m3_143, m3_144⟩, m1_1, m3_145, by decide, by decide +kernel⟩
theorem wX11_weeks : wdV yX11_weeks cX11_weeks 3 (some .int) 2 := ⟨⟨m3_148, m3_149⟩, m1_1, m3_150, by decide, by decide +kernel⟩
theorem wX8_ownersBehindWeeks : wdV yX8_ownersBehindWeeks cX8_ownersBehindWeeks 10 (some .int) 4 := ⟨⟨m3_153, m3_154⟩, m1_12, m3_155, by decide, by decide +kernel⟩
theorem wX11_part : wdV yX11_part cX11_part 2 (some .long) 1 := ⟨⟨m3_163, m3_164⟩, m1_1, m3_165, by decide, by decide +kernel⟩
theorem wX11_image : wdV yX11_image cX11_image 2 (some .int) 1 := ⟨⟨m3_167, m3_168⟩, m1_1, m3_169, by decide, by decide +kernel⟩
theorem wX11_from : wdV yX11_from cX11_from 2 (some .int) 1 := ⟨⟨m3_171, m3_172⟩, m1_1, m3_173, by decide, by decide +kernel⟩
theorem wX11_status : wdV yX11_status cX11_status 2 (some .int) 1 := ⟨⟨m3_175, m3_176⟩, m1_1, m3_177, by decide, by decide +kernel⟩
theorem wX11_count : wdV yX11_count cX11_count 2 (some .int) 1 := ⟨⟨m3_179, m3_180⟩, m1_1, m3_181, by decide, by decide +kernel⟩
theorem wX11_amount : wdV yX11_amount cX11_amount 2 (some .int) 1 := ⟨⟨m3_184, ms_17⟩, m1_1, m3_185, by decide, by decide +kernel⟩
theorem wX11_digest : wdV yX11_digest cX11_digest 4 (some .long) 0 := ⟨⟨m3_188, m3_189⟩, m1_1, m3_190, by decide, by decide +kernel⟩
theorem wX5_mixInto : wdV yX5_mixInto cX5_mixInto 6 (some .long) 1 := ⟨⟨m3_194, m3_195⟩, m1_2, m3_196, by decide, by decide +kernel⟩
theorem wX12_begin : wdS yX12_begin cX12_begin 3 none 2 := ⟨m3_206, m1_13, m3_207, by decide, by decide +kernel⟩
theorem wX12_hamlet : wdV yX12_hamlet cX12_hamlet 3 (some .int) 1 := ⟨⟨m4_27, m4_28⟩, m1_13, m4_29, by decide, by decide +kernel⟩
theorem wX12_in : wdS yX12_in cX12_in 6 (some .boolean) 3 := ⟨m4_32, m1_13, m4_33, by decide, by decide +kernel⟩
theorem wX12_bad : wdV yX12_bad cX12_bad 2 (some .int) 1 := ⟨⟨m4_36, ms_18⟩, m1_13, m4_37, by decide, by decide +kernel⟩
theorem wX12_many : wdV yX12_many cX12_many 1 (some .int) 0 := ⟨⟨m4_40, ms_19⟩, m1_13, m4_41, by decide, by decide +kernel⟩
theorem wX12_one : wdV yX12_one cX12_one 3 (some .int) 2 := ⟨⟨m4_43, m4_44⟩, m1_13, m4_45, by decide, by decide +kernel⟩
theorem wX12_isPlace : wdS yX12_isPlace cX12_isPlace 1 (some .boolean) 1 := ⟨m4_48, m1_13, m4_49, by decide, by decide +kernel⟩
theorem wX12_full : wdV yX12_full cX12_full 1 (some .int) 0 := ⟨⟨m4_53, ms_20⟩, m1_13, m4_54, by decide, by decide +kernel⟩
theorem wX12_layOne : wdS yX12_layOne cX12_layOne 4 none 3 := ⟨m4_56, m1_13, m4_57, by decide, by decide +kernel⟩
theorem wX12_call : wdV yX12_call cX12_call 5 (some .int) 2 := ⟨⟨m4_59, m4_60⟩, m1_13, m4_61, by decide, by decide +kernel⟩
theorem wX12_isOne : wdV yX12_isOne cX12_isOne 2 (some .boolean) 1 := ⟨⟨m4_64, ms_21⟩, m1_13, m4_65, by decide, by decide +kernel⟩
theorem wX12_keep : wdV yX12_keep cX12_keep 3 none 0 := ⟨⟨m4_68, ms_22⟩, m1_13, m4_69, by decide, by decide +kernel⟩
theorem wX12_layHand : wdV yX12_layHand cX12_layHand 2 none 0 := ⟨⟨m4_72, ms_23⟩, m1_13, m4_73, by decide, by decide +kernel⟩
theorem wX12_goCall : wdV yX12_goCall cX12_goCall 4 (some .int) 2 := ⟨⟨m4_76, ms_24⟩, m1_13, m4_77, by decide, by decide +kernel⟩
theorem wX12_turning : wdV yX12_turning cX12_turning 7 (some .int) 2 := ⟨⟨m4_80, ms_25⟩, m1_13, m4_81, by decide, by decide +kernel⟩
theorem wX12_bearersOf : wdV yX12_bearersOf cX12_bearersOf 4 (some .int) 1 := ⟨⟨m4_84, ms_26⟩, m1_13, m4_85, by decide, by decide +kernel⟩
theorem wX12_farOf : wdS yX12_farOf cX12_farOf 2 (some .int) 2 := ⟨m4_87, m1_13, m4_88, by decide, by decide +kernel⟩
theorem wX12_has : wdS yX12_has cX12_has 2 (some .boolean) 2 := ⟨m4_90, m1_13, m4_91, by decide, by decide +kernel⟩
theorem wX12_turnsAs : wdS yX12_turnsAs cX12_turnsAs 6 (some .boolean) 5 := ⟨m4_93, m1_13, m4_94, by decide, by decide +kernel⟩
theorem wX12_goTurn : wdV yX12_goTurn cX12_goTurn 4 none 2 := ⟨⟨m4_97, ms_27⟩, m1_13, m4_98, by decide, by decide +kernel⟩
theorem wX12_goes : wdV yX12_goes cX12_goes 4 (some .int) 2 := ⟨⟨m4_100, m4_101⟩, m1_13, m4_102, by decide, by decide +kernel⟩
theorem wX12_day : wdV yX12_day cX12_day 1 (some .int) 0 := ⟨⟨m4_104, m4_105⟩, m1_13, m4_106, by decide, by decide +kernel⟩
theorem wX12_undo : wdV yX12_undo cX12_undo 3 (some .int) 0 := ⟨⟨m4_108, m4_109⟩, m1_13, m4_110, by decide, by decide +kernel⟩
theorem wX12_no : wdV yX12_no cX12_no 1 (some .int) 0 := ⟨⟨m4_113, ms_28⟩, m1_13, m4_114, by decide, by decide +kernel⟩
theorem wX12_of : wdV yX12_of cX12_of 3 (some .int) 2 := ⟨⟨m4_116, m4_117⟩, m1_13, m4_118, by decide, by decide +kernel⟩
theorem wX12_turn : wdV yX12_turn cX12_turn 3 (some .int) 2 := ⟨⟨m4_121, m4_122⟩, m1_13, m4_123, by decide, by decide +kernel⟩
theorem wX12_bearers : wdV yX12_bearers cX12_bearers 2 (some .int) 1 := ⟨⟨m4_125, m4_126⟩, m1_13, m4_127, by decide, by decide +kernel⟩
theorem wX12_names : wdV yX12_names cX12_names 5 (some .int) 1 := ⟨⟨m4_129, m4_130⟩, m1_13, m4_131, by decide, by decide +kernel⟩
theorem wX12_bits : wdS yX12_bits cX12_bits 3 (some .int) 1 := ⟨m4_133, m1_13, m4_134, by decide, by decide +kernel⟩
theorem wX12_calls : wdV yX12_calls cX12_calls 4 (some .int) 3 := ⟨⟨m4_136, m4_137⟩, m1_13, m4_138, by decide, by decide +kernel⟩
theorem wX12_layCalls : wdV yX12_layCalls cX12_layCalls 6 none 2 := ⟨⟨m4_141, ms_29⟩, m1_13, m4_142, by decide, by decide +kernel⟩
theorem wX12_goCodes : wdV yX12_goCodes cX12_goCodes 4 none 2 := ⟨⟨m4_145, ms_30⟩, m1_13, m4_146, by decide, by decide +kernel⟩
theorem wX12_own : wdV yX12_own cX12_own 2 (some .int) 1 := ⟨⟨m4_148, m4_149⟩, m1_13, m4_150, by decide, by decide +kernel⟩
theorem wX12_layOwn : wdV yX12_layOwn cX12_layOwn 4 none 0 := ⟨⟨m4_153, ms_31⟩, m1_13, m4_154, by decide, by decide +kernel⟩
theorem wX12_judgeOwn : wdV yX12_judgeOwn cX12_judgeOwn 4 none 2 := ⟨⟨m4_157, ms_32⟩, m1_13, m4_158, by decide, by decide +kernel⟩
theorem wX12_ownNow : wdV yX12_ownNow cX12_ownNow 3 (some .int) 0 := ⟨⟨m4_161, ms_33⟩, m1_13, m4_162, by decide, by decide +kernel⟩
theorem wX12_ring : wdV yX12_ring cX12_ring 4 (some .int) 1 := ⟨⟨m4_164, m4_165⟩, m1_13, m4_166, by decide, by decide +kernel⟩
theorem wX12_deed : wdV yX12_deed cX12_deed 3 (some .int) 2 := ⟨⟨m4_168, m4_169⟩, m1_13, m4_170, by decide, by decide +kernel⟩
theorem wX12_owes : wdV yX12_owes cX12_owes 3 (some .int) 1 := ⟨⟨m4_173, m4_174⟩, m1_13, m4_175, by decide, by decide +kernel⟩
theorem wX12_fraction : wdV yX12_fraction cX12_fraction 11 none 2 := ⟨⟨m4_178, ms_34⟩, m1_13, m4_179, by decide, by decide +kernel⟩
theorem wX12_penceOn : wdV yX12_penceOn cX12_penceOn 4 (some .int) 1 := ⟨⟨m4_182, ms_35⟩, m1_13, m4_183, by decide, by decide +kernel⟩
theorem wX12_unpaid : wdV yX12_unpaid cX12_unpaid 3 (some .int) 0 := ⟨⟨m4_185, m4_186⟩, m1_13, m4_187, by decide, by decide +kernel⟩
theorem wX12_ears : wdV yX12_ears cX12_ears 9 (some .int) 4 := ⟨⟨m4_189, m4_190⟩, m1_13, m4_191, by decide, by decide +kernel⟩
theorem wX12_note : wdV yX12_note cX12_note 7 (some .int) 5 := ⟨⟨m4_193, m4_194⟩, m1_13, m4_195, by decide, by decide +kernel⟩
theorem wX12_forget : wdV yX12_forget cX12_forget 3 (some .int) 1 := ⟨⟨m4_197, m4_198⟩, m1_13, m4_199, by decide, by decide +kernel⟩
theorem wX12_is : wdV yX12_is cX12_is 4 (some .int) 1 := ⟨⟨m4_201, m4_202⟩, m1_13, m4_203, by decide, by decide +kernel⟩
theorem wX12_areSo : wdV yX12_areSo cX12_areSo 8 (some .boolean) 3 := ⟨⟨m4_206, ms_36⟩, m1_13, m4_207, by decide, by decide +kernel⟩
theorem wX12_stood : wdV yX12_stood cX12_stood 2 (some .int) 1 := ⟨⟨m4_209, m4_210⟩, m1_13, m4_211, by decide, by decide +kernel⟩
theorem wX12_placesOf : wdV yX12_placesOf cX12_placesOf 4 (some .int) 1 := ⟨⟨m4_214, ms_37⟩, m1_13, m4_215, by decide, by decide +kernel⟩
theorem wX12_next : wdV yX12_next cX12_next 8 (some .int) 1 := ⟨⟨m4_217, m4_218⟩, m1_13, m4_219, by decide, by decide +kernel⟩
theorem wX12_trippers : wdV yX12_trippers cX12_trippers 13 (some .int) 4 := ⟨⟨m4_222, m4_223⟩, m1_13, m4_224, by decide, by decide +kernel⟩
theorem wX12_weeks : wdV yX12_weeks cX12_weeks 7 (some .int) 2 := ⟨⟨m4_227, m4_228⟩, m1_13, m4_229, by decide, by decide +kernel⟩
theorem wX12_type : wdV yX12_type cX12_type 2 (some .int) 1 := ⟨⟨m4_237, m4_238⟩, m1_13, m4_239, by decide, by decide +kernel⟩
theorem wX12_clear : wdV yX12_clear cX12_clear 2 (some .int) 0 := ⟨⟨m5_2, m5_3⟩, m1_13, m5_4, by decide, by decide +kernel⟩
theorem wX12_read : wdV yX12_read cX12_read 3 (some .int) 0 := ⟨⟨m5_6, m5_7⟩, m1_13, m5_8, by decide, by decide +kernel⟩
theorem wX12_lookAt : wdV yX12_lookAt cX12_lookAt 5 none 1 := ⟨⟨m5_11, ms_38⟩, m1_13, m5_12, by decide, by decide +kernel⟩
theorem wX12_isSmall : wdS yX12_isSmall cX12_isSmall 1 (some .boolean) 1 := ⟨m5_14, m1_13, m5_15, by decide, by decide +kernel⟩
theorem wX12_isFigure : wdS yX12_isFigure cX12_isFigure 1 (some .boolean) 1 := ⟨m5_19, m1_13, m5_20, by decide, by decide +kernel⟩
theorem wX12_takesHamlet : wdV yX12_takesHamlet cX12_takesHamlet 1 (some .boolean) 0 := ⟨⟨m5_25, ms_39⟩, m1_13, m5_26, by decide, by decide +kernel⟩
theorem wX12_spells : wdV yX12_spells cX12_spells 10 (some .boolean) 7 := ⟨⟨m5_29, ms_40⟩, m1_13, m5_30, by decide, by decide +kernel⟩
theorem wX12_goBehind : wdV yX12_goBehind cX12_goBehind 1 none 0 := ⟨⟨m5_33, ms_41⟩, m1_13, m5_34, by decide, by decide +kernel⟩
theorem wX12_takes : wdV yX12_takes cX12_takes 4 (some .boolean) 3 := ⟨⟨m5_37, ms_42⟩, m1_13, m5_38, by decide, by decide +kernel⟩
theorem wX12_takesItem : wdV yX12_takesItem cX12_takesItem 1 (some .boolean) 0 := ⟨⟨m5_41, ms_43⟩, m1_13, m5_42, by decide, by decide +kernel⟩
theorem wX12_takesOne : wdV yX12_takesOne cX12_takesOne 1 (some .boolean) 0 := ⟨⟨m5_45, ms_44⟩, m1_13, m5_46, by decide, by decide +kernel⟩
theorem wX12_takesBears : wdV yX12_takesBears cX12_takesBears 2 (some .boolean) 1 := ⟨⟨m5_49, ms_45⟩, m1_13, m5_50, by decide, by decide +kernel⟩
theorem wX12_part : wdV yX12_part cX12_part 2 (some .long) 1 := ⟨⟨m5_52, m5_53⟩, m1_13, m5_54, by decide, by decide +kernel⟩
theorem wX12_image : wdV yX12_image cX12_image 3 (some .int) 1 := ⟨⟨m5_56, m5_57⟩, m1_13, m5_58, by decide, by decide +kernel⟩
theorem wX12_from : wdV yX12_from cX12_from 3 (some .int) 1 := ⟨⟨m5_60, m5_61⟩, m1_13, m5_62, by decide, by decide +kernel⟩
theorem wX12_status : wdV yX12_status cX12_status 2 (some .int) 1 := ⟨⟨m5_64, m5_65⟩, m1_13, m5_66, by decide, by decide +kernel⟩
theorem wX12_count : wdV yX12_count cX12_count 2 (some .int) 1 := ⟨⟨m5_68, m5_69⟩, m1_13, m5_70, by decide, by decide +kernel⟩
theorem wX12_counted : wdV yX12_counted cX12_counted 2 (some .int) 1 := ⟨⟨m5_74, ms_46⟩, m1_13, m5_75, by decide, by decide +kernel⟩
theorem wX12_digest : wdV yX12_digest cX12_digest 4 (some .long) 0 := ⟨⟨m5_77, m5_78⟩, m1_13, m5_79, by decide, by decide +kernel⟩
theorem wX12_sums : wdV yX12_sums cX12_sums 8 (some .long) 3 := ⟨⟨m5_84, ms_47⟩, m1_13, m5_85, by decide, by decide +kernel⟩
theorem inX4 : ∀ w ∈ u_ws RX4 TX4 2, w ∈ lw_G := by
  intro w hw
  have h : w ∈ [u_lay RX4 TX4 0, u_lay RX4 TX4 1] := hw
  simp only [List.mem_cons, List.not_mem_nil, or_false] at h
  rcases h with rfl | rfl
  · exact m1_132
  · exact m1_134
theorem inX5 : ∀ w ∈ u_ws RX5 TX5 12, w ∈ lw_G := by
  intro w hw
  have h : w ∈ [u_lay RX5 TX5 0, u_lay RX5 TX5 1, u_lay RX5 TX5 2, u_lay RX5 TX5 3, u_lay RX5 TX5 4, u_lay RX5 TX5 5, u_lay RX5 TX5 6, u_lay RX5 TX5 7, u_lay RX5 TX5 8, u_lay RX5 TX5 9, u_lay RX5 TX5 10, u_lay RX5 TX5 11] := hw
  simp only [List.mem_cons, List.not_mem_nil, or_false] at h
  rcases h with rfl | rfl | rfl | rfl | rfl | rfl | rfl | rfl | rfl | rfl | rfl | rfl
  · exact m1_66
  · exact m1_68
  · exact m1_70
  · exact m1_72
  · exact m1_74
  · exact m1_76
  · exact m1_78
  · exact m1_80
  · exact m1_82
  · exact m1_84
  · exact m1_86
  · exact m1_88
theorem inX6 : ∀ w ∈ u_ws RX6 TX6 4, w ∈ lw_G := by
  intro w hw
  have h : w ∈ [u_lay RX6 TX6 0, u_lay RX6 TX6 1, u_lay RX6 TX6 2, u_lay RX6 TX6 3] := hw
  simp only [List.mem_cons, List.not_mem_nil, or_false] at h
  rcases h with rfl | rfl | rfl | rfl
  · exact m1_190
  · exact m1_192
  · exact m1_194
  · exact m1_196
theorem inX8 : ∀ w ∈ u_ws RX8 TX8 4, w ∈ lw_G := by
  intro w hw
  have h : w ∈ [u_lay RX8 TX8 0, u_lay RX8 TX8 1, u_lay RX8 TX8 2, u_lay RX8 TX8 3] := hw
  simp only [List.mem_cons, List.not_mem_nil, or_false] at h
  rcases h with rfl | rfl | rfl | rfl
  · exact m1_212
  · exact m1_214
  · exact m1_216
  · exact m1_218
theorem inX10 : ∀ w ∈ u_ws RX10 TX10 6, w ∈ lw_G := by
  intro w hw
  have h : w ∈ [u_lay RX10 TX10 0, u_lay RX10 TX10 1, u_lay RX10 TX10 2, u_lay RX10 TX10 3, u_lay RX10 TX10 4, u_lay RX10 TX10 5] := hw
  simp only [List.mem_cons, List.not_mem_nil, or_false] at h
  rcases h with rfl | rfl | rfl | rfl | rfl | rfl
  · exact m1_107
  · exact m1_109
  · exact m1_111
  · exact m1_113
  · exact m1_115
  · exact m1_117
theorem inX11 : ∀ w ∈ u_ws RX11 TX11 9, w ∈ lw_G := by
  intro w hw
  have h : w ∈ [u_lay RX11 TX11 0, u_lay RX11 TX11 1, u_lay RX11 TX11 2, u_lay RX11 TX11 3, u_lay RX11 TX11 4, u_lay RX11 TX11 5, u_lay RX11 TX11 6, u_lay RX11 TX11 7, u_lay RX11 TX11 8] := hw
  simp only [List.mem_cons, List.not_mem_nil, or_false] at h
  rcases h with rfl | rfl | rfl | rfl | rfl | rfl | rfl | rfl | rfl
  · exact m1_230
  · exact m1_232
  · exact m1_234
  · exact m1_236
  · exact m1_238
  · exact m2_0
  · exact m2_2
  · exact m2_4
  · exact m2_6
theorem inX12 : ∀ w ∈ u_ws RX12 TX12 19, w ∈ lw_G := by
  intro w hw
  have h : w ∈ [u_lay RX12 TX12 0, u_lay RX12 TX12 1, u_lay RX12 TX12 2, u_lay RX12 TX12 3, u_lay RX12 TX12 4, u_lay RX12 TX12 5, u_lay RX12 TX12 6, u_lay RX12 TX12 7, u_lay RX12 TX12 8, u_lay RX12 TX12 9, u_lay RX12 TX12 10, u_lay RX12 TX12 11, u_lay RX12 TX12 12, u_lay RX12 TX12 13, u_lay RX12 TX12 14, u_lay RX12 TX12 15, u_lay RX12 TX12 16, u_lay RX12 TX12 17, u_lay RX12 TX12 18] := hw
  simp only [List.mem_cons, List.not_mem_nil, or_false] at h
  rcases h with rfl | rfl | rfl | rfl | rfl | rfl | rfl | rfl | rfl | rfl | rfl | rfl | rfl | rfl | rfl | rfl | rfl | rfl | rfl
  · exact m3_227
  · exact m3_229
  · exact m3_231
  · exact m3_233
  · exact m3_235
  · exact m3_237
  · exact m3_239
  · exact m4_1
  · exact m4_3
  · exact m4_5
  · exact m4_7
  · exact m4_9
  · exact m4_11
  · exact m4_13
  · exact m4_15
  · exact m4_17
  · exact m4_19
  · exact m4_21
  · exact m4_23
theorem inX0 : ∀ w ∈ u_ws RX0 TX0 0, w ∈ lw_G := fun w hw => absurd hw List.not_mem_nil
theorem inX1 : ∀ w ∈ u_ws RX1 TX1 0, w ∈ lw_G := fun w hw => absurd hw List.not_mem_nil
theorem inX2 : ∀ w ∈ u_ws RX2 TX2 0, w ∈ lw_G := fun w hw => absurd hw List.not_mem_nil
theorem inX3 : ∀ w ∈ u_ws RX3 TX3 0, w ∈ lw_G := fun w hw => absurd hw List.not_mem_nil
theorem inX7 : ∀ w ∈ u_ws RX7 TX7 0, w ∈ lw_G := fun w hw => absurd hw List.not_mem_nil
theorem inX9 : ∀ w ∈ u_ws RX9 TX9 0, w ∈ lw_G := fun w hw => absurd hw List.not_mem_nil
