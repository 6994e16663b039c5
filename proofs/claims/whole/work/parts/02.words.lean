theorem wd_0 : Cond.initialized "CarrierLinkLaw" ∈ lw_g := lw_gp (lw_t1 (List.mem_of_getElem? (i := 0) rfl)) rfl
theorem wd_1 : Cond.initialized "CarrierLink" ∈ lw_g := lw_gp (lw_t1 (List.mem_of_getElem? (i := 1) rfl)) rfl
theorem wd_2 : Cond.initialized "CarrierLink$Wave" ∈ lw_g := lw_gp (lw_t1 (List.mem_of_getElem? (i := 2) rfl)) rfl
theorem wd_3 : Cond.initialized "CarrierLink$Points" ∈ lw_g := lw_gp (lw_t1 (List.mem_of_getElem? (i := 3) rfl)) rfl
theorem wd_4 : Cond.initialized "CarrierLink$Sender" ∈ lw_g := lw_gp (lw_t1 (List.mem_of_getElem? (i := 4) rfl)) rfl
theorem wd_5 : Cond.initialized "CarrierLink$BitRows" ∈ lw_g := lw_gp (lw_t1 (List.mem_of_getElem? (i := 5) rfl)) rfl
theorem wd_6 : Cond.initialized "CarrierLink$Scrambler" ∈ lw_g := lw_gp (lw_t1 (List.mem_of_getElem? (i := 6) rfl)) rfl
theorem wd_7 : Cond.initialized "CarrierLink$Receiver" ∈ lw_g := lw_gp (lw_t1 (List.mem_of_getElem? (i := 7) rfl)) rfl
theorem wd_8 : Cond.initialized "java/util/Arrays" ∈ lw_g := lw_gp (lw_t1 (List.mem_of_getElem? (i := 8) rfl)) rfl
theorem wd_9 : Cond.initialized "CarrierLink$Paths" ∈ lw_g := lw_gp (lw_t1 (List.mem_of_getElem? (i := 9) rfl)) rfl
theorem wd_10 : Cond.initialized "java/lang/Integer" ∈ lw_g := lw_gp (lw_t1 (List.mem_of_getElem? (i := 10) rfl)) rfl
theorem wd_11 : Cond.initialized "CarrierLinkModel" ∈ lw_g := lw_gp (lw_t1 (List.mem_of_getElem? (i := 11) rfl)) rfl
theorem wd_12 : Cond.initialized "java/lang/Throwable" ∈ lw_g := lw_gp (lw_t1 (List.mem_of_getElem? (i := 12) rfl)) rfl
theorem wd_13 : Cond.initialized "java/lang/Exception" ∈ lw_g := lw_gp (lw_t1 (List.mem_of_getElem? (i := 13) rfl)) rfl
theorem wd_14 : Cond.initialized "java/lang/RuntimeException" ∈ lw_g := lw_gp (lw_t1 (List.mem_of_getElem? (i := 14) rfl)) rfl
theorem wd_15 : Cond.initialized "java/lang/IllegalArgumentException" ∈ lw_g := lw_gp (lw_t1 (List.mem_of_getElem? (i := 15) rfl)) rfl
theorem wd_16 : Cond.initialized "java/lang/IllegalStateException" ∈ lw_g := lw_gp (lw_t1 (List.mem_of_getElem? (i := 16) rfl)) rfl
theorem wd_17 : Cond.initialized "java/lang/Math" ∈ lw_g := lw_gp (lw_t1 (List.mem_of_getElem? (i := 17) rfl)) rfl
theorem wd_18 : Cond.initialized "java/lang/IndexOutOfBoundsException" ∈ lw_g := lw_gp (lw_t1 (List.mem_of_getElem? (i := 18) rfl)) rfl
theorem wd_19 : Cond.classLink "CarrierLinkLaw" (8 : Nat) "CarrierLink" ∈ lw_g := lw_gp (lw_t1 (List.mem_of_getElem? (i := 19) rfl)) rfl
theorem wd_20 : Cond.instantiable "CarrierLink" (6 : Nat) ∈ lw_g := lw_gp (lw_t1 (List.mem_of_getElem? (i := 20) rfl)) rfl
theorem wd_21 : Cond.methodLink "CarrierLinkLaw" (31 : Nat) ({ cls := "CarrierLink", name := "<init>", desc := "()V" } : MethodName) ∈ lw_g := lw_gp (lw_t1 (List.mem_of_getElem? (i := 21) rfl)) rfl
theorem wd_22 : Cond.instanceMethod ({ cls := "CarrierLink", name := "<init>", desc := "()V" } : MethodName) ∈ lw_g := lw_gp (lw_t1 (List.mem_of_getElem? (i := 22) rfl)) rfl
theorem wd_23 : Cond.code ({ cls := "CarrierLink", name := "<init>", desc := "()V" } : MethodName) prog_1_method_1_code (2 : Nat) (Option.none : Option FieldType) ∈ lw_g := lw_gp (lw_t1 (List.mem_of_getElem? (i := 23) rfl)) rfl
theorem wd_24 : Cond.methodLink "CarrierLink" (3 : Nat) ({ cls := "java/lang/Object", name := "<init>", desc := "()V" } : MethodName) ∈ lw_g := lw_gp (lw_t1 (List.mem_of_getElem? (i := 24) rfl)) rfl
theorem wd_25 : Cond.instanceMethod ({ cls := "java/lang/Object", name := "<init>", desc := "()V" } : MethodName) ∈ lw_g := lw_gp (lw_t1 (List.mem_of_getElem? (i := 25) rfl)) rfl
theorem wd_26 : Cond.code ({ cls := "java/lang/Object", name := "<init>", desc := "()V" } : MethodName) object_method_1_code (1 : Nat) (Option.none : Option FieldType) ∈ lw_g := lw_gp (lw_t1 (List.mem_of_getElem? (i := 26) rfl)) rfl
theorem wd_27 : Cond.classLink "CarrierLink" (17 : Nat) "CarrierLink$Wave" ∈ lw_g := lw_gp (lw_t1 (List.mem_of_getElem? (i := 27) rfl)) rfl
theorem wd_28 : Cond.instantiable "CarrierLink$Wave" (3 : Nat) ∈ lw_g := lw_gp (lw_t1 (List.mem_of_getElem? (i := 28) rfl)) rfl
theorem wd_29 : Cond.methodLink "CarrierLink" (19 : Nat) ({ cls := "CarrierLink$Wave", name := "<init>", desc := "(I)V" } : MethodName) ∈ lw_g := lw_gp (lw_t1 (List.mem_of_getElem? (i := 29) rfl)) rfl
theorem wd_30 : Cond.instanceMethod ({ cls := "CarrierLink$Wave", name := "<init>", desc := "(I)V" } : MethodName) ∈ lw_g := lw_gp (lw_t1 (List.mem_of_getElem? (i := 30) rfl)) rfl
theorem wd_31 : Cond.code ({ cls := "CarrierLink$Wave", name := "<init>", desc := "(I)V" } : MethodName) prog_8_method_1_code (2 : Nat) (Option.none : Option FieldType) ∈ lw_g := lw_gp (lw_t1 (List.mem_of_getElem? (i := 31) rfl)) rfl
theorem wd_32 : Cond.methodLink "CarrierLink$Wave" (1 : Nat) ({ cls := "java/lang/Object", name := "<init>", desc := "()V" } : MethodName) ∈ lw_g := lw_gp (lw_t1 (List.mem_of_getElem? (i := 32) rfl)) rfl
theorem wd_33 : Cond.fieldLink "CarrierLink$Wave" (7 : Nat) "CarrierLink$Wave" "i" "[S" ∈ lw_g := lw_gp (lw_t1 (List.mem_of_getElem? (i := 33) rfl)) rfl
theorem wd_34 : Cond.fieldLink "CarrierLink$Points" (31 : Nat) "CarrierLink$Wave" "i" "[S" ∈ lw_g := lw_gp (lw_t1 (List.mem_of_getElem? (i := 34) rfl)) rfl
theorem wd_35 : Cond.fieldLink "CarrierLink$Receiver" (123 : Nat) "CarrierLink$Wave" "i" "[S" ∈ lw_g := lw_gp (lw_t1 (List.mem_of_getElem? (i := 35) rfl)) rfl
theorem wd_36 : Cond.fieldLink "CarrierLink" (110 : Nat) "CarrierLink$Wave" "i" "[S" ∈ lw_g := lw_gp (lw_t1 (List.mem_of_getElem? (i := 36) rfl)) rfl
theorem wd_37 : Cond.fieldLink "CarrierLink$Wave" (13 : Nat) "CarrierLink$Wave" "q" "[S" ∈ lw_g := lw_gp (lw_t1 (List.mem_of_getElem? (i := 37) rfl)) rfl
theorem wd_38 : Cond.fieldLink "CarrierLink$Points" (37 : Nat) "CarrierLink$Wave" "q" "[S" ∈ lw_g := lw_gp (lw_t1 (List.mem_of_getElem? (i := 38) rfl)) rfl
theorem wd_39 : Cond.fieldLink "CarrierLink$Receiver" (127 : Nat) "CarrierLink$Wave" "q" "[S" ∈ lw_g := lw_gp (lw_t1 (List.mem_of_getElem? (i := 39) rfl)) rfl
theorem wd_40 : Cond.fieldLink "CarrierLink" (106 : Nat) "CarrierLink$Wave" "q" "[S" ∈ lw_g := lw_gp (lw_t1 (List.mem_of_getElem? (i := 40) rfl)) rfl
theorem wd_41 : Cond.fieldLink "CarrierLink$Wave" (16 : Nat) "CarrierLink$Wave" "count" "I" ∈ lw_g := lw_gp (lw_t1 (List.mem_of_getElem? (i := 41) rfl)) rfl
theorem wd_42 : Cond.fieldLink "CarrierLink$Receiver" (98 : Nat) "CarrierLink$Wave" "count" "I" ∈ lw_g := lw_gp (lw_t1 (List.mem_of_getElem? (i := 42) rfl)) rfl
theorem wd_43 : Cond.fieldLink "CarrierLink" (69 : Nat) "CarrierLink$Wave" "count" "I" ∈ lw_g := lw_gp (lw_t1 (List.mem_of_getElem? (i := 43) rfl)) rfl
theorem wd_44 : Cond.laysFinal "CarrierLink$Wave" "CarrierLink$Wave" "i" "[S" ∈ lw_g := lw_gp (lw_t1 (List.mem_of_getElem? (i := 44) rfl)) rfl
theorem wd_45 : Cond.soleField "CarrierLink$Wave" "i" ∈ lw_g := lw_gp (lw_t1 (List.mem_of_getElem? (i := 45) rfl)) rfl
theorem wd_46 : Cond.laysFinal "CarrierLink$Wave" "CarrierLink$Wave" "q" "[S" ∈ lw_g := lw_gp (lw_t1 (List.mem_of_getElem? (i := 46) rfl)) rfl
theorem wd_47 : Cond.soleField "CarrierLink$Wave" "q" ∈ lw_g := lw_gp (lw_t1 (List.mem_of_getElem? (i := 47) rfl)) rfl
theorem wd_48 : Cond.lays "CarrierLink$Wave" "CarrierLink$Wave" "count" "I" ∈ lw_g := lw_gp (lw_t1 (List.mem_of_getElem? (i := 48) rfl)) rfl
theorem wd_49 : Cond.soleField "CarrierLink$Wave" "count" ∈ lw_g := lw_gp (lw_t1 (List.mem_of_getElem? (i := 49) rfl)) rfl
theorem wd_50 : Cond.superclass "CarrierLink$Wave" "java/lang/Object" ∈ lw_g := lw_gp (lw_t1 (List.mem_of_getElem? (i := 50) rfl)) rfl
theorem wd_51 : Cond.arrayClass FieldType.int ∈ lw_g := lw_gp (lw_t1 (List.mem_of_getElem? (i := 51) rfl)) rfl
theorem wd_52 : Cond.arrayClass FieldType.short ∈ lw_g := lw_gp (lw_t1 (List.mem_of_getElem? (i := 52) rfl)) rfl
theorem wd_53 : Cond.classLink "CarrierLink" (29 : Nat) "CarrierLink$Points" ∈ lw_g := lw_gp (lw_t1 (List.mem_of_getElem? (i := 53) rfl)) rfl
theorem wd_54 : Cond.instantiable "CarrierLink$Points" (2 : Nat) ∈ lw_g := lw_gp (lw_t1 (List.mem_of_getElem? (i := 54) rfl)) rfl
theorem wd_55 : Cond.methodLink "CarrierLink" (31 : Nat) ({ cls := "CarrierLink$Points", name := "<init>", desc := "()V" } : MethodName) ∈ lw_g := lw_gp (lw_t1 (List.mem_of_getElem? (i := 55) rfl)) rfl
theorem wd_56 : Cond.instanceMethod ({ cls := "CarrierLink$Points", name := "<init>", desc := "()V" } : MethodName) ∈ lw_g := lw_gp (lw_t1 (List.mem_of_getElem? (i := 56) rfl)) rfl
theorem wd_57 : Cond.code ({ cls := "CarrierLink$Points", name := "<init>", desc := "()V" } : MethodName) prog_4_method_1_code (1 : Nat) (Option.none : Option FieldType) ∈ lw_g := lw_gp (lw_t1 (List.mem_of_getElem? (i := 57) rfl)) rfl
theorem wd_58 : Cond.methodLink "CarrierLink$Points" (3 : Nat) ({ cls := "java/lang/Object", name := "<init>", desc := "()V" } : MethodName) ∈ lw_g := lw_gp (lw_t1 (List.mem_of_getElem? (i := 58) rfl)) rfl
theorem wd_59 : Cond.fieldLink "CarrierLink$Points" (9 : Nat) "CarrierLink$Points" "real" "[I" ∈ lw_g := lw_gp (lw_t1 (List.mem_of_getElem? (i := 59) rfl)) rfl
theorem wd_60 : Cond.fieldLink "CarrierLink$Sender" (74 : Nat) "CarrierLink$Points" "real" "[I" ∈ lw_g := lw_gp (lw_t1 (List.mem_of_getElem? (i := 60) rfl)) rfl
theorem wd_61 : Cond.fieldLink "CarrierLink$Receiver" (130 : Nat) "CarrierLink$Points" "real" "[I" ∈ lw_g := lw_gp (lw_t1 (List.mem_of_getElem? (i := 61) rfl)) rfl
theorem wd_62 : Cond.fieldLink "CarrierLink" (161 : Nat) "CarrierLink$Points" "real" "[I" ∈ lw_g := lw_gp (lw_t1 (List.mem_of_getElem? (i := 62) rfl)) rfl
theorem wd_63 : Cond.fieldLink "CarrierLink$Points" (15 : Nat) "CarrierLink$Points" "imaginary" "[I" ∈ lw_g := lw_gp (lw_t1 (List.mem_of_getElem? (i := 63) rfl)) rfl
theorem wd_64 : Cond.fieldLink "CarrierLink$Sender" (78 : Nat) "CarrierLink$Points" "imaginary" "[I" ∈ lw_g := lw_gp (lw_t1 (List.mem_of_getElem? (i := 64) rfl)) rfl
theorem wd_65 : Cond.fieldLink "CarrierLink$Receiver" (133 : Nat) "CarrierLink$Points" "imaginary" "[I" ∈ lw_g := lw_gp (lw_t1 (List.mem_of_getElem? (i := 65) rfl)) rfl
theorem wd_66 : Cond.fieldLink "CarrierLink" (158 : Nat) "CarrierLink$Points" "imaginary" "[I" ∈ lw_g := lw_gp (lw_t1 (List.mem_of_getElem? (i := 66) rfl)) rfl
theorem wd_67 : Cond.laysFinal "CarrierLink$Points" "CarrierLink$Points" "real" "[I" ∈ lw_g := lw_gp (lw_t1 (List.mem_of_getElem? (i := 67) rfl)) rfl
theorem wd_68 : Cond.soleField "CarrierLink$Points" "real" ∈ lw_g := lw_gp (lw_t1 (List.mem_of_getElem? (i := 68) rfl)) rfl
theorem wd_69 : Cond.laysFinal "CarrierLink$Points" "CarrierLink$Points" "imaginary" "[I" ∈ lw_g := lw_gp (lw_t1 (List.mem_of_getElem? (i := 69) rfl)) rfl
theorem wd_70 : Cond.soleField "CarrierLink$Points" "imaginary" ∈ lw_g := lw_gp (lw_t1 (List.mem_of_getElem? (i := 70) rfl)) rfl
theorem wd_71 : Cond.superclass "CarrierLink$Points" "java/lang/Object" ∈ lw_g := lw_gp (lw_t1 (List.mem_of_getElem? (i := 71) rfl)) rfl
theorem wd_72 : Cond.methodLink "CarrierLink" (32 : Nat) ({ cls := "CarrierLink$Points", name := "makeTraining", desc := "()V" } : MethodName) ∈ lw_g := lw_gp (lw_t1 (List.mem_of_getElem? (i := 72) rfl)) rfl
theorem wd_73 : Cond.instanceMethod ({ cls := "CarrierLink$Points", name := "makeTraining", desc := "()V" } : MethodName) ∈ lw_g := lw_gp (lw_t1 (List.mem_of_getElem? (i := 73) rfl)) rfl
theorem wd_74 : Cond.selects "CarrierLink$Points" ({ cls := "CarrierLink$Points", name := "makeTraining", desc := "()V" } : MethodName) ({ cls := "CarrierLink$Points", name := "makeTraining", desc := "()V" } : MethodName) ∈ lw_g := lw_gp (lw_t1 (List.mem_of_getElem? (i := 74) rfl)) rfl
theorem wd_75 : Cond.code ({ cls := "CarrierLink$Points", name := "makeTraining", desc := "()V" } : MethodName) prog_4_method_3_code (2 : Nat) (Option.none : Option FieldType) ∈ lw_g := lw_gp (lw_t1 (List.mem_of_getElem? (i := 75) rfl)) rfl
theorem wd_76 : Cond.fieldLinkNest "CarrierLink$Points" (24 : Nat) "CarrierLink" "TRAINING_SIGN" "[I" "CarrierLink" ∈ lw_n := lw_np (lw_t1 (List.mem_of_getElem? (i := 76) rfl)) rfl
theorem wd_78 : Cond.methodLink "CarrierLink$Points" (27 : Nat) ({ cls := "CarrierLink$Points", name := "transform", desc := "(I)V" } : MethodName) ∈ lw_g := lw_gp (lw_t1 (List.mem_of_getElem? (i := 78) rfl)) rfl
theorem wd_79 : Cond.instanceMethod ({ cls := "CarrierLink$Points", name := "transform", desc := "(I)V" } : MethodName) ∈ lw_g := lw_gp (lw_t1 (List.mem_of_getElem? (i := 79) rfl)) rfl
theorem wd_80 : Cond.selects "CarrierLink$Points" ({ cls := "CarrierLink$Points", name := "transform", desc := "(I)V" } : MethodName) ({ cls := "CarrierLink$Points", name := "transform", desc := "(I)V" } : MethodName) ∈ lw_g := lw_gp (lw_t1 (List.mem_of_getElem? (i := 80) rfl)) rfl
theorem wd_81 : Cond.code ({ cls := "CarrierLink$Points", name := "transform", desc := "(I)V" } : MethodName) prog_4_method_5_code (11 : Nat) (Option.none : Option FieldType) ∈ lw_g := lw_gp (lw_t1 (List.mem_of_getElem? (i := 81) rfl)) rfl
theorem wd_82 : Cond.methodLink "CarrierLink$Points" (40 : Nat) ({ cls := "CarrierLink$Points", name := "turnRound", desc := "()V" } : MethodName) ∈ lw_g := lw_gp (lw_t1 (List.mem_of_getElem? (i := 82) rfl)) rfl
theorem wd_84 : Cond.instanceMethod ({ cls := "CarrierLink$Points", name := "turnRound", desc := "()V" } : MethodName) ∈ lw_g := lw_gp (lw_t1 (List.mem_of_getElem? (i := 84) rfl)) rfl
theorem wd_85 : Cond.code ({ cls := "CarrierLink$Points", name := "turnRound", desc := "()V" } : MethodName) prog_4_method_7_code (5 : Nat) (Option.none : Option FieldType) ∈ lw_g := lw_gp (lw_t1 (List.mem_of_getElem? (i := 85) rfl)) rfl
theorem wd_86 : Cond.fieldLinkNest "CarrierLink$Points" (52 : Nat) "CarrierLink" "TURNED_ROUND" "[I" "CarrierLink" ∈ lw_n := lw_np (lw_t1 (List.mem_of_getElem? (i := 86) rfl)) rfl
theorem wd_88 : Cond.fieldLinkNest "CarrierLink$Points" (43 : Nat) "CarrierLink" "COSINE" "[I" "CarrierLink" ∈ lw_n := lw_np (lw_t1 (List.mem_of_getElem? (i := 88) rfl)) rfl
theorem wd_90 : Cond.methodLink "CarrierLink$Points" (46 : Nat) ({ cls := "CarrierLink$Points", name := "join", desc := "(IIJJI)V" } : MethodName) ∈ lw_g := lw_gp (lw_t1 (List.mem_of_getElem? (i := 90) rfl)) rfl
theorem wd_92 : Cond.instanceMethod ({ cls := "CarrierLink$Points", name := "join", desc := "(IIJJI)V" } : MethodName) ∈ lw_g := lw_gp (lw_t1 (List.mem_of_getElem? (i := 92) rfl)) rfl
theorem wd_93 : Cond.code ({ cls := "CarrierLink$Points", name := "join", desc := "(IIJJI)V" } : MethodName) prog_4_method_6_code (12 : Nat) (Option.none : Option FieldType) ∈ lw_g := lw_gp (lw_t1 (List.mem_of_getElem? (i := 93) rfl)) rfl
theorem wd_94 : Cond.constantLong "CarrierLink$Points" (50 : Nat) (8192 : Int64) ∈ lw_g := lw_gp (lw_t1 (List.mem_of_getElem? (i := 94) rfl)) rfl
theorem wd_95 : Cond.classLink "CarrierLink" (35 : Nat) "CarrierLink$Sender" ∈ lw_g := lw_gp (lw_t1 (List.mem_of_getElem? (i := 95) rfl)) rfl
theorem wd_96 : Cond.instantiable "CarrierLink$Sender" (7 : Nat) ∈ lw_g := lw_gp (lw_t1 (List.mem_of_getElem? (i := 96) rfl)) rfl
theorem wd_97 : Cond.methodLink "CarrierLink" (37 : Nat) ({ cls := "CarrierLink$Sender", name := "<init>", desc := "(LCarrierLink$Wave;LCarrierLink$Points;)V" } : MethodName) ∈ lw_g := lw_gp (lw_t1 (List.mem_of_getElem? (i := 97) rfl)) rfl
theorem wd_98 : Cond.instanceMethod ({ cls := "CarrierLink$Sender", name := "<init>", desc := "(LCarrierLink$Wave;LCarrierLink$Points;)V" } : MethodName) ∈ lw_g := lw_gp (lw_t1 (List.mem_of_getElem? (i := 98) rfl)) rfl
theorem wd_99 : Cond.code ({ cls := "CarrierLink$Sender", name := "<init>", desc := "(LCarrierLink$Wave;LCarrierLink$Points;)V" } : MethodName) prog_7_method_1_code (3 : Nat) (Option.none : Option FieldType) ∈ lw_g := lw_gp (lw_t1 (List.mem_of_getElem? (i := 99) rfl)) rfl
theorem wd_100 : Cond.methodLink "CarrierLink$Sender" (3 : Nat) ({ cls := "java/lang/Object", name := "<init>", desc := "()V" } : MethodName) ∈ lw_g := lw_gp (lw_t1 (List.mem_of_getElem? (i := 100) rfl)) rfl
theorem wd_101 : Cond.classLink "CarrierLink$Sender" (9 : Nat) "CarrierLink$BitRows" ∈ lw_g := lw_gp (lw_t1 (List.mem_of_getElem? (i := 101) rfl)) rfl
theorem wd_102 : Cond.instantiable "CarrierLink$BitRows" (5 : Nat) ∈ lw_g := lw_gp (lw_t1 (List.mem_of_getElem? (i := 102) rfl)) rfl
theorem wd_103 : Cond.methodLink "CarrierLink$Sender" (11 : Nat) ({ cls := "CarrierLink$BitRows", name := "<init>", desc := "(II)V" } : MethodName) ∈ lw_g := lw_gp (lw_t1 (List.mem_of_getElem? (i := 103) rfl)) rfl
theorem wd_104 : Cond.instanceMethod ({ cls := "CarrierLink$BitRows", name := "<init>", desc := "(II)V" } : MethodName) ∈ lw_g := lw_gp (lw_t1 (List.mem_of_getElem? (i := 104) rfl)) rfl
theorem wd_105 : Cond.code ({ cls := "CarrierLink$BitRows", name := "<init>", desc := "(II)V" } : MethodName) prog_2_method_1_code (3 : Nat) (Option.none : Option FieldType) ∈ lw_g := lw_gp (lw_t1 (List.mem_of_getElem? (i := 105) rfl)) rfl
theorem wd_106 : Cond.methodLink "CarrierLink$BitRows" (3 : Nat) ({ cls := "java/lang/Object", name := "<init>", desc := "()V" } : MethodName) ∈ lw_g := lw_gp (lw_t1 (List.mem_of_getElem? (i := 106) rfl)) rfl
theorem wd_107 : Cond.fieldLink "CarrierLink$BitRows" (9 : Nat) "CarrierLink$BitRows" "plain" "[I" ∈ lw_g := lw_gp (lw_t1 (List.mem_of_getElem? (i := 107) rfl)) rfl
theorem wd_108 : Cond.fieldLink "CarrierLink" (76 : Nat) "CarrierLink$BitRows" "plain" "[I" ∈ lw_g := lw_gp (lw_t1 (List.mem_of_getElem? (i := 108) rfl)) rfl
theorem wd_109 : Cond.fieldLink "CarrierLink$Sender" (120 : Nat) "CarrierLink$BitRows" "plain" "[I" ∈ lw_g := lw_gp (lw_t1 (List.mem_of_getElem? (i := 109) rfl)) rfl
theorem wd_110 : Cond.fieldLink "CarrierLink$BitRows" (15 : Nat) "CarrierLink$BitRows" "coded" "[I" ∈ lw_g := lw_gp (lw_t1 (List.mem_of_getElem? (i := 110) rfl)) rfl
theorem wd_111 : Cond.fieldLink "CarrierLink" (88 : Nat) "CarrierLink$BitRows" "coded" "[I" ∈ lw_g := lw_gp (lw_t1 (List.mem_of_getElem? (i := 111) rfl)) rfl
theorem wd_112 : Cond.fieldLink "CarrierLink$BitRows" (18 : Nat) "CarrierLink$BitRows" "placed" "[I" ∈ lw_g := lw_gp (lw_t1 (List.mem_of_getElem? (i := 112) rfl)) rfl
theorem wd_113 : Cond.fieldLink "CarrierLink" (94 : Nat) "CarrierLink$BitRows" "placed" "[I" ∈ lw_g := lw_gp (lw_t1 (List.mem_of_getElem? (i := 113) rfl)) rfl
theorem wd_114 : Cond.fieldLink "CarrierLink$Sender" (133 : Nat) "CarrierLink$BitRows" "placed" "[I" ∈ lw_g := lw_gp (lw_t1 (List.mem_of_getElem? (i := 114) rfl)) rfl
theorem wd_115 : Cond.fieldLink "CarrierLink$BitRows" (21 : Nat) "CarrierLink$BitRows" "plainCount" "I" ∈ lw_g := lw_gp (lw_t1 (List.mem_of_getElem? (i := 115) rfl)) rfl
theorem wd_116 : Cond.fieldLink "CarrierLink" (81 : Nat) "CarrierLink$BitRows" "plainCount" "I" ∈ lw_g := lw_gp (lw_t1 (List.mem_of_getElem? (i := 116) rfl)) rfl
theorem wd_117 : Cond.fieldLink "CarrierLink$Sender" (102 : Nat) "CarrierLink$BitRows" "plainCount" "I" ∈ lw_g := lw_gp (lw_t1 (List.mem_of_getElem? (i := 117) rfl)) rfl
theorem wd_118 : Cond.fieldLink "CarrierLink$BitRows" (25 : Nat) "CarrierLink$BitRows" "codedCount" "I" ∈ lw_g := lw_gp (lw_t1 (List.mem_of_getElem? (i := 118) rfl)) rfl
theorem wd_119 : Cond.fieldLink "CarrierLink" (91 : Nat) "CarrierLink$BitRows" "codedCount" "I" ∈ lw_g := lw_gp (lw_t1 (List.mem_of_getElem? (i := 119) rfl)) rfl
theorem wd_120 : Cond.fieldLink "CarrierLink$Sender" (126 : Nat) "CarrierLink$BitRows" "codedCount" "I" ∈ lw_g := lw_gp (lw_t1 (List.mem_of_getElem? (i := 120) rfl)) rfl
theorem wd_121 : Cond.laysFinal "CarrierLink$BitRows" "CarrierLink$BitRows" "plain" "[I" ∈ lw_g := lw_gp (lw_t1 (List.mem_of_getElem? (i := 121) rfl)) rfl
theorem wd_122 : Cond.soleField "CarrierLink$BitRows" "plain" ∈ lw_g := lw_gp (lw_t1 (List.mem_of_getElem? (i := 122) rfl)) rfl
theorem wd_123 : Cond.laysFinal "CarrierLink$BitRows" "CarrierLink$BitRows" "coded" "[I" ∈ lw_g := lw_gp (lw_t1 (List.mem_of_getElem? (i := 123) rfl)) rfl
theorem wd_124 : Cond.soleField "CarrierLink$BitRows" "coded" ∈ lw_g := lw_gp (lw_t1 (List.mem_of_getElem? (i := 124) rfl)) rfl
theorem wd_125 : Cond.laysFinal "CarrierLink$BitRows" "CarrierLink$BitRows" "placed" "[I" ∈ lw_g := lw_gp (lw_t1 (List.mem_of_getElem? (i := 125) rfl)) rfl
theorem wd_126 : Cond.soleField "CarrierLink$BitRows" "placed" ∈ lw_g := lw_gp (lw_t1 (List.mem_of_getElem? (i := 126) rfl)) rfl
theorem wd_127 : Cond.lays "CarrierLink$BitRows" "CarrierLink$BitRows" "plainCount" "I" ∈ lw_g := lw_gp (lw_t1 (List.mem_of_getElem? (i := 127) rfl)) rfl
theorem wd_128 : Cond.soleField "CarrierLink$BitRows" "plainCount" ∈ lw_g := lw_gp (lw_t1 (List.mem_of_getElem? (i := 128) rfl)) rfl
theorem wd_129 : Cond.lays "CarrierLink$BitRows" "CarrierLink$BitRows" "codedCount" "I" ∈ lw_g := lw_gp (lw_t1 (List.mem_of_getElem? (i := 129) rfl)) rfl
theorem wd_130 : Cond.soleField "CarrierLink$BitRows" "codedCount" ∈ lw_g := lw_gp (lw_t1 (List.mem_of_getElem? (i := 130) rfl)) rfl
theorem wd_131 : Cond.superclass "CarrierLink$BitRows" "java/lang/Object" ∈ lw_g := lw_gp (lw_t1 (List.mem_of_getElem? (i := 131) rfl)) rfl
theorem wd_132 : Cond.classLink "CarrierLink$Sender" (31 : Nat) "CarrierLink$Points" ∈ lw_g := lw_gp (lw_t1 (List.mem_of_getElem? (i := 132) rfl)) rfl
theorem wd_133 : Cond.methodLink "CarrierLink$Sender" (33 : Nat) ({ cls := "CarrierLink$Points", name := "<init>", desc := "()V" } : MethodName) ∈ lw_g := lw_gp (lw_t1 (List.mem_of_getElem? (i := 133) rfl)) rfl
theorem wd_134 : Cond.classLink "CarrierLink$Sender" (37 : Nat) "CarrierLink$Scrambler" ∈ lw_g := lw_gp (lw_t1 (List.mem_of_getElem? (i := 134) rfl)) rfl
theorem wd_135 : Cond.instantiable "CarrierLink$Scrambler" (1 : Nat) ∈ lw_g := lw_gp (lw_t1 (List.mem_of_getElem? (i := 135) rfl)) rfl
theorem wd_136 : Cond.methodLink "CarrierLink$Sender" (39 : Nat) ({ cls := "CarrierLink$Scrambler", name := "<init>", desc := "()V" } : MethodName) ∈ lw_g := lw_gp (lw_t1 (List.mem_of_getElem? (i := 136) rfl)) rfl
theorem wd_137 : Cond.instanceMethod ({ cls := "CarrierLink$Scrambler", name := "<init>", desc := "()V" } : MethodName) ∈ lw_g := lw_gp (lw_t1 (List.mem_of_getElem? (i := 137) rfl)) rfl
theorem wd_138 : Cond.code ({ cls := "CarrierLink$Scrambler", name := "<init>", desc := "()V" } : MethodName) prog_6_method_1_code (1 : Nat) (Option.none : Option FieldType) ∈ lw_g := lw_gp (lw_t1 (List.mem_of_getElem? (i := 138) rfl)) rfl
theorem wd_139 : Cond.methodLink "CarrierLink$Scrambler" (3 : Nat) ({ cls := "java/lang/Object", name := "<init>", desc := "()V" } : MethodName) ∈ lw_g := lw_gp (lw_t1 (List.mem_of_getElem? (i := 139) rfl)) rfl
theorem wd_140 : Cond.fieldLink "CarrierLink$Scrambler" (9 : Nat) "CarrierLink$Scrambler" "state" "I" ∈ lw_g := lw_gp (lw_t1 (List.mem_of_getElem? (i := 140) rfl)) rfl
theorem wd_141 : Cond.lays "CarrierLink$Scrambler" "CarrierLink$Scrambler" "state" "I" ∈ lw_g := lw_gp (lw_t1 (List.mem_of_getElem? (i := 141) rfl)) rfl
theorem wd_142 : Cond.soleField "CarrierLink$Scrambler" "state" ∈ lw_g := lw_gp (lw_t1 (List.mem_of_getElem? (i := 142) rfl)) rfl
theorem wd_143 : Cond.superclass "CarrierLink$Scrambler" "java/lang/Object" ∈ lw_g := lw_gp (lw_t1 (List.mem_of_getElem? (i := 143) rfl)) rfl
theorem wd_144 : Cond.fieldLink "CarrierLink$Sender" (14 : Nat) "CarrierLink$Sender" "data" "LCarrierLink$BitRows;" ∈ lw_g := lw_gp (lw_t1 (List.mem_of_getElem? (i := 144) rfl)) rfl
theorem wd_145 : Cond.fieldLink "CarrierLink" (72 : Nat) "CarrierLink$Sender" "data" "LCarrierLink$BitRows;" ∈ lw_g := lw_gp (lw_t1 (List.mem_of_getElem? (i := 145) rfl)) rfl
theorem wd_146 : Cond.fieldLink "CarrierLink$Sender" (20 : Nat) "CarrierLink$Sender" "signal" "LCarrierLink$BitRows;" ∈ lw_g := lw_gp (lw_t1 (List.mem_of_getElem? (i := 146) rfl)) rfl
theorem wd_147 : Cond.fieldLink "CarrierLink$Sender" (23 : Nat) "CarrierLink$Sender" "frame" "LCarrierLink$Wave;" ∈ lw_g := lw_gp (lw_t1 (List.mem_of_getElem? (i := 147) rfl)) rfl
theorem wd_148 : Cond.fieldLink "CarrierLink$Sender" (27 : Nat) "CarrierLink$Sender" "training" "LCarrierLink$Points;" ∈ lw_g := lw_gp (lw_t1 (List.mem_of_getElem? (i := 148) rfl)) rfl
theorem wd_149 : Cond.fieldLink "CarrierLink$Sender" (34 : Nat) "CarrierLink$Sender" "points" "LCarrierLink$Points;" ∈ lw_g := lw_gp (lw_t1 (List.mem_of_getElem? (i := 149) rfl)) rfl
theorem wd_150 : Cond.fieldLink "CarrierLink$Sender" (40 : Nat) "CarrierLink$Sender" "scrambler" "LCarrierLink$Scrambler;" ∈ lw_g := lw_gp (lw_t1 (List.mem_of_getElem? (i := 150) rfl)) rfl
theorem wd_151 : Cond.fieldLink "CarrierLink$Sender" (44 : Nat) "CarrierLink$Sender" "pilots" "LCarrierLink$Scrambler;" ∈ lw_g := lw_gp (lw_t1 (List.mem_of_getElem? (i := 151) rfl)) rfl
theorem wd_152 : Cond.laysFinal "CarrierLink$Sender" "CarrierLink$Sender" "data" "LCarrierLink$BitRows;" ∈ lw_g := lw_gp (lw_t1 (List.mem_of_getElem? (i := 152) rfl)) rfl
theorem wd_153 : Cond.soleField "CarrierLink$Sender" "data" ∈ lw_g := lw_gp (lw_t1 (List.mem_of_getElem? (i := 153) rfl)) rfl
theorem wd_154 : Cond.laysFinal "CarrierLink$Sender" "CarrierLink$Sender" "signal" "LCarrierLink$BitRows;" ∈ lw_g := lw_gp (lw_t1 (List.mem_of_getElem? (i := 154) rfl)) rfl
theorem wd_155 : Cond.soleField "CarrierLink$Sender" "signal" ∈ lw_g := lw_gp (lw_t1 (List.mem_of_getElem? (i := 155) rfl)) rfl
theorem wd_156 : Cond.laysFinal "CarrierLink$Sender" "CarrierLink$Sender" "frame" "LCarrierLink$Wave;" ∈ lw_g := lw_gp (lw_t1 (List.mem_of_getElem? (i := 156) rfl)) rfl
theorem wd_157 : Cond.soleField "CarrierLink$Sender" "frame" ∈ lw_g := lw_gp (lw_t1 (List.mem_of_getElem? (i := 157) rfl)) rfl
theorem wd_158 : Cond.laysFinal "CarrierLink$Sender" "CarrierLink$Sender" "training" "LCarrierLink$Points;" ∈ lw_g := lw_gp (lw_t1 (List.mem_of_getElem? (i := 158) rfl)) rfl
theorem wd_159 : Cond.soleField "CarrierLink$Sender" "training" ∈ lw_g := lw_gp (lw_t1 (List.mem_of_getElem? (i := 159) rfl)) rfl
theorem wd_160 : Cond.laysFinal "CarrierLink$Sender" "CarrierLink$Sender" "points" "LCarrierLink$Points;" ∈ lw_g := lw_gp (lw_t1 (List.mem_of_getElem? (i := 160) rfl)) rfl
theorem wd_161 : Cond.soleField "CarrierLink$Sender" "points" ∈ lw_g := lw_gp (lw_t1 (List.mem_of_getElem? (i := 161) rfl)) rfl
theorem wd_162 : Cond.laysFinal "CarrierLink$Sender" "CarrierLink$Sender" "scrambler" "LCarrierLink$Scrambler;" ∈ lw_g := lw_gp (lw_t1 (List.mem_of_getElem? (i := 162) rfl)) rfl
theorem wd_163 : Cond.soleField "CarrierLink$Sender" "scrambler" ∈ lw_g := lw_gp (lw_t1 (List.mem_of_getElem? (i := 163) rfl)) rfl
theorem wd_164 : Cond.laysFinal "CarrierLink$Sender" "CarrierLink$Sender" "pilots" "LCarrierLink$Scrambler;" ∈ lw_g := lw_gp (lw_t1 (List.mem_of_getElem? (i := 164) rfl)) rfl
theorem wd_165 : Cond.soleField "CarrierLink$Sender" "pilots" ∈ lw_g := lw_gp (lw_t1 (List.mem_of_getElem? (i := 165) rfl)) rfl
theorem wd_166 : Cond.superclass "CarrierLink$Sender" "java/lang/Object" ∈ lw_g := lw_gp (lw_t1 (List.mem_of_getElem? (i := 166) rfl)) rfl
theorem wd_167 : Cond.classLink "CarrierLink" (44 : Nat) "CarrierLink$Receiver" ∈ lw_g := lw_gp (lw_t1 (List.mem_of_getElem? (i := 167) rfl)) rfl
theorem wd_168 : Cond.instantiable "CarrierLink$Receiver" (10 : Nat) ∈ lw_g := lw_gp (lw_t1 (List.mem_of_getElem? (i := 168) rfl)) rfl
theorem wd_169 : Cond.methodLink "CarrierLink" (46 : Nat) ({ cls := "CarrierLink$Receiver", name := "<init>", desc := "(LCarrierLink$Points;)V" } : MethodName) ∈ lw_g := lw_gp (lw_t1 (List.mem_of_getElem? (i := 169) rfl)) rfl
theorem wd_170 : Cond.instanceMethod ({ cls := "CarrierLink$Receiver", name := "<init>", desc := "(LCarrierLink$Points;)V" } : MethodName) ∈ lw_g := lw_gp (lw_t1 (List.mem_of_getElem? (i := 170) rfl)) rfl
theorem wd_171 : Cond.code ({ cls := "CarrierLink$Receiver", name := "<init>", desc := "(LCarrierLink$Points;)V" } : MethodName) prog_5_method_1_code (2 : Nat) (Option.none : Option FieldType) ∈ lw_g := lw_gp (lw_t1 (List.mem_of_getElem? (i := 171) rfl)) rfl
theorem wd_172 : Cond.methodLink "CarrierLink$Receiver" (3 : Nat) ({ cls := "java/lang/Object", name := "<init>", desc := "()V" } : MethodName) ∈ lw_g := lw_gp (lw_t1 (List.mem_of_getElem? (i := 172) rfl)) rfl
theorem wd_173 : Cond.methodLink "CarrierLink$Receiver" (15 : Nat) ({ cls := "java/util/Arrays", name := "fill", desc := "([II)V" } : MethodName) ∈ lw_g := lw_gp (lw_t1 (List.mem_of_getElem? (i := 173) rfl)) rfl
theorem wd_174 : Cond.static ({ cls := "java/util/Arrays", name := "fill", desc := "([II)V" } : MethodName) ∈ lw_g := lw_gp (lw_t1 (List.mem_of_getElem? (i := 174) rfl)) rfl
theorem wd_175 : Cond.code ({ cls := "java/util/Arrays", name := "fill", desc := "([II)V" } : MethodName) prog_20_method_103_code (4 : Nat) (Option.none : Option FieldType) ∈ lw_g := lw_gp (lw_t1 (List.mem_of_getElem? (i := 175) rfl)) rfl
theorem wd_176 : Cond.classLink "CarrierLink$Receiver" (28 : Nat) "CarrierLink$Points" ∈ lw_g := lw_gp (lw_t1 (List.mem_of_getElem? (i := 176) rfl)) rfl
theorem wd_177 : Cond.methodLink "CarrierLink$Receiver" (30 : Nat) ({ cls := "CarrierLink$Points", name := "<init>", desc := "()V" } : MethodName) ∈ lw_g := lw_gp (lw_t1 (List.mem_of_getElem? (i := 177) rfl)) rfl
theorem wd_178 : Cond.classLink "CarrierLink$Receiver" (47 : Nat) "CarrierLink$Paths" ∈ lw_g := lw_gp (lw_t1 (List.mem_of_getElem? (i := 178) rfl)) rfl
theorem wd_179 : Cond.instantiable "CarrierLink$Paths" (6 : Nat) ∈ lw_g := lw_gp (lw_t1 (List.mem_of_getElem? (i := 179) rfl)) rfl
theorem wd_180 : Cond.methodLink "CarrierLink$Receiver" (49 : Nat) ({ cls := "CarrierLink$Paths", name := "<init>", desc := "()V" } : MethodName) ∈ lw_g := lw_gp (lw_t1 (List.mem_of_getElem? (i := 180) rfl)) rfl
theorem wd_181 : Cond.instanceMethod ({ cls := "CarrierLink$Paths", name := "<init>", desc := "()V" } : MethodName) ∈ lw_g := lw_gp (lw_t1 (List.mem_of_getElem? (i := 181) rfl)) rfl
theorem wd_182 : Cond.code ({ cls := "CarrierLink$Paths", name := "<init>", desc := "()V" } : MethodName) prog_3_method_1_code (2 : Nat) (Option.none : Option FieldType) ∈ lw_g := lw_gp (lw_t1 (List.mem_of_getElem? (i := 182) rfl)) rfl
theorem wd_183 : Cond.methodLink "CarrierLink$Paths" (3 : Nat) ({ cls := "java/lang/Object", name := "<init>", desc := "()V" } : MethodName) ∈ lw_g := lw_gp (lw_t1 (List.mem_of_getElem? (i := 183) rfl)) rfl
theorem wd_184 : Cond.methodLinkNest "CarrierLink$Paths" (22 : Nat) ({ cls := "CarrierLink", name := "codeOf", desc := "(II)I" } : MethodName) "CarrierLink" ∈ lw_n := lw_np (lw_t1 (List.mem_of_getElem? (i := 184) rfl)) rfl
theorem wd_185 : Cond.static ({ cls := "CarrierLink", name := "codeOf", desc := "(II)I" } : MethodName) ∈ lw_g := lw_gp (lw_t1 (List.mem_of_getElem? (i := 185) rfl)) rfl
theorem wd_186 : Cond.code ({ cls := "CarrierLink", name := "codeOf", desc := "(II)I" } : MethodName) prog_1_method_23_code (2 : Nat) (Option.some FieldType.int) ∈ lw_g := lw_gp (lw_t1 (List.mem_of_getElem? (i := 186) rfl)) rfl
theorem wd_187 : Cond.methodLink "CarrierLink" (173 : Nat) ({ cls := "java/lang/Integer", name := "bitCount", desc := "(I)I" } : MethodName) ∈ lw_g := lw_gp (lw_t1 (List.mem_of_getElem? (i := 187) rfl)) rfl
theorem wd_188 : Cond.static ({ cls := "java/lang/Integer", name := "bitCount", desc := "(I)I" } : MethodName) ∈ lw_g := lw_gp (lw_t1 (List.mem_of_getElem? (i := 188) rfl)) rfl
theorem wd_189 : Cond.code ({ cls := "java/lang/Integer", name := "bitCount", desc := "(I)I" } : MethodName) prog_15_method_49_code (1 : Nat) (Option.some FieldType.int) ∈ lw_g := lw_gp (lw_t1 (List.mem_of_getElem? (i := 189) rfl)) rfl
theorem wd_190 : Cond.constant "java/lang/Integer" (265 : Nat) (1431655765 : Int32) ∈ lw_g := lw_gp (lw_t1 (List.mem_of_getElem? (i := 190) rfl)) rfl
theorem wd_191 : Cond.constant "java/lang/Integer" (266 : Nat) (858993459 : Int32) ∈ lw_g := lw_gp (lw_t1 (List.mem_of_getElem? (i := 191) rfl)) rfl
theorem wd_192 : Cond.constant "java/lang/Integer" (267 : Nat) (252645135 : Int32) ∈ lw_g := lw_gp (lw_t1 (List.mem_of_getElem? (i := 192) rfl)) rfl
theorem wd_193 : Cond.fieldLink "CarrierLink$Paths" (9 : Nat) "CarrierLink$Paths" "bits" "[I" ∈ lw_g := lw_gp (lw_t1 (List.mem_of_getElem? (i := 193) rfl)) rfl
theorem wd_194 : Cond.fieldLink "CarrierLink$Receiver" (83 : Nat) "CarrierLink$Paths" "bits" "[I" ∈ lw_g := lw_gp (lw_t1 (List.mem_of_getElem? (i := 194) rfl)) rfl
theorem wd_195 : Cond.fieldLink "CarrierLink$Paths" (15 : Nat) "CarrierLink$Paths" "choices" "[J" ∈ lw_g := lw_gp (lw_t1 (List.mem_of_getElem? (i := 195) rfl)) rfl
theorem wd_196 : Cond.fieldLink "CarrierLink$Paths" (19 : Nat) "CarrierLink$Paths" "outputs" "[I" ∈ lw_g := lw_gp (lw_t1 (List.mem_of_getElem? (i := 196) rfl)) rfl
theorem wd_197 : Cond.fieldLink "CarrierLink$Paths" (26 : Nat) "CarrierLink$Paths" "gains" "[I" ∈ lw_g := lw_gp (lw_t1 (List.mem_of_getElem? (i := 197) rfl)) rfl
theorem wd_198 : Cond.fieldLink "CarrierLink$Paths" (29 : Nat) "CarrierLink$Paths" "metrics" "[I" ∈ lw_g := lw_gp (lw_t1 (List.mem_of_getElem? (i := 198) rfl)) rfl
theorem wd_199 : Cond.fieldLink "CarrierLink$Paths" (32 : Nat) "CarrierLink$Paths" "newMetrics" "[I" ∈ lw_g := lw_gp (lw_t1 (List.mem_of_getElem? (i := 199) rfl)) rfl
theorem wd_200 : Cond.laysFinal "CarrierLink$Paths" "CarrierLink$Paths" "bits" "[I" ∈ lw_g := lw_gp (lw_t1 (List.mem_of_getElem? (i := 200) rfl)) rfl
theorem wd_201 : Cond.soleField "CarrierLink$Paths" "bits" ∈ lw_g := lw_gp (lw_t1 (List.mem_of_getElem? (i := 201) rfl)) rfl
theorem wd_202 : Cond.laysFinal "CarrierLink$Paths" "CarrierLink$Paths" "choices" "[J" ∈ lw_g := lw_gp (lw_t1 (List.mem_of_getElem? (i := 202) rfl)) rfl
theorem wd_203 : Cond.soleField "CarrierLink$Paths" "choices" ∈ lw_g := lw_gp (lw_t1 (List.mem_of_getElem? (i := 203) rfl)) rfl
theorem wd_204 : Cond.laysFinal "CarrierLink$Paths" "CarrierLink$Paths" "outputs" "[I" ∈ lw_g := lw_gp (lw_t1 (List.mem_of_getElem? (i := 204) rfl)) rfl
theorem wd_205 : Cond.soleField "CarrierLink$Paths" "outputs" ∈ lw_g := lw_gp (lw_t1 (List.mem_of_getElem? (i := 205) rfl)) rfl
theorem wd_206 : Cond.laysFinal "CarrierLink$Paths" "CarrierLink$Paths" "gains" "[I" ∈ lw_g := lw_gp (lw_t1 (List.mem_of_getElem? (i := 206) rfl)) rfl
theorem wd_207 : Cond.soleField "CarrierLink$Paths" "gains" ∈ lw_g := lw_gp (lw_t1 (List.mem_of_getElem? (i := 207) rfl)) rfl
theorem wd_208 : Cond.lays "CarrierLink$Paths" "CarrierLink$Paths" "metrics" "[I" ∈ lw_g := lw_gp (lw_t1 (List.mem_of_getElem? (i := 208) rfl)) rfl
theorem wd_209 : Cond.soleField "CarrierLink$Paths" "metrics" ∈ lw_g := lw_gp (lw_t1 (List.mem_of_getElem? (i := 209) rfl)) rfl
theorem wd_210 : Cond.lays "CarrierLink$Paths" "CarrierLink$Paths" "newMetrics" "[I" ∈ lw_g := lw_gp (lw_t1 (List.mem_of_getElem? (i := 210) rfl)) rfl
theorem wd_211 : Cond.soleField "CarrierLink$Paths" "newMetrics" ∈ lw_g := lw_gp (lw_t1 (List.mem_of_getElem? (i := 211) rfl)) rfl
theorem wd_212 : Cond.superclass "CarrierLink$Paths" "java/lang/Object" ∈ lw_g := lw_gp (lw_t1 (List.mem_of_getElem? (i := 212) rfl)) rfl
theorem wd_213 : Cond.arrayClass FieldType.long ∈ lw_g := lw_gp (lw_t1 (List.mem_of_getElem? (i := 213) rfl)) rfl
theorem wd_214 : Cond.classLink "CarrierLink$Receiver" (54 : Nat) "CarrierLink$Scrambler" ∈ lw_g := lw_gp (lw_t1 (List.mem_of_getElem? (i := 214) rfl)) rfl
theorem wd_215 : Cond.methodLink "CarrierLink$Receiver" (56 : Nat) ({ cls := "CarrierLink$Scrambler", name := "<init>", desc := "()V" } : MethodName) ∈ lw_g := lw_gp (lw_t1 (List.mem_of_getElem? (i := 215) rfl)) rfl
theorem wd_216 : Cond.fieldLink "CarrierLink$Receiver" (11 : Nat) "CarrierLink$Receiver" "told" "[I" ∈ lw_g := lw_gp (lw_t1 (List.mem_of_getElem? (i := 216) rfl)) rfl
theorem wd_217 : Cond.fieldLink "CarrierLink" (151 : Nat) "CarrierLink$Receiver" "told" "[I" ∈ lw_g := lw_gp (lw_t1 (List.mem_of_getElem? (i := 217) rfl)) rfl
theorem wd_218 : Cond.fieldLink "CarrierLink$Receiver" (21 : Nat) "CarrierLink$Receiver" "found" "[I" ∈ lw_g := lw_gp (lw_t1 (List.mem_of_getElem? (i := 218) rfl)) rfl
theorem wd_219 : Cond.fieldLink "CarrierLink" (148 : Nat) "CarrierLink$Receiver" "found" "[I" ∈ lw_g := lw_gp (lw_t1 (List.mem_of_getElem? (i := 219) rfl)) rfl
theorem wd_220 : Cond.fieldLink "CarrierLink$Receiver" (24 : Nat) "CarrierLink$Receiver" "foundCount" "I" ∈ lw_g := lw_gp (lw_t1 (List.mem_of_getElem? (i := 220) rfl)) rfl
theorem wd_221 : Cond.fieldLink "CarrierLink" (145 : Nat) "CarrierLink$Receiver" "foundCount" "I" ∈ lw_g := lw_gp (lw_t1 (List.mem_of_getElem? (i := 221) rfl)) rfl
theorem wd_222 : Cond.fieldLink "CarrierLink$Receiver" (31 : Nat) "CarrierLink$Receiver" "learned" "LCarrierLink$Points;" ∈ lw_g := lw_gp (lw_t1 (List.mem_of_getElem? (i := 222) rfl)) rfl
theorem wd_223 : Cond.fieldLink "CarrierLink" (154 : Nat) "CarrierLink$Receiver" "learned" "LCarrierLink$Points;" ∈ lw_g := lw_gp (lw_t1 (List.mem_of_getElem? (i := 223) rfl)) rfl
theorem wd_224 : Cond.fieldLink "CarrierLink$Receiver" (35 : Nat) "CarrierLink$Receiver" "training" "LCarrierLink$Points;" ∈ lw_g := lw_gp (lw_t1 (List.mem_of_getElem? (i := 224) rfl)) rfl
theorem wd_225 : Cond.fieldLink "CarrierLink$Receiver" (38 : Nat) "CarrierLink$Receiver" "points" "LCarrierLink$Points;" ∈ lw_g := lw_gp (lw_t1 (List.mem_of_getElem? (i := 225) rfl)) rfl
theorem wd_226 : Cond.fieldLink "CarrierLink$Receiver" (41 : Nat) "CarrierLink$Receiver" "symbolSoft" "[I" ∈ lw_g := lw_gp (lw_t1 (List.mem_of_getElem? (i := 226) rfl)) rfl
theorem wd_227 : Cond.fieldLink "CarrierLink$Receiver" (44 : Nat) "CarrierLink$Receiver" "soft" "[I" ∈ lw_g := lw_gp (lw_t1 (List.mem_of_getElem? (i := 227) rfl)) rfl
theorem wd_228 : Cond.fieldLink "CarrierLink$Receiver" (50 : Nat) "CarrierLink$Receiver" "paths" "LCarrierLink$Paths;" ∈ lw_g := lw_gp (lw_t1 (List.mem_of_getElem? (i := 228) rfl)) rfl
theorem wd_229 : Cond.fieldLink "CarrierLink$Receiver" (57 : Nat) "CarrierLink$Receiver" "scrambler" "LCarrierLink$Scrambler;" ∈ lw_g := lw_gp (lw_t1 (List.mem_of_getElem? (i := 229) rfl)) rfl
theorem wd_230 : Cond.laysFinal "CarrierLink$Receiver" "CarrierLink$Receiver" "told" "[I" ∈ lw_g := lw_gp (lw_t1 (List.mem_of_getElem? (i := 230) rfl)) rfl
theorem wd_231 : Cond.soleField "CarrierLink$Receiver" "told" ∈ lw_g := lw_gp (lw_t1 (List.mem_of_getElem? (i := 231) rfl)) rfl
theorem wd_232 : Cond.laysFinal "CarrierLink$Receiver" "CarrierLink$Receiver" "found" "[I" ∈ lw_g := lw_gp (lw_t1 (List.mem_of_getElem? (i := 232) rfl)) rfl
theorem wd_233 : Cond.soleField "CarrierLink$Receiver" "found" ∈ lw_g := lw_gp (lw_t1 (List.mem_of_getElem? (i := 233) rfl)) rfl
theorem wd_234 : Cond.lays "CarrierLink$Receiver" "CarrierLink$Receiver" "foundCount" "I" ∈ lw_g := lw_gp (lw_t1 (List.mem_of_getElem? (i := 234) rfl)) rfl
theorem wd_235 : Cond.soleField "CarrierLink$Receiver" "foundCount" ∈ lw_g := lw_gp (lw_t1 (List.mem_of_getElem? (i := 235) rfl)) rfl
theorem wd_236 : Cond.laysFinal "CarrierLink$Receiver" "CarrierLink$Receiver" "learned" "LCarrierLink$Points;" ∈ lw_g := lw_gp (lw_t1 (List.mem_of_getElem? (i := 236) rfl)) rfl
theorem wd_237 : Cond.soleField "CarrierLink$Receiver" "learned" ∈ lw_g := lw_gp (lw_t1 (List.mem_of_getElem? (i := 237) rfl)) rfl
theorem wd_238 : Cond.laysFinal "CarrierLink$Receiver" "CarrierLink$Receiver" "training" "LCarrierLink$Points;" ∈ lw_g := lw_gp (lw_t1 (List.mem_of_getElem? (i := 238) rfl)) rfl
theorem wd_239 : Cond.soleField "CarrierLink$Receiver" "training" ∈ lw_g := lw_gp (lw_t1 (List.mem_of_getElem? (i := 239) rfl)) rfl
theorem wd_240 : Cond.laysFinal "CarrierLink$Receiver" "CarrierLink$Receiver" "points" "LCarrierLink$Points;" ∈ lw_g := lw_gp (lw_t2 (List.mem_of_getElem? (i := 0) rfl)) rfl
theorem wd_241 : Cond.soleField "CarrierLink$Receiver" "points" ∈ lw_g := lw_gp (lw_t2 (List.mem_of_getElem? (i := 1) rfl)) rfl
theorem wd_242 : Cond.laysFinal "CarrierLink$Receiver" "CarrierLink$Receiver" "symbolSoft" "[I" ∈ lw_g := lw_gp (lw_t2 (List.mem_of_getElem? (i := 2) rfl)) rfl
theorem wd_243 : Cond.soleField "CarrierLink$Receiver" "symbolSoft" ∈ lw_g := lw_gp (lw_t2 (List.mem_of_getElem? (i := 3) rfl)) rfl
theorem wd_244 : Cond.laysFinal "CarrierLink$Receiver" "CarrierLink$Receiver" "soft" "[I" ∈ lw_g := lw_gp (lw_t2 (List.mem_of_getElem? (i := 4) rfl)) rfl
theorem wd_245 : Cond.soleField "CarrierLink$Receiver" "soft" ∈ lw_g := lw_gp (lw_t2 (List.mem_of_getElem? (i := 5) rfl)) rfl
theorem wd_246 : Cond.laysFinal "CarrierLink$Receiver" "CarrierLink$Receiver" "paths" "LCarrierLink$Paths;" ∈ lw_g := lw_gp (lw_t2 (List.mem_of_getElem? (i := 6) rfl)) rfl
theorem wd_247 : Cond.soleField "CarrierLink$Receiver" "paths" ∈ lw_g := lw_gp (lw_t2 (List.mem_of_getElem? (i := 7) rfl)) rfl
theorem wd_248 : Cond.laysFinal "CarrierLink$Receiver" "CarrierLink$Receiver" "scrambler" "LCarrierLink$Scrambler;" ∈ lw_g := lw_gp (lw_t2 (List.mem_of_getElem? (i := 8) rfl)) rfl
theorem wd_249 : Cond.soleField "CarrierLink$Receiver" "scrambler" ∈ lw_g := lw_gp (lw_t2 (List.mem_of_getElem? (i := 9) rfl)) rfl
theorem wd_250 : Cond.superclass "CarrierLink$Receiver" "java/lang/Object" ∈ lw_g := lw_gp (lw_t2 (List.mem_of_getElem? (i := 10) rfl)) rfl
theorem wd_251 : Cond.fieldLink "CarrierLink" (9 : Nat) "CarrierLink" "waiting" "[I" ∈ lw_g := lw_gp (lw_t2 (List.mem_of_getElem? (i := 11) rfl)) rfl
theorem wd_252 : Cond.fieldLink "CarrierLink" (13 : Nat) "CarrierLink" "waitingCount" "I" ∈ lw_g := lw_gp (lw_t2 (List.mem_of_getElem? (i := 12) rfl)) rfl
theorem wd_253 : Cond.fieldLink "CarrierLink" (22 : Nat) "CarrierLink" "frame" "LCarrierLink$Wave;" ∈ lw_g := lw_gp (lw_t2 (List.mem_of_getElem? (i := 13) rfl)) rfl
theorem wd_254 : Cond.fieldLink "CarrierLink" (26 : Nat) "CarrierLink" "onAir" "LCarrierLink$Wave;" ∈ lw_g := lw_gp (lw_t2 (List.mem_of_getElem? (i := 14) rfl)) rfl
theorem wd_255 : Cond.fieldLink "CarrierLink" (40 : Nat) "CarrierLink" "sender" "LCarrierLink$Sender;" ∈ lw_g := lw_gp (lw_t2 (List.mem_of_getElem? (i := 15) rfl)) rfl
theorem wd_256 : Cond.fieldLink "CarrierLink" (49 : Nat) "CarrierLink" "receiver" "LCarrierLink$Receiver;" ∈ lw_g := lw_gp (lw_t2 (List.mem_of_getElem? (i := 16) rfl)) rfl
theorem wd_257 : Cond.laysFinal "CarrierLink" "CarrierLink" "waiting" "[I" ∈ lw_g := lw_gp (lw_t2 (List.mem_of_getElem? (i := 17) rfl)) rfl
theorem wd_258 : Cond.soleField "CarrierLink" "waiting" ∈ lw_g := lw_gp (lw_t2 (List.mem_of_getElem? (i := 18) rfl)) rfl
theorem wd_259 : Cond.lays "CarrierLink" "CarrierLink" "waitingCount" "I" ∈ lw_g := lw_gp (lw_t2 (List.mem_of_getElem? (i := 19) rfl)) rfl
theorem wd_260 : Cond.soleField "CarrierLink" "waitingCount" ∈ lw_g := lw_gp (lw_t2 (List.mem_of_getElem? (i := 20) rfl)) rfl
theorem wd_261 : Cond.laysFinal "CarrierLink" "CarrierLink" "frame" "LCarrierLink$Wave;" ∈ lw_g := lw_gp (lw_t2 (List.mem_of_getElem? (i := 21) rfl)) rfl
theorem wd_262 : Cond.soleField "CarrierLink" "frame" ∈ lw_g := lw_gp (lw_t2 (List.mem_of_getElem? (i := 22) rfl)) rfl
theorem wd_263 : Cond.laysFinal "CarrierLink" "CarrierLink" "onAir" "LCarrierLink$Wave;" ∈ lw_g := lw_gp (lw_t2 (List.mem_of_getElem? (i := 23) rfl)) rfl
theorem wd_264 : Cond.soleField "CarrierLink" "onAir" ∈ lw_g := lw_gp (lw_t2 (List.mem_of_getElem? (i := 24) rfl)) rfl
theorem wd_265 : Cond.laysFinal "CarrierLink" "CarrierLink" "sender" "LCarrierLink$Sender;" ∈ lw_g := lw_gp (lw_t2 (List.mem_of_getElem? (i := 25) rfl)) rfl
theorem wd_266 : Cond.soleField "CarrierLink" "sender" ∈ lw_g := lw_gp (lw_t2 (List.mem_of_getElem? (i := 26) rfl)) rfl
theorem wd_267 : Cond.laysFinal "CarrierLink" "CarrierLink" "receiver" "LCarrierLink$Receiver;" ∈ lw_g := lw_gp (lw_t2 (List.mem_of_getElem? (i := 27) rfl)) rfl
theorem wd_268 : Cond.soleField "CarrierLink" "receiver" ∈ lw_g := lw_gp (lw_t2 (List.mem_of_getElem? (i := 28) rfl)) rfl
theorem wd_269 : Cond.superclass "CarrierLink" "java/lang/Object" ∈ lw_g := lw_gp (lw_t2 (List.mem_of_getElem? (i := 29) rfl)) rfl
theorem wd_270 : Cond.methodLink "CarrierLinkLaw" (37 : Nat) ({ cls := "CarrierLink", name := "put", desc := "(IJ)Z" } : MethodName) ∈ lw_g := lw_gp (lw_t2 (List.mem_of_getElem? (i := 30) rfl)) rfl
theorem wd_271 : Cond.instanceMethod ({ cls := "CarrierLink", name := "put", desc := "(IJ)Z" } : MethodName) ∈ lw_g := lw_gp (lw_t2 (List.mem_of_getElem? (i := 31) rfl)) rfl
theorem wd_272 : Cond.selects "CarrierLink" ({ cls := "CarrierLink", name := "put", desc := "(IJ)Z" } : MethodName) ({ cls := "CarrierLink", name := "put", desc := "(IJ)Z" } : MethodName) ∈ lw_g := lw_gp (lw_t2 (List.mem_of_getElem? (i := 32) rfl)) rfl
theorem wd_273 : Cond.code ({ cls := "CarrierLink", name := "put", desc := "(IJ)Z" } : MethodName) prog_1_method_2_code (5 : Nat) (Option.some FieldType.boolean) ∈ lw_g := lw_gp (lw_t2 (List.mem_of_getElem? (i := 33) rfl)) rfl
theorem wd_274 : Cond.methodLink "CarrierLinkLaw" (42 : Nat) ({ cls := "CarrierLink", name := "wipe", desc := "()V" } : MethodName) ∈ lw_g := lw_gp (lw_t2 (List.mem_of_getElem? (i := 34) rfl)) rfl
theorem wd_275 : Cond.instanceMethod ({ cls := "CarrierLink", name := "wipe", desc := "()V" } : MethodName) ∈ lw_g := lw_gp (lw_t2 (List.mem_of_getElem? (i := 35) rfl)) rfl
theorem wd_276 : Cond.selects "CarrierLink" ({ cls := "CarrierLink", name := "wipe", desc := "()V" } : MethodName) ({ cls := "CarrierLink", name := "wipe", desc := "()V" } : MethodName) ∈ lw_g := lw_gp (lw_t2 (List.mem_of_getElem? (i := 36) rfl)) rfl
theorem wd_277 : Cond.code ({ cls := "CarrierLink", name := "wipe", desc := "()V" } : MethodName) prog_1_method_3_code (1 : Nat) (Option.none : Option FieldType) ∈ lw_g := lw_gp (lw_t2 (List.mem_of_getElem? (i := 37) rfl)) rfl
theorem wd_278 : Cond.methodLink "CarrierLinkLaw" (55 : Nat) ({ cls := "CarrierLink", name := "bit", desc := "(II)I" } : MethodName) ∈ lw_g := lw_gp (lw_t2 (List.mem_of_getElem? (i := 38) rfl)) rfl
theorem wd_279 : Cond.instanceMethod ({ cls := "CarrierLink", name := "bit", desc := "(II)I" } : MethodName) ∈ lw_g := lw_gp (lw_t2 (List.mem_of_getElem? (i := 39) rfl)) rfl
theorem wd_280 : Cond.selects "CarrierLink" ({ cls := "CarrierLink", name := "bit", desc := "(II)I" } : MethodName) ({ cls := "CarrierLink", name := "bit", desc := "(II)I" } : MethodName) ∈ lw_g := lw_gp (lw_t2 (List.mem_of_getElem? (i := 40) rfl)) rfl
theorem wd_281 : Cond.code ({ cls := "CarrierLink", name := "bit", desc := "(II)I" } : MethodName) prog_1_method_5_code (4 : Nat) (Option.some FieldType.int) ∈ lw_g := lw_gp (lw_t2 (List.mem_of_getElem? (i := 41) rfl)) rfl
theorem wd_282 : Cond.methodLink "CarrierLink" (84 : Nat) ({ cls := "CarrierLink", name := "bitOrCount", desc := "([III)I" } : MethodName) ∈ lw_g := lw_gp (lw_t2 (List.mem_of_getElem? (i := 42) rfl)) rfl
theorem wd_283 : Cond.static ({ cls := "CarrierLink", name := "bitOrCount", desc := "([III)I" } : MethodName) ∈ lw_g := lw_gp (lw_t2 (List.mem_of_getElem? (i := 43) rfl)) rfl
theorem wd_284 : Cond.code ({ cls := "CarrierLink", name := "bitOrCount", desc := "([III)I" } : MethodName) prog_1_method_15_code (3 : Nat) (Option.some FieldType.int) ∈ lw_g := lw_gp (lw_t2 (List.mem_of_getElem? (i := 44) rfl)) rfl
theorem wd_285 : Cond.methodLink "CarrierLinkLaw" (67 : Nat) ({ cls := "CarrierLink", name := "disturb", desc := "(ISS)Z" } : MethodName) ∈ lw_g := lw_gp (lw_t2 (List.mem_of_getElem? (i := 45) rfl)) rfl
theorem wd_286 : Cond.instanceMethod ({ cls := "CarrierLink", name := "disturb", desc := "(ISS)Z" } : MethodName) ∈ lw_g := lw_gp (lw_t2 (List.mem_of_getElem? (i := 46) rfl)) rfl
theorem wd_287 : Cond.selects "CarrierLink" ({ cls := "CarrierLink", name := "disturb", desc := "(ISS)Z" } : MethodName) ({ cls := "CarrierLink", name := "disturb", desc := "(ISS)Z" } : MethodName) ∈ lw_g := lw_gp (lw_t2 (List.mem_of_getElem? (i := 47) rfl)) rfl
theorem wd_288 : Cond.code ({ cls := "CarrierLink", name := "disturb", desc := "(ISS)Z" } : MethodName) prog_1_method_8_code (4 : Nat) (Option.some FieldType.boolean) ∈ lw_g := lw_gp (lw_t2 (List.mem_of_getElem? (i := 48) rfl)) rfl
theorem wd_289 : Cond.methodLink "CarrierLink" (97 : Nat) ({ cls := "CarrierLink$Wave", name := "has", desc := "(I)Z" } : MethodName) ∈ lw_g := lw_gp (lw_t2 (List.mem_of_getElem? (i := 49) rfl)) rfl
theorem wd_290 : Cond.instanceMethod ({ cls := "CarrierLink$Wave", name := "has", desc := "(I)Z" } : MethodName) ∈ lw_g := lw_gp (lw_t2 (List.mem_of_getElem? (i := 50) rfl)) rfl
theorem wd_291 : Cond.selects "CarrierLink$Wave" ({ cls := "CarrierLink$Wave", name := "has", desc := "(I)Z" } : MethodName) ({ cls := "CarrierLink$Wave", name := "has", desc := "(I)Z" } : MethodName) ∈ lw_g := lw_gp (lw_t2 (List.mem_of_getElem? (i := 51) rfl)) rfl
theorem wd_292 : Cond.code ({ cls := "CarrierLink$Wave", name := "has", desc := "(I)Z" } : MethodName) prog_8_method_3_code (2 : Nat) (Option.some FieldType.boolean) ∈ lw_g := lw_gp (lw_t2 (List.mem_of_getElem? (i := 52) rfl)) rfl
theorem wd_293 : Cond.methodLink "CarrierLink" (128 : Nat) ({ cls := "CarrierLink$Wave", name := "addTo", desc := "(III)V" } : MethodName) ∈ lw_g := lw_gp (lw_t2 (List.mem_of_getElem? (i := 53) rfl)) rfl
theorem wd_294 : Cond.instanceMethod ({ cls := "CarrierLink$Wave", name := "addTo", desc := "(III)V" } : MethodName) ∈ lw_g := lw_gp (lw_t2 (List.mem_of_getElem? (i := 54) rfl)) rfl
theorem wd_295 : Cond.selects "CarrierLink$Wave" ({ cls := "CarrierLink$Wave", name := "addTo", desc := "(III)V" } : MethodName) ({ cls := "CarrierLink$Wave", name := "addTo", desc := "(III)V" } : MethodName) ∈ lw_g := lw_gp (lw_t2 (List.mem_of_getElem? (i := 55) rfl)) rfl
theorem wd_296 : Cond.code ({ cls := "CarrierLink$Wave", name := "addTo", desc := "(III)V" } : MethodName) prog_8_method_5_code (4 : Nat) (Option.none : Option FieldType) ∈ lw_g := lw_gp (lw_t2 (List.mem_of_getElem? (i := 56) rfl)) rfl
theorem wd_297 : Cond.methodLinkNest "CarrierLink$Wave" (20 : Nat) ({ cls := "CarrierLink", name := "saturate", desc := "(I)S" } : MethodName) "CarrierLink" ∈ lw_n := lw_np (lw_t2 (List.mem_of_getElem? (i := 57) rfl)) rfl
theorem wd_298 : Cond.static ({ cls := "CarrierLink", name := "saturate", desc := "(I)S" } : MethodName) ∈ lw_g := lw_gp (lw_t2 (List.mem_of_getElem? (i := 58) rfl)) rfl
theorem wd_299 : Cond.code ({ cls := "CarrierLink", name := "saturate", desc := "(I)S" } : MethodName) prog_1_method_19_code (1 : Nat) (Option.some FieldType.short) ∈ lw_g := lw_gp (lw_t2 (List.mem_of_getElem? (i := 59) rfl)) rfl
theorem wd_300 : Cond.methodLink "CarrierLink" (165 : Nat) ({ cls := "java/lang/Math", name := "min", desc := "(II)I" } : MethodName) ∈ lw_g := lw_gp (lw_t2 (List.mem_of_getElem? (i := 60) rfl)) rfl
theorem wd_301 : Cond.static ({ cls := "java/lang/Math", name := "min", desc := "(II)I" } : MethodName) ∈ lw_g := lw_gp (lw_t2 (List.mem_of_getElem? (i := 61) rfl)) rfl
theorem wd_302 : Cond.code ({ cls := "java/lang/Math", name := "min", desc := "(II)I" } : MethodName) prog_16_method_69_code (2 : Nat) (Option.some FieldType.int) ∈ lw_g := lw_gp (lw_t2 (List.mem_of_getElem? (i := 62) rfl)) rfl
theorem wd_303 : Cond.methodLink "CarrierLink" (170 : Nat) ({ cls := "java/lang/Math", name := "max", desc := "(II)I" } : MethodName) ∈ lw_g := lw_gp (lw_t2 (List.mem_of_getElem? (i := 63) rfl)) rfl
theorem wd_304 : Cond.static ({ cls := "java/lang/Math", name := "max", desc := "(II)I" } : MethodName) ∈ lw_g := lw_gp (lw_t2 (List.mem_of_getElem? (i := 64) rfl)) rfl
theorem wd_305 : Cond.code ({ cls := "java/lang/Math", name := "max", desc := "(II)I" } : MethodName) prog_16_method_65_code (2 : Nat) (Option.some FieldType.int) ∈ lw_g := lw_gp (lw_t2 (List.mem_of_getElem? (i := 65) rfl)) rfl
theorem wd_306 : Cond.methodLink "CarrierLinkLaw" (72 : Nat) ({ cls := "CarrierLink", name := "stir", desc := "(II)Z" } : MethodName) ∈ lw_g := lw_gp (lw_t2 (List.mem_of_getElem? (i := 66) rfl)) rfl
theorem wd_307 : Cond.instanceMethod ({ cls := "CarrierLink", name := "stir", desc := "(II)Z" } : MethodName) ∈ lw_g := lw_gp (lw_t2 (List.mem_of_getElem? (i := 67) rfl)) rfl
theorem wd_308 : Cond.selects "CarrierLink" ({ cls := "CarrierLink", name := "stir", desc := "(II)Z" } : MethodName) ({ cls := "CarrierLink", name := "stir", desc := "(II)Z" } : MethodName) ∈ lw_g := lw_gp (lw_t2 (List.mem_of_getElem? (i := 68) rfl)) rfl
theorem wd_309 : Cond.code ({ cls := "CarrierLink", name := "stir", desc := "(II)Z" } : MethodName) prog_1_method_9_code (6 : Nat) (Option.some FieldType.boolean) ∈ lw_g := lw_gp (lw_t2 (List.mem_of_getElem? (i := 69) rfl)) rfl
theorem wd_310 : Cond.methodLink "CarrierLink" (131 : Nat) ({ cls := "CarrierLink", name := "nextStir", desc := "(I)I" } : MethodName) ∈ lw_g := lw_gp (lw_t2 (List.mem_of_getElem? (i := 70) rfl)) rfl
theorem wd_311 : Cond.static ({ cls := "CarrierLink", name := "nextStir", desc := "(I)I" } : MethodName) ∈ lw_g := lw_gp (lw_t2 (List.mem_of_getElem? (i := 71) rfl)) rfl
theorem wd_312 : Cond.code ({ cls := "CarrierLink", name := "nextStir", desc := "(I)I" } : MethodName) prog_1_method_17_code (1 : Nat) (Option.some FieldType.int) ∈ lw_g := lw_gp (lw_t2 (List.mem_of_getElem? (i := 72) rfl)) rfl
theorem wd_313 : Cond.constant "CarrierLink" (164 : Nat) (1103515245 : Int32) ∈ lw_g := lw_gp (lw_t2 (List.mem_of_getElem? (i := 73) rfl)) rfl
theorem wd_314 : Cond.methodLink "CarrierLink" (135 : Nat) ({ cls := "CarrierLink", name := "stirBy", desc := "(II)I" } : MethodName) ∈ lw_g := lw_gp (lw_t2 (List.mem_of_getElem? (i := 74) rfl)) rfl
theorem wd_315 : Cond.static ({ cls := "CarrierLink", name := "stirBy", desc := "(II)I" } : MethodName) ∈ lw_g := lw_gp (lw_t2 (List.mem_of_getElem? (i := 75) rfl)) rfl
theorem wd_316 : Cond.code ({ cls := "CarrierLink", name := "stirBy", desc := "(II)I" } : MethodName) prog_1_method_18_code (2 : Nat) (Option.some FieldType.int) ∈ lw_g := lw_gp (lw_t2 (List.mem_of_getElem? (i := 76) rfl)) rfl
theorem wd_317 : Cond.methodLink "CarrierLinkLaw" (77 : Nat) ({ cls := "CarrierLink", name := "cut", desc := "(I)Z" } : MethodName) ∈ lw_g := lw_gp (lw_t2 (List.mem_of_getElem? (i := 77) rfl)) rfl
theorem wd_318 : Cond.instanceMethod ({ cls := "CarrierLink", name := "cut", desc := "(I)Z" } : MethodName) ∈ lw_g := lw_gp (lw_t2 (List.mem_of_getElem? (i := 78) rfl)) rfl
theorem wd_319 : Cond.selects "CarrierLink" ({ cls := "CarrierLink", name := "cut", desc := "(I)Z" } : MethodName) ({ cls := "CarrierLink", name := "cut", desc := "(I)Z" } : MethodName) ∈ lw_g := lw_gp (lw_t2 (List.mem_of_getElem? (i := 79) rfl)) rfl
theorem wd_320 : Cond.code ({ cls := "CarrierLink", name := "cut", desc := "(I)Z" } : MethodName) prog_1_method_10_code (2 : Nat) (Option.some FieldType.boolean) ∈ lw_g := lw_gp (lw_t2 (List.mem_of_getElem? (i := 80) rfl)) rfl
theorem wd_321 : Cond.methodLink "CarrierLinkLaw" (86 : Nat) ({ cls := "CarrierLink", name := "got", desc := "(I)I" } : MethodName) ∈ lw_g := lw_gp (lw_t2 (List.mem_of_getElem? (i := 81) rfl)) rfl
theorem wd_322 : Cond.instanceMethod ({ cls := "CarrierLink", name := "got", desc := "(I)I" } : MethodName) ∈ lw_g := lw_gp (lw_t2 (List.mem_of_getElem? (i := 82) rfl)) rfl
theorem wd_323 : Cond.selects "CarrierLink" ({ cls := "CarrierLink", name := "got", desc := "(I)I" } : MethodName) ({ cls := "CarrierLink", name := "got", desc := "(I)I" } : MethodName) ∈ lw_g := lw_gp (lw_t2 (List.mem_of_getElem? (i := 83) rfl)) rfl
theorem wd_324 : Cond.code ({ cls := "CarrierLink", name := "got", desc := "(I)I" } : MethodName) prog_1_method_12_code (2 : Nat) (Option.some FieldType.int) ∈ lw_g := lw_gp (lw_t2 (List.mem_of_getElem? (i := 84) rfl)) rfl
theorem wd_325 : Cond.methodLink "CarrierLinkLaw" (91 : Nat) ({ cls := "CarrierLink", name := "heard", desc := "(I)I" } : MethodName) ∈ lw_g := lw_gp (lw_t2 (List.mem_of_getElem? (i := 85) rfl)) rfl
theorem wd_326 : Cond.instanceMethod ({ cls := "CarrierLink", name := "heard", desc := "(I)I" } : MethodName) ∈ lw_g := lw_gp (lw_t2 (List.mem_of_getElem? (i := 86) rfl)) rfl
theorem wd_327 : Cond.selects "CarrierLink" ({ cls := "CarrierLink", name := "heard", desc := "(I)I" } : MethodName) ({ cls := "CarrierLink", name := "heard", desc := "(I)I" } : MethodName) ∈ lw_g := lw_gp (lw_t2 (List.mem_of_getElem? (i := 87) rfl)) rfl
theorem wd_328 : Cond.code ({ cls := "CarrierLink", name := "heard", desc := "(I)I" } : MethodName) prog_1_method_13_code (2 : Nat) (Option.some FieldType.int) ∈ lw_g := lw_gp (lw_t2 (List.mem_of_getElem? (i := 88) rfl)) rfl
theorem wd_329 : Cond.methodLink "CarrierLinkLaw" (95 : Nat) ({ cls := "CarrierLink", name := "learned", desc := "(IZ)I" } : MethodName) ∈ lw_g := lw_gp (lw_t2 (List.mem_of_getElem? (i := 89) rfl)) rfl
theorem wd_330 : Cond.instanceMethod ({ cls := "CarrierLink", name := "learned", desc := "(IZ)I" } : MethodName) ∈ lw_g := lw_gp (lw_t2 (List.mem_of_getElem? (i := 90) rfl)) rfl
theorem wd_331 : Cond.selects "CarrierLink" ({ cls := "CarrierLink", name := "learned", desc := "(IZ)I" } : MethodName) ({ cls := "CarrierLink", name := "learned", desc := "(IZ)I" } : MethodName) ∈ lw_g := lw_gp (lw_t2 (List.mem_of_getElem? (i := 91) rfl)) rfl
theorem wd_332 : Cond.code ({ cls := "CarrierLink", name := "learned", desc := "(IZ)I" } : MethodName) prog_1_method_14_code (3 : Nat) (Option.some FieldType.int) ∈ lw_g := lw_gp (lw_t2 (List.mem_of_getElem? (i := 92) rfl)) rfl
theorem wd_333 : Cond.methodLink "CarrierLinkLaw" (46 : Nat) ({ cls := "CarrierLinkLaw", name := "send", desc := "(LCarrierLink;II[J)I" } : MethodName) ∈ lw_g := lw_gp (lw_t2 (List.mem_of_getElem? (i := 93) rfl)) rfl
theorem wd_334 : Cond.static ({ cls := "CarrierLinkLaw", name := "send", desc := "(LCarrierLink;II[J)I" } : MethodName) ∈ lw_g := lw_gp (lw_t2 (List.mem_of_getElem? (i := 94) rfl)) rfl
theorem wd_335 : Cond.codeWith ({ cls := "CarrierLinkLaw", name := "send", desc := "(LCarrierLink;II[J)I" } : MethodName) method_3_code (5 : Nat) (Option.some FieldType.int) [((0 : Nat), (10 : Nat), (13 : Nat), (13 : Nat)), ((0 : Nat), (10 : Nat), (17 : Nat), (15 : Nat))] ∈ lw_g := lw_gp (lw_t2 (List.mem_of_getElem? (i := 95) rfl)) rfl
theorem wd_336 : Cond.classLink "CarrierLinkLaw" (13 : Nat) "java/lang/IllegalArgumentException" ∈ lw_g := lw_gp (lw_t2 (List.mem_of_getElem? (i := 96) rfl)) rfl
theorem wd_337 : Cond.classLink "CarrierLinkLaw" (15 : Nat) "java/lang/IllegalStateException" ∈ lw_g := lw_gp (lw_t2 (List.mem_of_getElem? (i := 97) rfl)) rfl
theorem wd_338 : Cond.methodLink "CarrierLinkLaw" (7 : Nat) ({ cls := "CarrierLink", name := "send", desc := "(II)I" } : MethodName) ∈ lw_g := lw_gp (lw_t2 (List.mem_of_getElem? (i := 98) rfl)) rfl
theorem wd_339 : Cond.instanceMethod ({ cls := "CarrierLink", name := "send", desc := "(II)I" } : MethodName) ∈ lw_g := lw_gp (lw_t2 (List.mem_of_getElem? (i := 99) rfl)) rfl
theorem wd_340 : Cond.selects "CarrierLink" ({ cls := "CarrierLink", name := "send", desc := "(II)I" } : MethodName) ({ cls := "CarrierLink", name := "send", desc := "(II)I" } : MethodName) ∈ lw_g := lw_gp (lw_t2 (List.mem_of_getElem? (i := 100) rfl)) rfl
theorem wd_341 : Cond.code ({ cls := "CarrierLink", name := "send", desc := "(II)I" } : MethodName) prog_1_method_4_code (3 : Nat) (Option.some FieldType.int) ∈ lw_g := lw_gp (lw_t2 (List.mem_of_getElem? (i := 101) rfl)) rfl
theorem wd_342 : Cond.classLink "CarrierLink" (53 : Nat) "java/lang/IllegalArgumentException" ∈ lw_g := lw_gp (lw_t2 (List.mem_of_getElem? (i := 102) rfl)) rfl
theorem wd_343 : Cond.instantiable "java/lang/IllegalArgumentException" (6 : Nat) ∈ lw_g := lw_gp (lw_t2 (List.mem_of_getElem? (i := 103) rfl)) rfl
theorem wd_351 : Cond.selects "java/lang/IllegalArgumentException" ({ cls := "java/lang/Throwable", name := "fillInStackTrace", desc := "(I)Ljava/lang/Throwable;" } : MethodName) ({ cls := "java/lang/Throwable", name := "fillInStackTrace", desc := "(I)Ljava/lang/Throwable;" } : MethodName) ∈ lw_g := lw_gp (lw_t2 (List.mem_of_getElem? (i := 111) rfl)) rfl
theorem wd_352 : Cond.selects "java/lang/IllegalArgumentException" ({ cls := "java/lang/Throwable", name := "fillInStackTrace", desc := "()Ljava/lang/Throwable;" } : MethodName) ({ cls := "java/lang/Throwable", name := "fillInStackTrace", desc := "()Ljava/lang/Throwable;" } : MethodName) ∈ lw_g := lw_gp (lw_t2 (List.mem_of_getElem? (i := 112) rfl)) rfl
theorem wd_353 : Cond.lays "java/lang/IllegalArgumentException" "java/lang/Throwable" "cause" "Ljava/lang/Throwable;" ∈ lw_g := lw_gp (lw_t2 (List.mem_of_getElem? (i := 113) rfl)) rfl
theorem wd_354 : Cond.lays "java/lang/Throwable" "java/lang/Throwable" "cause" "Ljava/lang/Throwable;" ∈ lw_g := lw_gp (lw_t2 (List.mem_of_getElem? (i := 114) rfl)) rfl
theorem wd_355 : Cond.lays "java/lang/IllegalArgumentException" "java/lang/Throwable" "stackTrace" "[Ljava/lang/StackTraceElement;" ∈ lw_g := lw_gp (lw_t2 (List.mem_of_getElem? (i := 115) rfl)) rfl
theorem wd_356 : Cond.lays "java/lang/Throwable" "java/lang/Throwable" "stackTrace" "[Ljava/lang/StackTraceElement;" ∈ lw_g := lw_gp (lw_t2 (List.mem_of_getElem? (i := 116) rfl)) rfl
theorem wd_357 : Cond.lays "java/lang/IllegalArgumentException" "java/lang/Throwable" "suppressedExceptions" "Ljava/util/List;" ∈ lw_g := lw_gp (lw_t2 (List.mem_of_getElem? (i := 117) rfl)) rfl
theorem wd_358 : Cond.lays "java/lang/Throwable" "java/lang/Throwable" "suppressedExceptions" "Ljava/util/List;" ∈ lw_g := lw_gp (lw_t2 (List.mem_of_getElem? (i := 118) rfl)) rfl
theorem wd_359 : Cond.lays "java/lang/IllegalArgumentException" "java/lang/Throwable" "detailMessage" "Ljava/lang/String;" ∈ lw_g := lw_gp (lw_t2 (List.mem_of_getElem? (i := 119) rfl)) rfl
theorem wd_360 : Cond.lays "java/lang/Throwable" "java/lang/Throwable" "detailMessage" "Ljava/lang/String;" ∈ lw_g := lw_gp (lw_t2 (List.mem_of_getElem? (i := 120) rfl)) rfl
theorem wd_361 : Cond.lays "java/lang/IllegalArgumentException" "java/lang/Throwable" "backtrace" "Ljava/lang/Object;" ∈ lw_g := lw_gp (lw_t2 (List.mem_of_getElem? (i := 121) rfl)) rfl
theorem wd_362 : Cond.lays "java/lang/Throwable" "java/lang/Throwable" "backtrace" "Ljava/lang/Object;" ∈ lw_g := lw_gp (lw_t2 (List.mem_of_getElem? (i := 122) rfl)) rfl
theorem wd_363 : Cond.fieldLink "java/lang/Throwable" (198 : Nat) "java/lang/Throwable" "backtrace" "Ljava/lang/Object;" ∈ lw_g := lw_gp (lw_t2 (List.mem_of_getElem? (i := 123) rfl)) rfl
theorem wd_364 : Cond.superclass "java/lang/Throwable" "java/lang/Object" ∈ lw_g := lw_gp (lw_t2 (List.mem_of_getElem? (i := 124) rfl)) rfl
theorem wd_365 : Cond.instanceMethod ({ cls := "java/lang/Throwable", name := "<init>", desc := "()V" } : MethodName) ∈ lw_g := lw_gp (lw_t2 (List.mem_of_getElem? (i := 125) rfl)) rfl
theorem wd_366 : Cond.code ({ cls := "java/lang/Throwable", name := "<init>", desc := "()V" } : MethodName) prog_19_method_1_code (1 : Nat) (Option.none : Option FieldType) ∈ lw_g := lw_gp (lw_t2 (List.mem_of_getElem? (i := 126) rfl)) rfl
theorem wd_367 : Cond.methodLink "java/lang/Throwable" (1 : Nat) ({ cls := "java/lang/Object", name := "<init>", desc := "()V" } : MethodName) ∈ lw_g := lw_gp (lw_t2 (List.mem_of_getElem? (i := 127) rfl)) rfl
theorem wd_368 : Cond.fieldLink "java/lang/Throwable" (13 : Nat) "java/lang/Throwable" "UNASSIGNED_STACK" "[Ljava/lang/StackTraceElement;" ∈ lw_g := lw_gp (lw_t2 (List.mem_of_getElem? (i := 128) rfl)) rfl
theorem wd_370 : Cond.fieldLink "java/lang/Throwable" (20 : Nat) "java/lang/Throwable" "SUPPRESSED_SENTINEL" "Ljava/util/List;" ∈ lw_g := lw_gp (lw_t2 (List.mem_of_getElem? (i := 130) rfl)) rfl
theorem wd_372 : Cond.methodLink "java/lang/Throwable" (27 : Nat) ({ cls := "java/lang/Throwable", name := "fillInStackTrace", desc := "()Ljava/lang/Throwable;" } : MethodName) ∈ lw_g := lw_gp (lw_t2 (List.mem_of_getElem? (i := 132) rfl)) rfl
theorem wd_373 : Cond.instanceMethod ({ cls := "java/lang/Throwable", name := "fillInStackTrace", desc := "()Ljava/lang/Throwable;" } : MethodName) ∈ lw_g := lw_gp (lw_t2 (List.mem_of_getElem? (i := 133) rfl)) rfl
theorem wd_374 : Cond.sameMethod "java/lang/Throwable" "java/lang/Throwable" "fillInStackTrace" "()Ljava/lang/Throwable;" ∈ lw_g := lw_gp (lw_t2 (List.mem_of_getElem? (i := 134) rfl)) rfl
theorem wd_375 : Cond.selects "java/lang/IllegalStateException" ({ cls := "java/lang/Throwable", name := "fillInStackTrace", desc := "()Ljava/lang/Throwable;" } : MethodName) ({ cls := "java/lang/Throwable", name := "fillInStackTrace", desc := "()Ljava/lang/Throwable;" } : MethodName) ∈ lw_g := lw_gp (lw_t2 (List.mem_of_getElem? (i := 135) rfl)) rfl
theorem wd_376 : Cond.selects "java/lang/IndexOutOfBoundsException" ({ cls := "java/lang/Throwable", name := "fillInStackTrace", desc := "()Ljava/lang/Throwable;" } : MethodName) ({ cls := "java/lang/Throwable", name := "fillInStackTrace", desc := "()Ljava/lang/Throwable;" } : MethodName) ∈ lw_g := lw_gp (lw_t2 (List.mem_of_getElem? (i := 136) rfl)) rfl
theorem wd_377 : Cond.codeSync ({ cls := "java/lang/Throwable", name := "fillInStackTrace", desc := "()Ljava/lang/Throwable;" } : MethodName) prog_19_method_18_code (1 : Nat) (Option.some (FieldType.object "java/lang/Throwable")) ∈ lw_g := lw_gp (lw_t2 (List.mem_of_getElem? (i := 137) rfl)) rfl
theorem wd_378 : Cond.methodLink "java/lang/Throwable" (202 : Nat) ({ cls := "java/lang/Throwable", name := "fillInStackTrace", desc := "(I)Ljava/lang/Throwable;" } : MethodName) ∈ lw_g := lw_gp (lw_t2 (List.mem_of_getElem? (i := 138) rfl)) rfl
theorem wd_380 : Cond.instanceMethod ({ cls := "java/lang/Throwable", name := "fillInStackTrace", desc := "(I)Ljava/lang/Throwable;" } : MethodName) ∈ lw_g := lw_gp (lw_t2 (List.mem_of_getElem? (i := 140) rfl)) rfl
theorem wd_381 : Cond.instantiable "java/lang/Throwable" (6 : Nat) ∈ lw_g := lw_gp (lw_t2 (List.mem_of_getElem? (i := 141) rfl)) rfl
theorem wd_382 : Cond.native ({ cls := "java/lang/Throwable", name := "fillInStackTrace", desc := "(I)Ljava/lang/Throwable;" } : MethodName) ∈ lw_g := lw_gp (lw_t2 (List.mem_of_getElem? (i := 142) rfl)) rfl
theorem wd_384 : Cond.methodLink "CarrierLink" (57 : Nat) ({ cls := "java/lang/IllegalArgumentException", name := "<init>", desc := "(Ljava/lang/String;)V" } : MethodName) ∈ lw_g := lw_gp (lw_t2 (List.mem_of_getElem? (i := 144) rfl)) rfl
theorem wd_385 : Cond.instanceMethod ({ cls := "java/lang/IllegalArgumentException", name := "<init>", desc := "(Ljava/lang/String;)V" } : MethodName) ∈ lw_g := lw_gp (lw_t2 (List.mem_of_getElem? (i := 145) rfl)) rfl
theorem wd_386 : Cond.code ({ cls := "java/lang/IllegalArgumentException", name := "<init>", desc := "(Ljava/lang/String;)V" } : MethodName) prog_12_method_2_code (2 : Nat) (Option.none : Option FieldType) ∈ lw_g := lw_gp (lw_t2 (List.mem_of_getElem? (i := 146) rfl)) rfl
theorem wd_387 : Cond.methodLink "java/lang/IllegalArgumentException" (7 : Nat) ({ cls := "java/lang/RuntimeException", name := "<init>", desc := "(Ljava/lang/String;)V" } : MethodName) ∈ lw_g := lw_gp (lw_t2 (List.mem_of_getElem? (i := 147) rfl)) rfl
theorem wd_388 : Cond.instanceMethod ({ cls := "java/lang/RuntimeException", name := "<init>", desc := "(Ljava/lang/String;)V" } : MethodName) ∈ lw_g := lw_gp (lw_t2 (List.mem_of_getElem? (i := 148) rfl)) rfl
theorem wd_389 : Cond.code ({ cls := "java/lang/RuntimeException", name := "<init>", desc := "(Ljava/lang/String;)V" } : MethodName) prog_17_method_2_code (2 : Nat) (Option.none : Option FieldType) ∈ lw_g := lw_gp (lw_t2 (List.mem_of_getElem? (i := 149) rfl)) rfl
theorem wd_390 : Cond.methodLink "java/lang/RuntimeException" (7 : Nat) ({ cls := "java/lang/Exception", name := "<init>", desc := "(Ljava/lang/String;)V" } : MethodName) ∈ lw_g := lw_gp (lw_t2 (List.mem_of_getElem? (i := 150) rfl)) rfl
theorem wd_391 : Cond.instanceMethod ({ cls := "java/lang/Exception", name := "<init>", desc := "(Ljava/lang/String;)V" } : MethodName) ∈ lw_g := lw_gp (lw_t2 (List.mem_of_getElem? (i := 151) rfl)) rfl
theorem wd_392 : Cond.code ({ cls := "java/lang/Exception", name := "<init>", desc := "(Ljava/lang/String;)V" } : MethodName) prog_11_method_2_code (2 : Nat) (Option.none : Option FieldType) ∈ lw_g := lw_gp (lw_t2 (List.mem_of_getElem? (i := 152) rfl)) rfl
theorem wd_393 : Cond.methodLink "java/lang/Exception" (7 : Nat) ({ cls := "java/lang/Throwable", name := "<init>", desc := "(Ljava/lang/String;)V" } : MethodName) ∈ lw_g := lw_gp (lw_t2 (List.mem_of_getElem? (i := 153) rfl)) rfl
theorem wd_394 : Cond.instanceMethod ({ cls := "java/lang/Throwable", name := "<init>", desc := "(Ljava/lang/String;)V" } : MethodName) ∈ lw_g := lw_gp (lw_t2 (List.mem_of_getElem? (i := 154) rfl)) rfl
theorem wd_395 : Cond.code ({ cls := "java/lang/Throwable", name := "<init>", desc := "(Ljava/lang/String;)V" } : MethodName) prog_19_method_2_code (2 : Nat) (Option.none : Option FieldType) ∈ lw_g := lw_gp (lw_t2 (List.mem_of_getElem? (i := 155) rfl)) rfl
theorem wd_396 : Cond.fieldLink "java/lang/Throwable" (198 : Nat) "java/lang/Throwable" "backtrace" "Ljava/lang/Object;" ∈ lw_g := lw_gp (lw_t2 (List.mem_of_getElem? (i := 156) rfl)) rfl
theorem wd_397 : Cond.fieldLink "java/lang/Throwable" (31 : Nat) "java/lang/Throwable" "detailMessage" "Ljava/lang/String;" ∈ lw_g := lw_gp (lw_t2 (List.mem_of_getElem? (i := 157) rfl)) rfl
theorem wd_398 : Cond.fieldLink "java/lang/Throwable" (7 : Nat) "java/lang/Throwable" "cause" "Ljava/lang/Throwable;" ∈ lw_g := lw_gp (lw_t2 (List.mem_of_getElem? (i := 158) rfl)) rfl
theorem wd_399 : Cond.fieldLink "java/lang/Throwable" (17 : Nat) "java/lang/Throwable" "stackTrace" "[Ljava/lang/StackTraceElement;" ∈ lw_g := lw_gp (lw_t2 (List.mem_of_getElem? (i := 159) rfl)) rfl
theorem wd_400 : Cond.fieldLink "java/lang/Throwable" (24 : Nat) "java/lang/Throwable" "suppressedExceptions" "Ljava/util/List;" ∈ lw_g := lw_gp (lw_t2 (List.mem_of_getElem? (i := 160) rfl)) rfl
theorem wd_401 : Cond.soleField "java/lang/Throwable" "backtrace" ∈ lw_g := lw_gp (lw_t2 (List.mem_of_getElem? (i := 161) rfl)) rfl
theorem wd_402 : Cond.soleField "java/lang/Throwable" "detailMessage" ∈ lw_g := lw_gp (lw_t2 (List.mem_of_getElem? (i := 162) rfl)) rfl
theorem wd_403 : Cond.soleField "java/lang/Throwable" "cause" ∈ lw_g := lw_gp (lw_t2 (List.mem_of_getElem? (i := 163) rfl)) rfl
theorem wd_404 : Cond.soleField "java/lang/Throwable" "stackTrace" ∈ lw_g := lw_gp (lw_t2 (List.mem_of_getElem? (i := 164) rfl)) rfl
theorem wd_405 : Cond.lays "java/lang/IllegalArgumentException" "java/lang/Throwable" "depth" "I" ∈ lw_g := lw_gp (lw_t2 (List.mem_of_getElem? (i := 165) rfl)) rfl
theorem wd_406 : Cond.soleField "java/lang/Throwable" "depth" ∈ lw_g := lw_gp (lw_t2 (List.mem_of_getElem? (i := 166) rfl)) rfl
theorem wd_407 : Cond.soleField "java/lang/Throwable" "suppressedExceptions" ∈ lw_g := lw_gp (lw_t2 (List.mem_of_getElem? (i := 167) rfl)) rfl
theorem wd_408 : Cond.superclass "java/lang/IllegalArgumentException" "java/lang/RuntimeException" ∈ lw_g := lw_gp (lw_t2 (List.mem_of_getElem? (i := 168) rfl)) rfl
theorem wd_409 : Cond.arrayClass FieldType.byte ∈ lw_g := lw_gp (lw_t2 (List.mem_of_getElem? (i := 169) rfl)) rfl
theorem wd_410 : Cond.classLink "CarrierLink" (60 : Nat) "java/lang/IllegalStateException" ∈ lw_g := lw_gp (lw_t2 (List.mem_of_getElem? (i := 170) rfl)) rfl
theorem wd_411 : Cond.instantiable "java/lang/IllegalStateException" (6 : Nat) ∈ lw_g := lw_gp (lw_t2 (List.mem_of_getElem? (i := 171) rfl)) rfl
theorem wd_413 : Cond.selects "java/lang/IllegalStateException" ({ cls := "java/lang/Throwable", name := "fillInStackTrace", desc := "(I)Ljava/lang/Throwable;" } : MethodName) ({ cls := "java/lang/Throwable", name := "fillInStackTrace", desc := "(I)Ljava/lang/Throwable;" } : MethodName) ∈ lw_g := lw_gp (lw_t2 (List.mem_of_getElem? (i := 173) rfl)) rfl
theorem wd_414 : Cond.lays "java/lang/IllegalStateException" "java/lang/Throwable" "cause" "Ljava/lang/Throwable;" ∈ lw_g := lw_gp (lw_t2 (List.mem_of_getElem? (i := 174) rfl)) rfl
theorem wd_415 : Cond.lays "java/lang/IllegalStateException" "java/lang/Throwable" "stackTrace" "[Ljava/lang/StackTraceElement;" ∈ lw_g := lw_gp (lw_t2 (List.mem_of_getElem? (i := 175) rfl)) rfl
theorem wd_416 : Cond.lays "java/lang/IllegalStateException" "java/lang/Throwable" "suppressedExceptions" "Ljava/util/List;" ∈ lw_g := lw_gp (lw_t2 (List.mem_of_getElem? (i := 176) rfl)) rfl
theorem wd_417 : Cond.lays "java/lang/IllegalStateException" "java/lang/Throwable" "detailMessage" "Ljava/lang/String;" ∈ lw_g := lw_gp (lw_t2 (List.mem_of_getElem? (i := 177) rfl)) rfl
theorem wd_418 : Cond.lays "java/lang/IllegalStateException" "java/lang/Throwable" "backtrace" "Ljava/lang/Object;" ∈ lw_g := lw_gp (lw_t2 (List.mem_of_getElem? (i := 178) rfl)) rfl
theorem wd_420 : Cond.methodLink "CarrierLink" (64 : Nat) ({ cls := "java/lang/IllegalStateException", name := "<init>", desc := "(Ljava/lang/String;)V" } : MethodName) ∈ lw_g := lw_gp (lw_t2 (List.mem_of_getElem? (i := 180) rfl)) rfl
theorem wd_421 : Cond.instanceMethod ({ cls := "java/lang/IllegalStateException", name := "<init>", desc := "(Ljava/lang/String;)V" } : MethodName) ∈ lw_g := lw_gp (lw_t2 (List.mem_of_getElem? (i := 181) rfl)) rfl
theorem wd_422 : Cond.code ({ cls := "java/lang/IllegalStateException", name := "<init>", desc := "(Ljava/lang/String;)V" } : MethodName) prog_13_method_2_code (2 : Nat) (Option.none : Option FieldType) ∈ lw_g := lw_gp (lw_t2 (List.mem_of_getElem? (i := 182) rfl)) rfl
theorem wd_423 : Cond.methodLink "java/lang/IllegalStateException" (7 : Nat) ({ cls := "java/lang/RuntimeException", name := "<init>", desc := "(Ljava/lang/String;)V" } : MethodName) ∈ lw_g := lw_gp (lw_t2 (List.mem_of_getElem? (i := 183) rfl)) rfl
theorem wd_424 : Cond.lays "java/lang/IllegalStateException" "java/lang/Throwable" "depth" "I" ∈ lw_g := lw_gp (lw_t2 (List.mem_of_getElem? (i := 184) rfl)) rfl
theorem wd_425 : Cond.superclass "java/lang/IllegalStateException" "java/lang/RuntimeException" ∈ lw_g := lw_gp (lw_t2 (List.mem_of_getElem? (i := 185) rfl)) rfl
theorem wd_426 : Cond.methodLink "CarrierLink" (65 : Nat) ({ cls := "CarrierLink$Sender", name := "makeFrame", desc := "([IIII)V" } : MethodName) ∈ lw_g := lw_gp (lw_t2 (List.mem_of_getElem? (i := 186) rfl)) rfl
theorem wd_427 : Cond.instanceMethod ({ cls := "CarrierLink$Sender", name := "makeFrame", desc := "([IIII)V" } : MethodName) ∈ lw_g := lw_gp (lw_t2 (List.mem_of_getElem? (i := 187) rfl)) rfl
theorem wd_428 : Cond.selects "CarrierLink$Sender" ({ cls := "CarrierLink$Sender", name := "makeFrame", desc := "([IIII)V" } : MethodName) ({ cls := "CarrierLink$Sender", name := "makeFrame", desc := "([IIII)V" } : MethodName) ∈ lw_g := lw_gp (lw_t2 (List.mem_of_getElem? (i := 188) rfl)) rfl
theorem wd_429 : Cond.code ({ cls := "CarrierLink$Sender", name := "makeFrame", desc := "([IIII)V" } : MethodName) prog_7_method_2_code (5 : Nat) (Option.none : Option FieldType) ∈ lw_g := lw_gp (lw_t2 (List.mem_of_getElem? (i := 189) rfl)) rfl
theorem wd_430 : Cond.methodLink "CarrierLink$Sender" (47 : Nat) ({ cls := "CarrierLink$Wave", name := "clear", desc := "()V" } : MethodName) ∈ lw_g := lw_gp (lw_t2 (List.mem_of_getElem? (i := 190) rfl)) rfl
theorem wd_431 : Cond.instanceMethod ({ cls := "CarrierLink$Wave", name := "clear", desc := "()V" } : MethodName) ∈ lw_g := lw_gp (lw_t2 (List.mem_of_getElem? (i := 191) rfl)) rfl
theorem wd_432 : Cond.selects "CarrierLink$Wave" ({ cls := "CarrierLink$Wave", name := "clear", desc := "()V" } : MethodName) ({ cls := "CarrierLink$Wave", name := "clear", desc := "()V" } : MethodName) ∈ lw_g := lw_gp (lw_t2 (List.mem_of_getElem? (i := 192) rfl)) rfl
theorem wd_433 : Cond.code ({ cls := "CarrierLink$Wave", name := "clear", desc := "()V" } : MethodName) prog_8_method_2_code (1 : Nat) (Option.none : Option FieldType) ∈ lw_g := lw_gp (lw_t2 (List.mem_of_getElem? (i := 193) rfl)) rfl
theorem wd_434 : Cond.methodLink "CarrierLink$Sender" (52 : Nat) ({ cls := "CarrierLink$Scrambler", name := "begin", desc := "(I)V" } : MethodName) ∈ lw_g := lw_gp (lw_t2 (List.mem_of_getElem? (i := 194) rfl)) rfl
theorem wd_435 : Cond.instanceMethod ({ cls := "CarrierLink$Scrambler", name := "begin", desc := "(I)V" } : MethodName) ∈ lw_g := lw_gp (lw_t2 (List.mem_of_getElem? (i := 195) rfl)) rfl
theorem wd_436 : Cond.selects "CarrierLink$Scrambler" ({ cls := "CarrierLink$Scrambler", name := "begin", desc := "(I)V" } : MethodName) ({ cls := "CarrierLink$Scrambler", name := "begin", desc := "(I)V" } : MethodName) ∈ lw_g := lw_gp (lw_t2 (List.mem_of_getElem? (i := 196) rfl)) rfl
theorem wd_437 : Cond.code ({ cls := "CarrierLink$Scrambler", name := "begin", desc := "(I)V" } : MethodName) prog_6_method_2_code (2 : Nat) (Option.none : Option FieldType) ∈ lw_g := lw_gp (lw_t2 (List.mem_of_getElem? (i := 197) rfl)) rfl
theorem wd_438 : Cond.methodLink "CarrierLink$Sender" (56 : Nat) ({ cls := "CarrierLink$Sender", name := "appendTraining", desc := "()V" } : MethodName) ∈ lw_g := lw_gp (lw_t2 (List.mem_of_getElem? (i := 198) rfl)) rfl
theorem wd_440 : Cond.instanceMethod ({ cls := "CarrierLink$Sender", name := "appendTraining", desc := "()V" } : MethodName) ∈ lw_g := lw_gp (lw_t2 (List.mem_of_getElem? (i := 200) rfl)) rfl
theorem wd_441 : Cond.code ({ cls := "CarrierLink$Sender", name := "appendTraining", desc := "()V" } : MethodName) prog_7_method_3_code (1 : Nat) (Option.none : Option FieldType) ∈ lw_g := lw_gp (lw_t2 (List.mem_of_getElem? (i := 201) rfl)) rfl
theorem wd_442 : Cond.methodLink "CarrierLink$Sender" (70 : Nat) ({ cls := "CarrierLink$Sender", name := "appendPoints", desc := "(LCarrierLink$Points;I)V" } : MethodName) ∈ lw_g := lw_gp (lw_t2 (List.mem_of_getElem? (i := 202) rfl)) rfl
theorem wd_444 : Cond.instanceMethod ({ cls := "CarrierLink$Sender", name := "appendPoints", desc := "(LCarrierLink$Points;I)V" } : MethodName) ∈ lw_g := lw_gp (lw_t2 (List.mem_of_getElem? (i := 204) rfl)) rfl
theorem wd_445 : Cond.code ({ cls := "CarrierLink$Sender", name := "appendPoints", desc := "(LCarrierLink$Points;I)V" } : MethodName) prog_7_method_4_code (4 : Nat) (Option.none : Option FieldType) ∈ lw_g := lw_gp (lw_t2 (List.mem_of_getElem? (i := 205) rfl)) rfl
theorem wd_446 : Cond.methodLink "CarrierLink$Sender" (81 : Nat) ({ cls := "CarrierLink$Wave", name := "append", desc := "(II)V" } : MethodName) ∈ lw_g := lw_gp (lw_t2 (List.mem_of_getElem? (i := 206) rfl)) rfl
theorem wd_447 : Cond.instanceMethod ({ cls := "CarrierLink$Wave", name := "append", desc := "(II)V" } : MethodName) ∈ lw_g := lw_gp (lw_t2 (List.mem_of_getElem? (i := 207) rfl)) rfl
theorem wd_448 : Cond.selects "CarrierLink$Wave" ({ cls := "CarrierLink$Wave", name := "append", desc := "(II)V" } : MethodName) ({ cls := "CarrierLink$Wave", name := "append", desc := "(II)V" } : MethodName) ∈ lw_g := lw_gp (lw_t2 (List.mem_of_getElem? (i := 208) rfl)) rfl
theorem wd_449 : Cond.code ({ cls := "CarrierLink$Wave", name := "append", desc := "(II)V" } : MethodName) prog_8_method_4_code (3 : Nat) (Option.none : Option FieldType) ∈ lw_g := lw_gp (lw_t2 (List.mem_of_getElem? (i := 209) rfl)) rfl
theorem wd_450 : Cond.methodLink "CarrierLink$Sender" (59 : Nat) ({ cls := "CarrierLink$Sender", name := "writeSignal", desc := "(II)V" } : MethodName) ∈ lw_g := lw_gp (lw_t2 (List.mem_of_getElem? (i := 210) rfl)) rfl
theorem wd_452 : Cond.instanceMethod ({ cls := "CarrierLink$Sender", name := "writeSignal", desc := "(II)V" } : MethodName) ∈ lw_g := lw_gp (lw_t2 (List.mem_of_getElem? (i := 212) rfl)) rfl
theorem wd_453 : Cond.code ({ cls := "CarrierLink$Sender", name := "writeSignal", desc := "(II)V" } : MethodName) prog_7_method_5_code (3 : Nat) (Option.none : Option FieldType) ∈ lw_g := lw_gp (lw_t2 (List.mem_of_getElem? (i := 213) rfl)) rfl
theorem wd_454 : Cond.methodLink "CarrierLink$Sender" (84 : Nat) ({ cls := "CarrierLink$BitRows", name := "clear", desc := "()V" } : MethodName) ∈ lw_g := lw_gp (lw_t2 (List.mem_of_getElem? (i := 214) rfl)) rfl
theorem wd_455 : Cond.instanceMethod ({ cls := "CarrierLink$BitRows", name := "clear", desc := "()V" } : MethodName) ∈ lw_g := lw_gp (lw_t2 (List.mem_of_getElem? (i := 215) rfl)) rfl
theorem wd_456 : Cond.selects "CarrierLink$BitRows" ({ cls := "CarrierLink$BitRows", name := "clear", desc := "()V" } : MethodName) ({ cls := "CarrierLink$BitRows", name := "clear", desc := "()V" } : MethodName) ∈ lw_g := lw_gp (lw_t2 (List.mem_of_getElem? (i := 216) rfl)) rfl
theorem wd_457 : Cond.code ({ cls := "CarrierLink$BitRows", name := "clear", desc := "()V" } : MethodName) prog_2_method_2_code (1 : Nat) (Option.none : Option FieldType) ∈ lw_g := lw_gp (lw_t2 (List.mem_of_getElem? (i := 217) rfl)) rfl
theorem wd_458 : Cond.methodLink "CarrierLink$Sender" (85 : Nat) ({ cls := "CarrierLink$BitRows", name := "appendLowestFirst", desc := "(II)V" } : MethodName) ∈ lw_g := lw_gp (lw_t2 (List.mem_of_getElem? (i := 218) rfl)) rfl
theorem wd_459 : Cond.instanceMethod ({ cls := "CarrierLink$BitRows", name := "appendLowestFirst", desc := "(II)V" } : MethodName) ∈ lw_g := lw_gp (lw_t2 (List.mem_of_getElem? (i := 219) rfl)) rfl
theorem wd_460 : Cond.selects "CarrierLink$BitRows" ({ cls := "CarrierLink$BitRows", name := "appendLowestFirst", desc := "(II)V" } : MethodName) ({ cls := "CarrierLink$BitRows", name := "appendLowestFirst", desc := "(II)V" } : MethodName) ∈ lw_g := lw_gp (lw_t2 (List.mem_of_getElem? (i := 220) rfl)) rfl
theorem wd_461 : Cond.code ({ cls := "CarrierLink$BitRows", name := "appendLowestFirst", desc := "(II)V" } : MethodName) prog_2_method_4_code (4 : Nat) (Option.none : Option FieldType) ∈ lw_g := lw_gp (lw_t2 (List.mem_of_getElem? (i := 221) rfl)) rfl
theorem wd_462 : Cond.methodLink "CarrierLink$BitRows" (28 : Nat) ({ cls := "CarrierLink$BitRows", name := "append", desc := "(I)V" } : MethodName) ∈ lw_g := lw_gp (lw_t2 (List.mem_of_getElem? (i := 222) rfl)) rfl
theorem wd_463 : Cond.instanceMethod ({ cls := "CarrierLink$BitRows", name := "append", desc := "(I)V" } : MethodName) ∈ lw_g := lw_gp (lw_t2 (List.mem_of_getElem? (i := 223) rfl)) rfl
theorem wd_464 : Cond.selects "CarrierLink$BitRows" ({ cls := "CarrierLink$BitRows", name := "append", desc := "(I)V" } : MethodName) ({ cls := "CarrierLink$BitRows", name := "append", desc := "(I)V" } : MethodName) ∈ lw_g := lw_gp (lw_t2 (List.mem_of_getElem? (i := 224) rfl)) rfl
theorem wd_465 : Cond.code ({ cls := "CarrierLink$BitRows", name := "append", desc := "(I)V" } : MethodName) prog_2_method_3_code (2 : Nat) (Option.none : Option FieldType) ∈ lw_g := lw_gp (lw_t2 (List.mem_of_getElem? (i := 225) rfl)) rfl
theorem wd_466 : Cond.methodLink "CarrierLink$Sender" (88 : Nat) ({ cls := "java/lang/Integer", name := "bitCount", desc := "(I)I" } : MethodName) ∈ lw_g := lw_gp (lw_t2 (List.mem_of_getElem? (i := 226) rfl)) rfl
theorem wd_467 : Cond.methodLink "CarrierLink$Sender" (94 : Nat) ({ cls := "CarrierLink$BitRows", name := "append", desc := "(I)V" } : MethodName) ∈ lw_g := lw_gp (lw_t2 (List.mem_of_getElem? (i := 227) rfl)) rfl
theorem wd_468 : Cond.methodLink "CarrierLink$Sender" (96 : Nat) ({ cls := "CarrierLink$BitRows", name := "appendZeros", desc := "(I)V" } : MethodName) ∈ lw_g := lw_gp (lw_t2 (List.mem_of_getElem? (i := 228) rfl)) rfl
theorem wd_469 : Cond.instanceMethod ({ cls := "CarrierLink$BitRows", name := "appendZeros", desc := "(I)V" } : MethodName) ∈ lw_g := lw_gp (lw_t2 (List.mem_of_getElem? (i := 229) rfl)) rfl
theorem wd_470 : Cond.selects "CarrierLink$BitRows" ({ cls := "CarrierLink$BitRows", name := "appendZeros", desc := "(I)V" } : MethodName) ({ cls := "CarrierLink$BitRows", name := "appendZeros", desc := "(I)V" } : MethodName) ∈ lw_g := lw_gp (lw_t2 (List.mem_of_getElem? (i := 230) rfl)) rfl
theorem wd_471 : Cond.code ({ cls := "CarrierLink$BitRows", name := "appendZeros", desc := "(I)V" } : MethodName) prog_2_method_5_code (2 : Nat) (Option.none : Option FieldType) ∈ lw_g := lw_gp (lw_t2 (List.mem_of_getElem? (i := 231) rfl)) rfl
theorem wd_472 : Cond.methodLink "CarrierLink$BitRows" (32 : Nat) ({ cls := "CarrierLink$BitRows", name := "appendLowestFirst", desc := "(II)V" } : MethodName) ∈ lw_g := lw_gp (lw_t2 (List.mem_of_getElem? (i := 232) rfl)) rfl
theorem wd_473 : Cond.methodLink "CarrierLink$Sender" (99 : Nat) ({ cls := "CarrierLink$BitRows", name := "encode", desc := "(I)V" } : MethodName) ∈ lw_g := lw_gp (lw_t2 (List.mem_of_getElem? (i := 233) rfl)) rfl
theorem wd_474 : Cond.instanceMethod ({ cls := "CarrierLink$BitRows", name := "encode", desc := "(I)V" } : MethodName) ∈ lw_g := lw_gp (lw_t2 (List.mem_of_getElem? (i := 234) rfl)) rfl
theorem wd_475 : Cond.selects "CarrierLink$BitRows" ({ cls := "CarrierLink$BitRows", name := "encode", desc := "(I)V" } : MethodName) ({ cls := "CarrierLink$BitRows", name := "encode", desc := "(I)V" } : MethodName) ∈ lw_g := lw_gp (lw_t2 (List.mem_of_getElem? (i := 235) rfl)) rfl
theorem wd_476 : Cond.code ({ cls := "CarrierLink$BitRows", name := "encode", desc := "(I)V" } : MethodName) prog_2_method_6_code (2 : Nat) (Option.none : Option FieldType) ∈ lw_g := lw_gp (lw_t2 (List.mem_of_getElem? (i := 236) rfl)) rfl
theorem wd_477 : Cond.methodLinkNest "CarrierLink$BitRows" (36 : Nat) ({ cls := "CarrierLink", name := "isThin", desc := "(I)Z" } : MethodName) "CarrierLink" ∈ lw_n := lw_np (lw_t2 (List.mem_of_getElem? (i := 237) rfl)) rfl
theorem wd_478 : Cond.static ({ cls := "CarrierLink", name := "isThin", desc := "(I)Z" } : MethodName) ∈ lw_g := lw_gp (lw_t2 (List.mem_of_getElem? (i := 238) rfl)) rfl
theorem wd_479 : Cond.code ({ cls := "CarrierLink", name := "isThin", desc := "(I)Z" } : MethodName) prog_1_method_20_code (1 : Nat) (Option.some FieldType.boolean) ∈ lw_g := lw_gp (lw_t2 (List.mem_of_getElem? (i := 239) rfl)) rfl
theorem wd_480 : Cond.methodLink "CarrierLink$BitRows" (40 : Nat) ({ cls := "CarrierLink$BitRows", name := "code", desc := "(Z)V" } : MethodName) ∈ lw_g := lw_gp (lw_t3 (List.mem_of_getElem? (i := 0) rfl)) rfl
theorem wd_482 : Cond.instanceMethod ({ cls := "CarrierLink$BitRows", name := "code", desc := "(Z)V" } : MethodName) ∈ lw_g := lw_gp (lw_t3 (List.mem_of_getElem? (i := 2) rfl)) rfl
theorem wd_483 : Cond.code ({ cls := "CarrierLink$BitRows", name := "code", desc := "(Z)V" } : MethodName) prog_2_method_7_code (4 : Nat) (Option.none : Option FieldType) ∈ lw_g := lw_gp (lw_t3 (List.mem_of_getElem? (i := 3) rfl)) rfl
theorem wd_484 : Cond.methodLinkNest "CarrierLink$BitRows" (50 : Nat) ({ cls := "CarrierLink", name := "keepsA", desc := "(ZI)Z" } : MethodName) "CarrierLink" ∈ lw_n := lw_np (lw_t3 (List.mem_of_getElem? (i := 4) rfl)) rfl
theorem wd_485 : Cond.static ({ cls := "CarrierLink", name := "keepsA", desc := "(ZI)Z" } : MethodName) ∈ lw_g := lw_gp (lw_t3 (List.mem_of_getElem? (i := 5) rfl)) rfl
theorem wd_486 : Cond.code ({ cls := "CarrierLink", name := "keepsA", desc := "(ZI)Z" } : MethodName) prog_1_method_21_code (2 : Nat) (Option.some FieldType.boolean) ∈ lw_g := lw_gp (lw_t3 (List.mem_of_getElem? (i := 6) rfl)) rfl
theorem wd_487 : Cond.methodLinkNest "CarrierLink$BitRows" (54 : Nat) ({ cls := "CarrierLink", name := "codeOf", desc := "(II)I" } : MethodName) "CarrierLink" ∈ lw_n := lw_np (lw_t3 (List.mem_of_getElem? (i := 7) rfl)) rfl
theorem wd_488 : Cond.methodLink "CarrierLink$BitRows" (58 : Nat) ({ cls := "CarrierLink$BitRows", name := "appendCoded", desc := "(I)V" } : MethodName) ∈ lw_g := lw_gp (lw_t3 (List.mem_of_getElem? (i := 8) rfl)) rfl
theorem wd_490 : Cond.instanceMethod ({ cls := "CarrierLink$BitRows", name := "appendCoded", desc := "(I)V" } : MethodName) ∈ lw_g := lw_gp (lw_t3 (List.mem_of_getElem? (i := 10) rfl)) rfl
theorem wd_491 : Cond.code ({ cls := "CarrierLink$BitRows", name := "appendCoded", desc := "(I)V" } : MethodName) prog_2_method_8_code (2 : Nat) (Option.none : Option FieldType) ∈ lw_g := lw_gp (lw_t3 (List.mem_of_getElem? (i := 11) rfl)) rfl
theorem wd_492 : Cond.methodLinkNest "CarrierLink$BitRows" (61 : Nat) ({ cls := "CarrierLink", name := "keepsB", desc := "(ZI)Z" } : MethodName) "CarrierLink" ∈ lw_n := lw_np (lw_t3 (List.mem_of_getElem? (i := 12) rfl)) rfl
theorem wd_493 : Cond.static ({ cls := "CarrierLink", name := "keepsB", desc := "(ZI)Z" } : MethodName) ∈ lw_g := lw_gp (lw_t3 (List.mem_of_getElem? (i := 13) rfl)) rfl
theorem wd_494 : Cond.code ({ cls := "CarrierLink", name := "keepsB", desc := "(ZI)Z" } : MethodName) prog_1_method_22_code (2 : Nat) (Option.some FieldType.boolean) ∈ lw_g := lw_gp (lw_t3 (List.mem_of_getElem? (i := 14) rfl)) rfl
theorem wd_495 : Cond.fieldLinkNest "CarrierLink$BitRows" (44 : Nat) "CarrierLink" "BITS_ON_CARRIER" "[I" "CarrierLink" ∈ lw_n := lw_np (lw_t3 (List.mem_of_getElem? (i := 15) rfl)) rfl
theorem wd_497 : Cond.methodLink "CarrierLink$BitRows" (47 : Nat) ({ cls := "CarrierLink$BitRows", name := "interleave", desc := "(I)V" } : MethodName) ∈ lw_g := lw_gp (lw_t3 (List.mem_of_getElem? (i := 17) rfl)) rfl
theorem wd_499 : Cond.instanceMethod ({ cls := "CarrierLink$BitRows", name := "interleave", desc := "(I)V" } : MethodName) ∈ lw_g := lw_gp (lw_t3 (List.mem_of_getElem? (i := 19) rfl)) rfl
theorem wd_500 : Cond.code ({ cls := "CarrierLink$BitRows", name := "interleave", desc := "(I)V" } : MethodName) prog_2_method_9_code (5 : Nat) (Option.none : Option FieldType) ∈ lw_g := lw_gp (lw_t3 (List.mem_of_getElem? (i := 20) rfl)) rfl
theorem wd_501 : Cond.methodLinkNest "CarrierLink$BitRows" (64 : Nat) ({ cls := "CarrierLink", name := "placeOf", desc := "(II)I" } : MethodName) "CarrierLink" ∈ lw_n := lw_np (lw_t3 (List.mem_of_getElem? (i := 21) rfl)) rfl
theorem wd_502 : Cond.static ({ cls := "CarrierLink", name := "placeOf", desc := "(II)I" } : MethodName) ∈ lw_g := lw_gp (lw_t3 (List.mem_of_getElem? (i := 22) rfl)) rfl
theorem wd_503 : Cond.code ({ cls := "CarrierLink", name := "placeOf", desc := "(II)I" } : MethodName) prog_1_method_25_code (5 : Nat) (Option.some FieldType.int) ∈ lw_g := lw_gp (lw_t3 (List.mem_of_getElem? (i := 23) rfl)) rfl
theorem wd_504 : Cond.methodLink "CarrierLink$Sender" (62 : Nat) ({ cls := "CarrierLink$Sender", name := "appendSymbols", desc := "(LCarrierLink$BitRows;I)V" } : MethodName) ∈ lw_g := lw_gp (lw_t3 (List.mem_of_getElem? (i := 24) rfl)) rfl
theorem wd_506 : Cond.instanceMethod ({ cls := "CarrierLink$Sender", name := "appendSymbols", desc := "(LCarrierLink$BitRows;I)V" } : MethodName) ∈ lw_g := lw_gp (lw_t3 (List.mem_of_getElem? (i := 26) rfl)) rfl
theorem wd_507 : Cond.code ({ cls := "CarrierLink$Sender", name := "appendSymbols", desc := "(LCarrierLink$BitRows;I)V" } : MethodName) prog_7_method_8_code (7 : Nat) (Option.none : Option FieldType) ∈ lw_g := lw_gp (lw_t3 (List.mem_of_getElem? (i := 27) rfl)) rfl
theorem wd_508 : Cond.fieldLinkNest "CarrierLink$Sender" (123 : Nat) "CarrierLink" "BITS_ON_CARRIER" "[I" "CarrierLink" ∈ lw_n := lw_np (lw_t3 (List.mem_of_getElem? (i := 28) rfl)) rfl
theorem wd_509 : Cond.methodLink "CarrierLink$Sender" (129 : Nat) ({ cls := "CarrierLink$Points", name := "clear", desc := "()V" } : MethodName) ∈ lw_g := lw_gp (lw_t3 (List.mem_of_getElem? (i := 29) rfl)) rfl
theorem wd_510 : Cond.instanceMethod ({ cls := "CarrierLink$Points", name := "clear", desc := "()V" } : MethodName) ∈ lw_g := lw_gp (lw_t3 (List.mem_of_getElem? (i := 30) rfl)) rfl
theorem wd_511 : Cond.selects "CarrierLink$Points" ({ cls := "CarrierLink$Points", name := "clear", desc := "()V" } : MethodName) ({ cls := "CarrierLink$Points", name := "clear", desc := "()V" } : MethodName) ∈ lw_g := lw_gp (lw_t3 (List.mem_of_getElem? (i := 31) rfl)) rfl
theorem wd_512 : Cond.code ({ cls := "CarrierLink$Points", name := "clear", desc := "()V" } : MethodName) prog_4_method_2_code (1 : Nat) (Option.none : Option FieldType) ∈ lw_g := lw_gp (lw_t3 (List.mem_of_getElem? (i := 32) rfl)) rfl
theorem wd_513 : Cond.methodLink "CarrierLink$Points" (18 : Nat) ({ cls := "java/util/Arrays", name := "fill", desc := "([II)V" } : MethodName) ∈ lw_g := lw_gp (lw_t3 (List.mem_of_getElem? (i := 33) rfl)) rfl
theorem wd_514 : Cond.fieldLinkNest "CarrierLink$Sender" (130 : Nat) "CarrierLink" "CARRIER_OF_DATA" "[I" "CarrierLink" ∈ lw_n := lw_np (lw_t3 (List.mem_of_getElem? (i := 34) rfl)) rfl
theorem wd_516 : Cond.methodLink "CarrierLink$Sender" (136 : Nat) ({ cls := "CarrierLink$Sender", name := "mapCarrier", desc := "(I[III)V" } : MethodName) ∈ lw_g := lw_gp (lw_t3 (List.mem_of_getElem? (i := 36) rfl)) rfl
theorem wd_518 : Cond.instanceMethod ({ cls := "CarrierLink$Sender", name := "mapCarrier", desc := "(I[III)V" } : MethodName) ∈ lw_g := lw_gp (lw_t3 (List.mem_of_getElem? (i := 38) rfl)) rfl
theorem wd_519 : Cond.code ({ cls := "CarrierLink$Sender", name := "mapCarrier", desc := "(I[III)V" } : MethodName) prog_7_method_9_code (5 : Nat) (Option.none : Option FieldType) ∈ lw_g := lw_gp (lw_t3 (List.mem_of_getElem? (i := 39) rfl)) rfl
theorem wd_520 : Cond.fieldLinkNest "CarrierLink$Sender" (146 : Nat) "CarrierLink" "FOUR_LEVELS" "[I" "CarrierLink" ∈ lw_n := lw_np (lw_t3 (List.mem_of_getElem? (i := 40) rfl)) rfl
theorem wd_522 : Cond.methodLink "CarrierLink$Sender" (140 : Nat) ({ cls := "CarrierLink$Sender", name := "setPilots", desc := "()V" } : MethodName) ∈ lw_g := lw_gp (lw_t3 (List.mem_of_getElem? (i := 42) rfl)) rfl
theorem wd_524 : Cond.instanceMethod ({ cls := "CarrierLink$Sender", name := "setPilots", desc := "()V" } : MethodName) ∈ lw_g := lw_gp (lw_t3 (List.mem_of_getElem? (i := 44) rfl)) rfl
theorem wd_525 : Cond.code ({ cls := "CarrierLink$Sender", name := "setPilots", desc := "()V" } : MethodName) prog_7_method_10_code (2 : Nat) (Option.none : Option FieldType) ∈ lw_g := lw_gp (lw_t3 (List.mem_of_getElem? (i := 45) rfl)) rfl
theorem wd_526 : Cond.methodLink "CarrierLink$Sender" (116 : Nat) ({ cls := "CarrierLink$Scrambler", name := "next", desc := "()I" } : MethodName) ∈ lw_g := lw_gp (lw_t3 (List.mem_of_getElem? (i := 46) rfl)) rfl
theorem wd_527 : Cond.instanceMethod ({ cls := "CarrierLink$Scrambler", name := "next", desc := "()I" } : MethodName) ∈ lw_g := lw_gp (lw_t3 (List.mem_of_getElem? (i := 47) rfl)) rfl
theorem wd_528 : Cond.selects "CarrierLink$Scrambler" ({ cls := "CarrierLink$Scrambler", name := "next", desc := "()I" } : MethodName) ({ cls := "CarrierLink$Scrambler", name := "next", desc := "()I" } : MethodName) ∈ lw_g := lw_gp (lw_t3 (List.mem_of_getElem? (i := 48) rfl)) rfl
theorem wd_529 : Cond.code ({ cls := "CarrierLink$Scrambler", name := "next", desc := "()I" } : MethodName) prog_6_method_3_code (2 : Nat) (Option.some FieldType.int) ∈ lw_g := lw_gp (lw_t3 (List.mem_of_getElem? (i := 49) rfl)) rfl
theorem wd_530 : Cond.methodLink "CarrierLink$Sender" (143 : Nat) ({ cls := "CarrierLink$Points", name := "transform", desc := "(I)V" } : MethodName) ∈ lw_g := lw_gp (lw_t3 (List.mem_of_getElem? (i := 50) rfl)) rfl
theorem wd_531 : Cond.methodLink "CarrierLink$Sender" (66 : Nat) ({ cls := "CarrierLink$Sender", name := "writeData", desc := "([IIII)V" } : MethodName) ∈ lw_g := lw_gp (lw_t3 (List.mem_of_getElem? (i := 51) rfl)) rfl
theorem wd_533 : Cond.instanceMethod ({ cls := "CarrierLink$Sender", name := "writeData", desc := "([IIII)V" } : MethodName) ∈ lw_g := lw_gp (lw_t3 (List.mem_of_getElem? (i := 53) rfl)) rfl
theorem wd_534 : Cond.code ({ cls := "CarrierLink$Sender", name := "writeData", desc := "([IIII)V" } : MethodName) prog_7_method_6_code (6 : Nat) (Option.none : Option FieldType) ∈ lw_g := lw_gp (lw_t3 (List.mem_of_getElem? (i := 54) rfl)) rfl
theorem wd_535 : Cond.methodLinkNest "CarrierLink$Sender" (106 : Nat) ({ cls := "CarrierLink", name := "symbolsFor", desc := "(II)I" } : MethodName) "CarrierLink" ∈ lw_n := lw_np (lw_t3 (List.mem_of_getElem? (i := 55) rfl)) rfl
theorem wd_536 : Cond.static ({ cls := "CarrierLink", name := "symbolsFor", desc := "(II)I" } : MethodName) ∈ lw_g := lw_gp (lw_t3 (List.mem_of_getElem? (i := 56) rfl)) rfl
theorem wd_537 : Cond.code ({ cls := "CarrierLink", name := "symbolsFor", desc := "(II)I" } : MethodName) prog_1_method_24_code (4 : Nat) (Option.some FieldType.int) ∈ lw_g := lw_gp (lw_t3 (List.mem_of_getElem? (i := 57) rfl)) rfl
theorem wd_538 : Cond.fieldLink "CarrierLink" (178 : Nat) "CarrierLink" "DATA_BITS_IN_SYMBOL" "[I" ∈ lw_g := lw_gp (lw_t3 (List.mem_of_getElem? (i := 58) rfl)) rfl
theorem wd_540 : Cond.fieldLinkNest "CarrierLink$Sender" (110 : Nat) "CarrierLink" "DATA_BITS_IN_SYMBOL" "[I" "CarrierLink" ∈ lw_n := lw_np (lw_t3 (List.mem_of_getElem? (i := 60) rfl)) rfl
theorem wd_541 : Cond.methodLink "CarrierLink$Sender" (113 : Nat) ({ cls := "CarrierLink$Sender", name := "scrambleData", desc := "(II)V" } : MethodName) ∈ lw_g := lw_gp (lw_t3 (List.mem_of_getElem? (i := 61) rfl)) rfl
theorem wd_543 : Cond.instanceMethod ({ cls := "CarrierLink$Sender", name := "scrambleData", desc := "(II)V" } : MethodName) ∈ lw_g := lw_gp (lw_t3 (List.mem_of_getElem? (i := 63) rfl)) rfl
theorem wd_544 : Cond.code ({ cls := "CarrierLink$Sender", name := "scrambleData", desc := "(II)V" } : MethodName) prog_7_method_7_code (6 : Nat) (Option.none : Option FieldType) ∈ lw_g := lw_gp (lw_t3 (List.mem_of_getElem? (i := 64) rfl)) rfl
theorem wd_545 : Cond.methodLink "CarrierLinkLaw" (59 : Nat) ({ cls := "CarrierLinkLaw", name := "sample", desc := "(LCarrierLink;ZIZ[J)I" } : MethodName) ∈ lw_g := lw_gp (lw_t3 (List.mem_of_getElem? (i := 65) rfl)) rfl
theorem wd_546 : Cond.static ({ cls := "CarrierLinkLaw", name := "sample", desc := "(LCarrierLink;ZIZ[J)I" } : MethodName) ∈ lw_g := lw_gp (lw_t3 (List.mem_of_getElem? (i := 66) rfl)) rfl
theorem wd_547 : Cond.codeWith ({ cls := "CarrierLinkLaw", name := "sample", desc := "(LCarrierLink;ZIZ[J)I" } : MethodName) method_4_code (6 : Nat) (Option.some FieldType.int) [((0 : Nat), (12 : Nat), (15 : Nat), (21 : Nat))] ∈ lw_g := lw_gp (lw_t3 (List.mem_of_getElem? (i := 67) rfl)) rfl
theorem wd_548 : Cond.classLink "CarrierLinkLaw" (21 : Nat) "java/lang/IndexOutOfBoundsException" ∈ lw_g := lw_gp (lw_t3 (List.mem_of_getElem? (i := 68) rfl)) rfl
theorem wd_549 : Cond.methodLink "CarrierLinkLaw" (17 : Nat) ({ cls := "CarrierLink", name := "sample", desc := "(ZIZ)S" } : MethodName) ∈ lw_g := lw_gp (lw_t3 (List.mem_of_getElem? (i := 69) rfl)) rfl
theorem wd_550 : Cond.instanceMethod ({ cls := "CarrierLink", name := "sample", desc := "(ZIZ)S" } : MethodName) ∈ lw_g := lw_gp (lw_t3 (List.mem_of_getElem? (i := 70) rfl)) rfl
theorem wd_551 : Cond.selects "CarrierLink" ({ cls := "CarrierLink", name := "sample", desc := "(ZIZ)S" } : MethodName) ({ cls := "CarrierLink", name := "sample", desc := "(ZIZ)S" } : MethodName) ∈ lw_g := lw_gp (lw_t3 (List.mem_of_getElem? (i := 71) rfl)) rfl
theorem wd_552 : Cond.code ({ cls := "CarrierLink", name := "sample", desc := "(ZIZ)S" } : MethodName) prog_1_method_6_code (5 : Nat) (Option.some FieldType.short) ∈ lw_g := lw_gp (lw_t3 (List.mem_of_getElem? (i := 72) rfl)) rfl
theorem wd_553 : Cond.classLink "CarrierLink" (101 : Nat) "java/lang/IndexOutOfBoundsException" ∈ lw_g := lw_gp (lw_t3 (List.mem_of_getElem? (i := 73) rfl)) rfl
theorem wd_554 : Cond.instantiable "java/lang/IndexOutOfBoundsException" (6 : Nat) ∈ lw_g := lw_gp (lw_t3 (List.mem_of_getElem? (i := 74) rfl)) rfl
theorem wd_556 : Cond.selects "java/lang/IndexOutOfBoundsException" ({ cls := "java/lang/Throwable", name := "fillInStackTrace", desc := "(I)Ljava/lang/Throwable;" } : MethodName) ({ cls := "java/lang/Throwable", name := "fillInStackTrace", desc := "(I)Ljava/lang/Throwable;" } : MethodName) ∈ lw_g := lw_gp (lw_t3 (List.mem_of_getElem? (i := 76) rfl)) rfl
theorem wd_557 : Cond.lays "java/lang/IndexOutOfBoundsException" "java/lang/Throwable" "cause" "Ljava/lang/Throwable;" ∈ lw_g := lw_gp (lw_t3 (List.mem_of_getElem? (i := 77) rfl)) rfl
theorem wd_558 : Cond.lays "java/lang/IndexOutOfBoundsException" "java/lang/Throwable" "stackTrace" "[Ljava/lang/StackTraceElement;" ∈ lw_g := lw_gp (lw_t3 (List.mem_of_getElem? (i := 78) rfl)) rfl
theorem wd_559 : Cond.lays "java/lang/IndexOutOfBoundsException" "java/lang/Throwable" "suppressedExceptions" "Ljava/util/List;" ∈ lw_g := lw_gp (lw_t3 (List.mem_of_getElem? (i := 79) rfl)) rfl
theorem wd_560 : Cond.lays "java/lang/IndexOutOfBoundsException" "java/lang/Throwable" "detailMessage" "Ljava/lang/String;" ∈ lw_g := lw_gp (lw_t3 (List.mem_of_getElem? (i := 80) rfl)) rfl
theorem wd_561 : Cond.lays "java/lang/IndexOutOfBoundsException" "java/lang/Throwable" "backtrace" "Ljava/lang/Object;" ∈ lw_g := lw_gp (lw_t3 (List.mem_of_getElem? (i := 81) rfl)) rfl
theorem wd_563 : Cond.methodLink "CarrierLink" (105 : Nat) ({ cls := "java/lang/IndexOutOfBoundsException", name := "<init>", desc := "(Ljava/lang/String;)V" } : MethodName) ∈ lw_g := lw_gp (lw_t3 (List.mem_of_getElem? (i := 83) rfl)) rfl
theorem wd_564 : Cond.instanceMethod ({ cls := "java/lang/IndexOutOfBoundsException", name := "<init>", desc := "(Ljava/lang/String;)V" } : MethodName) ∈ lw_g := lw_gp (lw_t3 (List.mem_of_getElem? (i := 84) rfl)) rfl
theorem wd_565 : Cond.code ({ cls := "java/lang/IndexOutOfBoundsException", name := "<init>", desc := "(Ljava/lang/String;)V" } : MethodName) prog_14_method_2_code (2 : Nat) (Option.none : Option FieldType) ∈ lw_g := lw_gp (lw_t3 (List.mem_of_getElem? (i := 85) rfl)) rfl
theorem wd_566 : Cond.methodLink "java/lang/IndexOutOfBoundsException" (7 : Nat) ({ cls := "java/lang/RuntimeException", name := "<init>", desc := "(Ljava/lang/String;)V" } : MethodName) ∈ lw_g := lw_gp (lw_t3 (List.mem_of_getElem? (i := 86) rfl)) rfl
theorem wd_567 : Cond.lays "java/lang/IndexOutOfBoundsException" "java/lang/Throwable" "depth" "I" ∈ lw_g := lw_gp (lw_t3 (List.mem_of_getElem? (i := 87) rfl)) rfl
theorem wd_568 : Cond.superclass "java/lang/IndexOutOfBoundsException" "java/lang/RuntimeException" ∈ lw_g := lw_gp (lw_t3 (List.mem_of_getElem? (i := 88) rfl)) rfl
theorem wd_569 : Cond.methodLink "CarrierLinkLaw" (63 : Nat) ({ cls := "CarrierLinkLaw", name := "air", desc := "(LCarrierLink;III[J)I" } : MethodName) ∈ lw_g := lw_gp (lw_t3 (List.mem_of_getElem? (i := 89) rfl)) rfl
theorem wd_570 : Cond.static ({ cls := "CarrierLinkLaw", name := "air", desc := "(LCarrierLink;III[J)I" } : MethodName) ∈ lw_g := lw_gp (lw_t3 (List.mem_of_getElem? (i := 90) rfl)) rfl
theorem wd_571 : Cond.codeWith ({ cls := "CarrierLinkLaw", name := "air", desc := "(LCarrierLink;III[J)I" } : MethodName) method_5_code (6 : Nat) (Option.some FieldType.int) [((0 : Nat), (12 : Nat), (15 : Nat), (13 : Nat)), ((0 : Nat), (12 : Nat), (19 : Nat), (15 : Nat))] ∈ lw_g := lw_gp (lw_t3 (List.mem_of_getElem? (i := 91) rfl)) rfl
theorem wd_572 : Cond.methodLink "CarrierLinkLaw" (23 : Nat) ({ cls := "CarrierLink", name := "air", desc := "(III)I" } : MethodName) ∈ lw_g := lw_gp (lw_t3 (List.mem_of_getElem? (i := 92) rfl)) rfl
theorem wd_573 : Cond.instanceMethod ({ cls := "CarrierLink", name := "air", desc := "(III)I" } : MethodName) ∈ lw_g := lw_gp (lw_t3 (List.mem_of_getElem? (i := 93) rfl)) rfl
theorem wd_574 : Cond.selects "CarrierLink" ({ cls := "CarrierLink", name := "air", desc := "(III)I" } : MethodName) ({ cls := "CarrierLink", name := "air", desc := "(III)I" } : MethodName) ∈ lw_g := lw_gp (lw_t3 (List.mem_of_getElem? (i := 94) rfl)) rfl
theorem wd_575 : Cond.code ({ cls := "CarrierLink", name := "air", desc := "(III)I" } : MethodName) prog_1_method_7_code (5 : Nat) (Option.some FieldType.int) ∈ lw_g := lw_gp (lw_t3 (List.mem_of_getElem? (i := 95) rfl)) rfl
theorem wd_578 : Cond.methodLink "CarrierLink" (117 : Nat) ({ cls := "CarrierLink$Wave", name := "clear", desc := "()V" } : MethodName) ∈ lw_g := lw_gp (lw_t3 (List.mem_of_getElem? (i := 98) rfl)) rfl
theorem wd_579 : Cond.methodLink "CarrierLink" (120 : Nat) ({ cls := "CarrierLink$Wave", name := "append", desc := "(II)V" } : MethodName) ∈ lw_g := lw_gp (lw_t3 (List.mem_of_getElem? (i := 99) rfl)) rfl
theorem wd_580 : Cond.methodLink "CarrierLink" (124 : Nat) ({ cls := "CarrierLink", name := "appendToAir", desc := "(III)V" } : MethodName) ∈ lw_g := lw_gp (lw_t3 (List.mem_of_getElem? (i := 100) rfl)) rfl
theorem wd_582 : Cond.instanceMethod ({ cls := "CarrierLink", name := "appendToAir", desc := "(III)V" } : MethodName) ∈ lw_g := lw_gp (lw_t3 (List.mem_of_getElem? (i := 102) rfl)) rfl
theorem wd_583 : Cond.code ({ cls := "CarrierLink", name := "appendToAir", desc := "(III)V" } : MethodName) prog_1_method_16_code (8 : Nat) (Option.none : Option FieldType) ∈ lw_g := lw_gp (lw_t3 (List.mem_of_getElem? (i := 103) rfl)) rfl
theorem wd_584 : Cond.methodLink "CarrierLinkLaw" (82 : Nat) ({ cls := "CarrierLinkLaw", name := "receive", desc := "(LCarrierLink;[J)I" } : MethodName) ∈ lw_g := lw_gp (lw_t3 (List.mem_of_getElem? (i := 104) rfl)) rfl
theorem wd_585 : Cond.static ({ cls := "CarrierLinkLaw", name := "receive", desc := "(LCarrierLink;[J)I" } : MethodName) ∈ lw_g := lw_gp (lw_t3 (List.mem_of_getElem? (i := 105) rfl)) rfl
theorem wd_586 : Cond.codeWith ({ cls := "CarrierLinkLaw", name := "receive", desc := "(LCarrierLink;[J)I" } : MethodName) method_6_code (3 : Nat) (Option.some FieldType.int) [((0 : Nat), (8 : Nat), (11 : Nat), (15 : Nat))] ∈ lw_g := lw_gp (lw_t3 (List.mem_of_getElem? (i := 106) rfl)) rfl
theorem wd_587 : Cond.methodLink "CarrierLinkLaw" (27 : Nat) ({ cls := "CarrierLink", name := "receive", desc := "()I" } : MethodName) ∈ lw_g := lw_gp (lw_t3 (List.mem_of_getElem? (i := 107) rfl)) rfl
theorem wd_588 : Cond.instanceMethod ({ cls := "CarrierLink", name := "receive", desc := "()I" } : MethodName) ∈ lw_g := lw_gp (lw_t3 (List.mem_of_getElem? (i := 108) rfl)) rfl
theorem wd_589 : Cond.selects "CarrierLink" ({ cls := "CarrierLink", name := "receive", desc := "()I" } : MethodName) ({ cls := "CarrierLink", name := "receive", desc := "()I" } : MethodName) ∈ lw_g := lw_gp (lw_t3 (List.mem_of_getElem? (i := 109) rfl)) rfl
theorem wd_590 : Cond.code ({ cls := "CarrierLink", name := "receive", desc := "()I" } : MethodName) prog_1_method_11_code (1 : Nat) (Option.some FieldType.int) ∈ lw_g := lw_gp (lw_t3 (List.mem_of_getElem? (i := 110) rfl)) rfl
theorem wd_592 : Cond.methodLink "CarrierLink" (141 : Nat) ({ cls := "CarrierLink$Receiver", name := "listen", desc := "(LCarrierLink$Wave;)I" } : MethodName) ∈ lw_g := lw_gp (lw_t3 (List.mem_of_getElem? (i := 112) rfl)) rfl
theorem wd_593 : Cond.instanceMethod ({ cls := "CarrierLink$Receiver", name := "listen", desc := "(LCarrierLink$Wave;)I" } : MethodName) ∈ lw_g := lw_gp (lw_t3 (List.mem_of_getElem? (i := 113) rfl)) rfl
theorem wd_594 : Cond.selects "CarrierLink$Receiver" ({ cls := "CarrierLink$Receiver", name := "listen", desc := "(LCarrierLink$Wave;)I" } : MethodName) ({ cls := "CarrierLink$Receiver", name := "listen", desc := "(LCarrierLink$Wave;)I" } : MethodName) ∈ lw_g := lw_gp (lw_t3 (List.mem_of_getElem? (i := 114) rfl)) rfl
theorem wd_595 : Cond.code ({ cls := "CarrierLink$Receiver", name := "listen", desc := "(LCarrierLink$Wave;)I" } : MethodName) prog_5_method_2_code (2 : Nat) (Option.some FieldType.int) ∈ lw_g := lw_gp (lw_t3 (List.mem_of_getElem? (i := 115) rfl)) rfl
theorem wd_596 : Cond.methodLink "CarrierLink$Receiver" (61 : Nat) ({ cls := "CarrierLink$Points", name := "clear", desc := "()V" } : MethodName) ∈ lw_g := lw_gp (lw_t3 (List.mem_of_getElem? (i := 116) rfl)) rfl
theorem wd_597 : Cond.methodLink "CarrierLink$Receiver" (64 : Nat) ({ cls := "CarrierLink$Receiver", name := "findBytes", desc := "(LCarrierLink$Wave;)I" } : MethodName) ∈ lw_g := lw_gp (lw_t3 (List.mem_of_getElem? (i := 117) rfl)) rfl
theorem wd_599 : Cond.instanceMethod ({ cls := "CarrierLink$Receiver", name := "findBytes", desc := "(LCarrierLink$Wave;)I" } : MethodName) ∈ lw_g := lw_gp (lw_t3 (List.mem_of_getElem? (i := 119) rfl)) rfl
theorem wd_600 : Cond.code ({ cls := "CarrierLink$Receiver", name := "findBytes", desc := "(LCarrierLink$Wave;)I" } : MethodName) prog_5_method_3_code (6 : Nat) (Option.some FieldType.int) ∈ lw_g := lw_gp (lw_t3 (List.mem_of_getElem? (i := 120) rfl)) rfl
theorem wd_601 : Cond.methodLink "CarrierLink$Receiver" (68 : Nat) ({ cls := "CarrierLink$Receiver", name := "findStart", desc := "(LCarrierLink$Wave;)I" } : MethodName) ∈ lw_g := lw_gp (lw_t3 (List.mem_of_getElem? (i := 121) rfl)) rfl
theorem wd_603 : Cond.instanceMethod ({ cls := "CarrierLink$Receiver", name := "findStart", desc := "(LCarrierLink$Wave;)I" } : MethodName) ∈ lw_g := lw_gp (lw_t3 (List.mem_of_getElem? (i := 123) rfl)) rfl
theorem wd_604 : Cond.code ({ cls := "CarrierLink$Receiver", name := "findStart", desc := "(LCarrierLink$Wave;)I" } : MethodName) prog_5_method_4_code (8 : Nat) (Option.some FieldType.int) ∈ lw_g := lw_gp (lw_t3 (List.mem_of_getElem? (i := 124) rfl)) rfl
theorem wd_605 : Cond.constantLong "CarrierLink$Receiver" (117 : Nat) (99999999 : Int64) ∈ lw_g := lw_gp (lw_t3 (List.mem_of_getElem? (i := 125) rfl)) rfl
theorem wd_606 : Cond.methodLink "CarrierLink$Receiver" (119 : Nat) ({ cls := "CarrierLink$Receiver", name := "powerAt", desc := "(LCarrierLink$Wave;I)J" } : MethodName) ∈ lw_g := lw_gp (lw_t3 (List.mem_of_getElem? (i := 126) rfl)) rfl
theorem wd_608 : Cond.instanceMethod ({ cls := "CarrierLink$Receiver", name := "powerAt", desc := "(LCarrierLink$Wave;I)J" } : MethodName) ∈ lw_g := lw_gp (lw_t3 (List.mem_of_getElem? (i := 128) rfl)) rfl
theorem wd_609 : Cond.code ({ cls := "CarrierLink$Receiver", name := "powerAt", desc := "(LCarrierLink$Wave;I)J" } : MethodName) prog_5_method_5_code (14 : Nat) (Option.some FieldType.long) ∈ lw_g := lw_gp (lw_t3 (List.mem_of_getElem? (i := 129) rfl)) rfl
theorem wd_610 : Cond.methodLink "CarrierLink$Receiver" (71 : Nat) ({ cls := "CarrierLink$Receiver", name := "learnCarriers", desc := "(LCarrierLink$Wave;I)V" } : MethodName) ∈ lw_g := lw_gp (lw_t3 (List.mem_of_getElem? (i := 130) rfl)) rfl
theorem wd_612 : Cond.instanceMethod ({ cls := "CarrierLink$Receiver", name := "learnCarriers", desc := "(LCarrierLink$Wave;I)V" } : MethodName) ∈ lw_g := lw_gp (lw_t3 (List.mem_of_getElem? (i := 132) rfl)) rfl
theorem wd_613 : Cond.code ({ cls := "CarrierLink$Receiver", name := "learnCarriers", desc := "(LCarrierLink$Wave;I)V" } : MethodName) prog_5_method_6_code (5 : Nat) (Option.none : Option FieldType) ∈ lw_g := lw_gp (lw_t3 (List.mem_of_getElem? (i := 133) rfl)) rfl
theorem wd_614 : Cond.methodLink "CarrierLink$Receiver" (136 : Nat) ({ cls := "CarrierLink$Points", name := "takeCarriers", desc := "(LCarrierLink$Wave;I)V" } : MethodName) ∈ lw_g := lw_gp (lw_t3 (List.mem_of_getElem? (i := 134) rfl)) rfl
theorem wd_615 : Cond.instanceMethod ({ cls := "CarrierLink$Points", name := "takeCarriers", desc := "(LCarrierLink$Wave;I)V" } : MethodName) ∈ lw_g := lw_gp (lw_t3 (List.mem_of_getElem? (i := 135) rfl)) rfl
theorem wd_616 : Cond.selects "CarrierLink$Points" ({ cls := "CarrierLink$Points", name := "takeCarriers", desc := "(LCarrierLink$Wave;I)V" } : MethodName) ({ cls := "CarrierLink$Points", name := "takeCarriers", desc := "(LCarrierLink$Wave;I)V" } : MethodName) ∈ lw_g := lw_gp (lw_t3 (List.mem_of_getElem? (i := 136) rfl)) rfl
theorem wd_617 : Cond.code ({ cls := "CarrierLink$Points", name := "takeCarriers", desc := "(LCarrierLink$Wave;I)V" } : MethodName) prog_4_method_4_code (4 : Nat) (Option.none : Option FieldType) ∈ lw_g := lw_gp (lw_t3 (List.mem_of_getElem? (i := 137) rfl)) rfl
theorem wd_618 : Cond.fieldLinkNest "CarrierLink$Receiver" (139 : Nat) "CarrierLink" "TRAINING_SIGN" "[I" "CarrierLink" ∈ lw_n := lw_np (lw_t3 (List.mem_of_getElem? (i := 138) rfl)) rfl
theorem wd_619 : Cond.methodLink "CarrierLink$Receiver" (75 : Nat) ({ cls := "CarrierLink$Receiver", name := "takeSymbols", desc := "(LCarrierLink$Wave;III)V" } : MethodName) ∈ lw_g := lw_gp (lw_t3 (List.mem_of_getElem? (i := 139) rfl)) rfl
theorem wd_621 : Cond.instanceMethod ({ cls := "CarrierLink$Receiver", name := "takeSymbols", desc := "(LCarrierLink$Wave;III)V" } : MethodName) ∈ lw_g := lw_gp (lw_t3 (List.mem_of_getElem? (i := 141) rfl)) rfl
theorem wd_622 : Cond.code ({ cls := "CarrierLink$Receiver", name := "takeSymbols", desc := "(LCarrierLink$Wave;III)V" } : MethodName) prog_5_method_7_code (8 : Nat) (Option.none : Option FieldType) ∈ lw_g := lw_gp (lw_t3 (List.mem_of_getElem? (i := 142) rfl)) rfl
theorem wd_623 : Cond.fieldLinkNest "CarrierLink$Receiver" (142 : Nat) "CarrierLink" "CARRIER_OF_DATA" "[I" "CarrierLink" ∈ lw_n := lw_np (lw_t3 (List.mem_of_getElem? (i := 143) rfl)) rfl
theorem wd_624 : Cond.methodLink "CarrierLink$Receiver" (145 : Nat) ({ cls := "CarrierLink$Receiver", name := "takeCarrier", desc := "(III)V" } : MethodName) ∈ lw_g := lw_gp (lw_t3 (List.mem_of_getElem? (i := 144) rfl)) rfl
theorem wd_626 : Cond.instanceMethod ({ cls := "CarrierLink$Receiver", name := "takeCarrier", desc := "(III)V" } : MethodName) ∈ lw_g := lw_gp (lw_t3 (List.mem_of_getElem? (i := 146) rfl)) rfl
theorem wd_627 : Cond.code ({ cls := "CarrierLink$Receiver", name := "takeCarrier", desc := "(III)V" } : MethodName) prog_5_method_8_code (18 : Nat) (Option.none : Option FieldType) ∈ lw_g := lw_gp (lw_t3 (List.mem_of_getElem? (i := 147) rfl)) rfl
theorem wd_628 : Cond.methodLink "CarrierLink$Receiver" (152 : Nat) ({ cls := "CarrierLink$Receiver", name := "softOf", desc := "(J)I" } : MethodName) ∈ lw_g := lw_gp (lw_t3 (List.mem_of_getElem? (i := 148) rfl)) rfl
theorem wd_629 : Cond.static ({ cls := "CarrierLink$Receiver", name := "softOf", desc := "(J)I" } : MethodName) ∈ lw_g := lw_gp (lw_t3 (List.mem_of_getElem? (i := 149) rfl)) rfl
theorem wd_630 : Cond.code ({ cls := "CarrierLink$Receiver", name := "softOf", desc := "(J)I" } : MethodName) prog_5_method_9_code (2 : Nat) (Option.some FieldType.int) ∈ lw_g := lw_gp (lw_t3 (List.mem_of_getElem? (i := 150) rfl)) rfl
theorem wd_631 : Cond.constantLong "CarrierLink$Receiver" (164 : Nat) (-2047 : Int64) ∈ lw_g := lw_gp (lw_t3 (List.mem_of_getElem? (i := 151) rfl)) rfl
theorem wd_632 : Cond.constantLong "CarrierLink$Receiver" (166 : Nat) (2047 : Int64) ∈ lw_g := lw_gp (lw_t3 (List.mem_of_getElem? (i := 152) rfl)) rfl
theorem wd_633 : Cond.methodLink "CarrierLink$Receiver" (168 : Nat) ({ cls := "java/lang/Math", name := "min", desc := "(JJ)J" } : MethodName) ∈ lw_g := lw_gp (lw_t3 (List.mem_of_getElem? (i := 153) rfl)) rfl
theorem wd_634 : Cond.static ({ cls := "java/lang/Math", name := "min", desc := "(JJ)J" } : MethodName) ∈ lw_g := lw_gp (lw_t3 (List.mem_of_getElem? (i := 154) rfl)) rfl
theorem wd_635 : Cond.code ({ cls := "java/lang/Math", name := "min", desc := "(JJ)J" } : MethodName) prog_16_method_70_code (4 : Nat) (Option.some FieldType.long) ∈ lw_g := lw_gp (lw_t3 (List.mem_of_getElem? (i := 155) rfl)) rfl
theorem wd_636 : Cond.methodLink "CarrierLink$Receiver" (172 : Nat) ({ cls := "java/lang/Math", name := "max", desc := "(JJ)J" } : MethodName) ∈ lw_g := lw_gp (lw_t3 (List.mem_of_getElem? (i := 156) rfl)) rfl
theorem wd_637 : Cond.static ({ cls := "java/lang/Math", name := "max", desc := "(JJ)J" } : MethodName) ∈ lw_g := lw_gp (lw_t3 (List.mem_of_getElem? (i := 157) rfl)) rfl
theorem wd_638 : Cond.code ({ cls := "java/lang/Math", name := "max", desc := "(JJ)J" } : MethodName) prog_16_method_66_code (4 : Nat) (Option.some FieldType.long) ∈ lw_g := lw_gp (lw_t3 (List.mem_of_getElem? (i := 158) rfl)) rfl
theorem wd_639 : Cond.constantLong "CarrierLink$Receiver" (156 : Nat) (648 : Int64) ∈ lw_g := lw_gp (lw_t3 (List.mem_of_getElem? (i := 159) rfl)) rfl
theorem wd_640 : Cond.methodLink "CarrierLink$Receiver" (158 : Nat) ({ cls := "java/lang/Math", name := "abs", desc := "(J)J" } : MethodName) ∈ lw_g := lw_gp (lw_t3 (List.mem_of_getElem? (i := 160) rfl)) rfl
theorem wd_641 : Cond.static ({ cls := "java/lang/Math", name := "abs", desc := "(J)J" } : MethodName) ∈ lw_g := lw_gp (lw_t3 (List.mem_of_getElem? (i := 161) rfl)) rfl
theorem wd_642 : Cond.code ({ cls := "java/lang/Math", name := "abs", desc := "(J)J" } : MethodName) prog_16_method_61_code (2 : Nat) (Option.some FieldType.long) ∈ lw_g := lw_gp (lw_t3 (List.mem_of_getElem? (i := 162) rfl)) rfl
theorem wd_643 : Cond.methodLinkNest "CarrierLink$Receiver" (149 : Nat) ({ cls := "CarrierLink", name := "placeOf", desc := "(II)I" } : MethodName) "CarrierLink" ∈ lw_n := lw_np (lw_t3 (List.mem_of_getElem? (i := 163) rfl)) rfl
theorem wd_644 : Cond.methodLink "CarrierLink$Receiver" (79 : Nat) ({ cls := "CarrierLink$Paths", name := "decode", desc := "([IIZ)I" } : MethodName) ∈ lw_g := lw_gp (lw_t3 (List.mem_of_getElem? (i := 164) rfl)) rfl
theorem wd_645 : Cond.instanceMethod ({ cls := "CarrierLink$Paths", name := "decode", desc := "([IIZ)I" } : MethodName) ∈ lw_g := lw_gp (lw_t3 (List.mem_of_getElem? (i := 165) rfl)) rfl
theorem wd_646 : Cond.selects "CarrierLink$Paths" ({ cls := "CarrierLink$Paths", name := "decode", desc := "([IIZ)I" } : MethodName) ({ cls := "CarrierLink$Paths", name := "decode", desc := "([IIZ)I" } : MethodName) ∈ lw_g := lw_gp (lw_t3 (List.mem_of_getElem? (i := 166) rfl)) rfl
theorem wd_647 : Cond.code ({ cls := "CarrierLink$Paths", name := "decode", desc := "([IIZ)I" } : MethodName) prog_3_method_2_code (9 : Nat) (Option.some FieldType.int) ∈ lw_g := lw_gp (lw_t3 (List.mem_of_getElem? (i := 167) rfl)) rfl
theorem wd_648 : Cond.methodLink "CarrierLink$Paths" (35 : Nat) ({ cls := "java/lang/Math", name := "min", desc := "(II)I" } : MethodName) ∈ lw_g := lw_gp (lw_t3 (List.mem_of_getElem? (i := 168) rfl)) rfl
theorem wd_649 : Cond.constant "CarrierLink$Paths" (40 : Nat) (-1000000 : Int32) ∈ lw_g := lw_gp (lw_t3 (List.mem_of_getElem? (i := 169) rfl)) rfl
theorem wd_650 : Cond.methodLink "CarrierLink$Paths" (41 : Nat) ({ cls := "java/util/Arrays", name := "fill", desc := "([II)V" } : MethodName) ∈ lw_g := lw_gp (lw_t3 (List.mem_of_getElem? (i := 170) rfl)) rfl
theorem wd_651 : Cond.methodLinkNest "CarrierLink$Paths" (47 : Nat) ({ cls := "CarrierLink", name := "keepsA", desc := "(ZI)Z" } : MethodName) "CarrierLink" ∈ lw_n := lw_np (lw_t3 (List.mem_of_getElem? (i := 171) rfl)) rfl
theorem wd_652 : Cond.methodLinkNest "CarrierLink$Paths" (51 : Nat) ({ cls := "CarrierLink", name := "keepsB", desc := "(ZI)Z" } : MethodName) "CarrierLink" ∈ lw_n := lw_np (lw_t3 (List.mem_of_getElem? (i := 172) rfl)) rfl
theorem wd_653 : Cond.methodLink "CarrierLink$Paths" (54 : Nat) ({ cls := "CarrierLink$Paths", name := "step", desc := "(III)V" } : MethodName) ∈ lw_g := lw_gp (lw_t3 (List.mem_of_getElem? (i := 173) rfl)) rfl
theorem wd_655 : Cond.instanceMethod ({ cls := "CarrierLink$Paths", name := "step", desc := "(III)V" } : MethodName) ∈ lw_g := lw_gp (lw_t3 (List.mem_of_getElem? (i := 175) rfl)) rfl
theorem wd_656 : Cond.code ({ cls := "CarrierLink$Paths", name := "step", desc := "(III)V" } : MethodName) prog_3_method_3_code (10 : Nat) (Option.none : Option FieldType) ∈ lw_g := lw_gp (lw_t3 (List.mem_of_getElem? (i := 176) rfl)) rfl
theorem wd_657 : Cond.methodLink "CarrierLink$Paths" (58 : Nat) ({ cls := "CarrierLink$Paths", name := "firstGreatest", desc := "()I" } : MethodName) ∈ lw_g := lw_gp (lw_t3 (List.mem_of_getElem? (i := 177) rfl)) rfl
theorem wd_659 : Cond.instanceMethod ({ cls := "CarrierLink$Paths", name := "firstGreatest", desc := "()I" } : MethodName) ∈ lw_g := lw_gp (lw_t3 (List.mem_of_getElem? (i := 179) rfl)) rfl
theorem wd_660 : Cond.code ({ cls := "CarrierLink$Paths", name := "firstGreatest", desc := "()I" } : MethodName) prog_3_method_4_code (3 : Nat) (Option.some FieldType.int) ∈ lw_g := lw_gp (lw_t3 (List.mem_of_getElem? (i := 180) rfl)) rfl
theorem wd_661 : Cond.methodLink "CarrierLink$Paths" (62 : Nat) ({ cls := "CarrierLink$Paths", name := "goBack", desc := "(II)V" } : MethodName) ∈ lw_g := lw_gp (lw_t3 (List.mem_of_getElem? (i := 181) rfl)) rfl
theorem wd_663 : Cond.instanceMethod ({ cls := "CarrierLink$Paths", name := "goBack", desc := "(II)V" } : MethodName) ∈ lw_g := lw_gp (lw_t3 (List.mem_of_getElem? (i := 183) rfl)) rfl
theorem wd_664 : Cond.code ({ cls := "CarrierLink$Paths", name := "goBack", desc := "(II)V" } : MethodName) prog_3_method_5_code (5 : Nat) (Option.none : Option FieldType) ∈ lw_g := lw_gp (lw_t3 (List.mem_of_getElem? (i := 184) rfl)) rfl
theorem wd_665 : Cond.methodLink "CarrierLink$Receiver" (86 : Nat) ({ cls := "CarrierLink$Receiver", name := "isSignal", desc := "([I)Z" } : MethodName) ∈ lw_g := lw_gp (lw_t3 (List.mem_of_getElem? (i := 185) rfl)) rfl
theorem wd_666 : Cond.static ({ cls := "CarrierLink$Receiver", name := "isSignal", desc := "([I)Z" } : MethodName) ∈ lw_g := lw_gp (lw_t3 (List.mem_of_getElem? (i := 186) rfl)) rfl
theorem wd_667 : Cond.code ({ cls := "CarrierLink$Receiver", name := "isSignal", desc := "([I)Z" } : MethodName) prog_5_method_10_code (3 : Nat) (Option.some FieldType.boolean) ∈ lw_g := lw_gp (lw_t3 (List.mem_of_getElem? (i := 187) rfl)) rfl
theorem wd_668 : Cond.methodLink "CarrierLink$Receiver" (90 : Nat) ({ cls := "CarrierLink$Receiver", name := "numberAt", desc := "([III)I" } : MethodName) ∈ lw_g := lw_gp (lw_t3 (List.mem_of_getElem? (i := 188) rfl)) rfl
theorem wd_669 : Cond.static ({ cls := "CarrierLink$Receiver", name := "numberAt", desc := "([III)I" } : MethodName) ∈ lw_g := lw_gp (lw_t3 (List.mem_of_getElem? (i := 189) rfl)) rfl
theorem wd_670 : Cond.code ({ cls := "CarrierLink$Receiver", name := "numberAt", desc := "([III)I" } : MethodName) prog_5_method_11_code (5 : Nat) (Option.some FieldType.int) ∈ lw_g := lw_gp (lw_t3 (List.mem_of_getElem? (i := 190) rfl)) rfl
theorem wd_671 : Cond.methodLinkNest "CarrierLink$Receiver" (94 : Nat) ({ cls := "CarrierLink", name := "symbolsFor", desc := "(II)I" } : MethodName) "CarrierLink" ∈ lw_n := lw_np (lw_t3 (List.mem_of_getElem? (i := 191) rfl)) rfl
theorem wd_672 : Cond.fieldLinkNest "CarrierLink$Receiver" (103 : Nat) "CarrierLink" "BITS_ON_CARRIER" "[I" "CarrierLink" ∈ lw_n := lw_np (lw_t3 (List.mem_of_getElem? (i := 192) rfl)) rfl
theorem wd_673 : Cond.fieldLinkNest "CarrierLink$Receiver" (106 : Nat) "CarrierLink" "DATA_BITS_IN_SYMBOL" "[I" "CarrierLink" ∈ lw_n := lw_np (lw_t3 (List.mem_of_getElem? (i := 193) rfl)) rfl
theorem wd_674 : Cond.methodLinkNest "CarrierLink$Receiver" (109 : Nat) ({ cls := "CarrierLink", name := "isThin", desc := "(I)Z" } : MethodName) "CarrierLink" ∈ lw_n := lw_np (lw_t3 (List.mem_of_getElem? (i := 194) rfl)) rfl
theorem wd_675 : Cond.methodLink "CarrierLink$Receiver" (113 : Nat) ({ cls := "CarrierLink$Receiver", name := "takeBytes", desc := "(I)I" } : MethodName) ∈ lw_g := lw_gp (lw_t3 (List.mem_of_getElem? (i := 195) rfl)) rfl
theorem wd_677 : Cond.instanceMethod ({ cls := "CarrierLink$Receiver", name := "takeBytes", desc := "(I)I" } : MethodName) ∈ lw_g := lw_gp (lw_t3 (List.mem_of_getElem? (i := 197) rfl)) rfl
theorem wd_678 : Cond.code ({ cls := "CarrierLink$Receiver", name := "takeBytes", desc := "(I)I" } : MethodName) prog_5_method_12_code (4 : Nat) (Option.some FieldType.int) ∈ lw_g := lw_gp (lw_t3 (List.mem_of_getElem? (i := 198) rfl)) rfl
theorem wd_679 : Cond.methodLink "CarrierLink$Receiver" (175 : Nat) ({ cls := "CarrierLink$Scrambler", name := "begin", desc := "(I)V" } : MethodName) ∈ lw_g := lw_gp (lw_t3 (List.mem_of_getElem? (i := 199) rfl)) rfl
theorem wd_680 : Cond.methodLink "CarrierLink$Receiver" (179 : Nat) ({ cls := "CarrierLink$Receiver", name := "scrambledByte", desc := "()I" } : MethodName) ∈ lw_g := lw_gp (lw_t3 (List.mem_of_getElem? (i := 200) rfl)) rfl
theorem wd_682 : Cond.instanceMethod ({ cls := "CarrierLink$Receiver", name := "scrambledByte", desc := "()I" } : MethodName) ∈ lw_g := lw_gp (lw_t3 (List.mem_of_getElem? (i := 202) rfl)) rfl
theorem wd_683 : Cond.code ({ cls := "CarrierLink$Receiver", name := "scrambledByte", desc := "()I" } : MethodName) prog_5_method_13_code (3 : Nat) (Option.some FieldType.int) ∈ lw_g := lw_gp (lw_t3 (List.mem_of_getElem? (i := 203) rfl)) rfl
theorem wd_684 : Cond.methodLink "CarrierLink$Receiver" (183 : Nat) ({ cls := "CarrierLink$Scrambler", name := "next", desc := "()I" } : MethodName) ∈ lw_g := lw_gp (lw_t3 (List.mem_of_getElem? (i := 204) rfl)) rfl
theorem wd_685 : Cond.classLink "CarrierLinkLaw" (32 : Nat) "CarrierLinkModel" ∈ lw_g := lw_gp (lw_t3 (List.mem_of_getElem? (i := 205) rfl)) rfl
theorem wd_686 : Cond.instantiable "CarrierLinkModel" (40 : Nat) ∈ lw_g := lw_gp (lw_t3 (List.mem_of_getElem? (i := 206) rfl)) rfl
theorem wd_687 : Cond.methodLink "CarrierLinkLaw" (34 : Nat) ({ cls := "CarrierLinkModel", name := "<init>", desc := "()V" } : MethodName) ∈ lw_g := lw_gp (lw_t3 (List.mem_of_getElem? (i := 207) rfl)) rfl
theorem wd_688 : Cond.instanceMethod ({ cls := "CarrierLinkModel", name := "<init>", desc := "()V" } : MethodName) ∈ lw_g := lw_gp (lw_t3 (List.mem_of_getElem? (i := 208) rfl)) rfl
theorem wd_689 : Cond.code ({ cls := "CarrierLinkModel", name := "<init>", desc := "()V" } : MethodName) prog_10_method_1_code (2 : Nat) (Option.none : Option FieldType) ∈ lw_g := lw_gp (lw_t3 (List.mem_of_getElem? (i := 209) rfl)) rfl
theorem wd_690 : Cond.methodLink "CarrierLinkModel" (1 : Nat) ({ cls := "java/lang/Object", name := "<init>", desc := "()V" } : MethodName) ∈ lw_g := lw_gp (lw_t3 (List.mem_of_getElem? (i := 210) rfl)) rfl
theorem wd_691 : Cond.methodLink "CarrierLinkModel" (83 : Nat) ({ cls := "CarrierLinkModel", name := "size", desc := "(I)I" } : MethodName) ∈ lw_g := lw_gp (lw_t3 (List.mem_of_getElem? (i := 211) rfl)) rfl
theorem wd_692 : Cond.static ({ cls := "CarrierLinkModel", name := "size", desc := "(I)I" } : MethodName) ∈ lw_g := lw_gp (lw_t3 (List.mem_of_getElem? (i := 212) rfl)) rfl
theorem wd_693 : Cond.code ({ cls := "CarrierLinkModel", name := "size", desc := "(I)I" } : MethodName) prog_10_method_2_code (3 : Nat) (Option.some FieldType.int) ∈ lw_g := lw_gp (lw_t3 (List.mem_of_getElem? (i := 213) rfl)) rfl
theorem wd_694 : Cond.methodLink "CarrierLinkModel" (87 : Nat) ({ cls := "CarrierLinkModel", name := "clear", desc := "()V" } : MethodName) ∈ lw_g := lw_gp (lw_t3 (List.mem_of_getElem? (i := 214) rfl)) rfl
theorem wd_696 : Cond.instanceMethod ({ cls := "CarrierLinkModel", name := "clear", desc := "()V" } : MethodName) ∈ lw_g := lw_gp (lw_t3 (List.mem_of_getElem? (i := 216) rfl)) rfl
theorem wd_697 : Cond.code ({ cls := "CarrierLinkModel", name := "clear", desc := "()V" } : MethodName) prog_10_method_12_code (2 : Nat) (Option.none : Option FieldType) ∈ lw_g := lw_gp (lw_t3 (List.mem_of_getElem? (i := 217) rfl)) rfl
theorem wd_698 : Cond.methodLink "CarrierLinkModel" (90 : Nat) ({ cls := "CarrierLinkModel", name := "trained", desc := "(I)I" } : MethodName) ∈ lw_g := lw_gp (lw_t3 (List.mem_of_getElem? (i := 218) rfl)) rfl
theorem wd_699 : Cond.static ({ cls := "CarrierLinkModel", name := "trained", desc := "(I)I" } : MethodName) ∈ lw_g := lw_gp (lw_t3 (List.mem_of_getElem? (i := 219) rfl)) rfl
theorem wd_700 : Cond.code ({ cls := "CarrierLinkModel", name := "trained", desc := "(I)I" } : MethodName) prog_10_method_8_code (2 : Nat) (Option.some FieldType.int) ∈ lw_g := lw_gp (lw_t3 (List.mem_of_getElem? (i := 220) rfl)) rfl
theorem wd_701 : Cond.methodLink "CarrierLinkModel" (93 : Nat) ({ cls := "CarrierLinkModel", name := "transform", desc := "(I)V" } : MethodName) ∈ lw_g := lw_gp (lw_t3 (List.mem_of_getElem? (i := 221) rfl)) rfl
theorem wd_703 : Cond.instanceMethod ({ cls := "CarrierLinkModel", name := "transform", desc := "(I)V" } : MethodName) ∈ lw_g := lw_gp (lw_t3 (List.mem_of_getElem? (i := 223) rfl)) rfl
theorem wd_704 : Cond.code ({ cls := "CarrierLinkModel", name := "transform", desc := "(I)V" } : MethodName) prog_10_method_14_code (6 : Nat) (Option.none : Option FieldType) ∈ lw_g := lw_gp (lw_t3 (List.mem_of_getElem? (i := 224) rfl)) rfl
theorem wd_705 : Cond.methodLink "CarrierLinkModel" (107 : Nat) ({ cls := "CarrierLinkModel", name := "exchange", desc := "(II)V" } : MethodName) ∈ lw_g := lw_gp (lw_t3 (List.mem_of_getElem? (i := 225) rfl)) rfl
theorem wd_707 : Cond.instanceMethod ({ cls := "CarrierLinkModel", name := "exchange", desc := "(II)V" } : MethodName) ∈ lw_g := lw_gp (lw_t3 (List.mem_of_getElem? (i := 227) rfl)) rfl
theorem wd_708 : Cond.code ({ cls := "CarrierLinkModel", name := "exchange", desc := "(II)V" } : MethodName) prog_10_method_13_code (4 : Nat) (Option.none : Option FieldType) ∈ lw_g := lw_gp (lw_t3 (List.mem_of_getElem? (i := 228) rfl)) rfl
theorem wd_709 : Cond.methodLink "CarrierLinkModel" (111 : Nat) ({ cls := "CarrierLinkModel", name := "cross", desc := "(IIIII)V" } : MethodName) ∈ lw_g := lw_gp (lw_t3 (List.mem_of_getElem? (i := 229) rfl)) rfl
theorem wd_711 : Cond.instanceMethod ({ cls := "CarrierLinkModel", name := "cross", desc := "(IIIII)V" } : MethodName) ∈ lw_g := lw_gp (lw_t3 (List.mem_of_getElem? (i := 231) rfl)) rfl
theorem wd_712 : Cond.code ({ cls := "CarrierLinkModel", name := "cross", desc := "(IIIII)V" } : MethodName) prog_10_method_15_code (12 : Nat) (Option.none : Option FieldType) ∈ lw_g := lw_gp (lw_t3 (List.mem_of_getElem? (i := 232) rfl)) rfl
theorem wd_713 : Cond.constantLong "CarrierLinkModel" (115 : Nat) (8192 : Int64) ∈ lw_g := lw_gp (lw_t3 (List.mem_of_getElem? (i := 233) rfl)) rfl
theorem wd_714 : Cond.fieldLink "CarrierLinkModel" (97 : Nat) "CarrierLinkModel" "thrown" "I" ∈ lw_g := lw_gp (lw_t3 (List.mem_of_getElem? (i := 234) rfl)) rfl
theorem wd_715 : Cond.fieldLink "CarrierLinkModel" (117 : Nat) "CarrierLinkModel" "bytes" "I" ∈ lw_g := lw_gp (lw_t3 (List.mem_of_getElem? (i := 235) rfl)) rfl
theorem wd_716 : Cond.fieldLink "CarrierLinkModel" (7 : Nat) "CarrierLinkModel" "message" "[I" ∈ lw_g := lw_gp (lw_t3 (List.mem_of_getElem? (i := 236) rfl)) rfl
theorem wd_717 : Cond.fieldLink "CarrierLinkModel" (154 : Nat) "CarrierLinkModel" "rate" "I" ∈ lw_g := lw_gp (lw_t3 (List.mem_of_getElem? (i := 237) rfl)) rfl
theorem wd_718 : Cond.fieldLink "CarrierLinkModel" (170 : Nat) "CarrierLinkModel" "dataBits" "I" ∈ lw_g := lw_gp (lw_t3 (List.mem_of_getElem? (i := 238) rfl)) rfl
theorem wd_719 : Cond.fieldLink "CarrierLinkModel" (13 : Nat) "CarrierLinkModel" "data" "[I" ∈ lw_g := lw_gp (lw_t3 (List.mem_of_getElem? (i := 239) rfl)) rfl
theorem wd_720 : Cond.fieldLink "CarrierLinkModel" (161 : Nat) "CarrierLinkModel" "codedBits" "I" ∈ lw_g := lw_gp (lw_t4 (List.mem_of_getElem? (i := 0) rfl)) rfl
theorem wd_721 : Cond.fieldLink "CarrierLinkModel" (16 : Nat) "CarrierLinkModel" "coded" "[I" ∈ lw_g := lw_gp (lw_t4 (List.mem_of_getElem? (i := 1) rfl)) rfl
theorem wd_722 : Cond.fieldLink "CarrierLinkModel" (19 : Nat) "CarrierLinkModel" "mixed" "[I" ∈ lw_g := lw_gp (lw_t4 (List.mem_of_getElem? (i := 2) rfl)) rfl
theorem wd_723 : Cond.fieldLink "CarrierLinkModel" (127 : Nat) "CarrierLinkModel" "frame" "I" ∈ lw_g := lw_gp (lw_t4 (List.mem_of_getElem? (i := 3) rfl)) rfl
theorem wd_724 : Cond.fieldLink "CarrierLinkModel" (22 : Nat) "CarrierLinkModel" "frameI" "[I" ∈ lw_g := lw_gp (lw_t4 (List.mem_of_getElem? (i := 4) rfl)) rfl
theorem wd_725 : Cond.fieldLink "CarrierLinkModel" (25 : Nat) "CarrierLinkModel" "frameQ" "[I" ∈ lw_g := lw_gp (lw_t4 (List.mem_of_getElem? (i := 5) rfl)) rfl
theorem wd_726 : Cond.fieldLink "CarrierLinkModel" (144 : Nat) "CarrierLinkModel" "symbols" "I" ∈ lw_g := lw_gp (lw_t4 (List.mem_of_getElem? (i := 6) rfl)) rfl
theorem wd_727 : Cond.fieldLink "CarrierLinkModel" (176 : Nat) "CarrierLinkModel" "airSize" "I" ∈ lw_g := lw_gp (lw_t4 (List.mem_of_getElem? (i := 7) rfl)) rfl
theorem wd_728 : Cond.fieldLink "CarrierLinkModel" (28 : Nat) "CarrierLinkModel" "airI" "[I" ∈ lw_g := lw_gp (lw_t4 (List.mem_of_getElem? (i := 8) rfl)) rfl
theorem wd_729 : Cond.fieldLink "CarrierLinkModel" (31 : Nat) "CarrierLinkModel" "airQ" "[I" ∈ lw_g := lw_gp (lw_t4 (List.mem_of_getElem? (i := 9) rfl)) rfl
theorem wd_730 : Cond.fieldLink "CarrierLinkModel" (245 : Nat) "CarrierLinkModel" "asked" "Z" ∈ lw_g := lw_gp (lw_t4 (List.mem_of_getElem? (i := 10) rfl)) rfl
theorem wd_731 : Cond.fieldLink "CarrierLinkModel" (252 : Nat) "CarrierLinkModel" "answer" "I" ∈ lw_g := lw_gp (lw_t4 (List.mem_of_getElem? (i := 11) rfl)) rfl
theorem wd_732 : Cond.fieldLink "CarrierLinkModel" (186 : Nat) "CarrierLinkModel" "start" "I" ∈ lw_g := lw_gp (lw_t4 (List.mem_of_getElem? (i := 12) rfl)) rfl
theorem wd_733 : Cond.fieldLink "CarrierLinkModel" (223 : Nat) "CarrierLinkModel" "heardRate" "I" ∈ lw_g := lw_gp (lw_t4 (List.mem_of_getElem? (i := 13) rfl)) rfl
theorem wd_734 : Cond.fieldLink "CarrierLinkModel" (226 : Nat) "CarrierLinkModel" "heardBytes" "I" ∈ lw_g := lw_gp (lw_t4 (List.mem_of_getElem? (i := 14) rfl)) rfl
theorem wd_735 : Cond.fieldLink "CarrierLinkModel" (242 : Nat) "CarrierLinkModel" "seen" "I" ∈ lw_g := lw_gp (lw_t4 (List.mem_of_getElem? (i := 15) rfl)) rfl
theorem wd_736 : Cond.fieldLink "CarrierLinkModel" (239 : Nat) "CarrierLinkModel" "best" "I" ∈ lw_g := lw_gp (lw_t4 (List.mem_of_getElem? (i := 16) rfl)) rfl
theorem wd_737 : Cond.fieldLink "CarrierLinkModel" (34 : Nat) "CarrierLinkModel" "got" "[I" ∈ lw_g := lw_gp (lw_t4 (List.mem_of_getElem? (i := 17) rfl)) rfl
theorem wd_738 : Cond.fieldLink "CarrierLinkModel" (37 : Nat) "CarrierLinkModel" "hRe" "[I" ∈ lw_g := lw_gp (lw_t4 (List.mem_of_getElem? (i := 18) rfl)) rfl
theorem wd_739 : Cond.fieldLink "CarrierLinkModel" (40 : Nat) "CarrierLinkModel" "hIm" "[I" ∈ lw_g := lw_gp (lw_t4 (List.mem_of_getElem? (i := 19) rfl)) rfl
theorem wd_740 : Cond.fieldLink "CarrierLinkModel" (43 : Nat) "CarrierLinkModel" "re" "[I" ∈ lw_g := lw_gp (lw_t4 (List.mem_of_getElem? (i := 20) rfl)) rfl
theorem wd_741 : Cond.fieldLink "CarrierLinkModel" (46 : Nat) "CarrierLinkModel" "im" "[I" ∈ lw_g := lw_gp (lw_t4 (List.mem_of_getElem? (i := 21) rfl)) rfl
theorem wd_742 : Cond.fieldLink "CarrierLinkModel" (49 : Nat) "CarrierLinkModel" "swap" "[I" ∈ lw_g := lw_gp (lw_t4 (List.mem_of_getElem? (i := 22) rfl)) rfl
theorem wd_743 : Cond.fieldLink "CarrierLinkModel" (52 : Nat) "CarrierLinkModel" "tRe" "[I" ∈ lw_g := lw_gp (lw_t4 (List.mem_of_getElem? (i := 23) rfl)) rfl
theorem wd_744 : Cond.fieldLink "CarrierLinkModel" (55 : Nat) "CarrierLinkModel" "tIm" "[I" ∈ lw_g := lw_gp (lw_t4 (List.mem_of_getElem? (i := 24) rfl)) rfl
theorem wd_745 : Cond.fieldLink "CarrierLinkModel" (58 : Nat) "CarrierLinkModel" "cosine" "[I" ∈ lw_g := lw_gp (lw_t4 (List.mem_of_getElem? (i := 25) rfl)) rfl
theorem wd_746 : Cond.fieldLink "CarrierLinkModel" (61 : Nat) "CarrierLinkModel" "softA" "[I" ∈ lw_g := lw_gp (lw_t4 (List.mem_of_getElem? (i := 26) rfl)) rfl
theorem wd_747 : Cond.fieldLink "CarrierLinkModel" (64 : Nat) "CarrierLinkModel" "softB" "[I" ∈ lw_g := lw_gp (lw_t4 (List.mem_of_getElem? (i := 27) rfl)) rfl
theorem wd_748 : Cond.fieldLink "CarrierLinkModel" (67 : Nat) "CarrierLinkModel" "soft" "[I" ∈ lw_g := lw_gp (lw_t4 (List.mem_of_getElem? (i := 28) rfl)) rfl
theorem wd_749 : Cond.fieldLink "CarrierLinkModel" (70 : Nat) "CarrierLinkModel" "metric" "[I" ∈ lw_g := lw_gp (lw_t4 (List.mem_of_getElem? (i := 29) rfl)) rfl
theorem wd_750 : Cond.fieldLink "CarrierLinkModel" (73 : Nat) "CarrierLinkModel" "fresh" "[I" ∈ lw_g := lw_gp (lw_t4 (List.mem_of_getElem? (i := 30) rfl)) rfl
theorem wd_751 : Cond.fieldLink "CarrierLinkModel" (76 : Nat) "CarrierLinkModel" "odd" "[Z" ∈ lw_g := lw_gp (lw_t4 (List.mem_of_getElem? (i := 31) rfl)) rfl
theorem wd_752 : Cond.fieldLink "CarrierLinkModel" (80 : Nat) "CarrierLinkModel" "found" "[I" ∈ lw_g := lw_gp (lw_t4 (List.mem_of_getElem? (i := 32) rfl)) rfl
theorem wd_753 : Cond.fieldLink "CarrierLinkModel" (104 : Nat) "CarrierLinkModel" "register" "I" ∈ lw_g := lw_gp (lw_t4 (List.mem_of_getElem? (i := 33) rfl)) rfl
theorem wd_754 : Cond.lays "CarrierLinkModel" "CarrierLinkModel" "thrown" "I" ∈ lw_g := lw_gp (lw_t4 (List.mem_of_getElem? (i := 34) rfl)) rfl
theorem wd_755 : Cond.soleField "CarrierLinkModel" "thrown" ∈ lw_g := lw_gp (lw_t4 (List.mem_of_getElem? (i := 35) rfl)) rfl
theorem wd_756 : Cond.lays "CarrierLinkModel" "CarrierLinkModel" "bytes" "I" ∈ lw_g := lw_gp (lw_t4 (List.mem_of_getElem? (i := 36) rfl)) rfl
theorem wd_757 : Cond.soleField "CarrierLinkModel" "bytes" ∈ lw_g := lw_gp (lw_t4 (List.mem_of_getElem? (i := 37) rfl)) rfl
theorem wd_758 : Cond.laysFinal "CarrierLinkModel" "CarrierLinkModel" "message" "[I" ∈ lw_g := lw_gp (lw_t4 (List.mem_of_getElem? (i := 38) rfl)) rfl
theorem wd_759 : Cond.soleField "CarrierLinkModel" "message" ∈ lw_g := lw_gp (lw_t4 (List.mem_of_getElem? (i := 39) rfl)) rfl
theorem wd_760 : Cond.lays "CarrierLinkModel" "CarrierLinkModel" "rate" "I" ∈ lw_g := lw_gp (lw_t4 (List.mem_of_getElem? (i := 40) rfl)) rfl
theorem wd_761 : Cond.soleField "CarrierLinkModel" "rate" ∈ lw_g := lw_gp (lw_t4 (List.mem_of_getElem? (i := 41) rfl)) rfl
theorem wd_762 : Cond.lays "CarrierLinkModel" "CarrierLinkModel" "dataBits" "I" ∈ lw_g := lw_gp (lw_t4 (List.mem_of_getElem? (i := 42) rfl)) rfl
theorem wd_763 : Cond.soleField "CarrierLinkModel" "dataBits" ∈ lw_g := lw_gp (lw_t4 (List.mem_of_getElem? (i := 43) rfl)) rfl
theorem wd_764 : Cond.laysFinal "CarrierLinkModel" "CarrierLinkModel" "data" "[I" ∈ lw_g := lw_gp (lw_t4 (List.mem_of_getElem? (i := 44) rfl)) rfl
theorem wd_765 : Cond.soleField "CarrierLinkModel" "data" ∈ lw_g := lw_gp (lw_t4 (List.mem_of_getElem? (i := 45) rfl)) rfl
theorem wd_766 : Cond.lays "CarrierLinkModel" "CarrierLinkModel" "codedBits" "I" ∈ lw_g := lw_gp (lw_t4 (List.mem_of_getElem? (i := 46) rfl)) rfl
theorem wd_767 : Cond.soleField "CarrierLinkModel" "codedBits" ∈ lw_g := lw_gp (lw_t4 (List.mem_of_getElem? (i := 47) rfl)) rfl
theorem wd_768 : Cond.laysFinal "CarrierLinkModel" "CarrierLinkModel" "coded" "[I" ∈ lw_g := lw_gp (lw_t4 (List.mem_of_getElem? (i := 48) rfl)) rfl
theorem wd_769 : Cond.soleField "CarrierLinkModel" "coded" ∈ lw_g := lw_gp (lw_t4 (List.mem_of_getElem? (i := 49) rfl)) rfl
theorem wd_770 : Cond.laysFinal "CarrierLinkModel" "CarrierLinkModel" "mixed" "[I" ∈ lw_g := lw_gp (lw_t4 (List.mem_of_getElem? (i := 50) rfl)) rfl
theorem wd_771 : Cond.soleField "CarrierLinkModel" "mixed" ∈ lw_g := lw_gp (lw_t4 (List.mem_of_getElem? (i := 51) rfl)) rfl
theorem wd_772 : Cond.lays "CarrierLinkModel" "CarrierLinkModel" "frame" "I" ∈ lw_g := lw_gp (lw_t4 (List.mem_of_getElem? (i := 52) rfl)) rfl
theorem wd_773 : Cond.soleField "CarrierLinkModel" "frame" ∈ lw_g := lw_gp (lw_t4 (List.mem_of_getElem? (i := 53) rfl)) rfl
theorem wd_774 : Cond.laysFinal "CarrierLinkModel" "CarrierLinkModel" "frameI" "[I" ∈ lw_g := lw_gp (lw_t4 (List.mem_of_getElem? (i := 54) rfl)) rfl
theorem wd_775 : Cond.soleField "CarrierLinkModel" "frameI" ∈ lw_g := lw_gp (lw_t4 (List.mem_of_getElem? (i := 55) rfl)) rfl
theorem wd_776 : Cond.laysFinal "CarrierLinkModel" "CarrierLinkModel" "frameQ" "[I" ∈ lw_g := lw_gp (lw_t4 (List.mem_of_getElem? (i := 56) rfl)) rfl
theorem wd_777 : Cond.soleField "CarrierLinkModel" "frameQ" ∈ lw_g := lw_gp (lw_t4 (List.mem_of_getElem? (i := 57) rfl)) rfl
theorem wd_778 : Cond.lays "CarrierLinkModel" "CarrierLinkModel" "symbols" "I" ∈ lw_g := lw_gp (lw_t4 (List.mem_of_getElem? (i := 58) rfl)) rfl
theorem wd_779 : Cond.soleField "CarrierLinkModel" "symbols" ∈ lw_g := lw_gp (lw_t4 (List.mem_of_getElem? (i := 59) rfl)) rfl
theorem wd_780 : Cond.lays "CarrierLinkModel" "CarrierLinkModel" "airSize" "I" ∈ lw_g := lw_gp (lw_t4 (List.mem_of_getElem? (i := 60) rfl)) rfl
theorem wd_781 : Cond.soleField "CarrierLinkModel" "airSize" ∈ lw_g := lw_gp (lw_t4 (List.mem_of_getElem? (i := 61) rfl)) rfl
theorem wd_782 : Cond.laysFinal "CarrierLinkModel" "CarrierLinkModel" "airI" "[I" ∈ lw_g := lw_gp (lw_t4 (List.mem_of_getElem? (i := 62) rfl)) rfl
theorem wd_783 : Cond.soleField "CarrierLinkModel" "airI" ∈ lw_g := lw_gp (lw_t4 (List.mem_of_getElem? (i := 63) rfl)) rfl
theorem wd_784 : Cond.laysFinal "CarrierLinkModel" "CarrierLinkModel" "airQ" "[I" ∈ lw_g := lw_gp (lw_t4 (List.mem_of_getElem? (i := 64) rfl)) rfl
theorem wd_785 : Cond.soleField "CarrierLinkModel" "airQ" ∈ lw_g := lw_gp (lw_t4 (List.mem_of_getElem? (i := 65) rfl)) rfl
theorem wd_786 : Cond.lays "CarrierLinkModel" "CarrierLinkModel" "asked" "Z" ∈ lw_g := lw_gp (lw_t4 (List.mem_of_getElem? (i := 66) rfl)) rfl
theorem wd_787 : Cond.soleField "CarrierLinkModel" "asked" ∈ lw_g := lw_gp (lw_t4 (List.mem_of_getElem? (i := 67) rfl)) rfl
theorem wd_788 : Cond.lays "CarrierLinkModel" "CarrierLinkModel" "answer" "I" ∈ lw_g := lw_gp (lw_t4 (List.mem_of_getElem? (i := 68) rfl)) rfl
theorem wd_789 : Cond.soleField "CarrierLinkModel" "answer" ∈ lw_g := lw_gp (lw_t4 (List.mem_of_getElem? (i := 69) rfl)) rfl
theorem wd_790 : Cond.lays "CarrierLinkModel" "CarrierLinkModel" "start" "I" ∈ lw_g := lw_gp (lw_t4 (List.mem_of_getElem? (i := 70) rfl)) rfl
theorem wd_791 : Cond.soleField "CarrierLinkModel" "start" ∈ lw_g := lw_gp (lw_t4 (List.mem_of_getElem? (i := 71) rfl)) rfl
theorem wd_792 : Cond.lays "CarrierLinkModel" "CarrierLinkModel" "heardRate" "I" ∈ lw_g := lw_gp (lw_t4 (List.mem_of_getElem? (i := 72) rfl)) rfl
theorem wd_793 : Cond.soleField "CarrierLinkModel" "heardRate" ∈ lw_g := lw_gp (lw_t4 (List.mem_of_getElem? (i := 73) rfl)) rfl
theorem wd_794 : Cond.lays "CarrierLinkModel" "CarrierLinkModel" "heardBytes" "I" ∈ lw_g := lw_gp (lw_t4 (List.mem_of_getElem? (i := 74) rfl)) rfl
theorem wd_795 : Cond.soleField "CarrierLinkModel" "heardBytes" ∈ lw_g := lw_gp (lw_t4 (List.mem_of_getElem? (i := 75) rfl)) rfl
theorem wd_796 : Cond.lays "CarrierLinkModel" "CarrierLinkModel" "seen" "I" ∈ lw_g := lw_gp (lw_t4 (List.mem_of_getElem? (i := 76) rfl)) rfl
theorem wd_797 : Cond.soleField "CarrierLinkModel" "seen" ∈ lw_g := lw_gp (lw_t4 (List.mem_of_getElem? (i := 77) rfl)) rfl
theorem wd_798 : Cond.lays "CarrierLinkModel" "CarrierLinkModel" "best" "I" ∈ lw_g := lw_gp (lw_t4 (List.mem_of_getElem? (i := 78) rfl)) rfl
theorem wd_799 : Cond.soleField "CarrierLinkModel" "best" ∈ lw_g := lw_gp (lw_t4 (List.mem_of_getElem? (i := 79) rfl)) rfl
theorem wd_800 : Cond.laysFinal "CarrierLinkModel" "CarrierLinkModel" "got" "[I" ∈ lw_g := lw_gp (lw_t4 (List.mem_of_getElem? (i := 80) rfl)) rfl
theorem wd_801 : Cond.soleField "CarrierLinkModel" "got" ∈ lw_g := lw_gp (lw_t4 (List.mem_of_getElem? (i := 81) rfl)) rfl
theorem wd_802 : Cond.laysFinal "CarrierLinkModel" "CarrierLinkModel" "hRe" "[I" ∈ lw_g := lw_gp (lw_t4 (List.mem_of_getElem? (i := 82) rfl)) rfl
theorem wd_803 : Cond.soleField "CarrierLinkModel" "hRe" ∈ lw_g := lw_gp (lw_t4 (List.mem_of_getElem? (i := 83) rfl)) rfl
theorem wd_804 : Cond.laysFinal "CarrierLinkModel" "CarrierLinkModel" "hIm" "[I" ∈ lw_g := lw_gp (lw_t4 (List.mem_of_getElem? (i := 84) rfl)) rfl
theorem wd_805 : Cond.soleField "CarrierLinkModel" "hIm" ∈ lw_g := lw_gp (lw_t4 (List.mem_of_getElem? (i := 85) rfl)) rfl
theorem wd_806 : Cond.laysFinal "CarrierLinkModel" "CarrierLinkModel" "re" "[I" ∈ lw_g := lw_gp (lw_t4 (List.mem_of_getElem? (i := 86) rfl)) rfl
theorem wd_807 : Cond.soleField "CarrierLinkModel" "re" ∈ lw_g := lw_gp (lw_t4 (List.mem_of_getElem? (i := 87) rfl)) rfl
theorem wd_808 : Cond.laysFinal "CarrierLinkModel" "CarrierLinkModel" "im" "[I" ∈ lw_g := lw_gp (lw_t4 (List.mem_of_getElem? (i := 88) rfl)) rfl
theorem wd_809 : Cond.soleField "CarrierLinkModel" "im" ∈ lw_g := lw_gp (lw_t4 (List.mem_of_getElem? (i := 89) rfl)) rfl
theorem wd_810 : Cond.laysFinal "CarrierLinkModel" "CarrierLinkModel" "swap" "[I" ∈ lw_g := lw_gp (lw_t4 (List.mem_of_getElem? (i := 90) rfl)) rfl
theorem wd_811 : Cond.soleField "CarrierLinkModel" "swap" ∈ lw_g := lw_gp (lw_t4 (List.mem_of_getElem? (i := 91) rfl)) rfl
theorem wd_812 : Cond.laysFinal "CarrierLinkModel" "CarrierLinkModel" "tRe" "[I" ∈ lw_g := lw_gp (lw_t4 (List.mem_of_getElem? (i := 92) rfl)) rfl
theorem wd_813 : Cond.soleField "CarrierLinkModel" "tRe" ∈ lw_g := lw_gp (lw_t4 (List.mem_of_getElem? (i := 93) rfl)) rfl
theorem wd_814 : Cond.laysFinal "CarrierLinkModel" "CarrierLinkModel" "tIm" "[I" ∈ lw_g := lw_gp (lw_t4 (List.mem_of_getElem? (i := 94) rfl)) rfl
theorem wd_815 : Cond.soleField "CarrierLinkModel" "tIm" ∈ lw_g := lw_gp (lw_t4 (List.mem_of_getElem? (i := 95) rfl)) rfl
theorem wd_816 : Cond.laysFinal "CarrierLinkModel" "CarrierLinkModel" "cosine" "[I" ∈ lw_g := lw_gp (lw_t4 (List.mem_of_getElem? (i := 96) rfl)) rfl
theorem wd_817 : Cond.soleField "CarrierLinkModel" "cosine" ∈ lw_g := lw_gp (lw_t4 (List.mem_of_getElem? (i := 97) rfl)) rfl
theorem wd_818 : Cond.laysFinal "CarrierLinkModel" "CarrierLinkModel" "softA" "[I" ∈ lw_g := lw_gp (lw_t4 (List.mem_of_getElem? (i := 98) rfl)) rfl
theorem wd_819 : Cond.soleField "CarrierLinkModel" "softA" ∈ lw_g := lw_gp (lw_t4 (List.mem_of_getElem? (i := 99) rfl)) rfl
theorem wd_820 : Cond.laysFinal "CarrierLinkModel" "CarrierLinkModel" "softB" "[I" ∈ lw_g := lw_gp (lw_t4 (List.mem_of_getElem? (i := 100) rfl)) rfl
theorem wd_821 : Cond.soleField "CarrierLinkModel" "softB" ∈ lw_g := lw_gp (lw_t4 (List.mem_of_getElem? (i := 101) rfl)) rfl
theorem wd_822 : Cond.laysFinal "CarrierLinkModel" "CarrierLinkModel" "soft" "[I" ∈ lw_g := lw_gp (lw_t4 (List.mem_of_getElem? (i := 102) rfl)) rfl
theorem wd_823 : Cond.soleField "CarrierLinkModel" "soft" ∈ lw_g := lw_gp (lw_t4 (List.mem_of_getElem? (i := 103) rfl)) rfl
theorem wd_824 : Cond.laysFinal "CarrierLinkModel" "CarrierLinkModel" "metric" "[I" ∈ lw_g := lw_gp (lw_t4 (List.mem_of_getElem? (i := 104) rfl)) rfl
theorem wd_825 : Cond.soleField "CarrierLinkModel" "metric" ∈ lw_g := lw_gp (lw_t4 (List.mem_of_getElem? (i := 105) rfl)) rfl
theorem wd_826 : Cond.laysFinal "CarrierLinkModel" "CarrierLinkModel" "fresh" "[I" ∈ lw_g := lw_gp (lw_t4 (List.mem_of_getElem? (i := 106) rfl)) rfl
theorem wd_827 : Cond.soleField "CarrierLinkModel" "fresh" ∈ lw_g := lw_gp (lw_t4 (List.mem_of_getElem? (i := 107) rfl)) rfl
theorem wd_828 : Cond.laysFinal "CarrierLinkModel" "CarrierLinkModel" "odd" "[Z" ∈ lw_g := lw_gp (lw_t4 (List.mem_of_getElem? (i := 108) rfl)) rfl
theorem wd_829 : Cond.soleField "CarrierLinkModel" "odd" ∈ lw_g := lw_gp (lw_t4 (List.mem_of_getElem? (i := 109) rfl)) rfl
theorem wd_830 : Cond.laysFinal "CarrierLinkModel" "CarrierLinkModel" "found" "[I" ∈ lw_g := lw_gp (lw_t4 (List.mem_of_getElem? (i := 110) rfl)) rfl
theorem wd_831 : Cond.soleField "CarrierLinkModel" "found" ∈ lw_g := lw_gp (lw_t4 (List.mem_of_getElem? (i := 111) rfl)) rfl
theorem wd_832 : Cond.lays "CarrierLinkModel" "CarrierLinkModel" "register" "I" ∈ lw_g := lw_gp (lw_t4 (List.mem_of_getElem? (i := 112) rfl)) rfl
theorem wd_833 : Cond.soleField "CarrierLinkModel" "register" ∈ lw_g := lw_gp (lw_t4 (List.mem_of_getElem? (i := 113) rfl)) rfl
theorem wd_834 : Cond.superclass "CarrierLinkModel" "java/lang/Object" ∈ lw_g := lw_gp (lw_t4 (List.mem_of_getElem? (i := 114) rfl)) rfl
theorem wd_835 : Cond.arrayClass FieldType.boolean ∈ lw_g := lw_gp (lw_t4 (List.mem_of_getElem? (i := 115) rfl)) rfl
theorem wd_836 : Cond.methodLink "CarrierLinkLaw" (52 : Nat) ({ cls := "CarrierLinkModel", name := "thrown", desc := "()I" } : MethodName) ∈ lw_g := lw_gp (lw_t4 (List.mem_of_getElem? (i := 116) rfl)) rfl
theorem wd_837 : Cond.instanceMethod ({ cls := "CarrierLinkModel", name := "thrown", desc := "()I" } : MethodName) ∈ lw_g := lw_gp (lw_t4 (List.mem_of_getElem? (i := 117) rfl)) rfl
theorem wd_838 : Cond.selects "CarrierLinkModel" ({ cls := "CarrierLinkModel", name := "thrown", desc := "()I" } : MethodName) ({ cls := "CarrierLinkModel", name := "thrown", desc := "()I" } : MethodName) ∈ lw_g := lw_gp (lw_t4 (List.mem_of_getElem? (i := 118) rfl)) rfl
theorem wd_839 : Cond.code ({ cls := "CarrierLinkModel", name := "thrown", desc := "()I" } : MethodName) prog_10_method_3_code (1 : Nat) (Option.some FieldType.int) ∈ lw_g := lw_gp (lw_t4 (List.mem_of_getElem? (i := 119) rfl)) rfl
theorem wd_840 : Cond.methodLink "CarrierLinkLaw" (41 : Nat) ({ cls := "CarrierLinkModel", name := "put", desc := "(IJ)Z" } : MethodName) ∈ lw_g := lw_gp (lw_t4 (List.mem_of_getElem? (i := 120) rfl)) rfl
theorem wd_841 : Cond.instanceMethod ({ cls := "CarrierLinkModel", name := "put", desc := "(IJ)Z" } : MethodName) ∈ lw_g := lw_gp (lw_t4 (List.mem_of_getElem? (i := 121) rfl)) rfl
theorem wd_842 : Cond.selects "CarrierLinkModel" ({ cls := "CarrierLinkModel", name := "put", desc := "(IJ)Z" } : MethodName) ({ cls := "CarrierLinkModel", name := "put", desc := "(IJ)Z" } : MethodName) ∈ lw_g := lw_gp (lw_t4 (List.mem_of_getElem? (i := 122) rfl)) rfl
theorem wd_843 : Cond.code ({ cls := "CarrierLinkModel", name := "put", desc := "(IJ)Z" } : MethodName) prog_10_method_16_code (5 : Nat) (Option.some FieldType.boolean) ∈ lw_g := lw_gp (lw_t4 (List.mem_of_getElem? (i := 123) rfl)) rfl
theorem wd_844 : Cond.methodLink "CarrierLinkLaw" (45 : Nat) ({ cls := "CarrierLinkModel", name := "wipe", desc := "()V" } : MethodName) ∈ lw_g := lw_gp (lw_t4 (List.mem_of_getElem? (i := 124) rfl)) rfl
theorem wd_845 : Cond.instanceMethod ({ cls := "CarrierLinkModel", name := "wipe", desc := "()V" } : MethodName) ∈ lw_g := lw_gp (lw_t4 (List.mem_of_getElem? (i := 125) rfl)) rfl
theorem wd_846 : Cond.selects "CarrierLinkModel" ({ cls := "CarrierLinkModel", name := "wipe", desc := "()V" } : MethodName) ({ cls := "CarrierLinkModel", name := "wipe", desc := "()V" } : MethodName) ∈ lw_g := lw_gp (lw_t4 (List.mem_of_getElem? (i := 126) rfl)) rfl
theorem wd_847 : Cond.code ({ cls := "CarrierLinkModel", name := "wipe", desc := "()V" } : MethodName) prog_10_method_17_code (1 : Nat) (Option.none : Option FieldType) ∈ lw_g := lw_gp (lw_t4 (List.mem_of_getElem? (i := 127) rfl)) rfl
theorem wd_848 : Cond.methodLink "CarrierLinkLaw" (51 : Nat) ({ cls := "CarrierLinkModel", name := "send", desc := "(II)I" } : MethodName) ∈ lw_g := lw_gp (lw_t4 (List.mem_of_getElem? (i := 128) rfl)) rfl
theorem wd_849 : Cond.instanceMethod ({ cls := "CarrierLinkModel", name := "send", desc := "(II)I" } : MethodName) ∈ lw_g := lw_gp (lw_t4 (List.mem_of_getElem? (i := 129) rfl)) rfl
theorem wd_850 : Cond.selects "CarrierLinkModel" ({ cls := "CarrierLinkModel", name := "send", desc := "(II)I" } : MethodName) ({ cls := "CarrierLinkModel", name := "send", desc := "(II)I" } : MethodName) ∈ lw_g := lw_gp (lw_t4 (List.mem_of_getElem? (i := 130) rfl)) rfl
theorem wd_851 : Cond.code ({ cls := "CarrierLinkModel", name := "send", desc := "(II)I" } : MethodName) prog_10_method_24_code (8 : Nat) (Option.some FieldType.int) ∈ lw_g := lw_gp (lw_t4 (List.mem_of_getElem? (i := 131) rfl)) rfl
theorem wd_852 : Cond.methodLink "CarrierLinkModel" (151 : Nat) ({ cls := "CarrierLinkModel", name := "sample", desc := "(II)V" } : MethodName) ∈ lw_g := lw_gp (lw_t4 (List.mem_of_getElem? (i := 132) rfl)) rfl
theorem wd_854 : Cond.instanceMethod ({ cls := "CarrierLinkModel", name := "sample", desc := "(II)V" } : MethodName) ∈ lw_g := lw_gp (lw_t4 (List.mem_of_getElem? (i := 134) rfl)) rfl
theorem wd_855 : Cond.code ({ cls := "CarrierLinkModel", name := "sample", desc := "(II)V" } : MethodName) prog_10_method_22_code (3 : Nat) (Option.none : Option FieldType) ∈ lw_g := lw_gp (lw_t4 (List.mem_of_getElem? (i := 135) rfl)) rfl
theorem wd_856 : Cond.methodLink "CarrierLinkModel" (130 : Nat) ({ cls := "CarrierLinkModel", name := "saturate", desc := "(I)I" } : MethodName) ∈ lw_g := lw_gp (lw_t4 (List.mem_of_getElem? (i := 136) rfl)) rfl
theorem wd_857 : Cond.static ({ cls := "CarrierLinkModel", name := "saturate", desc := "(I)I" } : MethodName) ∈ lw_g := lw_gp (lw_t4 (List.mem_of_getElem? (i := 137) rfl)) rfl
theorem wd_858 : Cond.code ({ cls := "CarrierLinkModel", name := "saturate", desc := "(I)I" } : MethodName) prog_10_method_4_code (1 : Nat) (Option.some FieldType.int) ∈ lw_g := lw_gp (lw_t4 (List.mem_of_getElem? (i := 138) rfl)) rfl
theorem wd_859 : Cond.methodLink "CarrierLinkModel" (157 : Nat) ({ cls := "CarrierLinkModel", name := "code", desc := "(IZ)I" } : MethodName) ∈ lw_g := lw_gp (lw_t4 (List.mem_of_getElem? (i := 139) rfl)) rfl
theorem wd_861 : Cond.instanceMethod ({ cls := "CarrierLinkModel", name := "code", desc := "(IZ)I" } : MethodName) ∈ lw_g := lw_gp (lw_t4 (List.mem_of_getElem? (i := 141) rfl)) rfl
theorem wd_862 : Cond.code ({ cls := "CarrierLinkModel", name := "code", desc := "(IZ)I" } : MethodName) prog_10_method_19_code (6 : Nat) (Option.some FieldType.int) ∈ lw_g := lw_gp (lw_t4 (List.mem_of_getElem? (i := 142) rfl)) rfl
theorem wd_863 : Cond.methodLink "CarrierLinkModel" (120 : Nat) ({ cls := "CarrierLinkModel", name := "past", desc := "(I)I" } : MethodName) ∈ lw_g := lw_gp (lw_t4 (List.mem_of_getElem? (i := 143) rfl)) rfl
theorem wd_865 : Cond.instanceMethod ({ cls := "CarrierLinkModel", name := "past", desc := "(I)I" } : MethodName) ∈ lw_g := lw_gp (lw_t4 (List.mem_of_getElem? (i := 145) rfl)) rfl
theorem wd_866 : Cond.code ({ cls := "CarrierLinkModel", name := "past", desc := "(I)I" } : MethodName) prog_10_method_18_code (2 : Nat) (Option.some FieldType.int) ∈ lw_g := lw_gp (lw_t4 (List.mem_of_getElem? (i := 146) rfl)) rfl
theorem wd_867 : Cond.methodLink "CarrierLinkModel" (164 : Nat) ({ cls := "CarrierLinkModel", name := "modulate", desc := "(II)V" } : MethodName) ∈ lw_g := lw_gp (lw_t4 (List.mem_of_getElem? (i := 147) rfl)) rfl
theorem wd_869 : Cond.instanceMethod ({ cls := "CarrierLinkModel", name := "modulate", desc := "(II)V" } : MethodName) ∈ lw_g := lw_gp (lw_t4 (List.mem_of_getElem? (i := 149) rfl)) rfl
theorem wd_870 : Cond.code ({ cls := "CarrierLinkModel", name := "modulate", desc := "(II)V" } : MethodName) prog_10_method_23_code (7 : Nat) (Option.none : Option FieldType) ∈ lw_g := lw_gp (lw_t4 (List.mem_of_getElem? (i := 150) rfl)) rfl
theorem wd_871 : Cond.methodLink "CarrierLinkModel" (133 : Nat) ({ cls := "CarrierLinkModel", name := "place", desc := "(III)I" } : MethodName) ∈ lw_g := lw_gp (lw_t4 (List.mem_of_getElem? (i := 151) rfl)) rfl
theorem wd_872 : Cond.static ({ cls := "CarrierLinkModel", name := "place", desc := "(III)I" } : MethodName) ∈ lw_g := lw_gp (lw_t4 (List.mem_of_getElem? (i := 152) rfl)) rfl
theorem wd_873 : Cond.code ({ cls := "CarrierLinkModel", name := "place", desc := "(III)I" } : MethodName) prog_10_method_11_code (5 : Nat) (Option.some FieldType.int) ∈ lw_g := lw_gp (lw_t4 (List.mem_of_getElem? (i := 153) rfl)) rfl
theorem wd_874 : Cond.methodLink "CarrierLinkModel" (137 : Nat) ({ cls := "CarrierLinkModel", name := "carrier", desc := "(I)I" } : MethodName) ∈ lw_g := lw_gp (lw_t4 (List.mem_of_getElem? (i := 154) rfl)) rfl
theorem wd_875 : Cond.static ({ cls := "CarrierLinkModel", name := "carrier", desc := "(I)I" } : MethodName) ∈ lw_g := lw_gp (lw_t4 (List.mem_of_getElem? (i := 155) rfl)) rfl
theorem wd_876 : Cond.code ({ cls := "CarrierLinkModel", name := "carrier", desc := "(I)I" } : MethodName) prog_10_method_9_code (1 : Nat) (Option.some FieldType.int) ∈ lw_g := lw_gp (lw_t4 (List.mem_of_getElem? (i := 156) rfl)) rfl
theorem wd_877 : Cond.methodLink "CarrierLinkModel" (140 : Nat) ({ cls := "CarrierLinkModel", name := "map", desc := "(III)V" } : MethodName) ∈ lw_g := lw_gp (lw_t4 (List.mem_of_getElem? (i := 157) rfl)) rfl
theorem wd_879 : Cond.instanceMethod ({ cls := "CarrierLinkModel", name := "map", desc := "(III)V" } : MethodName) ∈ lw_g := lw_gp (lw_t4 (List.mem_of_getElem? (i := 159) rfl)) rfl
theorem wd_880 : Cond.code ({ cls := "CarrierLinkModel", name := "map", desc := "(III)V" } : MethodName) prog_10_method_21_code (4 : Nat) (Option.none : Option FieldType) ∈ lw_g := lw_gp (lw_t4 (List.mem_of_getElem? (i := 160) rfl)) rfl
theorem wd_881 : Cond.methodLink "CarrierLinkModel" (123 : Nat) ({ cls := "CarrierLinkModel", name := "level", desc := "(II)I" } : MethodName) ∈ lw_g := lw_gp (lw_t4 (List.mem_of_getElem? (i := 161) rfl)) rfl
theorem wd_882 : Cond.static ({ cls := "CarrierLinkModel", name := "level", desc := "(II)I" } : MethodName) ∈ lw_g := lw_gp (lw_t4 (List.mem_of_getElem? (i := 162) rfl)) rfl
theorem wd_883 : Cond.code ({ cls := "CarrierLinkModel", name := "level", desc := "(II)I" } : MethodName) prog_10_method_20_code (2 : Nat) (Option.some FieldType.int) ∈ lw_g := lw_gp (lw_t4 (List.mem_of_getElem? (i := 163) rfl)) rfl
theorem wd_884 : Cond.methodLink "CarrierLinkModel" (147 : Nat) ({ cls := "CarrierLinkModel", name := "scramble", desc := "()I" } : MethodName) ∈ lw_g := lw_gp (lw_t4 (List.mem_of_getElem? (i := 164) rfl)) rfl
theorem wd_886 : Cond.instanceMethod ({ cls := "CarrierLinkModel", name := "scramble", desc := "()I" } : MethodName) ∈ lw_g := lw_gp (lw_t4 (List.mem_of_getElem? (i := 166) rfl)) rfl
theorem wd_887 : Cond.code ({ cls := "CarrierLinkModel", name := "scramble", desc := "()I" } : MethodName) prog_10_method_10_code (2 : Nat) (Option.some FieldType.int) ∈ lw_g := lw_gp (lw_t4 (List.mem_of_getElem? (i := 167) rfl)) rfl
theorem wd_888 : Cond.methodLink "CarrierLinkModel" (167 : Nat) ({ cls := "CarrierLinkModel", name := "symbolsFor", desc := "(II)I" } : MethodName) ∈ lw_g := lw_gp (lw_t4 (List.mem_of_getElem? (i := 168) rfl)) rfl
theorem wd_889 : Cond.static ({ cls := "CarrierLinkModel", name := "symbolsFor", desc := "(II)I" } : MethodName) ∈ lw_g := lw_gp (lw_t4 (List.mem_of_getElem? (i := 169) rfl)) rfl
theorem wd_890 : Cond.code ({ cls := "CarrierLinkModel", name := "symbolsFor", desc := "(II)I" } : MethodName) prog_10_method_7_code (2 : Nat) (Option.some FieldType.int) ∈ lw_g := lw_gp (lw_t4 (List.mem_of_getElem? (i := 170) rfl)) rfl
theorem wd_891 : Cond.methodLink "CarrierLinkModel" (101 : Nat) ({ cls := "CarrierLinkModel", name := "dataOf", desc := "(I)I" } : MethodName) ∈ lw_g := lw_gp (lw_t4 (List.mem_of_getElem? (i := 171) rfl)) rfl
theorem wd_892 : Cond.static ({ cls := "CarrierLinkModel", name := "dataOf", desc := "(I)I" } : MethodName) ∈ lw_g := lw_gp (lw_t4 (List.mem_of_getElem? (i := 172) rfl)) rfl
theorem wd_893 : Cond.code ({ cls := "CarrierLinkModel", name := "dataOf", desc := "(I)I" } : MethodName) prog_10_method_6_code (1 : Nat) (Option.some FieldType.int) ∈ lw_g := lw_gp (lw_t4 (List.mem_of_getElem? (i := 173) rfl)) rfl
theorem wd_894 : Cond.methodLink "CarrierLinkModel" (173 : Nat) ({ cls := "CarrierLinkModel", name := "bitsOn", desc := "(I)I" } : MethodName) ∈ lw_g := lw_gp (lw_t4 (List.mem_of_getElem? (i := 174) rfl)) rfl
theorem wd_895 : Cond.static ({ cls := "CarrierLinkModel", name := "bitsOn", desc := "(I)I" } : MethodName) ∈ lw_g := lw_gp (lw_t4 (List.mem_of_getElem? (i := 175) rfl)) rfl
theorem wd_896 : Cond.code ({ cls := "CarrierLinkModel", name := "bitsOn", desc := "(I)I" } : MethodName) prog_10_method_5_code (1 : Nat) (Option.some FieldType.int) ∈ lw_g := lw_gp (lw_t4 (List.mem_of_getElem? (i := 176) rfl)) rfl
theorem wd_897 : Cond.methodLink "CarrierLinkLaw" (58 : Nat) ({ cls := "CarrierLinkModel", name := "bit", desc := "(II)I" } : MethodName) ∈ lw_g := lw_gp (lw_t4 (List.mem_of_getElem? (i := 177) rfl)) rfl
theorem wd_898 : Cond.instanceMethod ({ cls := "CarrierLinkModel", name := "bit", desc := "(II)I" } : MethodName) ∈ lw_g := lw_gp (lw_t4 (List.mem_of_getElem? (i := 178) rfl)) rfl
theorem wd_899 : Cond.selects "CarrierLinkModel" ({ cls := "CarrierLinkModel", name := "bit", desc := "(II)I" } : MethodName) ({ cls := "CarrierLinkModel", name := "bit", desc := "(II)I" } : MethodName) ∈ lw_g := lw_gp (lw_t4 (List.mem_of_getElem? (i := 179) rfl)) rfl
theorem wd_900 : Cond.code ({ cls := "CarrierLinkModel", name := "bit", desc := "(II)I" } : MethodName) prog_10_method_25_code (4 : Nat) (Option.some FieldType.int) ∈ lw_g := lw_gp (lw_t4 (List.mem_of_getElem? (i := 180) rfl)) rfl
theorem wd_901 : Cond.methodLink "CarrierLinkLaw" (62 : Nat) ({ cls := "CarrierLinkModel", name := "sample", desc := "(ZIZ)S" } : MethodName) ∈ lw_g := lw_gp (lw_t4 (List.mem_of_getElem? (i := 181) rfl)) rfl
theorem wd_902 : Cond.instanceMethod ({ cls := "CarrierLinkModel", name := "sample", desc := "(ZIZ)S" } : MethodName) ∈ lw_g := lw_gp (lw_t4 (List.mem_of_getElem? (i := 182) rfl)) rfl
theorem wd_903 : Cond.selects "CarrierLinkModel" ({ cls := "CarrierLinkModel", name := "sample", desc := "(ZIZ)S" } : MethodName) ({ cls := "CarrierLinkModel", name := "sample", desc := "(ZIZ)S" } : MethodName) ∈ lw_g := lw_gp (lw_t4 (List.mem_of_getElem? (i := 183) rfl)) rfl
theorem wd_904 : Cond.code ({ cls := "CarrierLinkModel", name := "sample", desc := "(ZIZ)S" } : MethodName) prog_10_method_26_code (4 : Nat) (Option.some FieldType.short) ∈ lw_g := lw_gp (lw_t4 (List.mem_of_getElem? (i := 184) rfl)) rfl
theorem wd_905 : Cond.methodLink "CarrierLinkLaw" (66 : Nat) ({ cls := "CarrierLinkModel", name := "air", desc := "(III)I" } : MethodName) ∈ lw_g := lw_gp (lw_t4 (List.mem_of_getElem? (i := 185) rfl)) rfl
theorem wd_906 : Cond.instanceMethod ({ cls := "CarrierLinkModel", name := "air", desc := "(III)I" } : MethodName) ∈ lw_g := lw_gp (lw_t4 (List.mem_of_getElem? (i := 186) rfl)) rfl
theorem wd_907 : Cond.selects "CarrierLinkModel" ({ cls := "CarrierLinkModel", name := "air", desc := "(III)I" } : MethodName) ({ cls := "CarrierLinkModel", name := "air", desc := "(III)I" } : MethodName) ∈ lw_g := lw_gp (lw_t4 (List.mem_of_getElem? (i := 187) rfl)) rfl
theorem wd_908 : Cond.code ({ cls := "CarrierLinkModel", name := "air", desc := "(III)I" } : MethodName) prog_10_method_27_code (9 : Nat) (Option.some FieldType.int) ∈ lw_g := lw_gp (lw_t4 (List.mem_of_getElem? (i := 188) rfl)) rfl
theorem wd_909 : Cond.methodLink "CarrierLinkLaw" (71 : Nat) ({ cls := "CarrierLinkModel", name := "disturb", desc := "(ISS)Z" } : MethodName) ∈ lw_g := lw_gp (lw_t4 (List.mem_of_getElem? (i := 189) rfl)) rfl
theorem wd_910 : Cond.instanceMethod ({ cls := "CarrierLinkModel", name := "disturb", desc := "(ISS)Z" } : MethodName) ∈ lw_g := lw_gp (lw_t4 (List.mem_of_getElem? (i := 190) rfl)) rfl
theorem wd_911 : Cond.selects "CarrierLinkModel" ({ cls := "CarrierLinkModel", name := "disturb", desc := "(ISS)Z" } : MethodName) ({ cls := "CarrierLinkModel", name := "disturb", desc := "(ISS)Z" } : MethodName) ∈ lw_g := lw_gp (lw_t4 (List.mem_of_getElem? (i := 191) rfl)) rfl
theorem wd_912 : Cond.code ({ cls := "CarrierLinkModel", name := "disturb", desc := "(ISS)Z" } : MethodName) prog_10_method_28_code (4 : Nat) (Option.some FieldType.boolean) ∈ lw_g := lw_gp (lw_t4 (List.mem_of_getElem? (i := 192) rfl)) rfl
theorem wd_913 : Cond.methodLink "CarrierLinkLaw" (76 : Nat) ({ cls := "CarrierLinkModel", name := "stir", desc := "(II)Z" } : MethodName) ∈ lw_g := lw_gp (lw_t4 (List.mem_of_getElem? (i := 193) rfl)) rfl
theorem wd_914 : Cond.instanceMethod ({ cls := "CarrierLinkModel", name := "stir", desc := "(II)Z" } : MethodName) ∈ lw_g := lw_gp (lw_t4 (List.mem_of_getElem? (i := 194) rfl)) rfl
theorem wd_915 : Cond.selects "CarrierLinkModel" ({ cls := "CarrierLinkModel", name := "stir", desc := "(II)Z" } : MethodName) ({ cls := "CarrierLinkModel", name := "stir", desc := "(II)Z" } : MethodName) ∈ lw_g := lw_gp (lw_t4 (List.mem_of_getElem? (i := 195) rfl)) rfl
theorem wd_916 : Cond.code ({ cls := "CarrierLinkModel", name := "stir", desc := "(II)Z" } : MethodName) prog_10_method_29_code (5 : Nat) (Option.some FieldType.boolean) ∈ lw_g := lw_gp (lw_t4 (List.mem_of_getElem? (i := 196) rfl)) rfl
theorem wd_917 : Cond.constant "CarrierLinkModel" (179 : Nat) (1103515245 : Int32) ∈ lw_g := lw_gp (lw_t4 (List.mem_of_getElem? (i := 197) rfl)) rfl
theorem wd_918 : Cond.methodLink "CarrierLinkLaw" (81 : Nat) ({ cls := "CarrierLinkModel", name := "cut", desc := "(I)Z" } : MethodName) ∈ lw_g := lw_gp (lw_t4 (List.mem_of_getElem? (i := 198) rfl)) rfl
theorem wd_919 : Cond.instanceMethod ({ cls := "CarrierLinkModel", name := "cut", desc := "(I)Z" } : MethodName) ∈ lw_g := lw_gp (lw_t4 (List.mem_of_getElem? (i := 199) rfl)) rfl
theorem wd_920 : Cond.selects "CarrierLinkModel" ({ cls := "CarrierLinkModel", name := "cut", desc := "(I)Z" } : MethodName) ({ cls := "CarrierLinkModel", name := "cut", desc := "(I)Z" } : MethodName) ∈ lw_g := lw_gp (lw_t4 (List.mem_of_getElem? (i := 200) rfl)) rfl
theorem wd_921 : Cond.code ({ cls := "CarrierLinkModel", name := "cut", desc := "(I)Z" } : MethodName) prog_10_method_30_code (2 : Nat) (Option.some FieldType.boolean) ∈ lw_g := lw_gp (lw_t4 (List.mem_of_getElem? (i := 201) rfl)) rfl
theorem wd_922 : Cond.methodLink "CarrierLinkLaw" (85 : Nat) ({ cls := "CarrierLinkModel", name := "receive", desc := "()I" } : MethodName) ∈ lw_g := lw_gp (lw_t4 (List.mem_of_getElem? (i := 202) rfl)) rfl
theorem wd_923 : Cond.instanceMethod ({ cls := "CarrierLinkModel", name := "receive", desc := "()I" } : MethodName) ∈ lw_g := lw_gp (lw_t4 (List.mem_of_getElem? (i := 203) rfl)) rfl
theorem wd_924 : Cond.selects "CarrierLinkModel" ({ cls := "CarrierLinkModel", name := "receive", desc := "()I" } : MethodName) ({ cls := "CarrierLinkModel", name := "receive", desc := "()I" } : MethodName) ∈ lw_g := lw_gp (lw_t4 (List.mem_of_getElem? (i := 204) rfl)) rfl
theorem wd_925 : Cond.code ({ cls := "CarrierLinkModel", name := "receive", desc := "()I" } : MethodName) prog_10_method_44_code (1 : Nat) (Option.some FieldType.int) ∈ lw_g := lw_gp (lw_t4 (List.mem_of_getElem? (i := 205) rfl)) rfl
theorem wd_926 : Cond.methodLink "CarrierLinkModel" (249 : Nat) ({ cls := "CarrierLinkModel", name := "hear", desc := "()I" } : MethodName) ∈ lw_g := lw_gp (lw_t4 (List.mem_of_getElem? (i := 206) rfl)) rfl
theorem wd_928 : Cond.instanceMethod ({ cls := "CarrierLinkModel", name := "hear", desc := "()I" } : MethodName) ∈ lw_g := lw_gp (lw_t4 (List.mem_of_getElem? (i := 208) rfl)) rfl
theorem wd_929 : Cond.code ({ cls := "CarrierLinkModel", name := "hear", desc := "()I" } : MethodName) prog_10_method_43_code (5 : Nat) (Option.some FieldType.int) ∈ lw_g := lw_gp (lw_t4 (List.mem_of_getElem? (i := 209) rfl)) rfl
theorem wd_930 : Cond.methodLink "CarrierLinkModel" (229 : Nat) ({ cls := "CarrierLinkModel", name := "find", desc := "()I" } : MethodName) ∈ lw_g := lw_gp (lw_t4 (List.mem_of_getElem? (i := 210) rfl)) rfl
theorem wd_932 : Cond.instanceMethod ({ cls := "CarrierLinkModel", name := "find", desc := "()I" } : MethodName) ∈ lw_g := lw_gp (lw_t4 (List.mem_of_getElem? (i := 212) rfl)) rfl
theorem wd_933 : Cond.code ({ cls := "CarrierLinkModel", name := "find", desc := "()I" } : MethodName) prog_10_method_32_code (7 : Nat) (Option.some FieldType.int) ∈ lw_g := lw_gp (lw_t4 (List.mem_of_getElem? (i := 213) rfl)) rfl
theorem wd_934 : Cond.methodLink "CarrierLinkModel" (180 : Nat) ({ cls := "CarrierLinkModel", name := "power", desc := "(I)J" } : MethodName) ∈ lw_g := lw_gp (lw_t4 (List.mem_of_getElem? (i := 214) rfl)) rfl
theorem wd_936 : Cond.instanceMethod ({ cls := "CarrierLinkModel", name := "power", desc := "(I)J" } : MethodName) ∈ lw_g := lw_gp (lw_t4 (List.mem_of_getElem? (i := 216) rfl)) rfl
theorem wd_937 : Cond.code ({ cls := "CarrierLinkModel", name := "power", desc := "(I)J" } : MethodName) prog_10_method_31_code (11 : Nat) (Option.some FieldType.long) ∈ lw_g := lw_gp (lw_t4 (List.mem_of_getElem? (i := 217) rfl)) rfl
theorem wd_938 : Cond.constantLong "CarrierLinkModel" (184 : Nat) (100000000 : Int64) ∈ lw_g := lw_gp (lw_t4 (List.mem_of_getElem? (i := 218) rfl)) rfl
theorem wd_939 : Cond.methodLink "CarrierLinkModel" (232 : Nat) ({ cls := "CarrierLinkModel", name := "learn", desc := "()V" } : MethodName) ∈ lw_g := lw_gp (lw_t4 (List.mem_of_getElem? (i := 219) rfl)) rfl
theorem wd_941 : Cond.instanceMethod ({ cls := "CarrierLinkModel", name := "learn", desc := "()V" } : MethodName) ∈ lw_g := lw_gp (lw_t4 (List.mem_of_getElem? (i := 221) rfl)) rfl
theorem wd_942 : Cond.code ({ cls := "CarrierLinkModel", name := "learn", desc := "()V" } : MethodName) prog_10_method_34_code (3 : Nat) (Option.none : Option FieldType) ∈ lw_g := lw_gp (lw_t4 (List.mem_of_getElem? (i := 222) rfl)) rfl
theorem wd_943 : Cond.methodLink "CarrierLinkModel" (189 : Nat) ({ cls := "CarrierLinkModel", name := "load", desc := "(I)V" } : MethodName) ∈ lw_g := lw_gp (lw_t4 (List.mem_of_getElem? (i := 223) rfl)) rfl
theorem wd_945 : Cond.instanceMethod ({ cls := "CarrierLinkModel", name := "load", desc := "(I)V" } : MethodName) ∈ lw_g := lw_gp (lw_t4 (List.mem_of_getElem? (i := 225) rfl)) rfl
theorem wd_946 : Cond.code ({ cls := "CarrierLinkModel", name := "load", desc := "(I)V" } : MethodName) prog_10_method_33_code (3 : Nat) (Option.none : Option FieldType) ∈ lw_g := lw_gp (lw_t4 (List.mem_of_getElem? (i := 226) rfl)) rfl
theorem wd_947 : Cond.methodLink "CarrierLinkModel" (235 : Nat) ({ cls := "CarrierLinkModel", name := "readSignal", desc := "()Z" } : MethodName) ∈ lw_g := lw_gp (lw_t4 (List.mem_of_getElem? (i := 227) rfl)) rfl
theorem wd_949 : Cond.instanceMethod ({ cls := "CarrierLinkModel", name := "readSignal", desc := "()Z" } : MethodName) ∈ lw_g := lw_gp (lw_t4 (List.mem_of_getElem? (i := 229) rfl)) rfl
theorem wd_950 : Cond.code ({ cls := "CarrierLinkModel", name := "readSignal", desc := "()Z" } : MethodName) prog_10_method_42_code (6 : Nat) (Option.some FieldType.boolean) ∈ lw_g := lw_gp (lw_t4 (List.mem_of_getElem? (i := 230) rfl)) rfl
theorem wd_951 : Cond.methodLink "CarrierLinkModel" (216 : Nat) ({ cls := "CarrierLinkModel", name := "listen", desc := "(IIIZ)I" } : MethodName) ∈ lw_g := lw_gp (lw_t4 (List.mem_of_getElem? (i := 231) rfl)) rfl
theorem wd_953 : Cond.instanceMethod ({ cls := "CarrierLinkModel", name := "listen", desc := "(IIIZ)I" } : MethodName) ∈ lw_g := lw_gp (lw_t4 (List.mem_of_getElem? (i := 233) rfl)) rfl
theorem wd_954 : Cond.code ({ cls := "CarrierLinkModel", name := "listen", desc := "(IIIZ)I" } : MethodName) prog_10_method_38_code (11 : Nat) (Option.some FieldType.int) ∈ lw_g := lw_gp (lw_t4 (List.mem_of_getElem? (i := 234) rfl)) rfl
theorem wd_955 : Cond.methodLink "CarrierLinkModel" (206 : Nat) ({ cls := "CarrierLinkModel", name := "soften", desc := "(II)V" } : MethodName) ∈ lw_g := lw_gp (lw_t4 (List.mem_of_getElem? (i := 235) rfl)) rfl
theorem wd_957 : Cond.instanceMethod ({ cls := "CarrierLinkModel", name := "soften", desc := "(II)V" } : MethodName) ∈ lw_g := lw_gp (lw_t4 (List.mem_of_getElem? (i := 237) rfl)) rfl
theorem wd_958 : Cond.code ({ cls := "CarrierLinkModel", name := "soften", desc := "(II)V" } : MethodName) prog_10_method_37_code (12 : Nat) (Option.none : Option FieldType) ∈ lw_g := lw_gp (lw_t4 (List.mem_of_getElem? (i := 238) rfl)) rfl
theorem wd_959 : Cond.constantLong "CarrierLinkModel" (196 : Nat) (648 : Int64) ∈ lw_g := lw_gp (lw_t4 (List.mem_of_getElem? (i := 239) rfl)) rfl
theorem wd_960 : Cond.methodLink "CarrierLinkModel" (198 : Nat) ({ cls := "CarrierLinkModel", name := "squeeze", desc := "(J)I" } : MethodName) ∈ lw_g := lw_gp (lw_t5 (List.mem_of_getElem? (i := 0) rfl)) rfl
theorem wd_961 : Cond.static ({ cls := "CarrierLinkModel", name := "squeeze", desc := "(J)I" } : MethodName) ∈ lw_g := lw_gp (lw_t5 (List.mem_of_getElem? (i := 1) rfl)) rfl
theorem wd_962 : Cond.code ({ cls := "CarrierLinkModel", name := "squeeze", desc := "(J)I" } : MethodName) prog_10_method_35_code (4 : Nat) (Option.some FieldType.int) ∈ lw_g := lw_gp (lw_t5 (List.mem_of_getElem? (i := 2) rfl)) rfl
theorem wd_963 : Cond.constantLong "CarrierLinkModel" (192 : Nat) (-2047 : Int64) ∈ lw_g := lw_gp (lw_t5 (List.mem_of_getElem? (i := 3) rfl)) rfl
theorem wd_964 : Cond.constantLong "CarrierLinkModel" (194 : Nat) (2047 : Int64) ∈ lw_g := lw_gp (lw_t5 (List.mem_of_getElem? (i := 4) rfl)) rfl
theorem wd_965 : Cond.methodLink "CarrierLinkModel" (202 : Nat) ({ cls := "CarrierLinkModel", name := "amount", desc := "(J)J" } : MethodName) ∈ lw_g := lw_gp (lw_t5 (List.mem_of_getElem? (i := 5) rfl)) rfl
theorem wd_966 : Cond.static ({ cls := "CarrierLinkModel", name := "amount", desc := "(J)J" } : MethodName) ∈ lw_g := lw_gp (lw_t5 (List.mem_of_getElem? (i := 6) rfl)) rfl
theorem wd_967 : Cond.code ({ cls := "CarrierLinkModel", name := "amount", desc := "(J)J" } : MethodName) prog_10_method_36_code (2 : Nat) (Option.some FieldType.long) ∈ lw_g := lw_gp (lw_t5 (List.mem_of_getElem? (i := 7) rfl)) rfl
theorem wd_968 : Cond.methodLink "CarrierLinkModel" (220 : Nat) ({ cls := "CarrierLinkModel", name := "decode", desc := "(I)I" } : MethodName) ∈ lw_g := lw_gp (lw_t5 (List.mem_of_getElem? (i := 8) rfl)) rfl
theorem wd_970 : Cond.instanceMethod ({ cls := "CarrierLinkModel", name := "decode", desc := "(I)I" } : MethodName) ∈ lw_g := lw_gp (lw_t5 (List.mem_of_getElem? (i := 10) rfl)) rfl
theorem wd_971 : Cond.code ({ cls := "CarrierLinkModel", name := "decode", desc := "(I)I" } : MethodName) prog_10_method_40_code (5 : Nat) (Option.some FieldType.int) ∈ lw_g := lw_gp (lw_t5 (List.mem_of_getElem? (i := 11) rfl)) rfl
theorem wd_972 : Cond.constant "CarrierLinkModel" (209 : Nat) (-1000000 : Int32) ∈ lw_g := lw_gp (lw_t5 (List.mem_of_getElem? (i := 12) rfl)) rfl
theorem wd_973 : Cond.methodLink "CarrierLinkModel" (210 : Nat) ({ cls := "CarrierLinkModel", name := "step", desc := "(III)I" } : MethodName) ∈ lw_g := lw_gp (lw_t5 (List.mem_of_getElem? (i := 13) rfl)) rfl
theorem wd_975 : Cond.instanceMethod ({ cls := "CarrierLinkModel", name := "step", desc := "(III)I" } : MethodName) ∈ lw_g := lw_gp (lw_t5 (List.mem_of_getElem? (i := 15) rfl)) rfl
theorem wd_976 : Cond.code ({ cls := "CarrierLinkModel", name := "step", desc := "(III)I" } : MethodName) prog_10_method_41_code (9 : Nat) (Option.some FieldType.int) ∈ lw_g := lw_gp (lw_t5 (List.mem_of_getElem? (i := 16) rfl)) rfl
theorem wd_977 : Cond.methodLink "CarrierLinkModel" (213 : Nat) ({ cls := "CarrierLinkModel", name := "along", desc := "(II)I" } : MethodName) ∈ lw_g := lw_gp (lw_t5 (List.mem_of_getElem? (i := 17) rfl)) rfl
theorem wd_978 : Cond.static ({ cls := "CarrierLinkModel", name := "along", desc := "(II)I" } : MethodName) ∈ lw_g := lw_gp (lw_t5 (List.mem_of_getElem? (i := 18) rfl)) rfl
theorem wd_979 : Cond.code ({ cls := "CarrierLinkModel", name := "along", desc := "(II)I" } : MethodName) prog_10_method_39_code (2 : Nat) (Option.some FieldType.int) ∈ lw_g := lw_gp (lw_t5 (List.mem_of_getElem? (i := 19) rfl)) rfl
theorem wd_980 : Cond.methodLink "CarrierLinkLaw" (90 : Nat) ({ cls := "CarrierLinkModel", name := "got", desc := "(I)I" } : MethodName) ∈ lw_g := lw_gp (lw_t5 (List.mem_of_getElem? (i := 20) rfl)) rfl
theorem wd_981 : Cond.instanceMethod ({ cls := "CarrierLinkModel", name := "got", desc := "(I)I" } : MethodName) ∈ lw_g := lw_gp (lw_t5 (List.mem_of_getElem? (i := 21) rfl)) rfl
theorem wd_982 : Cond.selects "CarrierLinkModel" ({ cls := "CarrierLinkModel", name := "got", desc := "(I)I" } : MethodName) ({ cls := "CarrierLinkModel", name := "got", desc := "(I)I" } : MethodName) ∈ lw_g := lw_gp (lw_t5 (List.mem_of_getElem? (i := 22) rfl)) rfl
theorem wd_983 : Cond.code ({ cls := "CarrierLinkModel", name := "got", desc := "(I)I" } : MethodName) prog_10_method_45_code (2 : Nat) (Option.some FieldType.int) ∈ lw_g := lw_gp (lw_t5 (List.mem_of_getElem? (i := 23) rfl)) rfl
theorem wd_984 : Cond.methodLink "CarrierLinkLaw" (94 : Nat) ({ cls := "CarrierLinkModel", name := "heard", desc := "(I)I" } : MethodName) ∈ lw_g := lw_gp (lw_t5 (List.mem_of_getElem? (i := 24) rfl)) rfl
theorem wd_985 : Cond.instanceMethod ({ cls := "CarrierLinkModel", name := "heard", desc := "(I)I" } : MethodName) ∈ lw_g := lw_gp (lw_t5 (List.mem_of_getElem? (i := 25) rfl)) rfl
theorem wd_986 : Cond.selects "CarrierLinkModel" ({ cls := "CarrierLinkModel", name := "heard", desc := "(I)I" } : MethodName) ({ cls := "CarrierLinkModel", name := "heard", desc := "(I)I" } : MethodName) ∈ lw_g := lw_gp (lw_t5 (List.mem_of_getElem? (i := 26) rfl)) rfl
theorem wd_987 : Cond.code ({ cls := "CarrierLinkModel", name := "heard", desc := "(I)I" } : MethodName) prog_10_method_46_code (2 : Nat) (Option.some FieldType.int) ∈ lw_g := lw_gp (lw_t5 (List.mem_of_getElem? (i := 27) rfl)) rfl
theorem wd_988 : Cond.methodLink "CarrierLinkLaw" (99 : Nat) ({ cls := "CarrierLinkModel", name := "learned", desc := "(IZ)I" } : MethodName) ∈ lw_g := lw_gp (lw_t5 (List.mem_of_getElem? (i := 28) rfl)) rfl
theorem wd_989 : Cond.instanceMethod ({ cls := "CarrierLinkModel", name := "learned", desc := "(IZ)I" } : MethodName) ∈ lw_g := lw_gp (lw_t5 (List.mem_of_getElem? (i := 29) rfl)) rfl
theorem wd_990 : Cond.selects "CarrierLinkModel" ({ cls := "CarrierLinkModel", name := "learned", desc := "(IZ)I" } : MethodName) ({ cls := "CarrierLinkModel", name := "learned", desc := "(IZ)I" } : MethodName) ∈ lw_g := lw_gp (lw_t5 (List.mem_of_getElem? (i := 30) rfl)) rfl
theorem wd_991 : Cond.code ({ cls := "CarrierLinkModel", name := "learned", desc := "(IZ)I" } : MethodName) prog_10_method_47_code (3 : Nat) (Option.some FieldType.int) ∈ lw_g := lw_gp (lw_t5 (List.mem_of_getElem? (i := 31) rfl)) rfl
theorem wd_992 : Cond.constantLong "CarrierLinkLaw" (35 : Nat) (4294967295 : Int64) ∈ lw_g := lw_gp (lw_t5 (List.mem_of_getElem? (i := 32) rfl)) rfl
theorem wd_993 : Cond.sameMethod "java/lang/Throwable" "java/lang/Throwable" "fillInStackTrace" "(I)Ljava/lang/Throwable;" ∈ lw_g := lw_gp (lw_t5 (List.mem_of_getElem? (i := 33) rfl)) rfl
theorem wd_m1 : Cond.selects "CarrierLink$Points" ⟨"CarrierLink$Points", "turnRound", "()V"⟩ ⟨"CarrierLink$Points", "turnRound", "()V"⟩ ∈ lw_g := lw_gp (List.mem_append_left _ (List.mem_of_getElem? (i := 0) rfl)) rfl
theorem wd_m2 : Cond.selects "CarrierLink$Points" ⟨"CarrierLink$Points", "join", "(IIJJI)V"⟩ ⟨"CarrierLink$Points", "join", "(IIJJI)V"⟩ ∈ lw_g := lw_gp (List.mem_append_left _ (List.mem_of_getElem? (i := 1) rfl)) rfl
theorem wd_m3 : Cond.selects "java/lang/Throwable" ⟨"java/lang/Throwable", "fillInStackTrace", "(I)Ljava/lang/Throwable;"⟩ ⟨"java/lang/Throwable", "fillInStackTrace", "(I)Ljava/lang/Throwable;"⟩ ∈ lw_g := lw_gp (List.mem_append_left _ (List.mem_of_getElem? (i := 2) rfl)) rfl
theorem wd_m4 : Cond.selects "CarrierLink$Sender" ⟨"CarrierLink$Sender", "appendTraining", "()V"⟩ ⟨"CarrierLink$Sender", "appendTraining", "()V"⟩ ∈ lw_g := lw_gp (List.mem_append_left _ (List.mem_of_getElem? (i := 3) rfl)) rfl
theorem wd_m5 : Cond.selects "CarrierLink$Sender" ⟨"CarrierLink$Sender", "appendPoints", "(LCarrierLink$Points;I)V"⟩ ⟨"CarrierLink$Sender", "appendPoints", "(LCarrierLink$Points;I)V"⟩ ∈ lw_g := lw_gp (List.mem_append_left _ (List.mem_of_getElem? (i := 4) rfl)) rfl
theorem wd_m6 : Cond.selects "CarrierLink$Sender" ⟨"CarrierLink$Sender", "writeSignal", "(II)V"⟩ ⟨"CarrierLink$Sender", "writeSignal", "(II)V"⟩ ∈ lw_g := lw_gp (List.mem_append_left _ (List.mem_of_getElem? (i := 5) rfl)) rfl
theorem wd_m7 : Cond.selects "CarrierLink$BitRows" ⟨"CarrierLink$BitRows", "code", "(Z)V"⟩ ⟨"CarrierLink$BitRows", "code", "(Z)V"⟩ ∈ lw_g := lw_gp (List.mem_append_left _ (List.mem_of_getElem? (i := 6) rfl)) rfl
theorem wd_m8 : Cond.selects "CarrierLink$BitRows" ⟨"CarrierLink$BitRows", "appendCoded", "(I)V"⟩ ⟨"CarrierLink$BitRows", "appendCoded", "(I)V"⟩ ∈ lw_g := lw_gp (List.mem_append_left _ (List.mem_of_getElem? (i := 7) rfl)) rfl
theorem wd_m9 : Cond.selects "CarrierLink$BitRows" ⟨"CarrierLink$BitRows", "interleave", "(I)V"⟩ ⟨"CarrierLink$BitRows", "interleave", "(I)V"⟩ ∈ lw_g := lw_gp (List.mem_append_left _ (List.mem_of_getElem? (i := 8) rfl)) rfl
theorem wd_m10 : Cond.selects "CarrierLink$Sender" ⟨"CarrierLink$Sender", "appendSymbols", "(LCarrierLink$BitRows;I)V"⟩ ⟨"CarrierLink$Sender", "appendSymbols", "(LCarrierLink$BitRows;I)V"⟩ ∈ lw_g := lw_gp (List.mem_append_left _ (List.mem_of_getElem? (i := 9) rfl)) rfl
theorem wd_m11 : Cond.selects "CarrierLink$Sender" ⟨"CarrierLink$Sender", "mapCarrier", "(I[III)V"⟩ ⟨"CarrierLink$Sender", "mapCarrier", "(I[III)V"⟩ ∈ lw_g := lw_gp (List.mem_append_left _ (List.mem_of_getElem? (i := 10) rfl)) rfl
theorem wd_m12 : Cond.selects "CarrierLink$Sender" ⟨"CarrierLink$Sender", "setPilots", "()V"⟩ ⟨"CarrierLink$Sender", "setPilots", "()V"⟩ ∈ lw_g := lw_gp (List.mem_append_left _ (List.mem_of_getElem? (i := 11) rfl)) rfl
theorem wd_m13 : Cond.selects "CarrierLink$Sender" ⟨"CarrierLink$Sender", "writeData", "([IIII)V"⟩ ⟨"CarrierLink$Sender", "writeData", "([IIII)V"⟩ ∈ lw_g := lw_gp (List.mem_append_left _ (List.mem_of_getElem? (i := 12) rfl)) rfl
theorem wd_m14 : Cond.selects "CarrierLink$Sender" ⟨"CarrierLink$Sender", "scrambleData", "(II)V"⟩ ⟨"CarrierLink$Sender", "scrambleData", "(II)V"⟩ ∈ lw_g := lw_gp (List.mem_append_left _ (List.mem_of_getElem? (i := 13) rfl)) rfl
theorem wd_m15 : Cond.selects "CarrierLink" ⟨"CarrierLink", "appendToAir", "(III)V"⟩ ⟨"CarrierLink", "appendToAir", "(III)V"⟩ ∈ lw_g := lw_gp (List.mem_append_left _ (List.mem_of_getElem? (i := 14) rfl)) rfl
theorem wd_m16 : Cond.selects "CarrierLink$Receiver" ⟨"CarrierLink$Receiver", "findBytes", "(LCarrierLink$Wave;)I"⟩ ⟨"CarrierLink$Receiver", "findBytes", "(LCarrierLink$Wave;)I"⟩ ∈ lw_g := lw_gp (List.mem_append_left _ (List.mem_of_getElem? (i := 15) rfl)) rfl
theorem wd_m17 : Cond.selects "CarrierLink$Receiver" ⟨"CarrierLink$Receiver", "findStart", "(LCarrierLink$Wave;)I"⟩ ⟨"CarrierLink$Receiver", "findStart", "(LCarrierLink$Wave;)I"⟩ ∈ lw_g := lw_gp (List.mem_append_left _ (List.mem_of_getElem? (i := 16) rfl)) rfl
theorem wd_m18 : Cond.selects "CarrierLink$Receiver" ⟨"CarrierLink$Receiver", "powerAt", "(LCarrierLink$Wave;I)J"⟩ ⟨"CarrierLink$Receiver", "powerAt", "(LCarrierLink$Wave;I)J"⟩ ∈ lw_g := lw_gp (List.mem_append_left _ (List.mem_of_getElem? (i := 17) rfl)) rfl
theorem wd_m19 : Cond.selects "CarrierLink$Receiver" ⟨"CarrierLink$Receiver", "learnCarriers", "(LCarrierLink$Wave;I)V"⟩ ⟨"CarrierLink$Receiver", "learnCarriers", "(LCarrierLink$Wave;I)V"⟩ ∈ lw_g := lw_gp (List.mem_append_left _ (List.mem_of_getElem? (i := 18) rfl)) rfl
theorem wd_m20 : Cond.selects "CarrierLink$Receiver" ⟨"CarrierLink$Receiver", "takeSymbols", "(LCarrierLink$Wave;III)V"⟩ ⟨"CarrierLink$Receiver", "takeSymbols", "(LCarrierLink$Wave;III)V"⟩ ∈ lw_g := lw_gp (List.mem_append_left _ (List.mem_of_getElem? (i := 19) rfl)) rfl
theorem wd_m21 : Cond.selects "CarrierLink$Receiver" ⟨"CarrierLink$Receiver", "takeCarrier", "(III)V"⟩ ⟨"CarrierLink$Receiver", "takeCarrier", "(III)V"⟩ ∈ lw_g := lw_gp (List.mem_append_left _ (List.mem_of_getElem? (i := 20) rfl)) rfl
theorem wd_m22 : Cond.selects "CarrierLink$Paths" ⟨"CarrierLink$Paths", "step", "(III)V"⟩ ⟨"CarrierLink$Paths", "step", "(III)V"⟩ ∈ lw_g := lw_gp (List.mem_append_left _ (List.mem_of_getElem? (i := 21) rfl)) rfl
theorem wd_m23 : Cond.selects "CarrierLink$Paths" ⟨"CarrierLink$Paths", "firstGreatest", "()I"⟩ ⟨"CarrierLink$Paths", "firstGreatest", "()I"⟩ ∈ lw_g := lw_gp (List.mem_append_left _ (List.mem_of_getElem? (i := 22) rfl)) rfl
theorem wd_m24 : Cond.selects "CarrierLink$Paths" ⟨"CarrierLink$Paths", "goBack", "(II)V"⟩ ⟨"CarrierLink$Paths", "goBack", "(II)V"⟩ ∈ lw_g := lw_gp (List.mem_append_left _ (List.mem_of_getElem? (i := 23) rfl)) rfl
theorem wd_m25 : Cond.selects "CarrierLink$Receiver" ⟨"CarrierLink$Receiver", "takeBytes", "(I)I"⟩ ⟨"CarrierLink$Receiver", "takeBytes", "(I)I"⟩ ∈ lw_g := lw_gp (List.mem_append_left _ (List.mem_of_getElem? (i := 24) rfl)) rfl
theorem wd_m26 : Cond.selects "CarrierLink$Receiver" ⟨"CarrierLink$Receiver", "scrambledByte", "()I"⟩ ⟨"CarrierLink$Receiver", "scrambledByte", "()I"⟩ ∈ lw_g := lw_gp (List.mem_append_left _ (List.mem_of_getElem? (i := 25) rfl)) rfl
theorem wd_m27 : Cond.selects "CarrierLinkModel" ⟨"CarrierLinkModel", "clear", "()V"⟩ ⟨"CarrierLinkModel", "clear", "()V"⟩ ∈ lw_g := lw_gp (List.mem_append_left _ (List.mem_of_getElem? (i := 26) rfl)) rfl
theorem wd_m28 : Cond.selects "CarrierLinkModel" ⟨"CarrierLinkModel", "transform", "(I)V"⟩ ⟨"CarrierLinkModel", "transform", "(I)V"⟩ ∈ lw_g := lw_gp (List.mem_append_left _ (List.mem_of_getElem? (i := 27) rfl)) rfl
theorem wd_m29 : Cond.selects "CarrierLinkModel" ⟨"CarrierLinkModel", "exchange", "(II)V"⟩ ⟨"CarrierLinkModel", "exchange", "(II)V"⟩ ∈ lw_g := lw_gp (List.mem_append_left _ (List.mem_of_getElem? (i := 28) rfl)) rfl
theorem wd_m30 : Cond.selects "CarrierLinkModel" ⟨"CarrierLinkModel", "cross", "(IIIII)V"⟩ ⟨"CarrierLinkModel", "cross", "(IIIII)V"⟩ ∈ lw_g := lw_gp (List.mem_append_left _ (List.mem_of_getElem? (i := 29) rfl)) rfl
theorem wd_m31 : Cond.selects "CarrierLinkModel" ⟨"CarrierLinkModel", "sample", "(II)V"⟩ ⟨"CarrierLinkModel", "sample", "(II)V"⟩ ∈ lw_g := lw_gp (List.mem_append_left _ (List.mem_of_getElem? (i := 30) rfl)) rfl
theorem wd_m32 : Cond.selects "CarrierLinkModel" ⟨"CarrierLinkModel", "code", "(IZ)I"⟩ ⟨"CarrierLinkModel", "code", "(IZ)I"⟩ ∈ lw_g := lw_gp (List.mem_append_left _ (List.mem_of_getElem? (i := 31) rfl)) rfl
theorem wd_m33 : Cond.selects "CarrierLinkModel" ⟨"CarrierLinkModel", "past", "(I)I"⟩ ⟨"CarrierLinkModel", "past", "(I)I"⟩ ∈ lw_g := lw_gp (List.mem_append_left _ (List.mem_of_getElem? (i := 32) rfl)) rfl
theorem wd_m34 : Cond.selects "CarrierLinkModel" ⟨"CarrierLinkModel", "modulate", "(II)V"⟩ ⟨"CarrierLinkModel", "modulate", "(II)V"⟩ ∈ lw_g := lw_gp (List.mem_append_left _ (List.mem_of_getElem? (i := 33) rfl)) rfl
theorem wd_m35 : Cond.selects "CarrierLinkModel" ⟨"CarrierLinkModel", "map", "(III)V"⟩ ⟨"CarrierLinkModel", "map", "(III)V"⟩ ∈ lw_g := lw_gp (List.mem_append_left _ (List.mem_of_getElem? (i := 34) rfl)) rfl
theorem wd_m36 : Cond.selects "CarrierLinkModel" ⟨"CarrierLinkModel", "scramble", "()I"⟩ ⟨"CarrierLinkModel", "scramble", "()I"⟩ ∈ lw_g := lw_gp (List.mem_append_left _ (List.mem_of_getElem? (i := 35) rfl)) rfl
theorem wd_m37 : Cond.selects "CarrierLinkModel" ⟨"CarrierLinkModel", "hear", "()I"⟩ ⟨"CarrierLinkModel", "hear", "()I"⟩ ∈ lw_g := lw_gp (List.mem_append_left _ (List.mem_of_getElem? (i := 36) rfl)) rfl
theorem wd_m38 : Cond.selects "CarrierLinkModel" ⟨"CarrierLinkModel", "find", "()I"⟩ ⟨"CarrierLinkModel", "find", "()I"⟩ ∈ lw_g := lw_gp (List.mem_append_left _ (List.mem_of_getElem? (i := 37) rfl)) rfl
theorem wd_m39 : Cond.selects "CarrierLinkModel" ⟨"CarrierLinkModel", "power", "(I)J"⟩ ⟨"CarrierLinkModel", "power", "(I)J"⟩ ∈ lw_g := lw_gp (List.mem_append_left _ (List.mem_of_getElem? (i := 38) rfl)) rfl
theorem wd_m40 : Cond.selects "CarrierLinkModel" ⟨"CarrierLinkModel", "learn", "()V"⟩ ⟨"CarrierLinkModel", "learn", "()V"⟩ ∈ lw_g := lw_gp (List.mem_append_left _ (List.mem_of_getElem? (i := 39) rfl)) rfl
theorem wd_m41 : Cond.selects "CarrierLinkModel" ⟨"CarrierLinkModel", "load", "(I)V"⟩ ⟨"CarrierLinkModel", "load", "(I)V"⟩ ∈ lw_g := lw_gp (List.mem_append_left _ (List.mem_of_getElem? (i := 40) rfl)) rfl
theorem wd_m42 : Cond.selects "CarrierLinkModel" ⟨"CarrierLinkModel", "readSignal", "()Z"⟩ ⟨"CarrierLinkModel", "readSignal", "()Z"⟩ ∈ lw_g := lw_gp (List.mem_append_left _ (List.mem_of_getElem? (i := 41) rfl)) rfl
theorem wd_m43 : Cond.selects "CarrierLinkModel" ⟨"CarrierLinkModel", "listen", "(IIIZ)I"⟩ ⟨"CarrierLinkModel", "listen", "(IIIZ)I"⟩ ∈ lw_g := lw_gp (List.mem_append_left _ (List.mem_of_getElem? (i := 42) rfl)) rfl
theorem wd_m44 : Cond.selects "CarrierLinkModel" ⟨"CarrierLinkModel", "soften", "(II)V"⟩ ⟨"CarrierLinkModel", "soften", "(II)V"⟩ ∈ lw_g := lw_gp (List.mem_append_left _ (List.mem_of_getElem? (i := 43) rfl)) rfl
theorem wd_m45 : Cond.selects "CarrierLinkModel" ⟨"CarrierLinkModel", "decode", "(I)I"⟩ ⟨"CarrierLinkModel", "decode", "(I)I"⟩ ∈ lw_g := lw_gp (List.mem_append_left _ (List.mem_of_getElem? (i := 44) rfl)) rfl
theorem wd_m46 : Cond.selects "CarrierLinkModel" ⟨"CarrierLinkModel", "step", "(III)I"⟩ ⟨"CarrierLinkModel", "step", "(III)I"⟩ ∈ lw_g := lw_gp (List.mem_append_left _ (List.mem_of_getElem? (i := 45) rfl)) rfl
