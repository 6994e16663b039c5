def y_PO_init : MethodName := ⟨"CarrierLink$Points", "<init>", "()V"⟩
theorem hd_PO_init : y_PO_init.cls ≠ "java/lang/invoke/MethodHandle" ∧ y_PO_init.cls ≠ "java/lang/invoke/VarHandle" ∧ (parseMethodDescriptor y_PO_init.desc).map (fun d => d.parameters.length) = some 0 := ⟨by decide +kernel, by decide +kernel, by decide +kernel⟩
theorem d_PO_init_0 : decode prog_4_method_1_code 0 = .ok (.aload_n 0, 1) := by decide +kernel
theorem d_PO_init_1 : decode prog_4_method_1_code 1 = .ok (.invokespecial 3, 3) := by decide +kernel
theorem d_PO_init_4 : decode prog_4_method_1_code 4 = .ok (.aload_n 0, 1) := by decide +kernel
theorem d_PO_init_5 : decode prog_4_method_1_code 5 = .ok (.bipush 16, 2) := by decide +kernel
theorem d_PO_init_7 : decode prog_4_method_1_code 7 = .ok (.newarray .int, 2) := by decide +kernel
theorem d_PO_init_9 : decode prog_4_method_1_code 9 = .ok (.putfield 9, 3) := by decide +kernel
theorem d_PO_init_12 : decode prog_4_method_1_code 12 = .ok (.aload_n 0, 1) := by decide +kernel
theorem d_PO_init_13 : decode prog_4_method_1_code 13 = .ok (.bipush 16, 2) := by decide +kernel
theorem d_PO_init_15 : decode prog_4_method_1_code 15 = .ok (.newarray .int, 2) := by decide +kernel
theorem d_PO_init_17 : decode prog_4_method_1_code 17 = .ok (.putfield 15, 3) := by decide +kernel
theorem d_PO_init_20 : decode prog_4_method_1_code 20 = .ok (.return_, 1) := by decide +kernel
def y_PO_makeTraining : MethodName := ⟨"CarrierLink$Points", "makeTraining", "()V"⟩
theorem hd_PO_makeTraining : y_PO_makeTraining.cls ≠ "java/lang/invoke/MethodHandle" ∧ y_PO_makeTraining.cls ≠ "java/lang/invoke/VarHandle" ∧ (parseMethodDescriptor y_PO_makeTraining.desc).map (fun d => d.parameters.length) = some 0 := ⟨by decide +kernel, by decide +kernel, by decide +kernel⟩
theorem d_PO_makeTraining_0 : decode prog_4_method_3_code 0 = .ok (.iconst 0, 1) := by decide +kernel
theorem d_PO_makeTraining_1 : decode prog_4_method_3_code 1 = .ok (.istore_n 1, 1) := by decide +kernel
theorem d_PO_makeTraining_2 : decode prog_4_method_3_code 2 = .ok (.iload_n 1, 1) := by decide +kernel
theorem d_PO_makeTraining_3 : decode prog_4_method_3_code 3 = .ok (.bipush 16, 2) := by decide +kernel
theorem d_PO_makeTraining_5 : decode prog_4_method_3_code 5 = .ok (.if_icmp .ge 31, 3) := by decide +kernel
theorem d_PO_makeTraining_8 : decode prog_4_method_3_code 8 = .ok (.aload_n 0, 1) := by decide +kernel
theorem d_PO_makeTraining_9 : decode prog_4_method_3_code 9 = .ok (.getfield 9, 3) := by decide +kernel
theorem d_PO_makeTraining_12 : decode prog_4_method_3_code 12 = .ok (.iload_n 1, 1) := by decide +kernel
theorem d_PO_makeTraining_13 : decode prog_4_method_3_code 13 = .ok (.sipush 1024, 3) := by decide +kernel
theorem d_PO_makeTraining_16 : decode prog_4_method_3_code 16 = .ok (.getstatic 24, 3) := by decide +kernel
theorem d_PO_makeTraining_19 : decode prog_4_method_3_code 19 = .ok (.iload_n 1, 1) := by decide +kernel
theorem d_PO_makeTraining_20 : decode prog_4_method_3_code 20 = .ok (.iaload, 1) := by decide +kernel
theorem d_PO_makeTraining_21 : decode prog_4_method_3_code 21 = .ok (.imul, 1) := by decide +kernel
theorem d_PO_makeTraining_22 : decode prog_4_method_3_code 22 = .ok (.iastore, 1) := by decide +kernel
theorem d_PO_makeTraining_23 : decode prog_4_method_3_code 23 = .ok (.aload_n 0, 1) := by decide +kernel
theorem d_PO_makeTraining_24 : decode prog_4_method_3_code 24 = .ok (.getfield 15, 3) := by decide +kernel
theorem d_PO_makeTraining_27 : decode prog_4_method_3_code 27 = .ok (.iload_n 1, 1) := by decide +kernel
theorem d_PO_makeTraining_28 : decode prog_4_method_3_code 28 = .ok (.iconst 0, 1) := by decide +kernel
theorem d_PO_makeTraining_29 : decode prog_4_method_3_code 29 = .ok (.iastore, 1) := by decide +kernel
theorem d_PO_makeTraining_30 : decode prog_4_method_3_code 30 = .ok (.iinc 1 1, 3) := by decide +kernel
theorem d_PO_makeTraining_33 : decode prog_4_method_3_code 33 = .ok (.goto (-31), 3) := by decide +kernel
theorem d_PO_makeTraining_36 : decode prog_4_method_3_code 36 = .ok (.aload_n 0, 1) := by decide +kernel
theorem d_PO_makeTraining_37 : decode prog_4_method_3_code 37 = .ok (.iconst 1, 1) := by decide +kernel
theorem d_PO_makeTraining_38 : decode prog_4_method_3_code 38 = .ok (.invokevirtual 27, 3) := by decide +kernel
theorem d_PO_makeTraining_41 : decode prog_4_method_3_code 41 = .ok (.return_, 1) := by decide +kernel
def y_PO_transform : MethodName := ⟨"CarrierLink$Points", "transform", "(I)V"⟩
theorem hd_PO_transform : y_PO_transform.cls ≠ "java/lang/invoke/MethodHandle" ∧ y_PO_transform.cls ≠ "java/lang/invoke/VarHandle" ∧ (parseMethodDescriptor y_PO_transform.desc).map (fun d => d.parameters.length) = some 1 := ⟨by decide +kernel, by decide +kernel, by decide +kernel⟩
theorem d_PO_transform_0 : decode prog_4_method_5_code 0 = .ok (.aload_n 0, 1) := by decide +kernel
theorem d_PO_transform_1 : decode prog_4_method_5_code 1 = .ok (.invokevirtual 40, 3) := by decide +kernel
theorem d_PO_transform_4 : decode prog_4_method_5_code 4 = .ok (.iconst 2, 1) := by decide +kernel
theorem d_PO_transform_5 : decode prog_4_method_5_code 5 = .ok (.istore_n 2, 1) := by decide +kernel
theorem d_PO_transform_6 : decode prog_4_method_5_code 6 = .ok (.iload_n 2, 1) := by decide +kernel
theorem d_PO_transform_7 : decode prog_4_method_5_code 7 = .ok (.bipush 16, 2) := by decide +kernel
theorem d_PO_transform_9 : decode prog_4_method_5_code 9 = .ok (.if_icmp .gt 118, 3) := by decide +kernel
theorem d_PO_transform_12 : decode prog_4_method_5_code 12 = .ok (.bipush 16, 2) := by decide +kernel
theorem d_PO_transform_14 : decode prog_4_method_5_code 14 = .ok (.iload_n 2, 1) := by decide +kernel
theorem d_PO_transform_15 : decode prog_4_method_5_code 15 = .ok (.idiv, 1) := by decide +kernel
theorem d_PO_transform_16 : decode prog_4_method_5_code 16 = .ok (.istore_n 3, 1) := by decide +kernel
theorem d_PO_transform_17 : decode prog_4_method_5_code 17 = .ok (.iload_n 2, 1) := by decide +kernel
theorem d_PO_transform_18 : decode prog_4_method_5_code 18 = .ok (.iconst 2, 1) := by decide +kernel
theorem d_PO_transform_19 : decode prog_4_method_5_code 19 = .ok (.if_icmp .eq 9, 3) := by decide +kernel
theorem d_PO_transform_22 : decode prog_4_method_5_code 22 = .ok (.iload_n 2, 1) := by decide +kernel
theorem d_PO_transform_23 : decode prog_4_method_5_code 23 = .ok (.bipush 8, 2) := by decide +kernel
theorem d_PO_transform_25 : decode prog_4_method_5_code 25 = .ok (.if_icmp .ne 7, 3) := by decide +kernel
theorem d_PO_transform_28 : decode prog_4_method_5_code 28 = .ok (.iconst 1, 1) := by decide +kernel
theorem d_PO_transform_29 : decode prog_4_method_5_code 29 = .ok (.goto 4, 3) := by decide +kernel
theorem d_PO_transform_32 : decode prog_4_method_5_code 32 = .ok (.iconst 0, 1) := by decide +kernel
theorem d_PO_transform_33 : decode prog_4_method_5_code 33 = .ok (.istore 4, 2) := by decide +kernel
theorem d_PO_transform_35 : decode prog_4_method_5_code 35 = .ok (.iconst 0, 1) := by decide +kernel
theorem d_PO_transform_36 : decode prog_4_method_5_code 36 = .ok (.istore 5, 2) := by decide +kernel
theorem d_PO_transform_38 : decode prog_4_method_5_code 38 = .ok (.iload 5, 2) := by decide +kernel
theorem d_PO_transform_40 : decode prog_4_method_5_code 40 = .ok (.iload_n 2, 1) := by decide +kernel
theorem d_PO_transform_41 : decode prog_4_method_5_code 41 = .ok (.iconst 2, 1) := by decide +kernel
theorem d_PO_transform_42 : decode prog_4_method_5_code 42 = .ok (.idiv, 1) := by decide +kernel
theorem d_PO_transform_43 : decode prog_4_method_5_code 43 = .ok (.if_icmp .ge 77, 3) := by decide +kernel
theorem d_PO_transform_46 : decode prog_4_method_5_code 46 = .ok (.getstatic 43, 3) := by decide +kernel
theorem d_PO_transform_49 : decode prog_4_method_5_code 49 = .ok (.iload 5, 2) := by decide +kernel
theorem d_PO_transform_51 : decode prog_4_method_5_code 51 = .ok (.iload_n 3, 1) := by decide +kernel
theorem d_PO_transform_52 : decode prog_4_method_5_code 52 = .ok (.imul, 1) := by decide +kernel
theorem d_PO_transform_53 : decode prog_4_method_5_code 53 = .ok (.iaload, 1) := by decide +kernel
theorem d_PO_transform_54 : decode prog_4_method_5_code 54 = .ok (.i2l, 1) := by decide +kernel
theorem d_PO_transform_55 : decode prog_4_method_5_code 55 = .ok (.lstore 6, 2) := by decide +kernel
theorem d_PO_transform_57 : decode prog_4_method_5_code 57 = .ok (.iload_n 1, 1) := by decide +kernel
theorem d_PO_transform_58 : decode prog_4_method_5_code 58 = .ok (.getstatic 43, 3) := by decide +kernel
theorem d_PO_transform_61 : decode prog_4_method_5_code 61 = .ok (.iload 5, 2) := by decide +kernel
theorem d_PO_transform_63 : decode prog_4_method_5_code 63 = .ok (.iload_n 3, 1) := by decide +kernel
theorem d_PO_transform_64 : decode prog_4_method_5_code 64 = .ok (.imul, 1) := by decide +kernel
theorem d_PO_transform_65 : decode prog_4_method_5_code 65 = .ok (.bipush 12, 2) := by decide +kernel
theorem d_PO_transform_67 : decode prog_4_method_5_code 67 = .ok (.iadd, 1) := by decide +kernel
theorem d_PO_transform_68 : decode prog_4_method_5_code 68 = .ok (.bipush 16, 2) := by decide +kernel
theorem d_PO_transform_70 : decode prog_4_method_5_code 70 = .ok (.irem, 1) := by decide +kernel
theorem d_PO_transform_71 : decode prog_4_method_5_code 71 = .ok (.iaload, 1) := by decide +kernel
theorem d_PO_transform_72 : decode prog_4_method_5_code 72 = .ok (.imul, 1) := by decide +kernel
theorem d_PO_transform_73 : decode prog_4_method_5_code 73 = .ok (.i2l, 1) := by decide +kernel
theorem d_PO_transform_74 : decode prog_4_method_5_code 74 = .ok (.lstore 8, 2) := by decide +kernel
theorem d_PO_transform_76 : decode prog_4_method_5_code 76 = .ok (.iload 5, 2) := by decide +kernel
theorem d_PO_transform_78 : decode prog_4_method_5_code 78 = .ok (.istore 10, 2) := by decide +kernel
theorem d_PO_transform_80 : decode prog_4_method_5_code 80 = .ok (.iload 10, 2) := by decide +kernel
theorem d_PO_transform_82 : decode prog_4_method_5_code 82 = .ok (.bipush 16, 2) := by decide +kernel
theorem d_PO_transform_84 : decode prog_4_method_5_code 84 = .ok (.if_icmp .ge 30, 3) := by decide +kernel
theorem d_PO_transform_87 : decode prog_4_method_5_code 87 = .ok (.aload_n 0, 1) := by decide +kernel
theorem d_PO_transform_88 : decode prog_4_method_5_code 88 = .ok (.iload 10, 2) := by decide +kernel
theorem d_PO_transform_90 : decode prog_4_method_5_code 90 = .ok (.iload 10, 2) := by decide +kernel
theorem d_PO_transform_92 : decode prog_4_method_5_code 92 = .ok (.iload_n 2, 1) := by decide +kernel
theorem d_PO_transform_93 : decode prog_4_method_5_code 93 = .ok (.iconst 2, 1) := by decide +kernel
theorem d_PO_transform_94 : decode prog_4_method_5_code 94 = .ok (.idiv, 1) := by decide +kernel
theorem d_PO_transform_95 : decode prog_4_method_5_code 95 = .ok (.iadd, 1) := by decide +kernel
theorem d_PO_transform_96 : decode prog_4_method_5_code 96 = .ok (.lload 6, 2) := by decide +kernel
theorem d_PO_transform_98 : decode prog_4_method_5_code 98 = .ok (.lload 8, 2) := by decide +kernel
theorem d_PO_transform_100 : decode prog_4_method_5_code 100 = .ok (.iload 4, 2) := by decide +kernel
theorem d_PO_transform_102 : decode prog_4_method_5_code 102 = .ok (.invokevirtual 46, 3) := by decide +kernel
theorem d_PO_transform_105 : decode prog_4_method_5_code 105 = .ok (.iload 10, 2) := by decide +kernel
theorem d_PO_transform_107 : decode prog_4_method_5_code 107 = .ok (.iload_n 2, 1) := by decide +kernel
theorem d_PO_transform_108 : decode prog_4_method_5_code 108 = .ok (.iadd, 1) := by decide +kernel
theorem d_PO_transform_109 : decode prog_4_method_5_code 109 = .ok (.istore 10, 2) := by decide +kernel
theorem d_PO_transform_111 : decode prog_4_method_5_code 111 = .ok (.goto (-31), 3) := by decide +kernel
theorem d_PO_transform_114 : decode prog_4_method_5_code 114 = .ok (.iinc 5 1, 3) := by decide +kernel
theorem d_PO_transform_117 : decode prog_4_method_5_code 117 = .ok (.goto (-79), 3) := by decide +kernel
theorem d_PO_transform_120 : decode prog_4_method_5_code 120 = .ok (.iload_n 2, 1) := by decide +kernel
theorem d_PO_transform_121 : decode prog_4_method_5_code 121 = .ok (.iconst 2, 1) := by decide +kernel
theorem d_PO_transform_122 : decode prog_4_method_5_code 122 = .ok (.imul, 1) := by decide +kernel
theorem d_PO_transform_123 : decode prog_4_method_5_code 123 = .ok (.istore_n 2, 1) := by decide +kernel
theorem d_PO_transform_124 : decode prog_4_method_5_code 124 = .ok (.goto (-118), 3) := by decide +kernel
theorem d_PO_transform_127 : decode prog_4_method_5_code 127 = .ok (.return_, 1) := by decide +kernel
def y_PO_turnRound : MethodName := ⟨"CarrierLink$Points", "turnRound", "()V"⟩
theorem hd_PO_turnRound : y_PO_turnRound.cls ≠ "java/lang/invoke/MethodHandle" ∧ y_PO_turnRound.cls ≠ "java/lang/invoke/VarHandle" ∧ (parseMethodDescriptor y_PO_turnRound.desc).map (fun d => d.parameters.length) = some 0 := ⟨by decide +kernel, by decide +kernel, by decide +kernel⟩
theorem d_PO_turnRound_0 : decode prog_4_method_7_code 0 = .ok (.iconst 0, 1) := by decide +kernel
theorem d_PO_turnRound_1 : decode prog_4_method_7_code 1 = .ok (.istore_n 1, 1) := by decide +kernel
theorem d_PO_turnRound_2 : decode prog_4_method_7_code 2 = .ok (.iload_n 1, 1) := by decide +kernel
theorem d_PO_turnRound_3 : decode prog_4_method_7_code 3 = .ok (.bipush 16, 2) := by decide +kernel
theorem d_PO_turnRound_5 : decode prog_4_method_7_code 5 = .ok (.if_icmp .ge 74, 3) := by decide +kernel
theorem d_PO_turnRound_8 : decode prog_4_method_7_code 8 = .ok (.getstatic 52, 3) := by decide +kernel
theorem d_PO_turnRound_11 : decode prog_4_method_7_code 11 = .ok (.iload_n 1, 1) := by decide +kernel
theorem d_PO_turnRound_12 : decode prog_4_method_7_code 12 = .ok (.iaload, 1) := by decide +kernel
theorem d_PO_turnRound_13 : decode prog_4_method_7_code 13 = .ok (.istore_n 2, 1) := by decide +kernel
theorem d_PO_turnRound_14 : decode prog_4_method_7_code 14 = .ok (.iload_n 1, 1) := by decide +kernel
theorem d_PO_turnRound_15 : decode prog_4_method_7_code 15 = .ok (.iload_n 2, 1) := by decide +kernel
theorem d_PO_turnRound_16 : decode prog_4_method_7_code 16 = .ok (.if_icmp .ge 57, 3) := by decide +kernel
theorem d_PO_turnRound_19 : decode prog_4_method_7_code 19 = .ok (.aload_n 0, 1) := by decide +kernel
theorem d_PO_turnRound_20 : decode prog_4_method_7_code 20 = .ok (.getfield 9, 3) := by decide +kernel
theorem d_PO_turnRound_23 : decode prog_4_method_7_code 23 = .ok (.iload_n 1, 1) := by decide +kernel
theorem d_PO_turnRound_24 : decode prog_4_method_7_code 24 = .ok (.iaload, 1) := by decide +kernel
theorem d_PO_turnRound_25 : decode prog_4_method_7_code 25 = .ok (.istore_n 3, 1) := by decide +kernel
theorem d_PO_turnRound_26 : decode prog_4_method_7_code 26 = .ok (.aload_n 0, 1) := by decide +kernel
theorem d_PO_turnRound_27 : decode prog_4_method_7_code 27 = .ok (.getfield 15, 3) := by decide +kernel
theorem d_PO_turnRound_30 : decode prog_4_method_7_code 30 = .ok (.iload_n 1, 1) := by decide +kernel
theorem d_PO_turnRound_31 : decode prog_4_method_7_code 31 = .ok (.iaload, 1) := by decide +kernel
theorem d_PO_turnRound_32 : decode prog_4_method_7_code 32 = .ok (.istore 4, 2) := by decide +kernel
theorem d_PO_turnRound_34 : decode prog_4_method_7_code 34 = .ok (.aload_n 0, 1) := by decide +kernel
theorem d_PO_turnRound_35 : decode prog_4_method_7_code 35 = .ok (.getfield 9, 3) := by decide +kernel
theorem d_PO_turnRound_38 : decode prog_4_method_7_code 38 = .ok (.iload_n 1, 1) := by decide +kernel
theorem d_PO_turnRound_39 : decode prog_4_method_7_code 39 = .ok (.aload_n 0, 1) := by decide +kernel
theorem d_PO_turnRound_40 : decode prog_4_method_7_code 40 = .ok (.getfield 9, 3) := by decide +kernel
theorem d_PO_turnRound_43 : decode prog_4_method_7_code 43 = .ok (.iload_n 2, 1) := by decide +kernel
theorem d_PO_turnRound_44 : decode prog_4_method_7_code 44 = .ok (.iaload, 1) := by decide +kernel
theorem d_PO_turnRound_45 : decode prog_4_method_7_code 45 = .ok (.iastore, 1) := by decide +kernel
theorem d_PO_turnRound_46 : decode prog_4_method_7_code 46 = .ok (.aload_n 0, 1) := by decide +kernel
theorem d_PO_turnRound_47 : decode prog_4_method_7_code 47 = .ok (.getfield 15, 3) := by decide +kernel
theorem d_PO_turnRound_50 : decode prog_4_method_7_code 50 = .ok (.iload_n 1, 1) := by decide +kernel
theorem d_PO_turnRound_51 : decode prog_4_method_7_code 51 = .ok (.aload_n 0, 1) := by decide +kernel
theorem d_PO_turnRound_52 : decode prog_4_method_7_code 52 = .ok (.getfield 15, 3) := by decide +kernel
theorem d_PO_turnRound_55 : decode prog_4_method_7_code 55 = .ok (.iload_n 2, 1) := by decide +kernel
theorem d_PO_turnRound_56 : decode prog_4_method_7_code 56 = .ok (.iaload, 1) := by decide +kernel
theorem d_PO_turnRound_57 : decode prog_4_method_7_code 57 = .ok (.iastore, 1) := by decide +kernel
theorem d_PO_turnRound_58 : decode prog_4_method_7_code 58 = .ok (.aload_n 0, 1) := by decide +kernel
theorem d_PO_turnRound_59 : decode prog_4_method_7_code 59 = .ok (.getfield 9, 3) := by decide +kernel
theorem d_PO_turnRound_62 : decode prog_4_method_7_code 62 = .ok (.iload_n 2, 1) := by decide +kernel
theorem d_PO_turnRound_63 : decode prog_4_method_7_code 63 = .ok (.iload_n 3, 1) := by decide +kernel
theorem d_PO_turnRound_64 : decode prog_4_method_7_code 64 = .ok (.iastore, 1) := by decide +kernel
theorem d_PO_turnRound_65 : decode prog_4_method_7_code 65 = .ok (.aload_n 0, 1) := by decide +kernel
theorem d_PO_turnRound_66 : decode prog_4_method_7_code 66 = .ok (.getfield 15, 3) := by decide +kernel
theorem d_PO_turnRound_69 : decode prog_4_method_7_code 69 = .ok (.iload_n 2, 1) := by decide +kernel
theorem d_PO_turnRound_70 : decode prog_4_method_7_code 70 = .ok (.iload 4, 2) := by decide +kernel
theorem d_PO_turnRound_72 : decode prog_4_method_7_code 72 = .ok (.iastore, 1) := by decide +kernel
theorem d_PO_turnRound_73 : decode prog_4_method_7_code 73 = .ok (.iinc 1 1, 3) := by decide +kernel
theorem d_PO_turnRound_76 : decode prog_4_method_7_code 76 = .ok (.goto (-74), 3) := by decide +kernel
theorem d_PO_turnRound_79 : decode prog_4_method_7_code 79 = .ok (.return_, 1) := by decide +kernel
def y_PO_join : MethodName := ⟨"CarrierLink$Points", "join", "(IIJJI)V"⟩
theorem hd_PO_join : y_PO_join.cls ≠ "java/lang/invoke/MethodHandle" ∧ y_PO_join.cls ≠ "java/lang/invoke/VarHandle" ∧ (parseMethodDescriptor y_PO_join.desc).map (fun d => d.parameters.length) = some 5 := ⟨by decide +kernel, by decide +kernel, by decide +kernel⟩
theorem d_PO_join_0 : decode prog_4_method_6_code 0 = .ok (.aload_n 0, 1) := by decide +kernel
theorem d_PO_join_1 : decode prog_4_method_6_code 1 = .ok (.getfield 9, 3) := by decide +kernel
theorem d_PO_join_4 : decode prog_4_method_6_code 4 = .ok (.iload_n 2, 1) := by decide +kernel
theorem d_PO_join_5 : decode prog_4_method_6_code 5 = .ok (.iaload, 1) := by decide +kernel
theorem d_PO_join_6 : decode prog_4_method_6_code 6 = .ok (.i2l, 1) := by decide +kernel
theorem d_PO_join_7 : decode prog_4_method_6_code 7 = .ok (.lload_n 3, 1) := by decide +kernel
theorem d_PO_join_8 : decode prog_4_method_6_code 8 = .ok (.lmul, 1) := by decide +kernel
theorem d_PO_join_9 : decode prog_4_method_6_code 9 = .ok (.aload_n 0, 1) := by decide +kernel
theorem d_PO_join_10 : decode prog_4_method_6_code 10 = .ok (.getfield 15, 3) := by decide +kernel
theorem d_PO_join_13 : decode prog_4_method_6_code 13 = .ok (.iload_n 2, 1) := by decide +kernel
theorem d_PO_join_14 : decode prog_4_method_6_code 14 = .ok (.iaload, 1) := by decide +kernel
theorem d_PO_join_15 : decode prog_4_method_6_code 15 = .ok (.i2l, 1) := by decide +kernel
theorem d_PO_join_16 : decode prog_4_method_6_code 16 = .ok (.lload 5, 2) := by decide +kernel
theorem d_PO_join_18 : decode prog_4_method_6_code 18 = .ok (.lmul, 1) := by decide +kernel
theorem d_PO_join_19 : decode prog_4_method_6_code 19 = .ok (.lsub, 1) := by decide +kernel
theorem d_PO_join_20 : decode prog_4_method_6_code 20 = .ok (.ldc2_w 50, 3) := by decide +kernel
theorem d_PO_join_23 : decode prog_4_method_6_code 23 = .ok (.ladd, 1) := by decide +kernel
theorem d_PO_join_24 : decode prog_4_method_6_code 24 = .ok (.bipush 14, 2) := by decide +kernel
theorem d_PO_join_26 : decode prog_4_method_6_code 26 = .ok (.lshr, 1) := by decide +kernel
theorem d_PO_join_27 : decode prog_4_method_6_code 27 = .ok (.l2i, 1) := by decide +kernel
theorem d_PO_join_28 : decode prog_4_method_6_code 28 = .ok (.istore 8, 2) := by decide +kernel
theorem d_PO_join_30 : decode prog_4_method_6_code 30 = .ok (.aload_n 0, 1) := by decide +kernel
theorem d_PO_join_31 : decode prog_4_method_6_code 31 = .ok (.getfield 15, 3) := by decide +kernel
theorem d_PO_join_34 : decode prog_4_method_6_code 34 = .ok (.iload_n 2, 1) := by decide +kernel
theorem d_PO_join_35 : decode prog_4_method_6_code 35 = .ok (.iaload, 1) := by decide +kernel
theorem d_PO_join_36 : decode prog_4_method_6_code 36 = .ok (.i2l, 1) := by decide +kernel
theorem d_PO_join_37 : decode prog_4_method_6_code 37 = .ok (.lload_n 3, 1) := by decide +kernel
theorem d_PO_join_38 : decode prog_4_method_6_code 38 = .ok (.lmul, 1) := by decide +kernel
theorem d_PO_join_39 : decode prog_4_method_6_code 39 = .ok (.aload_n 0, 1) := by decide +kernel
theorem d_PO_join_40 : decode prog_4_method_6_code 40 = .ok (.getfield 9, 3) := by decide +kernel
theorem d_PO_join_43 : decode prog_4_method_6_code 43 = .ok (.iload_n 2, 1) := by decide +kernel
theorem d_PO_join_44 : decode prog_4_method_6_code 44 = .ok (.iaload, 1) := by decide +kernel
theorem d_PO_join_45 : decode prog_4_method_6_code 45 = .ok (.i2l, 1) := by decide +kernel
theorem d_PO_join_46 : decode prog_4_method_6_code 46 = .ok (.lload 5, 2) := by decide +kernel
theorem d_PO_join_48 : decode prog_4_method_6_code 48 = .ok (.lmul, 1) := by decide +kernel
theorem d_PO_join_49 : decode prog_4_method_6_code 49 = .ok (.ladd, 1) := by decide +kernel
theorem d_PO_join_50 : decode prog_4_method_6_code 50 = .ok (.ldc2_w 50, 3) := by decide +kernel
theorem d_PO_join_53 : decode prog_4_method_6_code 53 = .ok (.ladd, 1) := by decide +kernel
theorem d_PO_join_54 : decode prog_4_method_6_code 54 = .ok (.bipush 14, 2) := by decide +kernel
theorem d_PO_join_56 : decode prog_4_method_6_code 56 = .ok (.lshr, 1) := by decide +kernel
theorem d_PO_join_57 : decode prog_4_method_6_code 57 = .ok (.l2i, 1) := by decide +kernel
theorem d_PO_join_58 : decode prog_4_method_6_code 58 = .ok (.istore 9, 2) := by decide +kernel
theorem d_PO_join_60 : decode prog_4_method_6_code 60 = .ok (.aload_n 0, 1) := by decide +kernel
theorem d_PO_join_61 : decode prog_4_method_6_code 61 = .ok (.getfield 9, 3) := by decide +kernel
theorem d_PO_join_64 : decode prog_4_method_6_code 64 = .ok (.iload_n 1, 1) := by decide +kernel
theorem d_PO_join_65 : decode prog_4_method_6_code 65 = .ok (.iaload, 1) := by decide +kernel
theorem d_PO_join_66 : decode prog_4_method_6_code 66 = .ok (.istore 10, 2) := by decide +kernel
theorem d_PO_join_68 : decode prog_4_method_6_code 68 = .ok (.aload_n 0, 1) := by decide +kernel
theorem d_PO_join_69 : decode prog_4_method_6_code 69 = .ok (.getfield 15, 3) := by decide +kernel
theorem d_PO_join_72 : decode prog_4_method_6_code 72 = .ok (.iload_n 1, 1) := by decide +kernel
theorem d_PO_join_73 : decode prog_4_method_6_code 73 = .ok (.iaload, 1) := by decide +kernel
theorem d_PO_join_74 : decode prog_4_method_6_code 74 = .ok (.istore 11, 2) := by decide +kernel
theorem d_PO_join_76 : decode prog_4_method_6_code 76 = .ok (.aload_n 0, 1) := by decide +kernel
theorem d_PO_join_77 : decode prog_4_method_6_code 77 = .ok (.getfield 9, 3) := by decide +kernel
theorem d_PO_join_80 : decode prog_4_method_6_code 80 = .ok (.iload_n 1, 1) := by decide +kernel
theorem d_PO_join_81 : decode prog_4_method_6_code 81 = .ok (.iload 10, 2) := by decide +kernel
theorem d_PO_join_83 : decode prog_4_method_6_code 83 = .ok (.iload 8, 2) := by decide +kernel
theorem d_PO_join_85 : decode prog_4_method_6_code 85 = .ok (.iadd, 1) := by decide +kernel
theorem d_PO_join_86 : decode prog_4_method_6_code 86 = .ok (.iload 7, 2) := by decide +kernel
theorem d_PO_join_88 : decode prog_4_method_6_code 88 = .ok (.ishr, 1) := by decide +kernel
theorem d_PO_join_89 : decode prog_4_method_6_code 89 = .ok (.iastore, 1) := by decide +kernel
theorem d_PO_join_90 : decode prog_4_method_6_code 90 = .ok (.aload_n 0, 1) := by decide +kernel
theorem d_PO_join_91 : decode prog_4_method_6_code 91 = .ok (.getfield 15, 3) := by decide +kernel
theorem d_PO_join_94 : decode prog_4_method_6_code 94 = .ok (.iload_n 1, 1) := by decide +kernel
theorem d_PO_join_95 : decode prog_4_method_6_code 95 = .ok (.iload 11, 2) := by decide +kernel
theorem d_PO_join_97 : decode prog_4_method_6_code 97 = .ok (.iload 9, 2) := by decide +kernel
theorem d_PO_join_99 : decode prog_4_method_6_code 99 = .ok (.iadd, 1) := by decide +kernel
theorem d_PO_join_100 : decode prog_4_method_6_code 100 = .ok (.iload 7, 2) := by decide +kernel
theorem d_PO_join_102 : decode prog_4_method_6_code 102 = .ok (.ishr, 1) := by decide +kernel
theorem d_PO_join_103 : decode prog_4_method_6_code 103 = .ok (.iastore, 1) := by decide +kernel
theorem d_PO_join_104 : decode prog_4_method_6_code 104 = .ok (.aload_n 0, 1) := by decide +kernel
theorem d_PO_join_105 : decode prog_4_method_6_code 105 = .ok (.getfield 9, 3) := by decide +kernel
theorem d_PO_join_108 : decode prog_4_method_6_code 108 = .ok (.iload_n 2, 1) := by decide +kernel
theorem d_PO_join_109 : decode prog_4_method_6_code 109 = .ok (.iload 10, 2) := by decide +kernel
theorem d_PO_join_111 : decode prog_4_method_6_code 111 = .ok (.iload 8, 2) := by decide +kernel
theorem d_PO_join_113 : decode prog_4_method_6_code 113 = .ok (.isub, 1) := by decide +kernel
theorem d_PO_join_114 : decode prog_4_method_6_code 114 = .ok (.iload 7, 2) := by decide +kernel
theorem d_PO_join_116 : decode prog_4_method_6_code 116 = .ok (.ishr, 1) := by decide +kernel
theorem d_PO_join_117 : decode prog_4_method_6_code 117 = .ok (.iastore, 1) := by decide +kernel
theorem d_PO_join_118 : decode prog_4_method_6_code 118 = .ok (.aload_n 0, 1) := by decide +kernel
theorem d_PO_join_119 : decode prog_4_method_6_code 119 = .ok (.getfield 15, 3) := by decide +kernel
theorem d_PO_join_122 : decode prog_4_method_6_code 122 = .ok (.iload_n 2, 1) := by decide +kernel
theorem d_PO_join_123 : decode prog_4_method_6_code 123 = .ok (.iload 11, 2) := by decide +kernel
theorem d_PO_join_125 : decode prog_4_method_6_code 125 = .ok (.iload 9, 2) := by decide +kernel
theorem d_PO_join_127 : decode prog_4_method_6_code 127 = .ok (.isub, 1) := by decide +kernel
theorem d_PO_join_128 : decode prog_4_method_6_code 128 = .ok (.iload 7, 2) := by decide +kernel
theorem d_PO_join_130 : decode prog_4_method_6_code 130 = .ok (.ishr, 1) := by decide +kernel
theorem d_PO_join_131 : decode prog_4_method_6_code 131 = .ok (.iastore, 1) := by decide +kernel
theorem d_PO_join_132 : decode prog_4_method_6_code 132 = .ok (.return_, 1) := by decide +kernel
def y_PO_clear : MethodName := ⟨"CarrierLink$Points", "clear", "()V"⟩
theorem hd_PO_clear : y_PO_clear.cls ≠ "java/lang/invoke/MethodHandle" ∧ y_PO_clear.cls ≠ "java/lang/invoke/VarHandle" ∧ (parseMethodDescriptor y_PO_clear.desc).map (fun d => d.parameters.length) = some 0 := ⟨by decide +kernel, by decide +kernel, by decide +kernel⟩
theorem d_PO_clear_0 : decode prog_4_method_2_code 0 = .ok (.aload_n 0, 1) := by decide +kernel
theorem d_PO_clear_1 : decode prog_4_method_2_code 1 = .ok (.getfield 9, 3) := by decide +kernel
theorem d_PO_clear_4 : decode prog_4_method_2_code 4 = .ok (.iconst 0, 1) := by decide +kernel
theorem d_PO_clear_5 : decode prog_4_method_2_code 5 = .ok (.invokestatic 18, 3) := by decide +kernel
theorem d_PO_clear_8 : decode prog_4_method_2_code 8 = .ok (.aload_n 0, 1) := by decide +kernel
theorem d_PO_clear_9 : decode prog_4_method_2_code 9 = .ok (.getfield 15, 3) := by decide +kernel
theorem d_PO_clear_12 : decode prog_4_method_2_code 12 = .ok (.iconst 0, 1) := by decide +kernel
theorem d_PO_clear_13 : decode prog_4_method_2_code 13 = .ok (.invokestatic 18, 3) := by decide +kernel
theorem d_PO_clear_16 : decode prog_4_method_2_code 16 = .ok (.return_, 1) := by decide +kernel
def y_PO_takeCarriers : MethodName := ⟨"CarrierLink$Points", "takeCarriers", "(LCarrierLink$Wave;I)V"⟩
theorem hd_PO_takeCarriers : y_PO_takeCarriers.cls ≠ "java/lang/invoke/MethodHandle" ∧ y_PO_takeCarriers.cls ≠ "java/lang/invoke/VarHandle" ∧ (parseMethodDescriptor y_PO_takeCarriers.desc).map (fun d => d.parameters.length) = some 2 := ⟨by decide +kernel, by decide +kernel, by decide +kernel⟩
theorem d_PO_takeCarriers_0 : decode prog_4_method_4_code 0 = .ok (.iconst 0, 1) := by decide +kernel
theorem d_PO_takeCarriers_1 : decode prog_4_method_4_code 1 = .ok (.istore_n 3, 1) := by decide +kernel
theorem d_PO_takeCarriers_2 : decode prog_4_method_4_code 2 = .ok (.iload_n 3, 1) := by decide +kernel
theorem d_PO_takeCarriers_3 : decode prog_4_method_4_code 3 = .ok (.bipush 16, 2) := by decide +kernel
theorem d_PO_takeCarriers_5 : decode prog_4_method_4_code 5 = .ok (.if_icmp .ge 37, 3) := by decide +kernel
theorem d_PO_takeCarriers_8 : decode prog_4_method_4_code 8 = .ok (.aload_n 0, 1) := by decide +kernel
theorem d_PO_takeCarriers_9 : decode prog_4_method_4_code 9 = .ok (.getfield 9, 3) := by decide +kernel
theorem d_PO_takeCarriers_12 : decode prog_4_method_4_code 12 = .ok (.iload_n 3, 1) := by decide +kernel
theorem d_PO_takeCarriers_13 : decode prog_4_method_4_code 13 = .ok (.aload_n 1, 1) := by decide +kernel
theorem d_PO_takeCarriers_14 : decode prog_4_method_4_code 14 = .ok (.getfield 31, 3) := by decide +kernel
theorem d_PO_takeCarriers_17 : decode prog_4_method_4_code 17 = .ok (.iload_n 2, 1) := by decide +kernel
theorem d_PO_takeCarriers_18 : decode prog_4_method_4_code 18 = .ok (.iload_n 3, 1) := by decide +kernel
theorem d_PO_takeCarriers_19 : decode prog_4_method_4_code 19 = .ok (.iadd, 1) := by decide +kernel
theorem d_PO_takeCarriers_20 : decode prog_4_method_4_code 20 = .ok (.saload, 1) := by decide +kernel
theorem d_PO_takeCarriers_21 : decode prog_4_method_4_code 21 = .ok (.iastore, 1) := by decide +kernel
theorem d_PO_takeCarriers_22 : decode prog_4_method_4_code 22 = .ok (.aload_n 0, 1) := by decide +kernel
theorem d_PO_takeCarriers_23 : decode prog_4_method_4_code 23 = .ok (.getfield 15, 3) := by decide +kernel
theorem d_PO_takeCarriers_26 : decode prog_4_method_4_code 26 = .ok (.iload_n 3, 1) := by decide +kernel
theorem d_PO_takeCarriers_27 : decode prog_4_method_4_code 27 = .ok (.aload_n 1, 1) := by decide +kernel
theorem d_PO_takeCarriers_28 : decode prog_4_method_4_code 28 = .ok (.getfield 37, 3) := by decide +kernel
theorem d_PO_takeCarriers_31 : decode prog_4_method_4_code 31 = .ok (.iload_n 2, 1) := by decide +kernel
theorem d_PO_takeCarriers_32 : decode prog_4_method_4_code 32 = .ok (.iload_n 3, 1) := by decide +kernel
theorem d_PO_takeCarriers_33 : decode prog_4_method_4_code 33 = .ok (.iadd, 1) := by decide +kernel
theorem d_PO_takeCarriers_34 : decode prog_4_method_4_code 34 = .ok (.saload, 1) := by decide +kernel
theorem d_PO_takeCarriers_35 : decode prog_4_method_4_code 35 = .ok (.iastore, 1) := by decide +kernel
theorem d_PO_takeCarriers_36 : decode prog_4_method_4_code 36 = .ok (.iinc 3 1, 3) := by decide +kernel
theorem d_PO_takeCarriers_39 : decode prog_4_method_4_code 39 = .ok (.goto (-37), 3) := by decide +kernel
theorem d_PO_takeCarriers_42 : decode prog_4_method_4_code 42 = .ok (.aload_n 0, 1) := by decide +kernel
theorem d_PO_takeCarriers_43 : decode prog_4_method_4_code 43 = .ok (.iconst (-1), 1) := by decide +kernel
theorem d_PO_takeCarriers_44 : decode prog_4_method_4_code 44 = .ok (.invokevirtual 27, 3) := by decide +kernel
theorem d_PO_takeCarriers_47 : decode prog_4_method_4_code 47 = .ok (.return_, 1) := by decide +kernel
