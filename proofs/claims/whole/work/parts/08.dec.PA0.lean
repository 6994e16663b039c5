def y_PA_init : MethodName := ⟨"CarrierLink$Paths", "<init>", "()V"⟩
theorem hd_PA_init : y_PA_init.cls ≠ "java/lang/invoke/MethodHandle" ∧ y_PA_init.cls ≠ "java/lang/invoke/VarHandle" ∧ (parseMethodDescriptor y_PA_init.desc).map (fun d => d.parameters.length) = some 0 := ⟨by decide +kernel, by decide +kernel, by decide +kernel⟩
theorem d_PA_init_0 : decode prog_3_method_1_code 0 = .ok (.aload_n 0, 1) := by decide +kernel
theorem d_PA_init_1 : decode prog_3_method_1_code 1 = .ok (.invokespecial 3, 3) := by decide +kernel
theorem d_PA_init_4 : decode prog_3_method_1_code 4 = .ok (.aload_n 0, 1) := by decide +kernel
theorem d_PA_init_5 : decode prog_3_method_1_code 5 = .ok (.sipush 144, 3) := by decide +kernel
theorem d_PA_init_8 : decode prog_3_method_1_code 8 = .ok (.newarray .int, 2) := by decide +kernel
theorem d_PA_init_10 : decode prog_3_method_1_code 10 = .ok (.putfield 9, 3) := by decide +kernel
theorem d_PA_init_13 : decode prog_3_method_1_code 13 = .ok (.aload_n 0, 1) := by decide +kernel
theorem d_PA_init_14 : decode prog_3_method_1_code 14 = .ok (.sipush 144, 3) := by decide +kernel
theorem d_PA_init_17 : decode prog_3_method_1_code 17 = .ok (.newarray .long, 2) := by decide +kernel
theorem d_PA_init_19 : decode prog_3_method_1_code 19 = .ok (.putfield 15, 3) := by decide +kernel
theorem d_PA_init_22 : decode prog_3_method_1_code 22 = .ok (.aload_n 0, 1) := by decide +kernel
theorem d_PA_init_23 : decode prog_3_method_1_code 23 = .ok (.sipush 128, 3) := by decide +kernel
theorem d_PA_init_26 : decode prog_3_method_1_code 26 = .ok (.newarray .int, 2) := by decide +kernel
theorem d_PA_init_28 : decode prog_3_method_1_code 28 = .ok (.putfield 19, 3) := by decide +kernel
theorem d_PA_init_31 : decode prog_3_method_1_code 31 = .ok (.iconst 0, 1) := by decide +kernel
theorem d_PA_init_32 : decode prog_3_method_1_code 32 = .ok (.istore_n 1, 1) := by decide +kernel
theorem d_PA_init_33 : decode prog_3_method_1_code 33 = .ok (.iload_n 1, 1) := by decide +kernel
theorem d_PA_init_34 : decode prog_3_method_1_code 34 = .ok (.sipush 128, 3) := by decide +kernel
theorem d_PA_init_37 : decode prog_3_method_1_code 37 = .ok (.if_icmp .ge 30, 3) := by decide +kernel
theorem d_PA_init_40 : decode prog_3_method_1_code 40 = .ok (.aload_n 0, 1) := by decide +kernel
theorem d_PA_init_41 : decode prog_3_method_1_code 41 = .ok (.getfield 19, 3) := by decide +kernel
theorem d_PA_init_44 : decode prog_3_method_1_code 44 = .ok (.iload_n 1, 1) := by decide +kernel
theorem d_PA_init_45 : decode prog_3_method_1_code 45 = .ok (.iload_n 1, 1) := by decide +kernel
theorem d_PA_init_46 : decode prog_3_method_1_code 46 = .ok (.bipush 91, 2) := by decide +kernel
theorem d_PA_init_48 : decode prog_3_method_1_code 48 = .ok (.invokestatic 22, 3) := by decide +kernel
theorem d_PA_init_51 : decode prog_3_method_1_code 51 = .ok (.iconst 2, 1) := by decide +kernel
theorem d_PA_init_52 : decode prog_3_method_1_code 52 = .ok (.imul, 1) := by decide +kernel
theorem d_PA_init_53 : decode prog_3_method_1_code 53 = .ok (.iload_n 1, 1) := by decide +kernel
theorem d_PA_init_54 : decode prog_3_method_1_code 54 = .ok (.bipush 121, 2) := by decide +kernel
theorem d_PA_init_56 : decode prog_3_method_1_code 56 = .ok (.invokestatic 22, 3) := by decide +kernel
theorem d_PA_init_59 : decode prog_3_method_1_code 59 = .ok (.iadd, 1) := by decide +kernel
theorem d_PA_init_60 : decode prog_3_method_1_code 60 = .ok (.iastore, 1) := by decide +kernel
theorem d_PA_init_61 : decode prog_3_method_1_code 61 = .ok (.iinc 1 1, 3) := by decide +kernel
theorem d_PA_init_64 : decode prog_3_method_1_code 64 = .ok (.goto (-31), 3) := by decide +kernel
theorem d_PA_init_67 : decode prog_3_method_1_code 67 = .ok (.aload_n 0, 1) := by decide +kernel
theorem d_PA_init_68 : decode prog_3_method_1_code 68 = .ok (.iconst 4, 1) := by decide +kernel
theorem d_PA_init_69 : decode prog_3_method_1_code 69 = .ok (.newarray .int, 2) := by decide +kernel
theorem d_PA_init_71 : decode prog_3_method_1_code 71 = .ok (.putfield 26, 3) := by decide +kernel
theorem d_PA_init_74 : decode prog_3_method_1_code 74 = .ok (.aload_n 0, 1) := by decide +kernel
theorem d_PA_init_75 : decode prog_3_method_1_code 75 = .ok (.bipush 64, 2) := by decide +kernel
theorem d_PA_init_77 : decode prog_3_method_1_code 77 = .ok (.newarray .int, 2) := by decide +kernel
theorem d_PA_init_79 : decode prog_3_method_1_code 79 = .ok (.putfield 29, 3) := by decide +kernel
theorem d_PA_init_82 : decode prog_3_method_1_code 82 = .ok (.aload_n 0, 1) := by decide +kernel
theorem d_PA_init_83 : decode prog_3_method_1_code 83 = .ok (.bipush 64, 2) := by decide +kernel
theorem d_PA_init_85 : decode prog_3_method_1_code 85 = .ok (.newarray .int, 2) := by decide +kernel
theorem d_PA_init_87 : decode prog_3_method_1_code 87 = .ok (.putfield 32, 3) := by decide +kernel
theorem d_PA_init_90 : decode prog_3_method_1_code 90 = .ok (.return_, 1) := by decide +kernel
def y_PA_decode : MethodName := ⟨"CarrierLink$Paths", "decode", "([IIZ)I"⟩
theorem hd_PA_decode : y_PA_decode.cls ≠ "java/lang/invoke/MethodHandle" ∧ y_PA_decode.cls ≠ "java/lang/invoke/VarHandle" ∧ (parseMethodDescriptor y_PA_decode.desc).map (fun d => d.parameters.length) = some 3 := ⟨by decide +kernel, by decide +kernel, by decide +kernel⟩
theorem d_PA_decode_0 : decode prog_3_method_2_code 0 = .ok (.iload_n 2, 1) := by decide +kernel
theorem d_PA_decode_1 : decode prog_3_method_2_code 1 = .ok (.sipush 144, 3) := by decide +kernel
theorem d_PA_decode_4 : decode prog_3_method_2_code 4 = .ok (.invokestatic 35, 3) := by decide +kernel
theorem d_PA_decode_7 : decode prog_3_method_2_code 7 = .ok (.istore 4, 2) := by decide +kernel
theorem d_PA_decode_9 : decode prog_3_method_2_code 9 = .ok (.aload_n 0, 1) := by decide +kernel
theorem d_PA_decode_10 : decode prog_3_method_2_code 10 = .ok (.getfield 29, 3) := by decide +kernel
theorem d_PA_decode_13 : decode prog_3_method_2_code 13 = .ok (.ldc 40, 2) := by decide +kernel
theorem d_PA_decode_15 : decode prog_3_method_2_code 15 = .ok (.invokestatic 41, 3) := by decide +kernel
theorem d_PA_decode_18 : decode prog_3_method_2_code 18 = .ok (.aload_n 0, 1) := by decide +kernel
theorem d_PA_decode_19 : decode prog_3_method_2_code 19 = .ok (.getfield 29, 3) := by decide +kernel
theorem d_PA_decode_22 : decode prog_3_method_2_code 22 = .ok (.iconst 0, 1) := by decide +kernel
theorem d_PA_decode_23 : decode prog_3_method_2_code 23 = .ok (.iconst 0, 1) := by decide +kernel
theorem d_PA_decode_24 : decode prog_3_method_2_code 24 = .ok (.iastore, 1) := by decide +kernel
theorem d_PA_decode_25 : decode prog_3_method_2_code 25 = .ok (.iconst 0, 1) := by decide +kernel
theorem d_PA_decode_26 : decode prog_3_method_2_code 26 = .ok (.istore 5, 2) := by decide +kernel
theorem d_PA_decode_28 : decode prog_3_method_2_code 28 = .ok (.iconst 0, 1) := by decide +kernel
theorem d_PA_decode_29 : decode prog_3_method_2_code 29 = .ok (.istore 6, 2) := by decide +kernel
theorem d_PA_decode_31 : decode prog_3_method_2_code 31 = .ok (.iload 6, 2) := by decide +kernel
theorem d_PA_decode_33 : decode prog_3_method_2_code 33 = .ok (.iload 4, 2) := by decide +kernel
theorem d_PA_decode_35 : decode prog_3_method_2_code 35 = .ok (.if_icmp .ge 75, 3) := by decide +kernel
theorem d_PA_decode_38 : decode prog_3_method_2_code 38 = .ok (.iconst 0, 1) := by decide +kernel
theorem d_PA_decode_39 : decode prog_3_method_2_code 39 = .ok (.istore 7, 2) := by decide +kernel
theorem d_PA_decode_41 : decode prog_3_method_2_code 41 = .ok (.iconst 0, 1) := by decide +kernel
theorem d_PA_decode_42 : decode prog_3_method_2_code 42 = .ok (.istore 8, 2) := by decide +kernel
theorem d_PA_decode_44 : decode prog_3_method_2_code 44 = .ok (.iload_n 3, 1) := by decide +kernel
theorem d_PA_decode_45 : decode prog_3_method_2_code 45 = .ok (.iload 6, 2) := by decide +kernel
theorem d_PA_decode_47 : decode prog_3_method_2_code 47 = .ok (.invokestatic 47, 3) := by decide +kernel
theorem d_PA_decode_50 : decode prog_3_method_2_code 50 = .ok (.ifCond .eq 19, 3) := by decide +kernel
theorem d_PA_decode_53 : decode prog_3_method_2_code 53 = .ok (.iload 5, 2) := by decide +kernel
theorem d_PA_decode_55 : decode prog_3_method_2_code 55 = .ok (.aload_n 1, 1) := by decide +kernel
theorem d_PA_decode_56 : decode prog_3_method_2_code 56 = .ok (.arraylength, 1) := by decide +kernel
theorem d_PA_decode_57 : decode prog_3_method_2_code 57 = .ok (.if_icmp .ge 12, 3) := by decide +kernel
theorem d_PA_decode_60 : decode prog_3_method_2_code 60 = .ok (.aload_n 1, 1) := by decide +kernel
theorem d_PA_decode_61 : decode prog_3_method_2_code 61 = .ok (.iload 5, 2) := by decide +kernel
theorem d_PA_decode_63 : decode prog_3_method_2_code 63 = .ok (.iaload, 1) := by decide +kernel
theorem d_PA_decode_64 : decode prog_3_method_2_code 64 = .ok (.istore 7, 2) := by decide +kernel
theorem d_PA_decode_66 : decode prog_3_method_2_code 66 = .ok (.iinc 5 1, 3) := by decide +kernel
theorem d_PA_decode_69 : decode prog_3_method_2_code 69 = .ok (.iload_n 3, 1) := by decide +kernel
theorem d_PA_decode_70 : decode prog_3_method_2_code 70 = .ok (.iload 6, 2) := by decide +kernel
theorem d_PA_decode_72 : decode prog_3_method_2_code 72 = .ok (.invokestatic 51, 3) := by decide +kernel
theorem d_PA_decode_75 : decode prog_3_method_2_code 75 = .ok (.ifCond .eq 19, 3) := by decide +kernel
theorem d_PA_decode_78 : decode prog_3_method_2_code 78 = .ok (.iload 5, 2) := by decide +kernel
theorem d_PA_decode_80 : decode prog_3_method_2_code 80 = .ok (.aload_n 1, 1) := by decide +kernel
theorem d_PA_decode_81 : decode prog_3_method_2_code 81 = .ok (.arraylength, 1) := by decide +kernel
theorem d_PA_decode_82 : decode prog_3_method_2_code 82 = .ok (.if_icmp .ge 12, 3) := by decide +kernel
theorem d_PA_decode_85 : decode prog_3_method_2_code 85 = .ok (.aload_n 1, 1) := by decide +kernel
theorem d_PA_decode_86 : decode prog_3_method_2_code 86 = .ok (.iload 5, 2) := by decide +kernel
theorem d_PA_decode_88 : decode prog_3_method_2_code 88 = .ok (.iaload, 1) := by decide +kernel
theorem d_PA_decode_89 : decode prog_3_method_2_code 89 = .ok (.istore 8, 2) := by decide +kernel
theorem d_PA_decode_91 : decode prog_3_method_2_code 91 = .ok (.iinc 5 1, 3) := by decide +kernel
theorem d_PA_decode_94 : decode prog_3_method_2_code 94 = .ok (.aload_n 0, 1) := by decide +kernel
theorem d_PA_decode_95 : decode prog_3_method_2_code 95 = .ok (.iload 6, 2) := by decide +kernel
theorem d_PA_decode_97 : decode prog_3_method_2_code 97 = .ok (.iload 7, 2) := by decide +kernel
theorem d_PA_decode_99 : decode prog_3_method_2_code 99 = .ok (.iload 8, 2) := by decide +kernel
theorem d_PA_decode_101 : decode prog_3_method_2_code 101 = .ok (.invokevirtual 54, 3) := by decide +kernel
theorem d_PA_decode_104 : decode prog_3_method_2_code 104 = .ok (.iinc 6 1, 3) := by decide +kernel
theorem d_PA_decode_107 : decode prog_3_method_2_code 107 = .ok (.goto (-76), 3) := by decide +kernel
theorem d_PA_decode_110 : decode prog_3_method_2_code 110 = .ok (.aload_n 0, 1) := by decide +kernel
theorem d_PA_decode_111 : decode prog_3_method_2_code 111 = .ok (.invokevirtual 58, 3) := by decide +kernel
theorem d_PA_decode_114 : decode prog_3_method_2_code 114 = .ok (.istore 6, 2) := by decide +kernel
theorem d_PA_decode_116 : decode prog_3_method_2_code 116 = .ok (.aload_n 0, 1) := by decide +kernel
theorem d_PA_decode_117 : decode prog_3_method_2_code 117 = .ok (.iload 6, 2) := by decide +kernel
theorem d_PA_decode_119 : decode prog_3_method_2_code 119 = .ok (.iload 4, 2) := by decide +kernel
theorem d_PA_decode_121 : decode prog_3_method_2_code 121 = .ok (.invokevirtual 62, 3) := by decide +kernel
theorem d_PA_decode_124 : decode prog_3_method_2_code 124 = .ok (.aload_n 0, 1) := by decide +kernel
theorem d_PA_decode_125 : decode prog_3_method_2_code 125 = .ok (.getfield 29, 3) := by decide +kernel
theorem d_PA_decode_128 : decode prog_3_method_2_code 128 = .ok (.iload 6, 2) := by decide +kernel
theorem d_PA_decode_130 : decode prog_3_method_2_code 130 = .ok (.iaload, 1) := by decide +kernel
theorem d_PA_decode_131 : decode prog_3_method_2_code 131 = .ok (.ireturn, 1) := by decide +kernel
def y_PA_step : MethodName := ⟨"CarrierLink$Paths", "step", "(III)V"⟩
theorem hd_PA_step : y_PA_step.cls ≠ "java/lang/invoke/MethodHandle" ∧ y_PA_step.cls ≠ "java/lang/invoke/VarHandle" ∧ (parseMethodDescriptor y_PA_step.desc).map (fun d => d.parameters.length) = some 3 := ⟨by decide +kernel, by decide +kernel, by decide +kernel⟩
theorem d_PA_step_0 : decode prog_3_method_3_code 0 = .ok (.aload_n 0, 1) := by decide +kernel
theorem d_PA_step_1 : decode prog_3_method_3_code 1 = .ok (.getfield 26, 3) := by decide +kernel
theorem d_PA_step_4 : decode prog_3_method_3_code 4 = .ok (.iconst 0, 1) := by decide +kernel
theorem d_PA_step_5 : decode prog_3_method_3_code 5 = .ok (.iload_n 2, 1) := by decide +kernel
theorem d_PA_step_6 : decode prog_3_method_3_code 6 = .ok (.ineg, 1) := by decide +kernel
theorem d_PA_step_7 : decode prog_3_method_3_code 7 = .ok (.iload_n 3, 1) := by decide +kernel
theorem d_PA_step_8 : decode prog_3_method_3_code 8 = .ok (.isub, 1) := by decide +kernel
theorem d_PA_step_9 : decode prog_3_method_3_code 9 = .ok (.iastore, 1) := by decide +kernel
theorem d_PA_step_10 : decode prog_3_method_3_code 10 = .ok (.aload_n 0, 1) := by decide +kernel
theorem d_PA_step_11 : decode prog_3_method_3_code 11 = .ok (.getfield 26, 3) := by decide +kernel
theorem d_PA_step_14 : decode prog_3_method_3_code 14 = .ok (.iconst 1, 1) := by decide +kernel
theorem d_PA_step_15 : decode prog_3_method_3_code 15 = .ok (.iload_n 3, 1) := by decide +kernel
theorem d_PA_step_16 : decode prog_3_method_3_code 16 = .ok (.iload_n 2, 1) := by decide +kernel
theorem d_PA_step_17 : decode prog_3_method_3_code 17 = .ok (.isub, 1) := by decide +kernel
theorem d_PA_step_18 : decode prog_3_method_3_code 18 = .ok (.iastore, 1) := by decide +kernel
theorem d_PA_step_19 : decode prog_3_method_3_code 19 = .ok (.aload_n 0, 1) := by decide +kernel
theorem d_PA_step_20 : decode prog_3_method_3_code 20 = .ok (.getfield 26, 3) := by decide +kernel
theorem d_PA_step_23 : decode prog_3_method_3_code 23 = .ok (.iconst 2, 1) := by decide +kernel
theorem d_PA_step_24 : decode prog_3_method_3_code 24 = .ok (.iload_n 2, 1) := by decide +kernel
theorem d_PA_step_25 : decode prog_3_method_3_code 25 = .ok (.iload_n 3, 1) := by decide +kernel
theorem d_PA_step_26 : decode prog_3_method_3_code 26 = .ok (.isub, 1) := by decide +kernel
theorem d_PA_step_27 : decode prog_3_method_3_code 27 = .ok (.iastore, 1) := by decide +kernel
theorem d_PA_step_28 : decode prog_3_method_3_code 28 = .ok (.aload_n 0, 1) := by decide +kernel
theorem d_PA_step_29 : decode prog_3_method_3_code 29 = .ok (.getfield 26, 3) := by decide +kernel
theorem d_PA_step_32 : decode prog_3_method_3_code 32 = .ok (.iconst 3, 1) := by decide +kernel
theorem d_PA_step_33 : decode prog_3_method_3_code 33 = .ok (.iload_n 2, 1) := by decide +kernel
theorem d_PA_step_34 : decode prog_3_method_3_code 34 = .ok (.iload_n 3, 1) := by decide +kernel
theorem d_PA_step_35 : decode prog_3_method_3_code 35 = .ok (.iadd, 1) := by decide +kernel
theorem d_PA_step_36 : decode prog_3_method_3_code 36 = .ok (.iastore, 1) := by decide +kernel
theorem d_PA_step_37 : decode prog_3_method_3_code 37 = .ok (.lconst 0, 1) := by decide +kernel
theorem d_PA_step_38 : decode prog_3_method_3_code 38 = .ok (.lstore 4, 2) := by decide +kernel
theorem d_PA_step_40 : decode prog_3_method_3_code 40 = .ok (.iconst 0, 1) := by decide +kernel
theorem d_PA_step_41 : decode prog_3_method_3_code 41 = .ok (.istore 6, 2) := by decide +kernel
theorem d_PA_step_43 : decode prog_3_method_3_code 43 = .ok (.iload 6, 2) := by decide +kernel
theorem d_PA_step_45 : decode prog_3_method_3_code 45 = .ok (.bipush 64, 2) := by decide +kernel
theorem d_PA_step_47 : decode prog_3_method_3_code 47 = .ok (.if_icmp .ge 99, 3) := by decide +kernel
theorem d_PA_step_50 : decode prog_3_method_3_code 50 = .ok (.iload 6, 2) := by decide +kernel
theorem d_PA_step_52 : decode prog_3_method_3_code 52 = .ok (.bipush 31, 2) := by decide +kernel
theorem d_PA_step_54 : decode prog_3_method_3_code 54 = .ok (.iand, 1) := by decide +kernel
theorem d_PA_step_55 : decode prog_3_method_3_code 55 = .ok (.iconst 2, 1) := by decide +kernel
theorem d_PA_step_56 : decode prog_3_method_3_code 56 = .ok (.imul, 1) := by decide +kernel
theorem d_PA_step_57 : decode prog_3_method_3_code 57 = .ok (.istore 7, 2) := by decide +kernel
theorem d_PA_step_59 : decode prog_3_method_3_code 59 = .ok (.aload_n 0, 1) := by decide +kernel
theorem d_PA_step_60 : decode prog_3_method_3_code 60 = .ok (.getfield 29, 3) := by decide +kernel
theorem d_PA_step_63 : decode prog_3_method_3_code 63 = .ok (.iload 7, 2) := by decide +kernel
theorem d_PA_step_65 : decode prog_3_method_3_code 65 = .ok (.iaload, 1) := by decide +kernel
theorem d_PA_step_66 : decode prog_3_method_3_code 66 = .ok (.aload_n 0, 1) := by decide +kernel
theorem d_PA_step_67 : decode prog_3_method_3_code 67 = .ok (.getfield 26, 3) := by decide +kernel
theorem d_PA_step_70 : decode prog_3_method_3_code 70 = .ok (.aload_n 0, 1) := by decide +kernel
theorem d_PA_step_71 : decode prog_3_method_3_code 71 = .ok (.getfield 19, 3) := by decide +kernel
theorem d_PA_step_74 : decode prog_3_method_3_code 74 = .ok (.iload 6, 2) := by decide +kernel
theorem d_PA_step_76 : decode prog_3_method_3_code 76 = .ok (.iconst 2, 1) := by decide +kernel
theorem d_PA_step_77 : decode prog_3_method_3_code 77 = .ok (.imul, 1) := by decide +kernel
theorem d_PA_step_78 : decode prog_3_method_3_code 78 = .ok (.iaload, 1) := by decide +kernel
theorem d_PA_step_79 : decode prog_3_method_3_code 79 = .ok (.iaload, 1) := by decide +kernel
theorem d_PA_step_80 : decode prog_3_method_3_code 80 = .ok (.iadd, 1) := by decide +kernel
theorem d_PA_step_81 : decode prog_3_method_3_code 81 = .ok (.istore 8, 2) := by decide +kernel
theorem d_PA_step_83 : decode prog_3_method_3_code 83 = .ok (.aload_n 0, 1) := by decide +kernel
theorem d_PA_step_84 : decode prog_3_method_3_code 84 = .ok (.getfield 29, 3) := by decide +kernel
theorem d_PA_step_87 : decode prog_3_method_3_code 87 = .ok (.iload 7, 2) := by decide +kernel
theorem d_PA_step_89 : decode prog_3_method_3_code 89 = .ok (.iconst 1, 1) := by decide +kernel
theorem d_PA_step_90 : decode prog_3_method_3_code 90 = .ok (.iadd, 1) := by decide +kernel
theorem d_PA_step_91 : decode prog_3_method_3_code 91 = .ok (.iaload, 1) := by decide +kernel
theorem d_PA_step_92 : decode prog_3_method_3_code 92 = .ok (.aload_n 0, 1) := by decide +kernel
theorem d_PA_step_93 : decode prog_3_method_3_code 93 = .ok (.getfield 26, 3) := by decide +kernel
theorem d_PA_step_96 : decode prog_3_method_3_code 96 = .ok (.aload_n 0, 1) := by decide +kernel
theorem d_PA_step_97 : decode prog_3_method_3_code 97 = .ok (.getfield 19, 3) := by decide +kernel
theorem d_PA_step_100 : decode prog_3_method_3_code 100 = .ok (.iload 6, 2) := by decide +kernel
theorem d_PA_step_102 : decode prog_3_method_3_code 102 = .ok (.iconst 2, 1) := by decide +kernel
theorem d_PA_step_103 : decode prog_3_method_3_code 103 = .ok (.imul, 1) := by decide +kernel
theorem d_PA_step_104 : decode prog_3_method_3_code 104 = .ok (.iconst 1, 1) := by decide +kernel
theorem d_PA_step_105 : decode prog_3_method_3_code 105 = .ok (.iadd, 1) := by decide +kernel
theorem d_PA_step_106 : decode prog_3_method_3_code 106 = .ok (.iaload, 1) := by decide +kernel
theorem d_PA_step_107 : decode prog_3_method_3_code 107 = .ok (.iaload, 1) := by decide +kernel
theorem d_PA_step_108 : decode prog_3_method_3_code 108 = .ok (.iadd, 1) := by decide +kernel
theorem d_PA_step_109 : decode prog_3_method_3_code 109 = .ok (.istore 9, 2) := by decide +kernel
theorem d_PA_step_111 : decode prog_3_method_3_code 111 = .ok (.iload 9, 2) := by decide +kernel
theorem d_PA_step_113 : decode prog_3_method_3_code 113 = .ok (.iload 8, 2) := by decide +kernel
theorem d_PA_step_115 : decode prog_3_method_3_code 115 = .ok (.if_icmp .le 16, 3) := by decide +kernel
theorem d_PA_step_118 : decode prog_3_method_3_code 118 = .ok (.iload 9, 2) := by decide +kernel
theorem d_PA_step_120 : decode prog_3_method_3_code 120 = .ok (.istore 8, 2) := by decide +kernel
theorem d_PA_step_122 : decode prog_3_method_3_code 122 = .ok (.lload 4, 2) := by decide +kernel
theorem d_PA_step_124 : decode prog_3_method_3_code 124 = .ok (.lconst 1, 1) := by decide +kernel
theorem d_PA_step_125 : decode prog_3_method_3_code 125 = .ok (.iload 6, 2) := by decide +kernel
theorem d_PA_step_127 : decode prog_3_method_3_code 127 = .ok (.lshl, 1) := by decide +kernel
theorem d_PA_step_128 : decode prog_3_method_3_code 128 = .ok (.lor, 1) := by decide +kernel
theorem d_PA_step_129 : decode prog_3_method_3_code 129 = .ok (.lstore 4, 2) := by decide +kernel
theorem d_PA_step_131 : decode prog_3_method_3_code 131 = .ok (.aload_n 0, 1) := by decide +kernel
theorem d_PA_step_132 : decode prog_3_method_3_code 132 = .ok (.getfield 32, 3) := by decide +kernel
theorem d_PA_step_135 : decode prog_3_method_3_code 135 = .ok (.iload 6, 2) := by decide +kernel
theorem d_PA_step_137 : decode prog_3_method_3_code 137 = .ok (.iload 8, 2) := by decide +kernel
theorem d_PA_step_139 : decode prog_3_method_3_code 139 = .ok (.iastore, 1) := by decide +kernel
theorem d_PA_step_140 : decode prog_3_method_3_code 140 = .ok (.iinc 6 1, 3) := by decide +kernel
theorem d_PA_step_143 : decode prog_3_method_3_code 143 = .ok (.goto (-100), 3) := by decide +kernel
theorem d_PA_step_146 : decode prog_3_method_3_code 146 = .ok (.aload_n 0, 1) := by decide +kernel
theorem d_PA_step_147 : decode prog_3_method_3_code 147 = .ok (.getfield 15, 3) := by decide +kernel
theorem d_PA_step_150 : decode prog_3_method_3_code 150 = .ok (.iload_n 1, 1) := by decide +kernel
theorem d_PA_step_151 : decode prog_3_method_3_code 151 = .ok (.lload 4, 2) := by decide +kernel
theorem d_PA_step_153 : decode prog_3_method_3_code 153 = .ok (.lastore, 1) := by decide +kernel
theorem d_PA_step_154 : decode prog_3_method_3_code 154 = .ok (.aload_n 0, 1) := by decide +kernel
theorem d_PA_step_155 : decode prog_3_method_3_code 155 = .ok (.getfield 29, 3) := by decide +kernel
theorem d_PA_step_158 : decode prog_3_method_3_code 158 = .ok (.astore 6, 2) := by decide +kernel
theorem d_PA_step_160 : decode prog_3_method_3_code 160 = .ok (.aload_n 0, 1) := by decide +kernel
theorem d_PA_step_161 : decode prog_3_method_3_code 161 = .ok (.aload_n 0, 1) := by decide +kernel
theorem d_PA_step_162 : decode prog_3_method_3_code 162 = .ok (.getfield 32, 3) := by decide +kernel
theorem d_PA_step_165 : decode prog_3_method_3_code 165 = .ok (.putfield 29, 3) := by decide +kernel
theorem d_PA_step_168 : decode prog_3_method_3_code 168 = .ok (.aload_n 0, 1) := by decide +kernel
theorem d_PA_step_169 : decode prog_3_method_3_code 169 = .ok (.aload 6, 2) := by decide +kernel
theorem d_PA_step_171 : decode prog_3_method_3_code 171 = .ok (.putfield 32, 3) := by decide +kernel
theorem d_PA_step_174 : decode prog_3_method_3_code 174 = .ok (.return_, 1) := by decide +kernel
def y_PA_firstGreatest : MethodName := ⟨"CarrierLink$Paths", "firstGreatest", "()I"⟩
theorem hd_PA_firstGreatest : y_PA_firstGreatest.cls ≠ "java/lang/invoke/MethodHandle" ∧ y_PA_firstGreatest.cls ≠ "java/lang/invoke/VarHandle" ∧ (parseMethodDescriptor y_PA_firstGreatest.desc).map (fun d => d.parameters.length) = some 0 := ⟨by decide +kernel, by decide +kernel, by decide +kernel⟩
theorem d_PA_firstGreatest_0 : decode prog_3_method_4_code 0 = .ok (.iconst 0, 1) := by decide +kernel
theorem d_PA_firstGreatest_1 : decode prog_3_method_4_code 1 = .ok (.istore_n 1, 1) := by decide +kernel
theorem d_PA_firstGreatest_2 : decode prog_3_method_4_code 2 = .ok (.iconst 1, 1) := by decide +kernel
theorem d_PA_firstGreatest_3 : decode prog_3_method_4_code 3 = .ok (.istore_n 2, 1) := by decide +kernel
theorem d_PA_firstGreatest_4 : decode prog_3_method_4_code 4 = .ok (.iload_n 2, 1) := by decide +kernel
theorem d_PA_firstGreatest_5 : decode prog_3_method_4_code 5 = .ok (.bipush 64, 2) := by decide +kernel
theorem d_PA_firstGreatest_7 : decode prog_3_method_4_code 7 = .ok (.if_icmp .ge 26, 3) := by decide +kernel
theorem d_PA_firstGreatest_10 : decode prog_3_method_4_code 10 = .ok (.aload_n 0, 1) := by decide +kernel
theorem d_PA_firstGreatest_11 : decode prog_3_method_4_code 11 = .ok (.getfield 29, 3) := by decide +kernel
theorem d_PA_firstGreatest_14 : decode prog_3_method_4_code 14 = .ok (.iload_n 2, 1) := by decide +kernel
theorem d_PA_firstGreatest_15 : decode prog_3_method_4_code 15 = .ok (.iaload, 1) := by decide +kernel
theorem d_PA_firstGreatest_16 : decode prog_3_method_4_code 16 = .ok (.aload_n 0, 1) := by decide +kernel
theorem d_PA_firstGreatest_17 : decode prog_3_method_4_code 17 = .ok (.getfield 29, 3) := by decide +kernel
theorem d_PA_firstGreatest_20 : decode prog_3_method_4_code 20 = .ok (.iload_n 1, 1) := by decide +kernel
theorem d_PA_firstGreatest_21 : decode prog_3_method_4_code 21 = .ok (.iaload, 1) := by decide +kernel
theorem d_PA_firstGreatest_22 : decode prog_3_method_4_code 22 = .ok (.if_icmp .le 5, 3) := by decide +kernel
theorem d_PA_firstGreatest_25 : decode prog_3_method_4_code 25 = .ok (.iload_n 2, 1) := by decide +kernel
theorem d_PA_firstGreatest_26 : decode prog_3_method_4_code 26 = .ok (.istore_n 1, 1) := by decide +kernel
theorem d_PA_firstGreatest_27 : decode prog_3_method_4_code 27 = .ok (.iinc 2 1, 3) := by decide +kernel
theorem d_PA_firstGreatest_30 : decode prog_3_method_4_code 30 = .ok (.goto (-26), 3) := by decide +kernel
theorem d_PA_firstGreatest_33 : decode prog_3_method_4_code 33 = .ok (.iload_n 1, 1) := by decide +kernel
theorem d_PA_firstGreatest_34 : decode prog_3_method_4_code 34 = .ok (.ireturn, 1) := by decide +kernel
def y_PA_goBack : MethodName := ⟨"CarrierLink$Paths", "goBack", "(II)V"⟩
theorem hd_PA_goBack : y_PA_goBack.cls ≠ "java/lang/invoke/MethodHandle" ∧ y_PA_goBack.cls ≠ "java/lang/invoke/VarHandle" ∧ (parseMethodDescriptor y_PA_goBack.desc).map (fun d => d.parameters.length) = some 2 := ⟨by decide +kernel, by decide +kernel, by decide +kernel⟩
theorem d_PA_goBack_0 : decode prog_3_method_5_code 0 = .ok (.iload_n 1, 1) := by decide +kernel
theorem d_PA_goBack_1 : decode prog_3_method_5_code 1 = .ok (.istore_n 3, 1) := by decide +kernel
theorem d_PA_goBack_2 : decode prog_3_method_5_code 2 = .ok (.iload_n 2, 1) := by decide +kernel
theorem d_PA_goBack_3 : decode prog_3_method_5_code 3 = .ok (.iconst 1, 1) := by decide +kernel
theorem d_PA_goBack_4 : decode prog_3_method_5_code 4 = .ok (.isub, 1) := by decide +kernel
theorem d_PA_goBack_5 : decode prog_3_method_5_code 5 = .ok (.istore 4, 2) := by decide +kernel
theorem d_PA_goBack_7 : decode prog_3_method_5_code 7 = .ok (.iload 4, 2) := by decide +kernel
theorem d_PA_goBack_9 : decode prog_3_method_5_code 9 = .ok (.ifCond .lt 39, 3) := by decide +kernel
theorem d_PA_goBack_12 : decode prog_3_method_5_code 12 = .ok (.aload_n 0, 1) := by decide +kernel
theorem d_PA_goBack_13 : decode prog_3_method_5_code 13 = .ok (.getfield 9, 3) := by decide +kernel
theorem d_PA_goBack_16 : decode prog_3_method_5_code 16 = .ok (.iload 4, 2) := by decide +kernel
theorem d_PA_goBack_18 : decode prog_3_method_5_code 18 = .ok (.iload_n 3, 1) := by decide +kernel
theorem d_PA_goBack_19 : decode prog_3_method_5_code 19 = .ok (.iconst 5, 1) := by decide +kernel
theorem d_PA_goBack_20 : decode prog_3_method_5_code 20 = .ok (.ishr, 1) := by decide +kernel
theorem d_PA_goBack_21 : decode prog_3_method_5_code 21 = .ok (.iastore, 1) := by decide +kernel
theorem d_PA_goBack_22 : decode prog_3_method_5_code 22 = .ok (.iload_n 3, 1) := by decide +kernel
theorem d_PA_goBack_23 : decode prog_3_method_5_code 23 = .ok (.bipush 31, 2) := by decide +kernel
theorem d_PA_goBack_25 : decode prog_3_method_5_code 25 = .ok (.iand, 1) := by decide +kernel
theorem d_PA_goBack_26 : decode prog_3_method_5_code 26 = .ok (.iconst 2, 1) := by decide +kernel
theorem d_PA_goBack_27 : decode prog_3_method_5_code 27 = .ok (.imul, 1) := by decide +kernel
theorem d_PA_goBack_28 : decode prog_3_method_5_code 28 = .ok (.aload_n 0, 1) := by decide +kernel
theorem d_PA_goBack_29 : decode prog_3_method_5_code 29 = .ok (.getfield 15, 3) := by decide +kernel
theorem d_PA_goBack_32 : decode prog_3_method_5_code 32 = .ok (.iload 4, 2) := by decide +kernel
theorem d_PA_goBack_34 : decode prog_3_method_5_code 34 = .ok (.laload, 1) := by decide +kernel
theorem d_PA_goBack_35 : decode prog_3_method_5_code 35 = .ok (.iload_n 3, 1) := by decide +kernel
theorem d_PA_goBack_36 : decode prog_3_method_5_code 36 = .ok (.lshr, 1) := by decide +kernel
theorem d_PA_goBack_37 : decode prog_3_method_5_code 37 = .ok (.lconst 1, 1) := by decide +kernel
theorem d_PA_goBack_38 : decode prog_3_method_5_code 38 = .ok (.land, 1) := by decide +kernel
theorem d_PA_goBack_39 : decode prog_3_method_5_code 39 = .ok (.l2i, 1) := by decide +kernel
theorem d_PA_goBack_40 : decode prog_3_method_5_code 40 = .ok (.iadd, 1) := by decide +kernel
theorem d_PA_goBack_41 : decode prog_3_method_5_code 41 = .ok (.istore_n 3, 1) := by decide +kernel
theorem d_PA_goBack_42 : decode prog_3_method_5_code 42 = .ok (.iinc 4 (-1), 3) := by decide +kernel
theorem d_PA_goBack_45 : decode prog_3_method_5_code 45 = .ok (.goto (-38), 3) := by decide +kernel
theorem d_PA_goBack_48 : decode prog_3_method_5_code 48 = .ok (.return_, 1) := by decide +kernel
