def y_SE_init : MethodName := ⟨"CarrierLink$Sender", "<init>", "(LCarrierLink$Wave;LCarrierLink$Points;)V"⟩
theorem hd_SE_init : y_SE_init.cls ≠ "java/lang/invoke/MethodHandle" ∧ y_SE_init.cls ≠ "java/lang/invoke/VarHandle" ∧ (parseMethodDescriptor y_SE_init.desc).map (fun d => d.parameters.length) = some 2 := ⟨by decide +kernel, by decide +kernel, by decide +kernel⟩
theorem d_SE_init_0 : decode prog_7_method_1_code 0 = .ok (.aload_n 0, 1) := by decide +kernel
theorem d_SE_init_1 : decode prog_7_method_1_code 1 = .ok (.invokespecial 3, 3) := by decide +kernel
theorem d_SE_init_4 : decode prog_7_method_1_code 4 = .ok (.aload_n 0, 1) := by decide +kernel
theorem d_SE_init_5 : decode prog_7_method_1_code 5 = .ok (.new 9, 3) := by decide +kernel
theorem d_SE_init_8 : decode prog_7_method_1_code 8 = .ok (.dup, 1) := by decide +kernel
theorem d_SE_init_9 : decode prog_7_method_1_code 9 = .ok (.sipush 144, 3) := by decide +kernel
theorem d_SE_init_12 : decode prog_7_method_1_code 12 = .ok (.sipush 240, 3) := by decide +kernel
theorem d_SE_init_15 : decode prog_7_method_1_code 15 = .ok (.invokespecial 11, 3) := by decide +kernel
theorem d_SE_init_18 : decode prog_7_method_1_code 18 = .ok (.putfield 14, 3) := by decide +kernel
theorem d_SE_init_21 : decode prog_7_method_1_code 21 = .ok (.aload_n 0, 1) := by decide +kernel
theorem d_SE_init_22 : decode prog_7_method_1_code 22 = .ok (.new 9, 3) := by decide +kernel
theorem d_SE_init_25 : decode prog_7_method_1_code 25 = .ok (.dup, 1) := by decide +kernel
theorem d_SE_init_26 : decode prog_7_method_1_code 26 = .ok (.bipush 18, 2) := by decide +kernel
theorem d_SE_init_28 : decode prog_7_method_1_code 28 = .ok (.bipush 36, 2) := by decide +kernel
theorem d_SE_init_30 : decode prog_7_method_1_code 30 = .ok (.invokespecial 11, 3) := by decide +kernel
theorem d_SE_init_33 : decode prog_7_method_1_code 33 = .ok (.putfield 20, 3) := by decide +kernel
theorem d_SE_init_36 : decode prog_7_method_1_code 36 = .ok (.aload_n 0, 1) := by decide +kernel
theorem d_SE_init_37 : decode prog_7_method_1_code 37 = .ok (.aload_n 1, 1) := by decide +kernel
theorem d_SE_init_38 : decode prog_7_method_1_code 38 = .ok (.putfield 23, 3) := by decide +kernel
theorem d_SE_init_41 : decode prog_7_method_1_code 41 = .ok (.aload_n 0, 1) := by decide +kernel
theorem d_SE_init_42 : decode prog_7_method_1_code 42 = .ok (.aload_n 2, 1) := by decide +kernel
theorem d_SE_init_43 : decode prog_7_method_1_code 43 = .ok (.putfield 27, 3) := by decide +kernel
theorem d_SE_init_46 : decode prog_7_method_1_code 46 = .ok (.aload_n 0, 1) := by decide +kernel
theorem d_SE_init_47 : decode prog_7_method_1_code 47 = .ok (.new 31, 3) := by decide +kernel
theorem d_SE_init_50 : decode prog_7_method_1_code 50 = .ok (.dup, 1) := by decide +kernel
theorem d_SE_init_51 : decode prog_7_method_1_code 51 = .ok (.invokespecial 33, 3) := by decide +kernel
theorem d_SE_init_54 : decode prog_7_method_1_code 54 = .ok (.putfield 34, 3) := by decide +kernel
theorem d_SE_init_57 : decode prog_7_method_1_code 57 = .ok (.aload_n 0, 1) := by decide +kernel
theorem d_SE_init_58 : decode prog_7_method_1_code 58 = .ok (.new 37, 3) := by decide +kernel
theorem d_SE_init_61 : decode prog_7_method_1_code 61 = .ok (.dup, 1) := by decide +kernel
theorem d_SE_init_62 : decode prog_7_method_1_code 62 = .ok (.invokespecial 39, 3) := by decide +kernel
theorem d_SE_init_65 : decode prog_7_method_1_code 65 = .ok (.putfield 40, 3) := by decide +kernel
theorem d_SE_init_68 : decode prog_7_method_1_code 68 = .ok (.aload_n 0, 1) := by decide +kernel
theorem d_SE_init_69 : decode prog_7_method_1_code 69 = .ok (.new 37, 3) := by decide +kernel
theorem d_SE_init_72 : decode prog_7_method_1_code 72 = .ok (.dup, 1) := by decide +kernel
theorem d_SE_init_73 : decode prog_7_method_1_code 73 = .ok (.invokespecial 39, 3) := by decide +kernel
theorem d_SE_init_76 : decode prog_7_method_1_code 76 = .ok (.putfield 44, 3) := by decide +kernel
theorem d_SE_init_79 : decode prog_7_method_1_code 79 = .ok (.return_, 1) := by decide +kernel
def y_SE_makeFrame : MethodName := ⟨"CarrierLink$Sender", "makeFrame", "([IIII)V"⟩
theorem hd_SE_makeFrame : y_SE_makeFrame.cls ≠ "java/lang/invoke/MethodHandle" ∧ y_SE_makeFrame.cls ≠ "java/lang/invoke/VarHandle" ∧ (parseMethodDescriptor y_SE_makeFrame.desc).map (fun d => d.parameters.length) = some 4 := ⟨by decide +kernel, by decide +kernel, by decide +kernel⟩
theorem d_SE_makeFrame_0 : decode prog_7_method_2_code 0 = .ok (.aload_n 0, 1) := by decide +kernel
theorem d_SE_makeFrame_1 : decode prog_7_method_2_code 1 = .ok (.getfield 23, 3) := by decide +kernel
theorem d_SE_makeFrame_4 : decode prog_7_method_2_code 4 = .ok (.invokevirtual 47, 3) := by decide +kernel
theorem d_SE_makeFrame_7 : decode prog_7_method_2_code 7 = .ok (.aload_n 0, 1) := by decide +kernel
theorem d_SE_makeFrame_8 : decode prog_7_method_2_code 8 = .ok (.getfield 44, 3) := by decide +kernel
theorem d_SE_makeFrame_11 : decode prog_7_method_2_code 11 = .ok (.bipush 127, 2) := by decide +kernel
theorem d_SE_makeFrame_13 : decode prog_7_method_2_code 13 = .ok (.invokevirtual 52, 3) := by decide +kernel
theorem d_SE_makeFrame_16 : decode prog_7_method_2_code 16 = .ok (.aload_n 0, 1) := by decide +kernel
theorem d_SE_makeFrame_17 : decode prog_7_method_2_code 17 = .ok (.invokevirtual 56, 3) := by decide +kernel
theorem d_SE_makeFrame_20 : decode prog_7_method_2_code 20 = .ok (.aload_n 0, 1) := by decide +kernel
theorem d_SE_makeFrame_21 : decode prog_7_method_2_code 21 = .ok (.iload_n 3, 1) := by decide +kernel
theorem d_SE_makeFrame_22 : decode prog_7_method_2_code 22 = .ok (.iload_n 2, 1) := by decide +kernel
theorem d_SE_makeFrame_23 : decode prog_7_method_2_code 23 = .ok (.invokevirtual 59, 3) := by decide +kernel
theorem d_SE_makeFrame_26 : decode prog_7_method_2_code 26 = .ok (.aload_n 0, 1) := by decide +kernel
theorem d_SE_makeFrame_27 : decode prog_7_method_2_code 27 = .ok (.aload_n 0, 1) := by decide +kernel
theorem d_SE_makeFrame_28 : decode prog_7_method_2_code 28 = .ok (.getfield 20, 3) := by decide +kernel
theorem d_SE_makeFrame_31 : decode prog_7_method_2_code 31 = .ok (.iconst 0, 1) := by decide +kernel
theorem d_SE_makeFrame_32 : decode prog_7_method_2_code 32 = .ok (.invokevirtual 62, 3) := by decide +kernel
theorem d_SE_makeFrame_35 : decode prog_7_method_2_code 35 = .ok (.aload_n 0, 1) := by decide +kernel
theorem d_SE_makeFrame_36 : decode prog_7_method_2_code 36 = .ok (.aload_n 1, 1) := by decide +kernel
theorem d_SE_makeFrame_37 : decode prog_7_method_2_code 37 = .ok (.iload_n 2, 1) := by decide +kernel
theorem d_SE_makeFrame_38 : decode prog_7_method_2_code 38 = .ok (.iload_n 3, 1) := by decide +kernel
theorem d_SE_makeFrame_39 : decode prog_7_method_2_code 39 = .ok (.iload 4, 2) := by decide +kernel
theorem d_SE_makeFrame_41 : decode prog_7_method_2_code 41 = .ok (.invokevirtual 66, 3) := by decide +kernel
theorem d_SE_makeFrame_44 : decode prog_7_method_2_code 44 = .ok (.aload_n 0, 1) := by decide +kernel
theorem d_SE_makeFrame_45 : decode prog_7_method_2_code 45 = .ok (.aload_n 0, 1) := by decide +kernel
theorem d_SE_makeFrame_46 : decode prog_7_method_2_code 46 = .ok (.getfield 14, 3) := by decide +kernel
theorem d_SE_makeFrame_49 : decode prog_7_method_2_code 49 = .ok (.iload_n 3, 1) := by decide +kernel
theorem d_SE_makeFrame_50 : decode prog_7_method_2_code 50 = .ok (.invokevirtual 62, 3) := by decide +kernel
theorem d_SE_makeFrame_53 : decode prog_7_method_2_code 53 = .ok (.return_, 1) := by decide +kernel
def y_SE_appendTraining : MethodName := ⟨"CarrierLink$Sender", "appendTraining", "()V"⟩
theorem hd_SE_appendTraining : y_SE_appendTraining.cls ≠ "java/lang/invoke/MethodHandle" ∧ y_SE_appendTraining.cls ≠ "java/lang/invoke/VarHandle" ∧ (parseMethodDescriptor y_SE_appendTraining.desc).map (fun d => d.parameters.length) = some 0 := ⟨by decide +kernel, by decide +kernel, by decide +kernel⟩
theorem d_SE_appendTraining_0 : decode prog_7_method_3_code 0 = .ok (.aload_n 0, 1) := by decide +kernel
theorem d_SE_appendTraining_1 : decode prog_7_method_3_code 1 = .ok (.aload_n 0, 1) := by decide +kernel
theorem d_SE_appendTraining_2 : decode prog_7_method_3_code 2 = .ok (.getfield 27, 3) := by decide +kernel
theorem d_SE_appendTraining_5 : decode prog_7_method_3_code 5 = .ok (.bipush 8, 2) := by decide +kernel
theorem d_SE_appendTraining_7 : decode prog_7_method_3_code 7 = .ok (.invokevirtual 70, 3) := by decide +kernel
theorem d_SE_appendTraining_10 : decode prog_7_method_3_code 10 = .ok (.aload_n 0, 1) := by decide +kernel
theorem d_SE_appendTraining_11 : decode prog_7_method_3_code 11 = .ok (.aload_n 0, 1) := by decide +kernel
theorem d_SE_appendTraining_12 : decode prog_7_method_3_code 12 = .ok (.getfield 27, 3) := by decide +kernel
theorem d_SE_appendTraining_15 : decode prog_7_method_3_code 15 = .ok (.iconst 0, 1) := by decide +kernel
theorem d_SE_appendTraining_16 : decode prog_7_method_3_code 16 = .ok (.invokevirtual 70, 3) := by decide +kernel
theorem d_SE_appendTraining_19 : decode prog_7_method_3_code 19 = .ok (.aload_n 0, 1) := by decide +kernel
theorem d_SE_appendTraining_20 : decode prog_7_method_3_code 20 = .ok (.aload_n 0, 1) := by decide +kernel
theorem d_SE_appendTraining_21 : decode prog_7_method_3_code 21 = .ok (.getfield 27, 3) := by decide +kernel
theorem d_SE_appendTraining_24 : decode prog_7_method_3_code 24 = .ok (.iconst 0, 1) := by decide +kernel
theorem d_SE_appendTraining_25 : decode prog_7_method_3_code 25 = .ok (.invokevirtual 70, 3) := by decide +kernel
theorem d_SE_appendTraining_28 : decode prog_7_method_3_code 28 = .ok (.return_, 1) := by decide +kernel
def y_SE_appendPoints : MethodName := ⟨"CarrierLink$Sender", "appendPoints", "(LCarrierLink$Points;I)V"⟩
theorem hd_SE_appendPoints : y_SE_appendPoints.cls ≠ "java/lang/invoke/MethodHandle" ∧ y_SE_appendPoints.cls ≠ "java/lang/invoke/VarHandle" ∧ (parseMethodDescriptor y_SE_appendPoints.desc).map (fun d => d.parameters.length) = some 2 := ⟨by decide +kernel, by decide +kernel, by decide +kernel⟩
theorem d_SE_appendPoints_0 : decode prog_7_method_4_code 0 = .ok (.iload_n 2, 1) := by decide +kernel
theorem d_SE_appendPoints_1 : decode prog_7_method_4_code 1 = .ok (.istore_n 3, 1) := by decide +kernel
theorem d_SE_appendPoints_2 : decode prog_7_method_4_code 2 = .ok (.iload_n 3, 1) := by decide +kernel
theorem d_SE_appendPoints_3 : decode prog_7_method_4_code 3 = .ok (.bipush 16, 2) := by decide +kernel
theorem d_SE_appendPoints_5 : decode prog_7_method_4_code 5 = .ok (.if_icmp .ge 28, 3) := by decide +kernel
theorem d_SE_appendPoints_8 : decode prog_7_method_4_code 8 = .ok (.aload_n 0, 1) := by decide +kernel
theorem d_SE_appendPoints_9 : decode prog_7_method_4_code 9 = .ok (.getfield 23, 3) := by decide +kernel
theorem d_SE_appendPoints_12 : decode prog_7_method_4_code 12 = .ok (.aload_n 1, 1) := by decide +kernel
theorem d_SE_appendPoints_13 : decode prog_7_method_4_code 13 = .ok (.getfield 74, 3) := by decide +kernel
theorem d_SE_appendPoints_16 : decode prog_7_method_4_code 16 = .ok (.iload_n 3, 1) := by decide +kernel
theorem d_SE_appendPoints_17 : decode prog_7_method_4_code 17 = .ok (.iaload, 1) := by decide +kernel
theorem d_SE_appendPoints_18 : decode prog_7_method_4_code 18 = .ok (.aload_n 1, 1) := by decide +kernel
theorem d_SE_appendPoints_19 : decode prog_7_method_4_code 19 = .ok (.getfield 78, 3) := by decide +kernel
theorem d_SE_appendPoints_22 : decode prog_7_method_4_code 22 = .ok (.iload_n 3, 1) := by decide +kernel
theorem d_SE_appendPoints_23 : decode prog_7_method_4_code 23 = .ok (.iaload, 1) := by decide +kernel
theorem d_SE_appendPoints_24 : decode prog_7_method_4_code 24 = .ok (.invokevirtual 81, 3) := by decide +kernel
theorem d_SE_appendPoints_27 : decode prog_7_method_4_code 27 = .ok (.iinc 3 1, 3) := by decide +kernel
theorem d_SE_appendPoints_30 : decode prog_7_method_4_code 30 = .ok (.goto (-28), 3) := by decide +kernel
theorem d_SE_appendPoints_33 : decode prog_7_method_4_code 33 = .ok (.return_, 1) := by decide +kernel
def y_SE_writeSignal : MethodName := ⟨"CarrierLink$Sender", "writeSignal", "(II)V"⟩
theorem hd_SE_writeSignal : y_SE_writeSignal.cls ≠ "java/lang/invoke/MethodHandle" ∧ y_SE_writeSignal.cls ≠ "java/lang/invoke/VarHandle" ∧ (parseMethodDescriptor y_SE_writeSignal.desc).map (fun d => d.parameters.length) = some 2 := ⟨by decide +kernel, by decide +kernel, by decide +kernel⟩
theorem d_SE_writeSignal_0 : decode prog_7_method_5_code 0 = .ok (.aload_n 0, 1) := by decide +kernel
theorem d_SE_writeSignal_1 : decode prog_7_method_5_code 1 = .ok (.getfield 20, 3) := by decide +kernel
theorem d_SE_writeSignal_4 : decode prog_7_method_5_code 4 = .ok (.invokevirtual 84, 3) := by decide +kernel
theorem d_SE_writeSignal_7 : decode prog_7_method_5_code 7 = .ok (.aload_n 0, 1) := by decide +kernel
theorem d_SE_writeSignal_8 : decode prog_7_method_5_code 8 = .ok (.getfield 20, 3) := by decide +kernel
theorem d_SE_writeSignal_11 : decode prog_7_method_5_code 11 = .ok (.iload_n 1, 1) := by decide +kernel
theorem d_SE_writeSignal_12 : decode prog_7_method_5_code 12 = .ok (.iconst 2, 1) := by decide +kernel
theorem d_SE_writeSignal_13 : decode prog_7_method_5_code 13 = .ok (.invokevirtual 85, 3) := by decide +kernel
theorem d_SE_writeSignal_16 : decode prog_7_method_5_code 16 = .ok (.aload_n 0, 1) := by decide +kernel
theorem d_SE_writeSignal_17 : decode prog_7_method_5_code 17 = .ok (.getfield 20, 3) := by decide +kernel
theorem d_SE_writeSignal_20 : decode prog_7_method_5_code 20 = .ok (.iload_n 2, 1) := by decide +kernel
theorem d_SE_writeSignal_21 : decode prog_7_method_5_code 21 = .ok (.iconst 4, 1) := by decide +kernel
theorem d_SE_writeSignal_22 : decode prog_7_method_5_code 22 = .ok (.invokevirtual 85, 3) := by decide +kernel
theorem d_SE_writeSignal_25 : decode prog_7_method_5_code 25 = .ok (.aload_n 0, 1) := by decide +kernel
theorem d_SE_writeSignal_26 : decode prog_7_method_5_code 26 = .ok (.getfield 20, 3) := by decide +kernel
theorem d_SE_writeSignal_29 : decode prog_7_method_5_code 29 = .ok (.iload_n 1, 1) := by decide +kernel
theorem d_SE_writeSignal_30 : decode prog_7_method_5_code 30 = .ok (.invokestatic 88, 3) := by decide +kernel
theorem d_SE_writeSignal_33 : decode prog_7_method_5_code 33 = .ok (.iload_n 2, 1) := by decide +kernel
theorem d_SE_writeSignal_34 : decode prog_7_method_5_code 34 = .ok (.invokestatic 88, 3) := by decide +kernel
theorem d_SE_writeSignal_37 : decode prog_7_method_5_code 37 = .ok (.iadd, 1) := by decide +kernel
theorem d_SE_writeSignal_38 : decode prog_7_method_5_code 38 = .ok (.iconst 1, 1) := by decide +kernel
theorem d_SE_writeSignal_39 : decode prog_7_method_5_code 39 = .ok (.iand, 1) := by decide +kernel
theorem d_SE_writeSignal_40 : decode prog_7_method_5_code 40 = .ok (.invokevirtual 94, 3) := by decide +kernel
theorem d_SE_writeSignal_43 : decode prog_7_method_5_code 43 = .ok (.aload_n 0, 1) := by decide +kernel
theorem d_SE_writeSignal_44 : decode prog_7_method_5_code 44 = .ok (.getfield 20, 3) := by decide +kernel
theorem d_SE_writeSignal_47 : decode prog_7_method_5_code 47 = .ok (.bipush 11, 2) := by decide +kernel
theorem d_SE_writeSignal_49 : decode prog_7_method_5_code 49 = .ok (.invokevirtual 96, 3) := by decide +kernel
theorem d_SE_writeSignal_52 : decode prog_7_method_5_code 52 = .ok (.aload_n 0, 1) := by decide +kernel
theorem d_SE_writeSignal_53 : decode prog_7_method_5_code 53 = .ok (.getfield 20, 3) := by decide +kernel
theorem d_SE_writeSignal_56 : decode prog_7_method_5_code 56 = .ok (.iconst 0, 1) := by decide +kernel
theorem d_SE_writeSignal_57 : decode prog_7_method_5_code 57 = .ok (.invokevirtual 99, 3) := by decide +kernel
theorem d_SE_writeSignal_60 : decode prog_7_method_5_code 60 = .ok (.return_, 1) := by decide +kernel
def y_SE_appendSymbols : MethodName := ⟨"CarrierLink$Sender", "appendSymbols", "(LCarrierLink$BitRows;I)V"⟩
theorem hd_SE_appendSymbols : y_SE_appendSymbols.cls ≠ "java/lang/invoke/MethodHandle" ∧ y_SE_appendSymbols.cls ≠ "java/lang/invoke/VarHandle" ∧ (parseMethodDescriptor y_SE_appendSymbols.desc).map (fun d => d.parameters.length) = some 2 := ⟨by decide +kernel, by decide +kernel, by decide +kernel⟩
theorem d_SE_appendSymbols_0 : decode prog_7_method_8_code 0 = .ok (.getstatic 123, 3) := by decide +kernel
theorem d_SE_appendSymbols_3 : decode prog_7_method_8_code 3 = .ok (.iload_n 2, 1) := by decide +kernel
theorem d_SE_appendSymbols_4 : decode prog_7_method_8_code 4 = .ok (.iaload, 1) := by decide +kernel
theorem d_SE_appendSymbols_5 : decode prog_7_method_8_code 5 = .ok (.istore_n 3, 1) := by decide +kernel
theorem d_SE_appendSymbols_6 : decode prog_7_method_8_code 6 = .ok (.bipush 12, 2) := by decide +kernel
theorem d_SE_appendSymbols_8 : decode prog_7_method_8_code 8 = .ok (.iload_n 3, 1) := by decide +kernel
theorem d_SE_appendSymbols_9 : decode prog_7_method_8_code 9 = .ok (.imul, 1) := by decide +kernel
theorem d_SE_appendSymbols_10 : decode prog_7_method_8_code 10 = .ok (.istore 4, 2) := by decide +kernel
theorem d_SE_appendSymbols_12 : decode prog_7_method_8_code 12 = .ok (.iconst 0, 1) := by decide +kernel
theorem d_SE_appendSymbols_13 : decode prog_7_method_8_code 13 = .ok (.istore 5, 2) := by decide +kernel
theorem d_SE_appendSymbols_15 : decode prog_7_method_8_code 15 = .ok (.iload 5, 2) := by decide +kernel
theorem d_SE_appendSymbols_17 : decode prog_7_method_8_code 17 = .ok (.iload 4, 2) := by decide +kernel
theorem d_SE_appendSymbols_19 : decode prog_7_method_8_code 19 = .ok (.iadd, 1) := by decide +kernel
theorem d_SE_appendSymbols_20 : decode prog_7_method_8_code 20 = .ok (.aload_n 1, 1) := by decide +kernel
theorem d_SE_appendSymbols_21 : decode prog_7_method_8_code 21 = .ok (.getfield 126, 3) := by decide +kernel
theorem d_SE_appendSymbols_24 : decode prog_7_method_8_code 24 = .ok (.if_icmp .gt 89, 3) := by decide +kernel
theorem d_SE_appendSymbols_27 : decode prog_7_method_8_code 27 = .ok (.aload_n 0, 1) := by decide +kernel
theorem d_SE_appendSymbols_28 : decode prog_7_method_8_code 28 = .ok (.getfield 34, 3) := by decide +kernel
theorem d_SE_appendSymbols_31 : decode prog_7_method_8_code 31 = .ok (.invokevirtual 129, 3) := by decide +kernel
theorem d_SE_appendSymbols_34 : decode prog_7_method_8_code 34 = .ok (.iconst 0, 1) := by decide +kernel
theorem d_SE_appendSymbols_35 : decode prog_7_method_8_code 35 = .ok (.istore 6, 2) := by decide +kernel
theorem d_SE_appendSymbols_37 : decode prog_7_method_8_code 37 = .ok (.iload 6, 2) := by decide +kernel
theorem d_SE_appendSymbols_39 : decode prog_7_method_8_code 39 = .ok (.bipush 12, 2) := by decide +kernel
theorem d_SE_appendSymbols_41 : decode prog_7_method_8_code 41 = .ok (.if_icmp .ge 31, 3) := by decide +kernel
theorem d_SE_appendSymbols_44 : decode prog_7_method_8_code 44 = .ok (.aload_n 0, 1) := by decide +kernel
theorem d_SE_appendSymbols_45 : decode prog_7_method_8_code 45 = .ok (.getstatic 130, 3) := by decide +kernel
theorem d_SE_appendSymbols_48 : decode prog_7_method_8_code 48 = .ok (.iload 6, 2) := by decide +kernel
theorem d_SE_appendSymbols_50 : decode prog_7_method_8_code 50 = .ok (.iaload, 1) := by decide +kernel
theorem d_SE_appendSymbols_51 : decode prog_7_method_8_code 51 = .ok (.aload_n 1, 1) := by decide +kernel
theorem d_SE_appendSymbols_52 : decode prog_7_method_8_code 52 = .ok (.getfield 133, 3) := by decide +kernel
theorem d_SE_appendSymbols_55 : decode prog_7_method_8_code 55 = .ok (.iload 5, 2) := by decide +kernel
theorem d_SE_appendSymbols_57 : decode prog_7_method_8_code 57 = .ok (.iload_n 3, 1) := by decide +kernel
theorem d_SE_appendSymbols_58 : decode prog_7_method_8_code 58 = .ok (.iload 6, 2) := by decide +kernel
theorem d_SE_appendSymbols_60 : decode prog_7_method_8_code 60 = .ok (.imul, 1) := by decide +kernel
theorem d_SE_appendSymbols_61 : decode prog_7_method_8_code 61 = .ok (.iadd, 1) := by decide +kernel
theorem d_SE_appendSymbols_62 : decode prog_7_method_8_code 62 = .ok (.iload_n 3, 1) := by decide +kernel
theorem d_SE_appendSymbols_63 : decode prog_7_method_8_code 63 = .ok (.invokevirtual 136, 3) := by decide +kernel
theorem d_SE_appendSymbols_66 : decode prog_7_method_8_code 66 = .ok (.iinc 6 1, 3) := by decide +kernel
theorem d_SE_appendSymbols_69 : decode prog_7_method_8_code 69 = .ok (.goto (-32), 3) := by decide +kernel
theorem d_SE_appendSymbols_72 : decode prog_7_method_8_code 72 = .ok (.aload_n 0, 1) := by decide +kernel
theorem d_SE_appendSymbols_73 : decode prog_7_method_8_code 73 = .ok (.invokevirtual 140, 3) := by decide +kernel
theorem d_SE_appendSymbols_76 : decode prog_7_method_8_code 76 = .ok (.aload_n 0, 1) := by decide +kernel
theorem d_SE_appendSymbols_77 : decode prog_7_method_8_code 77 = .ok (.getfield 34, 3) := by decide +kernel
theorem d_SE_appendSymbols_80 : decode prog_7_method_8_code 80 = .ok (.iconst 1, 1) := by decide +kernel
theorem d_SE_appendSymbols_81 : decode prog_7_method_8_code 81 = .ok (.invokevirtual 143, 3) := by decide +kernel
theorem d_SE_appendSymbols_84 : decode prog_7_method_8_code 84 = .ok (.aload_n 0, 1) := by decide +kernel
theorem d_SE_appendSymbols_85 : decode prog_7_method_8_code 85 = .ok (.aload_n 0, 1) := by decide +kernel
theorem d_SE_appendSymbols_86 : decode prog_7_method_8_code 86 = .ok (.getfield 34, 3) := by decide +kernel
theorem d_SE_appendSymbols_89 : decode prog_7_method_8_code 89 = .ok (.bipush 12, 2) := by decide +kernel
theorem d_SE_appendSymbols_91 : decode prog_7_method_8_code 91 = .ok (.invokevirtual 70, 3) := by decide +kernel
theorem d_SE_appendSymbols_94 : decode prog_7_method_8_code 94 = .ok (.aload_n 0, 1) := by decide +kernel
theorem d_SE_appendSymbols_95 : decode prog_7_method_8_code 95 = .ok (.aload_n 0, 1) := by decide +kernel
theorem d_SE_appendSymbols_96 : decode prog_7_method_8_code 96 = .ok (.getfield 34, 3) := by decide +kernel
theorem d_SE_appendSymbols_99 : decode prog_7_method_8_code 99 = .ok (.iconst 0, 1) := by decide +kernel
theorem d_SE_appendSymbols_100 : decode prog_7_method_8_code 100 = .ok (.invokevirtual 70, 3) := by decide +kernel
theorem d_SE_appendSymbols_103 : decode prog_7_method_8_code 103 = .ok (.iload 5, 2) := by decide +kernel
theorem d_SE_appendSymbols_105 : decode prog_7_method_8_code 105 = .ok (.iload 4, 2) := by decide +kernel
theorem d_SE_appendSymbols_107 : decode prog_7_method_8_code 107 = .ok (.iadd, 1) := by decide +kernel
theorem d_SE_appendSymbols_108 : decode prog_7_method_8_code 108 = .ok (.istore 5, 2) := by decide +kernel
theorem d_SE_appendSymbols_110 : decode prog_7_method_8_code 110 = .ok (.goto (-95), 3) := by decide +kernel
theorem d_SE_appendSymbols_113 : decode prog_7_method_8_code 113 = .ok (.return_, 1) := by decide +kernel
def y_SE_mapCarrier : MethodName := ⟨"CarrierLink$Sender", "mapCarrier", "(I[III)V"⟩
theorem hd_SE_mapCarrier : y_SE_mapCarrier.cls ≠ "java/lang/invoke/MethodHandle" ∧ y_SE_mapCarrier.cls ≠ "java/lang/invoke/VarHandle" ∧ (parseMethodDescriptor y_SE_mapCarrier.desc).map (fun d => d.parameters.length) = some 4 := ⟨by decide +kernel, by decide +kernel, by decide +kernel⟩
theorem d_SE_mapCarrier_0 : decode prog_7_method_9_code 0 = .ok (.iload 4, 2) := by decide +kernel
theorem d_SE_mapCarrier_2 : decode prog_7_method_9_code 2 = .ok (.iconst 1, 1) := by decide +kernel
theorem d_SE_mapCarrier_3 : decode prog_7_method_9_code 3 = .ok (.if_icmp .ne 31, 3) := by decide +kernel
theorem d_SE_mapCarrier_6 : decode prog_7_method_9_code 6 = .ok (.aload_n 0, 1) := by decide +kernel
theorem d_SE_mapCarrier_7 : decode prog_7_method_9_code 7 = .ok (.getfield 34, 3) := by decide +kernel
theorem d_SE_mapCarrier_10 : decode prog_7_method_9_code 10 = .ok (.getfield 74, 3) := by decide +kernel
theorem d_SE_mapCarrier_13 : decode prog_7_method_9_code 13 = .ok (.iload_n 1, 1) := by decide +kernel
theorem d_SE_mapCarrier_14 : decode prog_7_method_9_code 14 = .ok (.aload_n 2, 1) := by decide +kernel
theorem d_SE_mapCarrier_15 : decode prog_7_method_9_code 15 = .ok (.iload_n 3, 1) := by decide +kernel
theorem d_SE_mapCarrier_16 : decode prog_7_method_9_code 16 = .ok (.iaload, 1) := by decide +kernel
theorem d_SE_mapCarrier_17 : decode prog_7_method_9_code 17 = .ok (.iconst 1, 1) := by decide +kernel
theorem d_SE_mapCarrier_18 : decode prog_7_method_9_code 18 = .ok (.if_icmp .ne 9, 3) := by decide +kernel
theorem d_SE_mapCarrier_21 : decode prog_7_method_9_code 21 = .ok (.sipush 1024, 3) := by decide +kernel
theorem d_SE_mapCarrier_24 : decode prog_7_method_9_code 24 = .ok (.goto 6, 3) := by decide +kernel
theorem d_SE_mapCarrier_27 : decode prog_7_method_9_code 27 = .ok (.sipush (-1024), 3) := by decide +kernel
theorem d_SE_mapCarrier_30 : decode prog_7_method_9_code 30 = .ok (.iastore, 1) := by decide +kernel
theorem d_SE_mapCarrier_31 : decode prog_7_method_9_code 31 = .ok (.goto 114, 3) := by decide +kernel
theorem d_SE_mapCarrier_34 : decode prog_7_method_9_code 34 = .ok (.iload 4, 2) := by decide +kernel
theorem d_SE_mapCarrier_36 : decode prog_7_method_9_code 36 = .ok (.iconst 2, 1) := by decide +kernel
theorem d_SE_mapCarrier_37 : decode prog_7_method_9_code 37 = .ok (.if_icmp .ne 58, 3) := by decide +kernel
theorem d_SE_mapCarrier_40 : decode prog_7_method_9_code 40 = .ok (.aload_n 0, 1) := by decide +kernel
theorem d_SE_mapCarrier_41 : decode prog_7_method_9_code 41 = .ok (.getfield 34, 3) := by decide +kernel
theorem d_SE_mapCarrier_44 : decode prog_7_method_9_code 44 = .ok (.getfield 74, 3) := by decide +kernel
theorem d_SE_mapCarrier_47 : decode prog_7_method_9_code 47 = .ok (.iload_n 1, 1) := by decide +kernel
theorem d_SE_mapCarrier_48 : decode prog_7_method_9_code 48 = .ok (.aload_n 2, 1) := by decide +kernel
theorem d_SE_mapCarrier_49 : decode prog_7_method_9_code 49 = .ok (.iload_n 3, 1) := by decide +kernel
theorem d_SE_mapCarrier_50 : decode prog_7_method_9_code 50 = .ok (.iaload, 1) := by decide +kernel
theorem d_SE_mapCarrier_51 : decode prog_7_method_9_code 51 = .ok (.iconst 1, 1) := by decide +kernel
theorem d_SE_mapCarrier_52 : decode prog_7_method_9_code 52 = .ok (.if_icmp .ne 9, 3) := by decide +kernel
theorem d_SE_mapCarrier_55 : decode prog_7_method_9_code 55 = .ok (.sipush 724, 3) := by decide +kernel
theorem d_SE_mapCarrier_58 : decode prog_7_method_9_code 58 = .ok (.goto 6, 3) := by decide +kernel
theorem d_SE_mapCarrier_61 : decode prog_7_method_9_code 61 = .ok (.sipush (-724), 3) := by decide +kernel
theorem d_SE_mapCarrier_64 : decode prog_7_method_9_code 64 = .ok (.iastore, 1) := by decide +kernel
theorem d_SE_mapCarrier_65 : decode prog_7_method_9_code 65 = .ok (.aload_n 0, 1) := by decide +kernel
theorem d_SE_mapCarrier_66 : decode prog_7_method_9_code 66 = .ok (.getfield 34, 3) := by decide +kernel
theorem d_SE_mapCarrier_69 : decode prog_7_method_9_code 69 = .ok (.getfield 78, 3) := by decide +kernel
theorem d_SE_mapCarrier_72 : decode prog_7_method_9_code 72 = .ok (.iload_n 1, 1) := by decide +kernel
theorem d_SE_mapCarrier_73 : decode prog_7_method_9_code 73 = .ok (.aload_n 2, 1) := by decide +kernel
theorem d_SE_mapCarrier_74 : decode prog_7_method_9_code 74 = .ok (.iload_n 3, 1) := by decide +kernel
theorem d_SE_mapCarrier_75 : decode prog_7_method_9_code 75 = .ok (.iconst 1, 1) := by decide +kernel
theorem d_SE_mapCarrier_76 : decode prog_7_method_9_code 76 = .ok (.iadd, 1) := by decide +kernel
theorem d_SE_mapCarrier_77 : decode prog_7_method_9_code 77 = .ok (.iaload, 1) := by decide +kernel
theorem d_SE_mapCarrier_78 : decode prog_7_method_9_code 78 = .ok (.iconst 1, 1) := by decide +kernel
theorem d_SE_mapCarrier_79 : decode prog_7_method_9_code 79 = .ok (.if_icmp .ne 9, 3) := by decide +kernel
theorem d_SE_mapCarrier_82 : decode prog_7_method_9_code 82 = .ok (.sipush 724, 3) := by decide +kernel
theorem d_SE_mapCarrier_85 : decode prog_7_method_9_code 85 = .ok (.goto 6, 3) := by decide +kernel
theorem d_SE_mapCarrier_88 : decode prog_7_method_9_code 88 = .ok (.sipush (-724), 3) := by decide +kernel
theorem d_SE_mapCarrier_91 : decode prog_7_method_9_code 91 = .ok (.iastore, 1) := by decide +kernel
theorem d_SE_mapCarrier_92 : decode prog_7_method_9_code 92 = .ok (.goto 53, 3) := by decide +kernel
theorem d_SE_mapCarrier_95 : decode prog_7_method_9_code 95 = .ok (.aload_n 0, 1) := by decide +kernel
theorem d_SE_mapCarrier_96 : decode prog_7_method_9_code 96 = .ok (.getfield 34, 3) := by decide +kernel
theorem d_SE_mapCarrier_99 : decode prog_7_method_9_code 99 = .ok (.getfield 74, 3) := by decide +kernel
theorem d_SE_mapCarrier_102 : decode prog_7_method_9_code 102 = .ok (.iload_n 1, 1) := by decide +kernel
theorem d_SE_mapCarrier_103 : decode prog_7_method_9_code 103 = .ok (.getstatic 146, 3) := by decide +kernel
theorem d_SE_mapCarrier_106 : decode prog_7_method_9_code 106 = .ok (.aload_n 2, 1) := by decide +kernel
theorem d_SE_mapCarrier_107 : decode prog_7_method_9_code 107 = .ok (.iload_n 3, 1) := by decide +kernel
theorem d_SE_mapCarrier_108 : decode prog_7_method_9_code 108 = .ok (.iaload, 1) := by decide +kernel
theorem d_SE_mapCarrier_109 : decode prog_7_method_9_code 109 = .ok (.iconst 2, 1) := by decide +kernel
theorem d_SE_mapCarrier_110 : decode prog_7_method_9_code 110 = .ok (.imul, 1) := by decide +kernel
theorem d_SE_mapCarrier_111 : decode prog_7_method_9_code 111 = .ok (.aload_n 2, 1) := by decide +kernel
theorem d_SE_mapCarrier_112 : decode prog_7_method_9_code 112 = .ok (.iload_n 3, 1) := by decide +kernel
theorem d_SE_mapCarrier_113 : decode prog_7_method_9_code 113 = .ok (.iconst 1, 1) := by decide +kernel
theorem d_SE_mapCarrier_114 : decode prog_7_method_9_code 114 = .ok (.iadd, 1) := by decide +kernel
theorem d_SE_mapCarrier_115 : decode prog_7_method_9_code 115 = .ok (.iaload, 1) := by decide +kernel
theorem d_SE_mapCarrier_116 : decode prog_7_method_9_code 116 = .ok (.iadd, 1) := by decide +kernel
theorem d_SE_mapCarrier_117 : decode prog_7_method_9_code 117 = .ok (.iaload, 1) := by decide +kernel
theorem d_SE_mapCarrier_118 : decode prog_7_method_9_code 118 = .ok (.iastore, 1) := by decide +kernel
theorem d_SE_mapCarrier_119 : decode prog_7_method_9_code 119 = .ok (.aload_n 0, 1) := by decide +kernel
theorem d_SE_mapCarrier_120 : decode prog_7_method_9_code 120 = .ok (.getfield 34, 3) := by decide +kernel
theorem d_SE_mapCarrier_123 : decode prog_7_method_9_code 123 = .ok (.getfield 78, 3) := by decide +kernel
theorem d_SE_mapCarrier_126 : decode prog_7_method_9_code 126 = .ok (.iload_n 1, 1) := by decide +kernel
theorem d_SE_mapCarrier_127 : decode prog_7_method_9_code 127 = .ok (.getstatic 146, 3) := by decide +kernel
theorem d_SE_mapCarrier_130 : decode prog_7_method_9_code 130 = .ok (.aload_n 2, 1) := by decide +kernel
theorem d_SE_mapCarrier_131 : decode prog_7_method_9_code 131 = .ok (.iload_n 3, 1) := by decide +kernel
theorem d_SE_mapCarrier_132 : decode prog_7_method_9_code 132 = .ok (.iconst 2, 1) := by decide +kernel
theorem d_SE_mapCarrier_133 : decode prog_7_method_9_code 133 = .ok (.iadd, 1) := by decide +kernel
theorem d_SE_mapCarrier_134 : decode prog_7_method_9_code 134 = .ok (.iaload, 1) := by decide +kernel
theorem d_SE_mapCarrier_135 : decode prog_7_method_9_code 135 = .ok (.iconst 2, 1) := by decide +kernel
theorem d_SE_mapCarrier_136 : decode prog_7_method_9_code 136 = .ok (.imul, 1) := by decide +kernel
theorem d_SE_mapCarrier_137 : decode prog_7_method_9_code 137 = .ok (.aload_n 2, 1) := by decide +kernel
theorem d_SE_mapCarrier_138 : decode prog_7_method_9_code 138 = .ok (.iload_n 3, 1) := by decide +kernel
theorem d_SE_mapCarrier_139 : decode prog_7_method_9_code 139 = .ok (.iconst 3, 1) := by decide +kernel
theorem d_SE_mapCarrier_140 : decode prog_7_method_9_code 140 = .ok (.iadd, 1) := by decide +kernel
theorem d_SE_mapCarrier_141 : decode prog_7_method_9_code 141 = .ok (.iaload, 1) := by decide +kernel
theorem d_SE_mapCarrier_142 : decode prog_7_method_9_code 142 = .ok (.iadd, 1) := by decide +kernel
theorem d_SE_mapCarrier_143 : decode prog_7_method_9_code 143 = .ok (.iaload, 1) := by decide +kernel
theorem d_SE_mapCarrier_144 : decode prog_7_method_9_code 144 = .ok (.iastore, 1) := by decide +kernel
theorem d_SE_mapCarrier_145 : decode prog_7_method_9_code 145 = .ok (.return_, 1) := by decide +kernel
def y_SE_setPilots : MethodName := ⟨"CarrierLink$Sender", "setPilots", "()V"⟩
theorem hd_SE_setPilots : y_SE_setPilots.cls ≠ "java/lang/invoke/MethodHandle" ∧ y_SE_setPilots.cls ≠ "java/lang/invoke/VarHandle" ∧ (parseMethodDescriptor y_SE_setPilots.desc).map (fun d => d.parameters.length) = some 0 := ⟨by decide +kernel, by decide +kernel, by decide +kernel⟩
theorem d_SE_setPilots_0 : decode prog_7_method_10_code 0 = .ok (.aload_n 0, 1) := by decide +kernel
theorem d_SE_setPilots_1 : decode prog_7_method_10_code 1 = .ok (.getfield 44, 3) := by decide +kernel
theorem d_SE_setPilots_4 : decode prog_7_method_10_code 4 = .ok (.invokevirtual 116, 3) := by decide +kernel
theorem d_SE_setPilots_7 : decode prog_7_method_10_code 7 = .ok (.iconst 1, 1) := by decide +kernel
theorem d_SE_setPilots_8 : decode prog_7_method_10_code 8 = .ok (.if_icmp .ne 9, 3) := by decide +kernel
theorem d_SE_setPilots_11 : decode prog_7_method_10_code 11 = .ok (.sipush (-1024), 3) := by decide +kernel
theorem d_SE_setPilots_14 : decode prog_7_method_10_code 14 = .ok (.goto 6, 3) := by decide +kernel
theorem d_SE_setPilots_17 : decode prog_7_method_10_code 17 = .ok (.sipush 1024, 3) := by decide +kernel
theorem d_SE_setPilots_20 : decode prog_7_method_10_code 20 = .ok (.istore_n 1, 1) := by decide +kernel
theorem d_SE_setPilots_21 : decode prog_7_method_10_code 21 = .ok (.aload_n 0, 1) := by decide +kernel
theorem d_SE_setPilots_22 : decode prog_7_method_10_code 22 = .ok (.getfield 34, 3) := by decide +kernel
theorem d_SE_setPilots_25 : decode prog_7_method_10_code 25 = .ok (.getfield 74, 3) := by decide +kernel
theorem d_SE_setPilots_28 : decode prog_7_method_10_code 28 = .ok (.iconst 4, 1) := by decide +kernel
theorem d_SE_setPilots_29 : decode prog_7_method_10_code 29 = .ok (.iload_n 1, 1) := by decide +kernel
theorem d_SE_setPilots_30 : decode prog_7_method_10_code 30 = .ok (.iastore, 1) := by decide +kernel
theorem d_SE_setPilots_31 : decode prog_7_method_10_code 31 = .ok (.aload_n 0, 1) := by decide +kernel
theorem d_SE_setPilots_32 : decode prog_7_method_10_code 32 = .ok (.getfield 34, 3) := by decide +kernel
theorem d_SE_setPilots_35 : decode prog_7_method_10_code 35 = .ok (.getfield 74, 3) := by decide +kernel
theorem d_SE_setPilots_38 : decode prog_7_method_10_code 38 = .ok (.bipush 12, 2) := by decide +kernel
theorem d_SE_setPilots_40 : decode prog_7_method_10_code 40 = .ok (.iload_n 1, 1) := by decide +kernel
theorem d_SE_setPilots_41 : decode prog_7_method_10_code 41 = .ok (.ineg, 1) := by decide +kernel
theorem d_SE_setPilots_42 : decode prog_7_method_10_code 42 = .ok (.iastore, 1) := by decide +kernel
theorem d_SE_setPilots_43 : decode prog_7_method_10_code 43 = .ok (.return_, 1) := by decide +kernel
def y_SE_writeData : MethodName := ⟨"CarrierLink$Sender", "writeData", "([IIII)V"⟩
theorem hd_SE_writeData : y_SE_writeData.cls ≠ "java/lang/invoke/MethodHandle" ∧ y_SE_writeData.cls ≠ "java/lang/invoke/VarHandle" ∧ (parseMethodDescriptor y_SE_writeData.desc).map (fun d => d.parameters.length) = some 4 := ⟨by decide +kernel, by decide +kernel, by decide +kernel⟩
theorem d_SE_writeData_0 : decode prog_7_method_6_code 0 = .ok (.aload_n 0, 1) := by decide +kernel
theorem d_SE_writeData_1 : decode prog_7_method_6_code 1 = .ok (.getfield 14, 3) := by decide +kernel
theorem d_SE_writeData_4 : decode prog_7_method_6_code 4 = .ok (.invokevirtual 84, 3) := by decide +kernel
theorem d_SE_writeData_7 : decode prog_7_method_6_code 7 = .ok (.aload_n 0, 1) := by decide +kernel
theorem d_SE_writeData_8 : decode prog_7_method_6_code 8 = .ok (.getfield 14, 3) := by decide +kernel
theorem d_SE_writeData_11 : decode prog_7_method_6_code 11 = .ok (.bipush 7, 2) := by decide +kernel
theorem d_SE_writeData_13 : decode prog_7_method_6_code 13 = .ok (.invokevirtual 96, 3) := by decide +kernel
theorem d_SE_writeData_16 : decode prog_7_method_6_code 16 = .ok (.iconst 0, 1) := by decide +kernel
theorem d_SE_writeData_17 : decode prog_7_method_6_code 17 = .ok (.istore 5, 2) := by decide +kernel
theorem d_SE_writeData_19 : decode prog_7_method_6_code 19 = .ok (.iload 5, 2) := by decide +kernel
theorem d_SE_writeData_21 : decode prog_7_method_6_code 21 = .ok (.iload_n 2, 1) := by decide +kernel
theorem d_SE_writeData_22 : decode prog_7_method_6_code 22 = .ok (.if_icmp .ge 22, 3) := by decide +kernel
theorem d_SE_writeData_25 : decode prog_7_method_6_code 25 = .ok (.aload_n 0, 1) := by decide +kernel
theorem d_SE_writeData_26 : decode prog_7_method_6_code 26 = .ok (.getfield 14, 3) := by decide +kernel
theorem d_SE_writeData_29 : decode prog_7_method_6_code 29 = .ok (.aload_n 1, 1) := by decide +kernel
theorem d_SE_writeData_30 : decode prog_7_method_6_code 30 = .ok (.iload 5, 2) := by decide +kernel
theorem d_SE_writeData_32 : decode prog_7_method_6_code 32 = .ok (.iaload, 1) := by decide +kernel
theorem d_SE_writeData_33 : decode prog_7_method_6_code 33 = .ok (.bipush 8, 2) := by decide +kernel
theorem d_SE_writeData_35 : decode prog_7_method_6_code 35 = .ok (.invokevirtual 85, 3) := by decide +kernel
theorem d_SE_writeData_38 : decode prog_7_method_6_code 38 = .ok (.iinc 5 1, 3) := by decide +kernel
theorem d_SE_writeData_41 : decode prog_7_method_6_code 41 = .ok (.goto (-22), 3) := by decide +kernel
theorem d_SE_writeData_44 : decode prog_7_method_6_code 44 = .ok (.aload_n 0, 1) := by decide +kernel
theorem d_SE_writeData_45 : decode prog_7_method_6_code 45 = .ok (.getfield 14, 3) := by decide +kernel
theorem d_SE_writeData_48 : decode prog_7_method_6_code 48 = .ok (.getfield 102, 3) := by decide +kernel
theorem d_SE_writeData_51 : decode prog_7_method_6_code 51 = .ok (.istore 5, 2) := by decide +kernel
theorem d_SE_writeData_53 : decode prog_7_method_6_code 53 = .ok (.aload_n 0, 1) := by decide +kernel
theorem d_SE_writeData_54 : decode prog_7_method_6_code 54 = .ok (.getfield 14, 3) := by decide +kernel
theorem d_SE_writeData_57 : decode prog_7_method_6_code 57 = .ok (.iload_n 3, 1) := by decide +kernel
theorem d_SE_writeData_58 : decode prog_7_method_6_code 58 = .ok (.iload_n 2, 1) := by decide +kernel
theorem d_SE_writeData_59 : decode prog_7_method_6_code 59 = .ok (.invokestatic 106, 3) := by decide +kernel
theorem d_SE_writeData_62 : decode prog_7_method_6_code 62 = .ok (.getstatic 110, 3) := by decide +kernel
theorem d_SE_writeData_65 : decode prog_7_method_6_code 65 = .ok (.iload_n 3, 1) := by decide +kernel
theorem d_SE_writeData_66 : decode prog_7_method_6_code 66 = .ok (.iaload, 1) := by decide +kernel
theorem d_SE_writeData_67 : decode prog_7_method_6_code 67 = .ok (.imul, 1) := by decide +kernel
theorem d_SE_writeData_68 : decode prog_7_method_6_code 68 = .ok (.iload 5, 2) := by decide +kernel
theorem d_SE_writeData_70 : decode prog_7_method_6_code 70 = .ok (.isub, 1) := by decide +kernel
theorem d_SE_writeData_71 : decode prog_7_method_6_code 71 = .ok (.invokevirtual 96, 3) := by decide +kernel
theorem d_SE_writeData_74 : decode prog_7_method_6_code 74 = .ok (.aload_n 0, 1) := by decide +kernel
theorem d_SE_writeData_75 : decode prog_7_method_6_code 75 = .ok (.iload 4, 2) := by decide +kernel
theorem d_SE_writeData_77 : decode prog_7_method_6_code 77 = .ok (.iload 5, 2) := by decide +kernel
theorem d_SE_writeData_79 : decode prog_7_method_6_code 79 = .ok (.invokevirtual 113, 3) := by decide +kernel
theorem d_SE_writeData_82 : decode prog_7_method_6_code 82 = .ok (.aload_n 0, 1) := by decide +kernel
theorem d_SE_writeData_83 : decode prog_7_method_6_code 83 = .ok (.getfield 14, 3) := by decide +kernel
theorem d_SE_writeData_86 : decode prog_7_method_6_code 86 = .ok (.iload_n 3, 1) := by decide +kernel
theorem d_SE_writeData_87 : decode prog_7_method_6_code 87 = .ok (.invokevirtual 99, 3) := by decide +kernel
theorem d_SE_writeData_90 : decode prog_7_method_6_code 90 = .ok (.return_, 1) := by decide +kernel
def y_SE_scrambleData : MethodName := ⟨"CarrierLink$Sender", "scrambleData", "(II)V"⟩
theorem hd_SE_scrambleData : y_SE_scrambleData.cls ≠ "java/lang/invoke/MethodHandle" ∧ y_SE_scrambleData.cls ≠ "java/lang/invoke/VarHandle" ∧ (parseMethodDescriptor y_SE_scrambleData.desc).map (fun d => d.parameters.length) = some 2 := ⟨by decide +kernel, by decide +kernel, by decide +kernel⟩
theorem d_SE_scrambleData_0 : decode prog_7_method_7_code 0 = .ok (.aload_n 0, 1) := by decide +kernel
theorem d_SE_scrambleData_1 : decode prog_7_method_7_code 1 = .ok (.getfield 40, 3) := by decide +kernel
theorem d_SE_scrambleData_4 : decode prog_7_method_7_code 4 = .ok (.iload_n 1, 1) := by decide +kernel
theorem d_SE_scrambleData_5 : decode prog_7_method_7_code 5 = .ok (.invokevirtual 52, 3) := by decide +kernel
theorem d_SE_scrambleData_8 : decode prog_7_method_7_code 8 = .ok (.iconst 0, 1) := by decide +kernel
theorem d_SE_scrambleData_9 : decode prog_7_method_7_code 9 = .ok (.istore_n 3, 1) := by decide +kernel
theorem d_SE_scrambleData_10 : decode prog_7_method_7_code 10 = .ok (.iload_n 3, 1) := by decide +kernel
theorem d_SE_scrambleData_11 : decode prog_7_method_7_code 11 = .ok (.aload_n 0, 1) := by decide +kernel
theorem d_SE_scrambleData_12 : decode prog_7_method_7_code 12 = .ok (.getfield 14, 3) := by decide +kernel
theorem d_SE_scrambleData_15 : decode prog_7_method_7_code 15 = .ok (.getfield 102, 3) := by decide +kernel
theorem d_SE_scrambleData_18 : decode prog_7_method_7_code 18 = .ok (.if_icmp .ge 68, 3) := by decide +kernel
theorem d_SE_scrambleData_21 : decode prog_7_method_7_code 21 = .ok (.aload_n 0, 1) := by decide +kernel
theorem d_SE_scrambleData_22 : decode prog_7_method_7_code 22 = .ok (.getfield 40, 3) := by decide +kernel
theorem d_SE_scrambleData_25 : decode prog_7_method_7_code 25 = .ok (.invokevirtual 116, 3) := by decide +kernel
theorem d_SE_scrambleData_28 : decode prog_7_method_7_code 28 = .ok (.istore 4, 2) := by decide +kernel
theorem d_SE_scrambleData_30 : decode prog_7_method_7_code 30 = .ok (.iload_n 3, 1) := by decide +kernel
theorem d_SE_scrambleData_31 : decode prog_7_method_7_code 31 = .ok (.iload_n 2, 1) := by decide +kernel
theorem d_SE_scrambleData_32 : decode prog_7_method_7_code 32 = .ok (.if_icmp .lt 15, 3) := by decide +kernel
theorem d_SE_scrambleData_35 : decode prog_7_method_7_code 35 = .ok (.iload_n 3, 1) := by decide +kernel
theorem d_SE_scrambleData_36 : decode prog_7_method_7_code 36 = .ok (.iload_n 2, 1) := by decide +kernel
theorem d_SE_scrambleData_37 : decode prog_7_method_7_code 37 = .ok (.bipush 6, 2) := by decide +kernel
theorem d_SE_scrambleData_39 : decode prog_7_method_7_code 39 = .ok (.iadd, 1) := by decide +kernel
theorem d_SE_scrambleData_40 : decode prog_7_method_7_code 40 = .ok (.if_icmp .ge 7, 3) := by decide +kernel
theorem d_SE_scrambleData_43 : decode prog_7_method_7_code 43 = .ok (.iconst 1, 1) := by decide +kernel
theorem d_SE_scrambleData_44 : decode prog_7_method_7_code 44 = .ok (.goto 4, 3) := by decide +kernel
theorem d_SE_scrambleData_47 : decode prog_7_method_7_code 47 = .ok (.iconst 0, 1) := by decide +kernel
theorem d_SE_scrambleData_48 : decode prog_7_method_7_code 48 = .ok (.istore 5, 2) := by decide +kernel
theorem d_SE_scrambleData_50 : decode prog_7_method_7_code 50 = .ok (.aload_n 0, 1) := by decide +kernel
theorem d_SE_scrambleData_51 : decode prog_7_method_7_code 51 = .ok (.getfield 14, 3) := by decide +kernel
theorem d_SE_scrambleData_54 : decode prog_7_method_7_code 54 = .ok (.getfield 120, 3) := by decide +kernel
theorem d_SE_scrambleData_57 : decode prog_7_method_7_code 57 = .ok (.iload_n 3, 1) := by decide +kernel
theorem d_SE_scrambleData_58 : decode prog_7_method_7_code 58 = .ok (.iload 5, 2) := by decide +kernel
theorem d_SE_scrambleData_60 : decode prog_7_method_7_code 60 = .ok (.ifCond .eq 7, 3) := by decide +kernel
theorem d_SE_scrambleData_63 : decode prog_7_method_7_code 63 = .ok (.iconst 0, 1) := by decide +kernel
theorem d_SE_scrambleData_64 : decode prog_7_method_7_code 64 = .ok (.goto 15, 3) := by decide +kernel
theorem d_SE_scrambleData_67 : decode prog_7_method_7_code 67 = .ok (.aload_n 0, 1) := by decide +kernel
theorem d_SE_scrambleData_68 : decode prog_7_method_7_code 68 = .ok (.getfield 14, 3) := by decide +kernel
theorem d_SE_scrambleData_71 : decode prog_7_method_7_code 71 = .ok (.getfield 120, 3) := by decide +kernel
theorem d_SE_scrambleData_74 : decode prog_7_method_7_code 74 = .ok (.iload_n 3, 1) := by decide +kernel
theorem d_SE_scrambleData_75 : decode prog_7_method_7_code 75 = .ok (.iaload, 1) := by decide +kernel
theorem d_SE_scrambleData_76 : decode prog_7_method_7_code 76 = .ok (.iload 4, 2) := by decide +kernel
theorem d_SE_scrambleData_78 : decode prog_7_method_7_code 78 = .ok (.ixor, 1) := by decide +kernel
theorem d_SE_scrambleData_79 : decode prog_7_method_7_code 79 = .ok (.iastore, 1) := by decide +kernel
theorem d_SE_scrambleData_80 : decode prog_7_method_7_code 80 = .ok (.iinc 3 1, 3) := by decide +kernel
theorem d_SE_scrambleData_83 : decode prog_7_method_7_code 83 = .ok (.goto (-73), 3) := by decide +kernel
theorem d_SE_scrambleData_86 : decode prog_7_method_7_code 86 = .ok (.return_, 1) := by decide +kernel
