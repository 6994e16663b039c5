def y_CL_init : MethodName := ⟨"CarrierLink", "<init>", "()V"⟩
theorem hd_CL_init : y_CL_init.cls ≠ "java/lang/invoke/MethodHandle" ∧ y_CL_init.cls ≠ "java/lang/invoke/VarHandle" ∧ (parseMethodDescriptor y_CL_init.desc).map (fun d => d.parameters.length) = some 0 := ⟨by decide +kernel, by decide +kernel, by decide +kernel⟩
theorem d_CL_init_0 : decode prog_1_method_1_code 0 = .ok (.aload_n 0, 1) := by decide +kernel
theorem d_CL_init_1 : decode prog_1_method_1_code 1 = .ok (.invokespecial 3, 3) := by decide +kernel
theorem d_CL_init_4 : decode prog_1_method_1_code 4 = .ok (.aload_n 0, 1) := by decide +kernel
theorem d_CL_init_5 : decode prog_1_method_1_code 5 = .ok (.bipush 12, 2) := by decide +kernel
theorem d_CL_init_7 : decode prog_1_method_1_code 7 = .ok (.newarray .int, 2) := by decide +kernel
theorem d_CL_init_9 : decode prog_1_method_1_code 9 = .ok (.putfield 9, 3) := by decide +kernel
theorem d_CL_init_12 : decode prog_1_method_1_code 12 = .ok (.aload_n 0, 1) := by decide +kernel
theorem d_CL_init_13 : decode prog_1_method_1_code 13 = .ok (.iconst 0, 1) := by decide +kernel
theorem d_CL_init_14 : decode prog_1_method_1_code 14 = .ok (.putfield 13, 3) := by decide +kernel
theorem d_CL_init_17 : decode prog_1_method_1_code 17 = .ok (.aload_n 0, 1) := by decide +kernel
theorem d_CL_init_18 : decode prog_1_method_1_code 18 = .ok (.new 17, 3) := by decide +kernel
theorem d_CL_init_21 : decode prog_1_method_1_code 21 = .ok (.dup, 1) := by decide +kernel
theorem d_CL_init_22 : decode prog_1_method_1_code 22 = .ok (.sipush 480, 3) := by decide +kernel
theorem d_CL_init_25 : decode prog_1_method_1_code 25 = .ok (.invokespecial 19, 3) := by decide +kernel
theorem d_CL_init_28 : decode prog_1_method_1_code 28 = .ok (.putfield 22, 3) := by decide +kernel
theorem d_CL_init_31 : decode prog_1_method_1_code 31 = .ok (.aload_n 0, 1) := by decide +kernel
theorem d_CL_init_32 : decode prog_1_method_1_code 32 = .ok (.new 17, 3) := by decide +kernel
theorem d_CL_init_35 : decode prog_1_method_1_code 35 = .ok (.dup, 1) := by decide +kernel
theorem d_CL_init_36 : decode prog_1_method_1_code 36 = .ok (.sipush 520, 3) := by decide +kernel
theorem d_CL_init_39 : decode prog_1_method_1_code 39 = .ok (.invokespecial 19, 3) := by decide +kernel
theorem d_CL_init_42 : decode prog_1_method_1_code 42 = .ok (.putfield 26, 3) := by decide +kernel
theorem d_CL_init_45 : decode prog_1_method_1_code 45 = .ok (.new 29, 3) := by decide +kernel
theorem d_CL_init_48 : decode prog_1_method_1_code 48 = .ok (.dup, 1) := by decide +kernel
theorem d_CL_init_49 : decode prog_1_method_1_code 49 = .ok (.invokespecial 31, 3) := by decide +kernel
theorem d_CL_init_52 : decode prog_1_method_1_code 52 = .ok (.astore_n 1, 1) := by decide +kernel
theorem d_CL_init_53 : decode prog_1_method_1_code 53 = .ok (.aload_n 1, 1) := by decide +kernel
theorem d_CL_init_54 : decode prog_1_method_1_code 54 = .ok (.invokevirtual 32, 3) := by decide +kernel
theorem d_CL_init_57 : decode prog_1_method_1_code 57 = .ok (.aload_n 0, 1) := by decide +kernel
theorem d_CL_init_58 : decode prog_1_method_1_code 58 = .ok (.new 35, 3) := by decide +kernel
theorem d_CL_init_61 : decode prog_1_method_1_code 61 = .ok (.dup, 1) := by decide +kernel
theorem d_CL_init_62 : decode prog_1_method_1_code 62 = .ok (.aload_n 0, 1) := by decide +kernel
theorem d_CL_init_63 : decode prog_1_method_1_code 63 = .ok (.getfield 22, 3) := by decide +kernel
theorem d_CL_init_66 : decode prog_1_method_1_code 66 = .ok (.aload_n 1, 1) := by decide +kernel
theorem d_CL_init_67 : decode prog_1_method_1_code 67 = .ok (.invokespecial 37, 3) := by decide +kernel
theorem d_CL_init_70 : decode prog_1_method_1_code 70 = .ok (.putfield 40, 3) := by decide +kernel
theorem d_CL_init_73 : decode prog_1_method_1_code 73 = .ok (.aload_n 0, 1) := by decide +kernel
theorem d_CL_init_74 : decode prog_1_method_1_code 74 = .ok (.new 44, 3) := by decide +kernel
theorem d_CL_init_77 : decode prog_1_method_1_code 77 = .ok (.dup, 1) := by decide +kernel
theorem d_CL_init_78 : decode prog_1_method_1_code 78 = .ok (.aload_n 1, 1) := by decide +kernel
theorem d_CL_init_79 : decode prog_1_method_1_code 79 = .ok (.invokespecial 46, 3) := by decide +kernel
theorem d_CL_init_82 : decode prog_1_method_1_code 82 = .ok (.putfield 49, 3) := by decide +kernel
theorem d_CL_init_85 : decode prog_1_method_1_code 85 = .ok (.return_, 1) := by decide +kernel
def y_CL_codeOf : MethodName := ⟨"CarrierLink", "codeOf", "(II)I"⟩
theorem hd_CL_codeOf : y_CL_codeOf.cls ≠ "java/lang/invoke/MethodHandle" ∧ y_CL_codeOf.cls ≠ "java/lang/invoke/VarHandle" ∧ (parseMethodDescriptor y_CL_codeOf.desc).map (fun d => d.parameters.length) = some 2 := ⟨by decide +kernel, by decide +kernel, by decide +kernel⟩
theorem d_CL_codeOf_0 : decode prog_1_method_23_code 0 = .ok (.iload_n 0, 1) := by decide +kernel
theorem d_CL_codeOf_1 : decode prog_1_method_23_code 1 = .ok (.iload_n 1, 1) := by decide +kernel
theorem d_CL_codeOf_2 : decode prog_1_method_23_code 2 = .ok (.iand, 1) := by decide +kernel
theorem d_CL_codeOf_3 : decode prog_1_method_23_code 3 = .ok (.invokestatic 173, 3) := by decide +kernel
theorem d_CL_codeOf_6 : decode prog_1_method_23_code 6 = .ok (.iconst 1, 1) := by decide +kernel
theorem d_CL_codeOf_7 : decode prog_1_method_23_code 7 = .ok (.iand, 1) := by decide +kernel
theorem d_CL_codeOf_8 : decode prog_1_method_23_code 8 = .ok (.ireturn, 1) := by decide +kernel
def y_CL_put : MethodName := ⟨"CarrierLink", "put", "(IJ)Z"⟩
theorem hd_CL_put : y_CL_put.cls ≠ "java/lang/invoke/MethodHandle" ∧ y_CL_put.cls ≠ "java/lang/invoke/VarHandle" ∧ (parseMethodDescriptor y_CL_put.desc).map (fun d => d.parameters.length) = some 2 := ⟨by decide +kernel, by decide +kernel, by decide +kernel⟩
theorem d_CL_put_0 : decode prog_1_method_2_code 0 = .ok (.iload_n 1, 1) := by decide +kernel
theorem d_CL_put_1 : decode prog_1_method_2_code 1 = .ok (.iconst 1, 1) := by decide +kernel
theorem d_CL_put_2 : decode prog_1_method_2_code 2 = .ok (.if_icmp .lt 20, 3) := by decide +kernel
theorem d_CL_put_5 : decode prog_1_method_2_code 5 = .ok (.iload_n 1, 1) := by decide +kernel
theorem d_CL_put_6 : decode prog_1_method_2_code 6 = .ok (.bipush 8, 2) := by decide +kernel
theorem d_CL_put_8 : decode prog_1_method_2_code 8 = .ok (.if_icmp .gt 14, 3) := by decide +kernel
theorem d_CL_put_11 : decode prog_1_method_2_code 11 = .ok (.aload_n 0, 1) := by decide +kernel
theorem d_CL_put_12 : decode prog_1_method_2_code 12 = .ok (.getfield 13, 3) := by decide +kernel
theorem d_CL_put_15 : decode prog_1_method_2_code 15 = .ok (.iload_n 1, 1) := by decide +kernel
theorem d_CL_put_16 : decode prog_1_method_2_code 16 = .ok (.iadd, 1) := by decide +kernel
theorem d_CL_put_17 : decode prog_1_method_2_code 17 = .ok (.bipush 12, 2) := by decide +kernel
theorem d_CL_put_19 : decode prog_1_method_2_code 19 = .ok (.if_icmp .le 5, 3) := by decide +kernel
theorem d_CL_put_22 : decode prog_1_method_2_code 22 = .ok (.iconst 0, 1) := by decide +kernel
theorem d_CL_put_23 : decode prog_1_method_2_code 23 = .ok (.ireturn, 1) := by decide +kernel
theorem d_CL_put_24 : decode prog_1_method_2_code 24 = .ok (.iload_n 1, 1) := by decide +kernel
theorem d_CL_put_25 : decode prog_1_method_2_code 25 = .ok (.iconst 1, 1) := by decide +kernel
theorem d_CL_put_26 : decode prog_1_method_2_code 26 = .ok (.isub, 1) := by decide +kernel
theorem d_CL_put_27 : decode prog_1_method_2_code 27 = .ok (.istore 4, 2) := by decide +kernel
theorem d_CL_put_29 : decode prog_1_method_2_code 29 = .ok (.iload 4, 2) := by decide +kernel
theorem d_CL_put_31 : decode prog_1_method_2_code 31 = .ok (.ifCond .lt 40, 3) := by decide +kernel
theorem d_CL_put_34 : decode prog_1_method_2_code 34 = .ok (.aload_n 0, 1) := by decide +kernel
theorem d_CL_put_35 : decode prog_1_method_2_code 35 = .ok (.getfield 9, 3) := by decide +kernel
theorem d_CL_put_38 : decode prog_1_method_2_code 38 = .ok (.aload_n 0, 1) := by decide +kernel
theorem d_CL_put_39 : decode prog_1_method_2_code 39 = .ok (.getfield 13, 3) := by decide +kernel
theorem d_CL_put_42 : decode prog_1_method_2_code 42 = .ok (.lload_n 2, 1) := by decide +kernel
theorem d_CL_put_43 : decode prog_1_method_2_code 43 = .ok (.bipush 8, 2) := by decide +kernel
theorem d_CL_put_45 : decode prog_1_method_2_code 45 = .ok (.iload 4, 2) := by decide +kernel
theorem d_CL_put_47 : decode prog_1_method_2_code 47 = .ok (.imul, 1) := by decide +kernel
theorem d_CL_put_48 : decode prog_1_method_2_code 48 = .ok (.lshr, 1) := by decide +kernel
theorem d_CL_put_49 : decode prog_1_method_2_code 49 = .ok (.l2i, 1) := by decide +kernel
theorem d_CL_put_50 : decode prog_1_method_2_code 50 = .ok (.sipush 255, 3) := by decide +kernel
theorem d_CL_put_53 : decode prog_1_method_2_code 53 = .ok (.iand, 1) := by decide +kernel
theorem d_CL_put_54 : decode prog_1_method_2_code 54 = .ok (.iastore, 1) := by decide +kernel
theorem d_CL_put_55 : decode prog_1_method_2_code 55 = .ok (.aload_n 0, 1) := by decide +kernel
theorem d_CL_put_56 : decode prog_1_method_2_code 56 = .ok (.dup, 1) := by decide +kernel
theorem d_CL_put_57 : decode prog_1_method_2_code 57 = .ok (.getfield 13, 3) := by decide +kernel
theorem d_CL_put_60 : decode prog_1_method_2_code 60 = .ok (.iconst 1, 1) := by decide +kernel
theorem d_CL_put_61 : decode prog_1_method_2_code 61 = .ok (.iadd, 1) := by decide +kernel
theorem d_CL_put_62 : decode prog_1_method_2_code 62 = .ok (.putfield 13, 3) := by decide +kernel
theorem d_CL_put_65 : decode prog_1_method_2_code 65 = .ok (.iinc 4 (-1), 3) := by decide +kernel
theorem d_CL_put_68 : decode prog_1_method_2_code 68 = .ok (.goto (-39), 3) := by decide +kernel
theorem d_CL_put_71 : decode prog_1_method_2_code 71 = .ok (.iconst 1, 1) := by decide +kernel
theorem d_CL_put_72 : decode prog_1_method_2_code 72 = .ok (.ireturn, 1) := by decide +kernel
def y_CL_wipe : MethodName := ⟨"CarrierLink", "wipe", "()V"⟩
theorem hd_CL_wipe : y_CL_wipe.cls ≠ "java/lang/invoke/MethodHandle" ∧ y_CL_wipe.cls ≠ "java/lang/invoke/VarHandle" ∧ (parseMethodDescriptor y_CL_wipe.desc).map (fun d => d.parameters.length) = some 0 := ⟨by decide +kernel, by decide +kernel, by decide +kernel⟩
theorem d_CL_wipe_0 : decode prog_1_method_3_code 0 = .ok (.aload_n 0, 1) := by decide +kernel
theorem d_CL_wipe_1 : decode prog_1_method_3_code 1 = .ok (.iconst 0, 1) := by decide +kernel
theorem d_CL_wipe_2 : decode prog_1_method_3_code 2 = .ok (.putfield 13, 3) := by decide +kernel
theorem d_CL_wipe_5 : decode prog_1_method_3_code 5 = .ok (.return_, 1) := by decide +kernel
def y_CL_bit : MethodName := ⟨"CarrierLink", "bit", "(II)I"⟩
theorem hd_CL_bit : y_CL_bit.cls ≠ "java/lang/invoke/MethodHandle" ∧ y_CL_bit.cls ≠ "java/lang/invoke/VarHandle" ∧ (parseMethodDescriptor y_CL_bit.desc).map (fun d => d.parameters.length) = some 2 := ⟨by decide +kernel, by decide +kernel, by decide +kernel⟩
theorem d_CL_bit_0 : decode prog_1_method_5_code 0 = .ok (.aload_n 0, 1) := by decide +kernel
theorem d_CL_bit_1 : decode prog_1_method_5_code 1 = .ok (.getfield 22, 3) := by decide +kernel
theorem d_CL_bit_4 : decode prog_1_method_5_code 4 = .ok (.getfield 69, 3) := by decide +kernel
theorem d_CL_bit_7 : decode prog_1_method_5_code 7 = .ok (.ifCond .ne 5, 3) := by decide +kernel
theorem d_CL_bit_10 : decode prog_1_method_5_code 10 = .ok (.iconst (-1), 1) := by decide +kernel
theorem d_CL_bit_11 : decode prog_1_method_5_code 11 = .ok (.ireturn, 1) := by decide +kernel
theorem d_CL_bit_12 : decode prog_1_method_5_code 12 = .ok (.aload_n 0, 1) := by decide +kernel
theorem d_CL_bit_13 : decode prog_1_method_5_code 13 = .ok (.getfield 40, 3) := by decide +kernel
theorem d_CL_bit_16 : decode prog_1_method_5_code 16 = .ok (.getfield 72, 3) := by decide +kernel
theorem d_CL_bit_19 : decode prog_1_method_5_code 19 = .ok (.astore_n 3, 1) := by decide +kernel
theorem d_CL_bit_20 : decode prog_1_method_5_code 20 = .ok (.iload_n 1, 1) := by decide +kernel
theorem d_CL_bit_21 : decode prog_1_method_5_code 21 = .ok (.tableswitch 66 0 2 #[27, 40, 53], 27) := by decide +kernel
theorem d_CL_bit_48 : decode prog_1_method_5_code 48 = .ok (.aload_n 3, 1) := by decide +kernel
theorem d_CL_bit_49 : decode prog_1_method_5_code 49 = .ok (.getfield 76, 3) := by decide +kernel
theorem d_CL_bit_52 : decode prog_1_method_5_code 52 = .ok (.aload_n 3, 1) := by decide +kernel
theorem d_CL_bit_53 : decode prog_1_method_5_code 53 = .ok (.getfield 81, 3) := by decide +kernel
theorem d_CL_bit_56 : decode prog_1_method_5_code 56 = .ok (.iload_n 2, 1) := by decide +kernel
theorem d_CL_bit_57 : decode prog_1_method_5_code 57 = .ok (.invokestatic 84, 3) := by decide +kernel
theorem d_CL_bit_60 : decode prog_1_method_5_code 60 = .ok (.ireturn, 1) := by decide +kernel
theorem d_CL_bit_61 : decode prog_1_method_5_code 61 = .ok (.aload_n 3, 1) := by decide +kernel
theorem d_CL_bit_62 : decode prog_1_method_5_code 62 = .ok (.getfield 88, 3) := by decide +kernel
theorem d_CL_bit_65 : decode prog_1_method_5_code 65 = .ok (.aload_n 3, 1) := by decide +kernel
theorem d_CL_bit_66 : decode prog_1_method_5_code 66 = .ok (.getfield 91, 3) := by decide +kernel
theorem d_CL_bit_69 : decode prog_1_method_5_code 69 = .ok (.iload_n 2, 1) := by decide +kernel
theorem d_CL_bit_70 : decode prog_1_method_5_code 70 = .ok (.invokestatic 84, 3) := by decide +kernel
theorem d_CL_bit_73 : decode prog_1_method_5_code 73 = .ok (.ireturn, 1) := by decide +kernel
theorem d_CL_bit_74 : decode prog_1_method_5_code 74 = .ok (.aload_n 3, 1) := by decide +kernel
theorem d_CL_bit_75 : decode prog_1_method_5_code 75 = .ok (.getfield 94, 3) := by decide +kernel
theorem d_CL_bit_78 : decode prog_1_method_5_code 78 = .ok (.aload_n 3, 1) := by decide +kernel
theorem d_CL_bit_79 : decode prog_1_method_5_code 79 = .ok (.getfield 91, 3) := by decide +kernel
theorem d_CL_bit_82 : decode prog_1_method_5_code 82 = .ok (.iload_n 2, 1) := by decide +kernel
theorem d_CL_bit_83 : decode prog_1_method_5_code 83 = .ok (.invokestatic 84, 3) := by decide +kernel
theorem d_CL_bit_86 : decode prog_1_method_5_code 86 = .ok (.ireturn, 1) := by decide +kernel
theorem d_CL_bit_87 : decode prog_1_method_5_code 87 = .ok (.iconst (-1), 1) := by decide +kernel
theorem d_CL_bit_88 : decode prog_1_method_5_code 88 = .ok (.ireturn, 1) := by decide +kernel
def y_CL_bitOrCount : MethodName := ⟨"CarrierLink", "bitOrCount", "([III)I"⟩
theorem hd_CL_bitOrCount : y_CL_bitOrCount.cls ≠ "java/lang/invoke/MethodHandle" ∧ y_CL_bitOrCount.cls ≠ "java/lang/invoke/VarHandle" ∧ (parseMethodDescriptor y_CL_bitOrCount.desc).map (fun d => d.parameters.length) = some 3 := ⟨by decide +kernel, by decide +kernel, by decide +kernel⟩
theorem d_CL_bitOrCount_0 : decode prog_1_method_15_code 0 = .ok (.iload_n 2, 1) := by decide +kernel
theorem d_CL_bitOrCount_1 : decode prog_1_method_15_code 1 = .ok (.iconst (-1), 1) := by decide +kernel
theorem d_CL_bitOrCount_2 : decode prog_1_method_15_code 2 = .ok (.if_icmp .ne 5, 3) := by decide +kernel
theorem d_CL_bitOrCount_5 : decode prog_1_method_15_code 5 = .ok (.iload_n 1, 1) := by decide +kernel
theorem d_CL_bitOrCount_6 : decode prog_1_method_15_code 6 = .ok (.ireturn, 1) := by decide +kernel
theorem d_CL_bitOrCount_7 : decode prog_1_method_15_code 7 = .ok (.iload_n 2, 1) := by decide +kernel
theorem d_CL_bitOrCount_8 : decode prog_1_method_15_code 8 = .ok (.ifCond .lt 14, 3) := by decide +kernel
theorem d_CL_bitOrCount_11 : decode prog_1_method_15_code 11 = .ok (.iload_n 2, 1) := by decide +kernel
theorem d_CL_bitOrCount_12 : decode prog_1_method_15_code 12 = .ok (.iload_n 1, 1) := by decide +kernel
theorem d_CL_bitOrCount_13 : decode prog_1_method_15_code 13 = .ok (.if_icmp .ge 9, 3) := by decide +kernel
theorem d_CL_bitOrCount_16 : decode prog_1_method_15_code 16 = .ok (.aload_n 0, 1) := by decide +kernel
theorem d_CL_bitOrCount_17 : decode prog_1_method_15_code 17 = .ok (.iload_n 2, 1) := by decide +kernel
theorem d_CL_bitOrCount_18 : decode prog_1_method_15_code 18 = .ok (.iaload, 1) := by decide +kernel
theorem d_CL_bitOrCount_19 : decode prog_1_method_15_code 19 = .ok (.goto 4, 3) := by decide +kernel
theorem d_CL_bitOrCount_22 : decode prog_1_method_15_code 22 = .ok (.iconst (-1), 1) := by decide +kernel
theorem d_CL_bitOrCount_23 : decode prog_1_method_15_code 23 = .ok (.ireturn, 1) := by decide +kernel
def y_CL_disturb : MethodName := ⟨"CarrierLink", "disturb", "(ISS)Z"⟩
theorem hd_CL_disturb : y_CL_disturb.cls ≠ "java/lang/invoke/MethodHandle" ∧ y_CL_disturb.cls ≠ "java/lang/invoke/VarHandle" ∧ (parseMethodDescriptor y_CL_disturb.desc).map (fun d => d.parameters.length) = some 3 := ⟨by decide +kernel, by decide +kernel, by decide +kernel⟩
theorem d_CL_disturb_0 : decode prog_1_method_8_code 0 = .ok (.aload_n 0, 1) := by decide +kernel
theorem d_CL_disturb_1 : decode prog_1_method_8_code 1 = .ok (.getfield 26, 3) := by decide +kernel
theorem d_CL_disturb_4 : decode prog_1_method_8_code 4 = .ok (.iload_n 1, 1) := by decide +kernel
theorem d_CL_disturb_5 : decode prog_1_method_8_code 5 = .ok (.invokevirtual 97, 3) := by decide +kernel
theorem d_CL_disturb_8 : decode prog_1_method_8_code 8 = .ok (.ifCond .ne 5, 3) := by decide +kernel
theorem d_CL_disturb_11 : decode prog_1_method_8_code 11 = .ok (.iconst 0, 1) := by decide +kernel
theorem d_CL_disturb_12 : decode prog_1_method_8_code 12 = .ok (.ireturn, 1) := by decide +kernel
theorem d_CL_disturb_13 : decode prog_1_method_8_code 13 = .ok (.aload_n 0, 1) := by decide +kernel
theorem d_CL_disturb_14 : decode prog_1_method_8_code 14 = .ok (.getfield 26, 3) := by decide +kernel
theorem d_CL_disturb_17 : decode prog_1_method_8_code 17 = .ok (.iload_n 1, 1) := by decide +kernel
theorem d_CL_disturb_18 : decode prog_1_method_8_code 18 = .ok (.iload_n 2, 1) := by decide +kernel
theorem d_CL_disturb_19 : decode prog_1_method_8_code 19 = .ok (.iload_n 3, 1) := by decide +kernel
theorem d_CL_disturb_20 : decode prog_1_method_8_code 20 = .ok (.invokevirtual 128, 3) := by decide +kernel
theorem d_CL_disturb_23 : decode prog_1_method_8_code 23 = .ok (.iconst 1, 1) := by decide +kernel
theorem d_CL_disturb_24 : decode prog_1_method_8_code 24 = .ok (.ireturn, 1) := by decide +kernel
def y_CL_saturate : MethodName := ⟨"CarrierLink", "saturate", "(I)S"⟩
theorem hd_CL_saturate : y_CL_saturate.cls ≠ "java/lang/invoke/MethodHandle" ∧ y_CL_saturate.cls ≠ "java/lang/invoke/VarHandle" ∧ (parseMethodDescriptor y_CL_saturate.desc).map (fun d => d.parameters.length) = some 1 := ⟨by decide +kernel, by decide +kernel, by decide +kernel⟩
theorem d_CL_saturate_0 : decode prog_1_method_19_code 0 = .ok (.sipush (-32768), 3) := by decide +kernel
theorem d_CL_saturate_3 : decode prog_1_method_19_code 3 = .ok (.sipush 32767, 3) := by decide +kernel
theorem d_CL_saturate_6 : decode prog_1_method_19_code 6 = .ok (.iload_n 0, 1) := by decide +kernel
theorem d_CL_saturate_7 : decode prog_1_method_19_code 7 = .ok (.invokestatic 165, 3) := by decide +kernel
theorem d_CL_saturate_10 : decode prog_1_method_19_code 10 = .ok (.invokestatic 170, 3) := by decide +kernel
theorem d_CL_saturate_13 : decode prog_1_method_19_code 13 = .ok (.i2s, 1) := by decide +kernel
theorem d_CL_saturate_14 : decode prog_1_method_19_code 14 = .ok (.ireturn, 1) := by decide +kernel
def y_CL_stir : MethodName := ⟨"CarrierLink", "stir", "(II)Z"⟩
theorem hd_CL_stir : y_CL_stir.cls ≠ "java/lang/invoke/MethodHandle" ∧ y_CL_stir.cls ≠ "java/lang/invoke/VarHandle" ∧ (parseMethodDescriptor y_CL_stir.desc).map (fun d => d.parameters.length) = some 2 := ⟨by decide +kernel, by decide +kernel, by decide +kernel⟩
theorem d_CL_stir_0 : decode prog_1_method_9_code 0 = .ok (.iload_n 1, 1) := by decide +kernel
theorem d_CL_stir_1 : decode prog_1_method_9_code 1 = .ok (.ifCond .lt 20, 3) := by decide +kernel
theorem d_CL_stir_4 : decode prog_1_method_9_code 4 = .ok (.iload_n 1, 1) := by decide +kernel
theorem d_CL_stir_5 : decode prog_1_method_9_code 5 = .ok (.sipush 2000, 3) := by decide +kernel
theorem d_CL_stir_8 : decode prog_1_method_9_code 8 = .ok (.if_icmp .gt 13, 3) := by decide +kernel
theorem d_CL_stir_11 : decode prog_1_method_9_code 11 = .ok (.aload_n 0, 1) := by decide +kernel
theorem d_CL_stir_12 : decode prog_1_method_9_code 12 = .ok (.getfield 26, 3) := by decide +kernel
theorem d_CL_stir_15 : decode prog_1_method_9_code 15 = .ok (.getfield 69, 3) := by decide +kernel
theorem d_CL_stir_18 : decode prog_1_method_9_code 18 = .ok (.ifCond .ne 5, 3) := by decide +kernel
theorem d_CL_stir_21 : decode prog_1_method_9_code 21 = .ok (.iconst 0, 1) := by decide +kernel
theorem d_CL_stir_22 : decode prog_1_method_9_code 22 = .ok (.ireturn, 1) := by decide +kernel
theorem d_CL_stir_23 : decode prog_1_method_9_code 23 = .ok (.iload_n 2, 1) := by decide +kernel
theorem d_CL_stir_24 : decode prog_1_method_9_code 24 = .ok (.istore_n 3, 1) := by decide +kernel
theorem d_CL_stir_25 : decode prog_1_method_9_code 25 = .ok (.iconst 0, 1) := by decide +kernel
theorem d_CL_stir_26 : decode prog_1_method_9_code 26 = .ok (.istore 4, 2) := by decide +kernel
theorem d_CL_stir_28 : decode prog_1_method_9_code 28 = .ok (.iload 4, 2) := by decide +kernel
theorem d_CL_stir_30 : decode prog_1_method_9_code 30 = .ok (.aload_n 0, 1) := by decide +kernel
theorem d_CL_stir_31 : decode prog_1_method_9_code 31 = .ok (.getfield 26, 3) := by decide +kernel
theorem d_CL_stir_34 : decode prog_1_method_9_code 34 = .ok (.getfield 69, 3) := by decide +kernel
theorem d_CL_stir_37 : decode prog_1_method_9_code 37 = .ok (.if_icmp .ge 42, 3) := by decide +kernel
theorem d_CL_stir_40 : decode prog_1_method_9_code 40 = .ok (.iload_n 3, 1) := by decide +kernel
theorem d_CL_stir_41 : decode prog_1_method_9_code 41 = .ok (.invokestatic 131, 3) := by decide +kernel
theorem d_CL_stir_44 : decode prog_1_method_9_code 44 = .ok (.istore_n 3, 1) := by decide +kernel
theorem d_CL_stir_45 : decode prog_1_method_9_code 45 = .ok (.iload_n 3, 1) := by decide +kernel
theorem d_CL_stir_46 : decode prog_1_method_9_code 46 = .ok (.iload_n 1, 1) := by decide +kernel
theorem d_CL_stir_47 : decode prog_1_method_9_code 47 = .ok (.invokestatic 135, 3) := by decide +kernel
theorem d_CL_stir_50 : decode prog_1_method_9_code 50 = .ok (.istore 5, 2) := by decide +kernel
theorem d_CL_stir_52 : decode prog_1_method_9_code 52 = .ok (.iload_n 3, 1) := by decide +kernel
theorem d_CL_stir_53 : decode prog_1_method_9_code 53 = .ok (.invokestatic 131, 3) := by decide +kernel
theorem d_CL_stir_56 : decode prog_1_method_9_code 56 = .ok (.istore_n 3, 1) := by decide +kernel
theorem d_CL_stir_57 : decode prog_1_method_9_code 57 = .ok (.aload_n 0, 1) := by decide +kernel
theorem d_CL_stir_58 : decode prog_1_method_9_code 58 = .ok (.getfield 26, 3) := by decide +kernel
theorem d_CL_stir_61 : decode prog_1_method_9_code 61 = .ok (.iload 4, 2) := by decide +kernel
theorem d_CL_stir_63 : decode prog_1_method_9_code 63 = .ok (.iload 5, 2) := by decide +kernel
theorem d_CL_stir_65 : decode prog_1_method_9_code 65 = .ok (.iload_n 3, 1) := by decide +kernel
theorem d_CL_stir_66 : decode prog_1_method_9_code 66 = .ok (.iload_n 1, 1) := by decide +kernel
theorem d_CL_stir_67 : decode prog_1_method_9_code 67 = .ok (.invokestatic 135, 3) := by decide +kernel
theorem d_CL_stir_70 : decode prog_1_method_9_code 70 = .ok (.invokevirtual 128, 3) := by decide +kernel
theorem d_CL_stir_73 : decode prog_1_method_9_code 73 = .ok (.iinc 4 1, 3) := by decide +kernel
theorem d_CL_stir_76 : decode prog_1_method_9_code 76 = .ok (.goto (-48), 3) := by decide +kernel
theorem d_CL_stir_79 : decode prog_1_method_9_code 79 = .ok (.iconst 1, 1) := by decide +kernel
theorem d_CL_stir_80 : decode prog_1_method_9_code 80 = .ok (.ireturn, 1) := by decide +kernel
def y_CL_nextStir : MethodName := ⟨"CarrierLink", "nextStir", "(I)I"⟩
theorem hd_CL_nextStir : y_CL_nextStir.cls ≠ "java/lang/invoke/MethodHandle" ∧ y_CL_nextStir.cls ≠ "java/lang/invoke/VarHandle" ∧ (parseMethodDescriptor y_CL_nextStir.desc).map (fun d => d.parameters.length) = some 1 := ⟨by decide +kernel, by decide +kernel, by decide +kernel⟩
theorem d_CL_nextStir_0 : decode prog_1_method_17_code 0 = .ok (.iload_n 0, 1) := by decide +kernel
theorem d_CL_nextStir_1 : decode prog_1_method_17_code 1 = .ok (.ldc 164, 2) := by decide +kernel
theorem d_CL_nextStir_3 : decode prog_1_method_17_code 3 = .ok (.imul, 1) := by decide +kernel
theorem d_CL_nextStir_4 : decode prog_1_method_17_code 4 = .ok (.sipush 12345, 3) := by decide +kernel
theorem d_CL_nextStir_7 : decode prog_1_method_17_code 7 = .ok (.iadd, 1) := by decide +kernel
theorem d_CL_nextStir_8 : decode prog_1_method_17_code 8 = .ok (.ireturn, 1) := by decide +kernel
def y_CL_stirBy : MethodName := ⟨"CarrierLink", "stirBy", "(II)I"⟩
theorem hd_CL_stirBy : y_CL_stirBy.cls ≠ "java/lang/invoke/MethodHandle" ∧ y_CL_stirBy.cls ≠ "java/lang/invoke/VarHandle" ∧ (parseMethodDescriptor y_CL_stirBy.desc).map (fun d => d.parameters.length) = some 2 := ⟨by decide +kernel, by decide +kernel, by decide +kernel⟩
theorem d_CL_stirBy_0 : decode prog_1_method_18_code 0 = .ok (.iload_n 0, 1) := by decide +kernel
theorem d_CL_stirBy_1 : decode prog_1_method_18_code 1 = .ok (.bipush 16, 2) := by decide +kernel
theorem d_CL_stirBy_3 : decode prog_1_method_18_code 3 = .ok (.iushr, 1) := by decide +kernel
theorem d_CL_stirBy_4 : decode prog_1_method_18_code 4 = .ok (.iconst 2, 1) := by decide +kernel
theorem d_CL_stirBy_5 : decode prog_1_method_18_code 5 = .ok (.iload_n 1, 1) := by decide +kernel
theorem d_CL_stirBy_6 : decode prog_1_method_18_code 6 = .ok (.imul, 1) := by decide +kernel
theorem d_CL_stirBy_7 : decode prog_1_method_18_code 7 = .ok (.iconst 1, 1) := by decide +kernel
theorem d_CL_stirBy_8 : decode prog_1_method_18_code 8 = .ok (.iadd, 1) := by decide +kernel
theorem d_CL_stirBy_9 : decode prog_1_method_18_code 9 = .ok (.irem, 1) := by decide +kernel
theorem d_CL_stirBy_10 : decode prog_1_method_18_code 10 = .ok (.iload_n 1, 1) := by decide +kernel
theorem d_CL_stirBy_11 : decode prog_1_method_18_code 11 = .ok (.isub, 1) := by decide +kernel
theorem d_CL_stirBy_12 : decode prog_1_method_18_code 12 = .ok (.ireturn, 1) := by decide +kernel
def y_CL_cut : MethodName := ⟨"CarrierLink", "cut", "(I)Z"⟩
theorem hd_CL_cut : y_CL_cut.cls ≠ "java/lang/invoke/MethodHandle" ∧ y_CL_cut.cls ≠ "java/lang/invoke/VarHandle" ∧ (parseMethodDescriptor y_CL_cut.desc).map (fun d => d.parameters.length) = some 1 := ⟨by decide +kernel, by decide +kernel, by decide +kernel⟩
theorem d_CL_cut_0 : decode prog_1_method_10_code 0 = .ok (.iload_n 1, 1) := by decide +kernel
theorem d_CL_cut_1 : decode prog_1_method_10_code 1 = .ok (.ifCond .lt 14, 3) := by decide +kernel
theorem d_CL_cut_4 : decode prog_1_method_10_code 4 = .ok (.aload_n 0, 1) := by decide +kernel
theorem d_CL_cut_5 : decode prog_1_method_10_code 5 = .ok (.getfield 26, 3) := by decide +kernel
theorem d_CL_cut_8 : decode prog_1_method_10_code 8 = .ok (.getfield 69, 3) := by decide +kernel
theorem d_CL_cut_11 : decode prog_1_method_10_code 11 = .ok (.iload_n 1, 1) := by decide +kernel
theorem d_CL_cut_12 : decode prog_1_method_10_code 12 = .ok (.if_icmp .gt 5, 3) := by decide +kernel
theorem d_CL_cut_15 : decode prog_1_method_10_code 15 = .ok (.iconst 0, 1) := by decide +kernel
theorem d_CL_cut_16 : decode prog_1_method_10_code 16 = .ok (.ireturn, 1) := by decide +kernel
theorem d_CL_cut_17 : decode prog_1_method_10_code 17 = .ok (.aload_n 0, 1) := by decide +kernel
theorem d_CL_cut_18 : decode prog_1_method_10_code 18 = .ok (.getfield 26, 3) := by decide +kernel
theorem d_CL_cut_21 : decode prog_1_method_10_code 21 = .ok (.iload_n 1, 1) := by decide +kernel
theorem d_CL_cut_22 : decode prog_1_method_10_code 22 = .ok (.putfield 69, 3) := by decide +kernel
theorem d_CL_cut_25 : decode prog_1_method_10_code 25 = .ok (.iconst 1, 1) := by decide +kernel
theorem d_CL_cut_26 : decode prog_1_method_10_code 26 = .ok (.ireturn, 1) := by decide +kernel
def y_CL_got : MethodName := ⟨"CarrierLink", "got", "(I)I"⟩
theorem hd_CL_got : y_CL_got.cls ≠ "java/lang/invoke/MethodHandle" ∧ y_CL_got.cls ≠ "java/lang/invoke/VarHandle" ∧ (parseMethodDescriptor y_CL_got.desc).map (fun d => d.parameters.length) = some 1 := ⟨by decide +kernel, by decide +kernel, by decide +kernel⟩
theorem d_CL_got_0 : decode prog_1_method_12_code 0 = .ok (.iload_n 1, 1) := by decide +kernel
theorem d_CL_got_1 : decode prog_1_method_12_code 1 = .ok (.ifCond .lt 26, 3) := by decide +kernel
theorem d_CL_got_4 : decode prog_1_method_12_code 4 = .ok (.iload_n 1, 1) := by decide +kernel
theorem d_CL_got_5 : decode prog_1_method_12_code 5 = .ok (.aload_n 0, 1) := by decide +kernel
theorem d_CL_got_6 : decode prog_1_method_12_code 6 = .ok (.getfield 49, 3) := by decide +kernel
theorem d_CL_got_9 : decode prog_1_method_12_code 9 = .ok (.getfield 145, 3) := by decide +kernel
theorem d_CL_got_12 : decode prog_1_method_12_code 12 = .ok (.if_icmp .ge 15, 3) := by decide +kernel
theorem d_CL_got_15 : decode prog_1_method_12_code 15 = .ok (.aload_n 0, 1) := by decide +kernel
theorem d_CL_got_16 : decode prog_1_method_12_code 16 = .ok (.getfield 49, 3) := by decide +kernel
theorem d_CL_got_19 : decode prog_1_method_12_code 19 = .ok (.getfield 148, 3) := by decide +kernel
theorem d_CL_got_22 : decode prog_1_method_12_code 22 = .ok (.iload_n 1, 1) := by decide +kernel
theorem d_CL_got_23 : decode prog_1_method_12_code 23 = .ok (.iaload, 1) := by decide +kernel
theorem d_CL_got_24 : decode prog_1_method_12_code 24 = .ok (.goto 4, 3) := by decide +kernel
theorem d_CL_got_27 : decode prog_1_method_12_code 27 = .ok (.iconst (-1), 1) := by decide +kernel
theorem d_CL_got_28 : decode prog_1_method_12_code 28 = .ok (.ireturn, 1) := by decide +kernel
def y_CL_heard : MethodName := ⟨"CarrierLink", "heard", "(I)I"⟩
theorem hd_CL_heard : y_CL_heard.cls ≠ "java/lang/invoke/MethodHandle" ∧ y_CL_heard.cls ≠ "java/lang/invoke/VarHandle" ∧ (parseMethodDescriptor y_CL_heard.desc).map (fun d => d.parameters.length) = some 1 := ⟨by decide +kernel, by decide +kernel, by decide +kernel⟩
theorem d_CL_heard_0 : decode prog_1_method_13_code 0 = .ok (.iload_n 1, 1) := by decide +kernel
theorem d_CL_heard_1 : decode prog_1_method_13_code 1 = .ok (.ifCond .lt 21, 3) := by decide +kernel
theorem d_CL_heard_4 : decode prog_1_method_13_code 4 = .ok (.iload_n 1, 1) := by decide +kernel
theorem d_CL_heard_5 : decode prog_1_method_13_code 5 = .ok (.bipush 6, 2) := by decide +kernel
theorem d_CL_heard_7 : decode prog_1_method_13_code 7 = .ok (.if_icmp .ge 15, 3) := by decide +kernel
theorem d_CL_heard_10 : decode prog_1_method_13_code 10 = .ok (.aload_n 0, 1) := by decide +kernel
theorem d_CL_heard_11 : decode prog_1_method_13_code 11 = .ok (.getfield 49, 3) := by decide +kernel
theorem d_CL_heard_14 : decode prog_1_method_13_code 14 = .ok (.getfield 151, 3) := by decide +kernel
theorem d_CL_heard_17 : decode prog_1_method_13_code 17 = .ok (.iload_n 1, 1) := by decide +kernel
theorem d_CL_heard_18 : decode prog_1_method_13_code 18 = .ok (.iaload, 1) := by decide +kernel
theorem d_CL_heard_19 : decode prog_1_method_13_code 19 = .ok (.goto 4, 3) := by decide +kernel
theorem d_CL_heard_22 : decode prog_1_method_13_code 22 = .ok (.iconst (-1), 1) := by decide +kernel
theorem d_CL_heard_23 : decode prog_1_method_13_code 23 = .ok (.ireturn, 1) := by decide +kernel
def y_CL_learned : MethodName := ⟨"CarrierLink", "learned", "(IZ)I"⟩
theorem hd_CL_learned : y_CL_learned.cls ≠ "java/lang/invoke/MethodHandle" ∧ y_CL_learned.cls ≠ "java/lang/invoke/VarHandle" ∧ (parseMethodDescriptor y_CL_learned.desc).map (fun d => d.parameters.length) = some 2 := ⟨by decide +kernel, by decide +kernel, by decide +kernel⟩
theorem d_CL_learned_0 : decode prog_1_method_14_code 0 = .ok (.iload_n 1, 1) := by decide +kernel
theorem d_CL_learned_1 : decode prog_1_method_14_code 1 = .ok (.ifCond .lt 9, 3) := by decide +kernel
theorem d_CL_learned_4 : decode prog_1_method_14_code 4 = .ok (.iload_n 1, 1) := by decide +kernel
theorem d_CL_learned_5 : decode prog_1_method_14_code 5 = .ok (.bipush 16, 2) := by decide +kernel
theorem d_CL_learned_7 : decode prog_1_method_14_code 7 = .ok (.if_icmp .lt 5, 3) := by decide +kernel
theorem d_CL_learned_10 : decode prog_1_method_14_code 10 = .ok (.iconst 0, 1) := by decide +kernel
theorem d_CL_learned_11 : decode prog_1_method_14_code 11 = .ok (.ireturn, 1) := by decide +kernel
theorem d_CL_learned_12 : decode prog_1_method_14_code 12 = .ok (.iload_n 2, 1) := by decide +kernel
theorem d_CL_learned_13 : decode prog_1_method_14_code 13 = .ok (.ifCond .eq 18, 3) := by decide +kernel
theorem d_CL_learned_16 : decode prog_1_method_14_code 16 = .ok (.aload_n 0, 1) := by decide +kernel
theorem d_CL_learned_17 : decode prog_1_method_14_code 17 = .ok (.getfield 49, 3) := by decide +kernel
theorem d_CL_learned_20 : decode prog_1_method_14_code 20 = .ok (.getfield 154, 3) := by decide +kernel
theorem d_CL_learned_23 : decode prog_1_method_14_code 23 = .ok (.getfield 158, 3) := by decide +kernel
theorem d_CL_learned_26 : decode prog_1_method_14_code 26 = .ok (.iload_n 1, 1) := by decide +kernel
theorem d_CL_learned_27 : decode prog_1_method_14_code 27 = .ok (.iaload, 1) := by decide +kernel
theorem d_CL_learned_28 : decode prog_1_method_14_code 28 = .ok (.goto 15, 3) := by decide +kernel
theorem d_CL_learned_31 : decode prog_1_method_14_code 31 = .ok (.aload_n 0, 1) := by decide +kernel
theorem d_CL_learned_32 : decode prog_1_method_14_code 32 = .ok (.getfield 49, 3) := by decide +kernel
theorem d_CL_learned_35 : decode prog_1_method_14_code 35 = .ok (.getfield 154, 3) := by decide +kernel
theorem d_CL_learned_38 : decode prog_1_method_14_code 38 = .ok (.getfield 161, 3) := by decide +kernel
theorem d_CL_learned_41 : decode prog_1_method_14_code 41 = .ok (.iload_n 1, 1) := by decide +kernel
theorem d_CL_learned_42 : decode prog_1_method_14_code 42 = .ok (.iaload, 1) := by decide +kernel
theorem d_CL_learned_43 : decode prog_1_method_14_code 43 = .ok (.ireturn, 1) := by decide +kernel
def y_CL_send : MethodName := ⟨"CarrierLink", "send", "(II)I"⟩
theorem hd_CL_send : y_CL_send.cls ≠ "java/lang/invoke/MethodHandle" ∧ y_CL_send.cls ≠ "java/lang/invoke/VarHandle" ∧ (parseMethodDescriptor y_CL_send.desc).map (fun d => d.parameters.length) = some 2 := ⟨by decide +kernel, by decide +kernel, by decide +kernel⟩
theorem d_CL_send_0 : decode prog_1_method_4_code 0 = .ok (.iload_n 1, 1) := by decide +kernel
theorem d_CL_send_1 : decode prog_1_method_4_code 1 = .ok (.ifCond .lt 19, 3) := by decide +kernel
theorem d_CL_send_4 : decode prog_1_method_4_code 4 = .ok (.iload_n 1, 1) := by decide +kernel
theorem d_CL_send_5 : decode prog_1_method_4_code 5 = .ok (.iconst 3, 1) := by decide +kernel
theorem d_CL_send_6 : decode prog_1_method_4_code 6 = .ok (.if_icmp .gt 14, 3) := by decide +kernel
theorem d_CL_send_9 : decode prog_1_method_4_code 9 = .ok (.iload_n 2, 1) := by decide +kernel
theorem d_CL_send_10 : decode prog_1_method_4_code 10 = .ok (.iconst 1, 1) := by decide +kernel
theorem d_CL_send_11 : decode prog_1_method_4_code 11 = .ok (.if_icmp .lt 9, 3) := by decide +kernel
theorem d_CL_send_14 : decode prog_1_method_4_code 14 = .ok (.iload_n 2, 1) := by decide +kernel
theorem d_CL_send_15 : decode prog_1_method_4_code 15 = .ok (.bipush 127, 2) := by decide +kernel
theorem d_CL_send_17 : decode prog_1_method_4_code 17 = .ok (.if_icmp .le 13, 3) := by decide +kernel
theorem d_CL_send_20 : decode prog_1_method_4_code 20 = .ok (.new 53, 3) := by decide +kernel
theorem d_CL_send_23 : decode prog_1_method_4_code 23 = .ok (.dup, 1) := by decide +kernel
theorem d_CL_send_24 : decode prog_1_method_4_code 24 = .ok (.ldc 55, 2) := by decide +kernel
theorem d_CL_send_26 : decode prog_1_method_4_code 26 = .ok (.invokespecial 57, 3) := by decide +kernel
theorem d_CL_send_29 : decode prog_1_method_4_code 29 = .ok (.athrow, 1) := by decide +kernel
theorem d_CL_send_30 : decode prog_1_method_4_code 30 = .ok (.aload_n 0, 1) := by decide +kernel
theorem d_CL_send_31 : decode prog_1_method_4_code 31 = .ok (.getfield 13, 3) := by decide +kernel
theorem d_CL_send_34 : decode prog_1_method_4_code 34 = .ok (.ifCond .ne 13, 3) := by decide +kernel
theorem d_CL_send_37 : decode prog_1_method_4_code 37 = .ok (.new 60, 3) := by decide +kernel
theorem d_CL_send_40 : decode prog_1_method_4_code 40 = .ok (.dup, 1) := by decide +kernel
theorem d_CL_send_41 : decode prog_1_method_4_code 41 = .ok (.ldc 62, 2) := by decide +kernel
theorem d_CL_send_43 : decode prog_1_method_4_code 43 = .ok (.invokespecial 64, 3) := by decide +kernel
theorem d_CL_send_46 : decode prog_1_method_4_code 46 = .ok (.athrow, 1) := by decide +kernel
theorem d_CL_send_47 : decode prog_1_method_4_code 47 = .ok (.aload_n 0, 1) := by decide +kernel
theorem d_CL_send_48 : decode prog_1_method_4_code 48 = .ok (.getfield 40, 3) := by decide +kernel
theorem d_CL_send_51 : decode prog_1_method_4_code 51 = .ok (.aload_n 0, 1) := by decide +kernel
theorem d_CL_send_52 : decode prog_1_method_4_code 52 = .ok (.getfield 9, 3) := by decide +kernel
theorem d_CL_send_55 : decode prog_1_method_4_code 55 = .ok (.aload_n 0, 1) := by decide +kernel
theorem d_CL_send_56 : decode prog_1_method_4_code 56 = .ok (.getfield 13, 3) := by decide +kernel
theorem d_CL_send_59 : decode prog_1_method_4_code 59 = .ok (.iload_n 1, 1) := by decide +kernel
theorem d_CL_send_60 : decode prog_1_method_4_code 60 = .ok (.iload_n 2, 1) := by decide +kernel
theorem d_CL_send_61 : decode prog_1_method_4_code 61 = .ok (.invokevirtual 65, 3) := by decide +kernel
theorem d_CL_send_64 : decode prog_1_method_4_code 64 = .ok (.aload_n 0, 1) := by decide +kernel
theorem d_CL_send_65 : decode prog_1_method_4_code 65 = .ok (.getfield 22, 3) := by decide +kernel
theorem d_CL_send_68 : decode prog_1_method_4_code 68 = .ok (.getfield 69, 3) := by decide +kernel
theorem d_CL_send_71 : decode prog_1_method_4_code 71 = .ok (.ireturn, 1) := by decide +kernel
def y_CL_isThin : MethodName := ⟨"CarrierLink", "isThin", "(I)Z"⟩
theorem hd_CL_isThin : y_CL_isThin.cls ≠ "java/lang/invoke/MethodHandle" ∧ y_CL_isThin.cls ≠ "java/lang/invoke/VarHandle" ∧ (parseMethodDescriptor y_CL_isThin.desc).map (fun d => d.parameters.length) = some 1 := ⟨by decide +kernel, by decide +kernel, by decide +kernel⟩
theorem d_CL_isThin_0 : decode prog_1_method_20_code 0 = .ok (.iload_n 0, 1) := by decide +kernel
theorem d_CL_isThin_1 : decode prog_1_method_20_code 1 = .ok (.iconst 2, 1) := by decide +kernel
theorem d_CL_isThin_2 : decode prog_1_method_20_code 2 = .ok (.if_icmp .lt 7, 3) := by decide +kernel
theorem d_CL_isThin_5 : decode prog_1_method_20_code 5 = .ok (.iconst 1, 1) := by decide +kernel
theorem d_CL_isThin_6 : decode prog_1_method_20_code 6 = .ok (.goto 4, 3) := by decide +kernel
theorem d_CL_isThin_9 : decode prog_1_method_20_code 9 = .ok (.iconst 0, 1) := by decide +kernel
theorem d_CL_isThin_10 : decode prog_1_method_20_code 10 = .ok (.ireturn, 1) := by decide +kernel
def y_CL_keepsA : MethodName := ⟨"CarrierLink", "keepsA", "(ZI)Z"⟩
theorem hd_CL_keepsA : y_CL_keepsA.cls ≠ "java/lang/invoke/MethodHandle" ∧ y_CL_keepsA.cls ≠ "java/lang/invoke/VarHandle" ∧ (parseMethodDescriptor y_CL_keepsA.desc).map (fun d => d.parameters.length) = some 2 := ⟨by decide +kernel, by decide +kernel, by decide +kernel⟩
theorem d_CL_keepsA_0 : decode prog_1_method_21_code 0 = .ok (.iload_n 0, 1) := by decide +kernel
theorem d_CL_keepsA_1 : decode prog_1_method_21_code 1 = .ok (.ifCond .eq 10, 3) := by decide +kernel
theorem d_CL_keepsA_4 : decode prog_1_method_21_code 4 = .ok (.iload_n 1, 1) := by decide +kernel
theorem d_CL_keepsA_5 : decode prog_1_method_21_code 5 = .ok (.iconst 3, 1) := by decide +kernel
theorem d_CL_keepsA_6 : decode prog_1_method_21_code 6 = .ok (.irem, 1) := by decide +kernel
theorem d_CL_keepsA_7 : decode prog_1_method_21_code 7 = .ok (.iconst 2, 1) := by decide +kernel
theorem d_CL_keepsA_8 : decode prog_1_method_21_code 8 = .ok (.if_icmp .eq 7, 3) := by decide +kernel
theorem d_CL_keepsA_11 : decode prog_1_method_21_code 11 = .ok (.iconst 1, 1) := by decide +kernel
theorem d_CL_keepsA_12 : decode prog_1_method_21_code 12 = .ok (.goto 4, 3) := by decide +kernel
theorem d_CL_keepsA_15 : decode prog_1_method_21_code 15 = .ok (.iconst 0, 1) := by decide +kernel
theorem d_CL_keepsA_16 : decode prog_1_method_21_code 16 = .ok (.ireturn, 1) := by decide +kernel
def y_CL_keepsB : MethodName := ⟨"CarrierLink", "keepsB", "(ZI)Z"⟩
theorem hd_CL_keepsB : y_CL_keepsB.cls ≠ "java/lang/invoke/MethodHandle" ∧ y_CL_keepsB.cls ≠ "java/lang/invoke/VarHandle" ∧ (parseMethodDescriptor y_CL_keepsB.desc).map (fun d => d.parameters.length) = some 2 := ⟨by decide +kernel, by decide +kernel, by decide +kernel⟩
theorem d_CL_keepsB_0 : decode prog_1_method_22_code 0 = .ok (.iload_n 0, 1) := by decide +kernel
theorem d_CL_keepsB_1 : decode prog_1_method_22_code 1 = .ok (.ifCond .eq 10, 3) := by decide +kernel
theorem d_CL_keepsB_4 : decode prog_1_method_22_code 4 = .ok (.iload_n 1, 1) := by decide +kernel
theorem d_CL_keepsB_5 : decode prog_1_method_22_code 5 = .ok (.iconst 3, 1) := by decide +kernel
theorem d_CL_keepsB_6 : decode prog_1_method_22_code 6 = .ok (.irem, 1) := by decide +kernel
theorem d_CL_keepsB_7 : decode prog_1_method_22_code 7 = .ok (.iconst 1, 1) := by decide +kernel
theorem d_CL_keepsB_8 : decode prog_1_method_22_code 8 = .ok (.if_icmp .eq 7, 3) := by decide +kernel
theorem d_CL_keepsB_11 : decode prog_1_method_22_code 11 = .ok (.iconst 1, 1) := by decide +kernel
theorem d_CL_keepsB_12 : decode prog_1_method_22_code 12 = .ok (.goto 4, 3) := by decide +kernel
theorem d_CL_keepsB_15 : decode prog_1_method_22_code 15 = .ok (.iconst 0, 1) := by decide +kernel
theorem d_CL_keepsB_16 : decode prog_1_method_22_code 16 = .ok (.ireturn, 1) := by decide +kernel
def y_CL_placeOf : MethodName := ⟨"CarrierLink", "placeOf", "(II)I"⟩
theorem hd_CL_placeOf : y_CL_placeOf.cls ≠ "java/lang/invoke/MethodHandle" ∧ y_CL_placeOf.cls ≠ "java/lang/invoke/VarHandle" ∧ (parseMethodDescriptor y_CL_placeOf.desc).map (fun d => d.parameters.length) = some 2 := ⟨by decide +kernel, by decide +kernel, by decide +kernel⟩
theorem d_CL_placeOf_0 : decode prog_1_method_25_code 0 = .ok (.bipush 12, 2) := by decide +kernel
theorem d_CL_placeOf_2 : decode prog_1_method_25_code 2 = .ok (.iload_n 1, 1) := by decide +kernel
theorem d_CL_placeOf_3 : decode prog_1_method_25_code 3 = .ok (.imul, 1) := by decide +kernel
theorem d_CL_placeOf_4 : decode prog_1_method_25_code 4 = .ok (.istore_n 2, 1) := by decide +kernel
theorem d_CL_placeOf_5 : decode prog_1_method_25_code 5 = .ok (.iload_n 1, 1) := by decide +kernel
theorem d_CL_placeOf_6 : decode prog_1_method_25_code 6 = .ok (.iconst 4, 1) := by decide +kernel
theorem d_CL_placeOf_7 : decode prog_1_method_25_code 7 = .ok (.if_icmp .ge 7, 3) := by decide +kernel
theorem d_CL_placeOf_10 : decode prog_1_method_25_code 10 = .ok (.iconst 1, 1) := by decide +kernel
theorem d_CL_placeOf_11 : decode prog_1_method_25_code 11 = .ok (.goto 4, 3) := by decide +kernel
theorem d_CL_placeOf_14 : decode prog_1_method_25_code 14 = .ok (.iconst 2, 1) := by decide +kernel
theorem d_CL_placeOf_15 : decode prog_1_method_25_code 15 = .ok (.istore_n 3, 1) := by decide +kernel
theorem d_CL_placeOf_16 : decode prog_1_method_25_code 16 = .ok (.iload_n 2, 1) := by decide +kernel
theorem d_CL_placeOf_17 : decode prog_1_method_25_code 17 = .ok (.iconst 4, 1) := by decide +kernel
theorem d_CL_placeOf_18 : decode prog_1_method_25_code 18 = .ok (.idiv, 1) := by decide +kernel
theorem d_CL_placeOf_19 : decode prog_1_method_25_code 19 = .ok (.iload_n 0, 1) := by decide +kernel
theorem d_CL_placeOf_20 : decode prog_1_method_25_code 20 = .ok (.iconst 4, 1) := by decide +kernel
theorem d_CL_placeOf_21 : decode prog_1_method_25_code 21 = .ok (.irem, 1) := by decide +kernel
theorem d_CL_placeOf_22 : decode prog_1_method_25_code 22 = .ok (.imul, 1) := by decide +kernel
theorem d_CL_placeOf_23 : decode prog_1_method_25_code 23 = .ok (.iload_n 0, 1) := by decide +kernel
theorem d_CL_placeOf_24 : decode prog_1_method_25_code 24 = .ok (.iconst 4, 1) := by decide +kernel
theorem d_CL_placeOf_25 : decode prog_1_method_25_code 25 = .ok (.idiv, 1) := by decide +kernel
theorem d_CL_placeOf_26 : decode prog_1_method_25_code 26 = .ok (.iadd, 1) := by decide +kernel
theorem d_CL_placeOf_27 : decode prog_1_method_25_code 27 = .ok (.istore 4, 2) := by decide +kernel
theorem d_CL_placeOf_29 : decode prog_1_method_25_code 29 = .ok (.iload_n 3, 1) := by decide +kernel
theorem d_CL_placeOf_30 : decode prog_1_method_25_code 30 = .ok (.iload 4, 2) := by decide +kernel
theorem d_CL_placeOf_32 : decode prog_1_method_25_code 32 = .ok (.iload_n 3, 1) := by decide +kernel
theorem d_CL_placeOf_33 : decode prog_1_method_25_code 33 = .ok (.idiv, 1) := by decide +kernel
theorem d_CL_placeOf_34 : decode prog_1_method_25_code 34 = .ok (.imul, 1) := by decide +kernel
theorem d_CL_placeOf_35 : decode prog_1_method_25_code 35 = .ok (.iload 4, 2) := by decide +kernel
theorem d_CL_placeOf_37 : decode prog_1_method_25_code 37 = .ok (.iload_n 2, 1) := by decide +kernel
theorem d_CL_placeOf_38 : decode prog_1_method_25_code 38 = .ok (.iadd, 1) := by decide +kernel
theorem d_CL_placeOf_39 : decode prog_1_method_25_code 39 = .ok (.iconst 4, 1) := by decide +kernel
theorem d_CL_placeOf_40 : decode prog_1_method_25_code 40 = .ok (.iload 4, 2) := by decide +kernel
theorem d_CL_placeOf_42 : decode prog_1_method_25_code 42 = .ok (.imul, 1) := by decide +kernel
theorem d_CL_placeOf_43 : decode prog_1_method_25_code 43 = .ok (.iload_n 2, 1) := by decide +kernel
theorem d_CL_placeOf_44 : decode prog_1_method_25_code 44 = .ok (.idiv, 1) := by decide +kernel
theorem d_CL_placeOf_45 : decode prog_1_method_25_code 45 = .ok (.isub, 1) := by decide +kernel
theorem d_CL_placeOf_46 : decode prog_1_method_25_code 46 = .ok (.iload_n 3, 1) := by decide +kernel
theorem d_CL_placeOf_47 : decode prog_1_method_25_code 47 = .ok (.irem, 1) := by decide +kernel
theorem d_CL_placeOf_48 : decode prog_1_method_25_code 48 = .ok (.iadd, 1) := by decide +kernel
theorem d_CL_placeOf_49 : decode prog_1_method_25_code 49 = .ok (.ireturn, 1) := by decide +kernel
def y_CL_symbolsFor : MethodName := ⟨"CarrierLink", "symbolsFor", "(II)I"⟩
theorem hd_CL_symbolsFor : y_CL_symbolsFor.cls ≠ "java/lang/invoke/MethodHandle" ∧ y_CL_symbolsFor.cls ≠ "java/lang/invoke/VarHandle" ∧ (parseMethodDescriptor y_CL_symbolsFor.desc).map (fun d => d.parameters.length) = some 2 := ⟨by decide +kernel, by decide +kernel, by decide +kernel⟩
theorem d_CL_symbolsFor_0 : decode prog_1_method_24_code 0 = .ok (.bipush 7, 2) := by decide +kernel
theorem d_CL_symbolsFor_2 : decode prog_1_method_24_code 2 = .ok (.bipush 8, 2) := by decide +kernel
theorem d_CL_symbolsFor_4 : decode prog_1_method_24_code 4 = .ok (.iload_n 1, 1) := by decide +kernel
theorem d_CL_symbolsFor_5 : decode prog_1_method_24_code 5 = .ok (.imul, 1) := by decide +kernel
theorem d_CL_symbolsFor_6 : decode prog_1_method_24_code 6 = .ok (.iadd, 1) := by decide +kernel
theorem d_CL_symbolsFor_7 : decode prog_1_method_24_code 7 = .ok (.bipush 6, 2) := by decide +kernel
theorem d_CL_symbolsFor_9 : decode prog_1_method_24_code 9 = .ok (.iadd, 1) := by decide +kernel
theorem d_CL_symbolsFor_10 : decode prog_1_method_24_code 10 = .ok (.istore_n 2, 1) := by decide +kernel
theorem d_CL_symbolsFor_11 : decode prog_1_method_24_code 11 = .ok (.getstatic 178, 3) := by decide +kernel
theorem d_CL_symbolsFor_14 : decode prog_1_method_24_code 14 = .ok (.iload_n 0, 1) := by decide +kernel
theorem d_CL_symbolsFor_15 : decode prog_1_method_24_code 15 = .ok (.iaload, 1) := by decide +kernel
theorem d_CL_symbolsFor_16 : decode prog_1_method_24_code 16 = .ok (.istore_n 3, 1) := by decide +kernel
theorem d_CL_symbolsFor_17 : decode prog_1_method_24_code 17 = .ok (.iload_n 2, 1) := by decide +kernel
theorem d_CL_symbolsFor_18 : decode prog_1_method_24_code 18 = .ok (.iload_n 3, 1) := by decide +kernel
theorem d_CL_symbolsFor_19 : decode prog_1_method_24_code 19 = .ok (.iadd, 1) := by decide +kernel
theorem d_CL_symbolsFor_20 : decode prog_1_method_24_code 20 = .ok (.iconst 1, 1) := by decide +kernel
theorem d_CL_symbolsFor_21 : decode prog_1_method_24_code 21 = .ok (.isub, 1) := by decide +kernel
theorem d_CL_symbolsFor_22 : decode prog_1_method_24_code 22 = .ok (.iload_n 3, 1) := by decide +kernel
theorem d_CL_symbolsFor_23 : decode prog_1_method_24_code 23 = .ok (.idiv, 1) := by decide +kernel
theorem d_CL_symbolsFor_24 : decode prog_1_method_24_code 24 = .ok (.ireturn, 1) := by decide +kernel
def y_CL_sample : MethodName := ⟨"CarrierLink", "sample", "(ZIZ)S"⟩
theorem hd_CL_sample : y_CL_sample.cls ≠ "java/lang/invoke/MethodHandle" ∧ y_CL_sample.cls ≠ "java/lang/invoke/VarHandle" ∧ (parseMethodDescriptor y_CL_sample.desc).map (fun d => d.parameters.length) = some 3 := ⟨by decide +kernel, by decide +kernel, by decide +kernel⟩
theorem d_CL_sample_0 : decode prog_1_method_6_code 0 = .ok (.iload_n 1, 1) := by decide +kernel
theorem d_CL_sample_1 : decode prog_1_method_6_code 1 = .ok (.ifCond .eq 10, 3) := by decide +kernel
theorem d_CL_sample_4 : decode prog_1_method_6_code 4 = .ok (.aload_n 0, 1) := by decide +kernel
theorem d_CL_sample_5 : decode prog_1_method_6_code 5 = .ok (.getfield 26, 3) := by decide +kernel
theorem d_CL_sample_8 : decode prog_1_method_6_code 8 = .ok (.goto 7, 3) := by decide +kernel
theorem d_CL_sample_11 : decode prog_1_method_6_code 11 = .ok (.aload_n 0, 1) := by decide +kernel
theorem d_CL_sample_12 : decode prog_1_method_6_code 12 = .ok (.getfield 22, 3) := by decide +kernel
theorem d_CL_sample_15 : decode prog_1_method_6_code 15 = .ok (.astore 4, 2) := by decide +kernel
theorem d_CL_sample_17 : decode prog_1_method_6_code 17 = .ok (.aload 4, 2) := by decide +kernel
theorem d_CL_sample_19 : decode prog_1_method_6_code 19 = .ok (.iload_n 2, 1) := by decide +kernel
theorem d_CL_sample_20 : decode prog_1_method_6_code 20 = .ok (.invokevirtual 97, 3) := by decide +kernel
theorem d_CL_sample_23 : decode prog_1_method_6_code 23 = .ok (.ifCond .ne 13, 3) := by decide +kernel
theorem d_CL_sample_26 : decode prog_1_method_6_code 26 = .ok (.new 101, 3) := by decide +kernel
theorem d_CL_sample_29 : decode prog_1_method_6_code 29 = .ok (.dup, 1) := by decide +kernel
theorem d_CL_sample_30 : decode prog_1_method_6_code 30 = .ok (.ldc 103, 2) := by decide +kernel
theorem d_CL_sample_32 : decode prog_1_method_6_code 32 = .ok (.invokespecial 105, 3) := by decide +kernel
theorem d_CL_sample_35 : decode prog_1_method_6_code 35 = .ok (.athrow, 1) := by decide +kernel
theorem d_CL_sample_36 : decode prog_1_method_6_code 36 = .ok (.iload_n 3, 1) := by decide +kernel
theorem d_CL_sample_37 : decode prog_1_method_6_code 37 = .ok (.ifCond .eq 13, 3) := by decide +kernel
theorem d_CL_sample_40 : decode prog_1_method_6_code 40 = .ok (.aload 4, 2) := by decide +kernel
theorem d_CL_sample_42 : decode prog_1_method_6_code 42 = .ok (.getfield 106, 3) := by decide +kernel
theorem d_CL_sample_45 : decode prog_1_method_6_code 45 = .ok (.iload_n 2, 1) := by decide +kernel
theorem d_CL_sample_46 : decode prog_1_method_6_code 46 = .ok (.saload, 1) := by decide +kernel
theorem d_CL_sample_47 : decode prog_1_method_6_code 47 = .ok (.goto 10, 3) := by decide +kernel
theorem d_CL_sample_50 : decode prog_1_method_6_code 50 = .ok (.aload 4, 2) := by decide +kernel
theorem d_CL_sample_52 : decode prog_1_method_6_code 52 = .ok (.getfield 110, 3) := by decide +kernel
theorem d_CL_sample_55 : decode prog_1_method_6_code 55 = .ok (.iload_n 2, 1) := by decide +kernel
theorem d_CL_sample_56 : decode prog_1_method_6_code 56 = .ok (.saload, 1) := by decide +kernel
theorem d_CL_sample_57 : decode prog_1_method_6_code 57 = .ok (.ireturn, 1) := by decide +kernel
def y_CL_air : MethodName := ⟨"CarrierLink", "air", "(III)I"⟩
theorem hd_CL_air : y_CL_air.cls ≠ "java/lang/invoke/MethodHandle" ∧ y_CL_air.cls ≠ "java/lang/invoke/VarHandle" ∧ (parseMethodDescriptor y_CL_air.desc).map (fun d => d.parameters.length) = some 3 := ⟨by decide +kernel, by decide +kernel, by decide +kernel⟩
theorem d_CL_air_0 : decode prog_1_method_7_code 0 = .ok (.iload_n 1, 1) := by decide +kernel
theorem d_CL_air_1 : decode prog_1_method_7_code 1 = .ok (.ifCond .lt 27, 3) := by decide +kernel
theorem d_CL_air_4 : decode prog_1_method_7_code 4 = .ok (.iload_n 1, 1) := by decide +kernel
theorem d_CL_air_5 : decode prog_1_method_7_code 5 = .ok (.bipush 40, 2) := by decide +kernel
theorem d_CL_air_7 : decode prog_1_method_7_code 7 = .ok (.if_icmp .gt 21, 3) := by decide +kernel
theorem d_CL_air_10 : decode prog_1_method_7_code 10 = .ok (.iload_n 2, 1) := by decide +kernel
theorem d_CL_air_11 : decode prog_1_method_7_code 11 = .ok (.ifCond .lt 17, 3) := by decide +kernel
theorem d_CL_air_14 : decode prog_1_method_7_code 14 = .ok (.iload_n 2, 1) := by decide +kernel
theorem d_CL_air_15 : decode prog_1_method_7_code 15 = .ok (.iconst 3, 1) := by decide +kernel
theorem d_CL_air_16 : decode prog_1_method_7_code 16 = .ok (.if_icmp .gt 12, 3) := by decide +kernel
theorem d_CL_air_19 : decode prog_1_method_7_code 19 = .ok (.iload_n 3, 1) := by decide +kernel
theorem d_CL_air_20 : decode prog_1_method_7_code 20 = .ok (.ifCond .lt 8, 3) := by decide +kernel
theorem d_CL_air_23 : decode prog_1_method_7_code 23 = .ok (.iload_n 3, 1) := by decide +kernel
theorem d_CL_air_24 : decode prog_1_method_7_code 24 = .ok (.iconst 3, 1) := by decide +kernel
theorem d_CL_air_25 : decode prog_1_method_7_code 25 = .ok (.if_icmp .le 13, 3) := by decide +kernel
theorem d_CL_air_28 : decode prog_1_method_7_code 28 = .ok (.new 53, 3) := by decide +kernel
theorem d_CL_air_31 : decode prog_1_method_7_code 31 = .ok (.dup, 1) := by decide +kernel
theorem d_CL_air_32 : decode prog_1_method_7_code 32 = .ok (.ldc 113, 2) := by decide +kernel
theorem d_CL_air_34 : decode prog_1_method_7_code 34 = .ok (.invokespecial 57, 3) := by decide +kernel
theorem d_CL_air_37 : decode prog_1_method_7_code 37 = .ok (.athrow, 1) := by decide +kernel
theorem d_CL_air_38 : decode prog_1_method_7_code 38 = .ok (.aload_n 0, 1) := by decide +kernel
theorem d_CL_air_39 : decode prog_1_method_7_code 39 = .ok (.getfield 22, 3) := by decide +kernel
theorem d_CL_air_42 : decode prog_1_method_7_code 42 = .ok (.getfield 69, 3) := by decide +kernel
theorem d_CL_air_45 : decode prog_1_method_7_code 45 = .ok (.ifCond .ne 13, 3) := by decide +kernel
theorem d_CL_air_48 : decode prog_1_method_7_code 48 = .ok (.new 60, 3) := by decide +kernel
theorem d_CL_air_51 : decode prog_1_method_7_code 51 = .ok (.dup, 1) := by decide +kernel
theorem d_CL_air_52 : decode prog_1_method_7_code 52 = .ok (.ldc 115, 2) := by decide +kernel
theorem d_CL_air_54 : decode prog_1_method_7_code 54 = .ok (.invokespecial 64, 3) := by decide +kernel
theorem d_CL_air_57 : decode prog_1_method_7_code 57 = .ok (.athrow, 1) := by decide +kernel
theorem d_CL_air_58 : decode prog_1_method_7_code 58 = .ok (.aload_n 0, 1) := by decide +kernel
theorem d_CL_air_59 : decode prog_1_method_7_code 59 = .ok (.getfield 26, 3) := by decide +kernel
theorem d_CL_air_62 : decode prog_1_method_7_code 62 = .ok (.invokevirtual 117, 3) := by decide +kernel
theorem d_CL_air_65 : decode prog_1_method_7_code 65 = .ok (.iconst 0, 1) := by decide +kernel
theorem d_CL_air_66 : decode prog_1_method_7_code 66 = .ok (.istore 4, 2) := by decide +kernel
theorem d_CL_air_68 : decode prog_1_method_7_code 68 = .ok (.iload 4, 2) := by decide +kernel
theorem d_CL_air_70 : decode prog_1_method_7_code 70 = .ok (.iload_n 1, 1) := by decide +kernel
theorem d_CL_air_71 : decode prog_1_method_7_code 71 = .ok (.if_icmp .ge 18, 3) := by decide +kernel
theorem d_CL_air_74 : decode prog_1_method_7_code 74 = .ok (.aload_n 0, 1) := by decide +kernel
theorem d_CL_air_75 : decode prog_1_method_7_code 75 = .ok (.getfield 26, 3) := by decide +kernel
theorem d_CL_air_78 : decode prog_1_method_7_code 78 = .ok (.iconst 0, 1) := by decide +kernel
theorem d_CL_air_79 : decode prog_1_method_7_code 79 = .ok (.iconst 0, 1) := by decide +kernel
theorem d_CL_air_80 : decode prog_1_method_7_code 80 = .ok (.invokevirtual 120, 3) := by decide +kernel
theorem d_CL_air_83 : decode prog_1_method_7_code 83 = .ok (.iinc 4 1, 3) := by decide +kernel
theorem d_CL_air_86 : decode prog_1_method_7_code 86 = .ok (.goto (-18), 3) := by decide +kernel
theorem d_CL_air_89 : decode prog_1_method_7_code 89 = .ok (.iconst 0, 1) := by decide +kernel
theorem d_CL_air_90 : decode prog_1_method_7_code 90 = .ok (.istore 4, 2) := by decide +kernel
theorem d_CL_air_92 : decode prog_1_method_7_code 92 = .ok (.iload 4, 2) := by decide +kernel
theorem d_CL_air_94 : decode prog_1_method_7_code 94 = .ok (.aload_n 0, 1) := by decide +kernel
theorem d_CL_air_95 : decode prog_1_method_7_code 95 = .ok (.getfield 22, 3) := by decide +kernel
theorem d_CL_air_98 : decode prog_1_method_7_code 98 = .ok (.getfield 69, 3) := by decide +kernel
theorem d_CL_air_101 : decode prog_1_method_7_code 101 = .ok (.if_icmp .ge 17, 3) := by decide +kernel
theorem d_CL_air_104 : decode prog_1_method_7_code 104 = .ok (.aload_n 0, 1) := by decide +kernel
theorem d_CL_air_105 : decode prog_1_method_7_code 105 = .ok (.iload 4, 2) := by decide +kernel
theorem d_CL_air_107 : decode prog_1_method_7_code 107 = .ok (.iload_n 2, 1) := by decide +kernel
theorem d_CL_air_108 : decode prog_1_method_7_code 108 = .ok (.iload_n 3, 1) := by decide +kernel
theorem d_CL_air_109 : decode prog_1_method_7_code 109 = .ok (.invokevirtual 124, 3) := by decide +kernel
theorem d_CL_air_112 : decode prog_1_method_7_code 112 = .ok (.iinc 4 1, 3) := by decide +kernel
theorem d_CL_air_115 : decode prog_1_method_7_code 115 = .ok (.goto (-23), 3) := by decide +kernel
theorem d_CL_air_118 : decode prog_1_method_7_code 118 = .ok (.aload_n 0, 1) := by decide +kernel
theorem d_CL_air_119 : decode prog_1_method_7_code 119 = .ok (.getfield 26, 3) := by decide +kernel
theorem d_CL_air_122 : decode prog_1_method_7_code 122 = .ok (.getfield 69, 3) := by decide +kernel
theorem d_CL_air_125 : decode prog_1_method_7_code 125 = .ok (.ireturn, 1) := by decide +kernel
