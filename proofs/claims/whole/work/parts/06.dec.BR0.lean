def y_BR_init : MethodName := ⟨"CarrierLink$BitRows", "<init>", "(II)V"⟩
theorem hd_BR_init : y_BR_init.cls ≠ "java/lang/invoke/MethodHandle" ∧ y_BR_init.cls ≠ "java/lang/invoke/VarHandle" ∧ (parseMethodDescriptor y_BR_init.desc).map (fun d => d.parameters.length) = some 2 := ⟨by decide +kernel, by decide +kernel, by decide +kernel⟩
theorem d_BR_init_0 : decode prog_2_method_1_code 0 = .ok (.aload_n 0, 1) := by decide +kernel
theorem d_BR_init_1 : decode prog_2_method_1_code 1 = .ok (.invokespecial 3, 3) := by decide +kernel
theorem d_BR_init_4 : decode prog_2_method_1_code 4 = .ok (.aload_n 0, 1) := by decide +kernel
theorem d_BR_init_5 : decode prog_2_method_1_code 5 = .ok (.iload_n 1, 1) := by decide +kernel
theorem d_BR_init_6 : decode prog_2_method_1_code 6 = .ok (.newarray .int, 2) := by decide +kernel
theorem d_BR_init_8 : decode prog_2_method_1_code 8 = .ok (.putfield 9, 3) := by decide +kernel
theorem d_BR_init_11 : decode prog_2_method_1_code 11 = .ok (.aload_n 0, 1) := by decide +kernel
theorem d_BR_init_12 : decode prog_2_method_1_code 12 = .ok (.iload_n 2, 1) := by decide +kernel
theorem d_BR_init_13 : decode prog_2_method_1_code 13 = .ok (.newarray .int, 2) := by decide +kernel
theorem d_BR_init_15 : decode prog_2_method_1_code 15 = .ok (.putfield 15, 3) := by decide +kernel
theorem d_BR_init_18 : decode prog_2_method_1_code 18 = .ok (.aload_n 0, 1) := by decide +kernel
theorem d_BR_init_19 : decode prog_2_method_1_code 19 = .ok (.iload_n 2, 1) := by decide +kernel
theorem d_BR_init_20 : decode prog_2_method_1_code 20 = .ok (.newarray .int, 2) := by decide +kernel
theorem d_BR_init_22 : decode prog_2_method_1_code 22 = .ok (.putfield 18, 3) := by decide +kernel
theorem d_BR_init_25 : decode prog_2_method_1_code 25 = .ok (.aload_n 0, 1) := by decide +kernel
theorem d_BR_init_26 : decode prog_2_method_1_code 26 = .ok (.iconst 0, 1) := by decide +kernel
theorem d_BR_init_27 : decode prog_2_method_1_code 27 = .ok (.putfield 21, 3) := by decide +kernel
theorem d_BR_init_30 : decode prog_2_method_1_code 30 = .ok (.aload_n 0, 1) := by decide +kernel
theorem d_BR_init_31 : decode prog_2_method_1_code 31 = .ok (.iconst 0, 1) := by decide +kernel
theorem d_BR_init_32 : decode prog_2_method_1_code 32 = .ok (.putfield 25, 3) := by decide +kernel
theorem d_BR_init_35 : decode prog_2_method_1_code 35 = .ok (.return_, 1) := by decide +kernel
def y_BR_clear : MethodName := ⟨"CarrierLink$BitRows", "clear", "()V"⟩
theorem hd_BR_clear : y_BR_clear.cls ≠ "java/lang/invoke/MethodHandle" ∧ y_BR_clear.cls ≠ "java/lang/invoke/VarHandle" ∧ (parseMethodDescriptor y_BR_clear.desc).map (fun d => d.parameters.length) = some 0 := ⟨by decide +kernel, by decide +kernel, by decide +kernel⟩
theorem d_BR_clear_0 : decode prog_2_method_2_code 0 = .ok (.aload_n 0, 1) := by decide +kernel
theorem d_BR_clear_1 : decode prog_2_method_2_code 1 = .ok (.iconst 0, 1) := by decide +kernel
theorem d_BR_clear_2 : decode prog_2_method_2_code 2 = .ok (.putfield 21, 3) := by decide +kernel
theorem d_BR_clear_5 : decode prog_2_method_2_code 5 = .ok (.aload_n 0, 1) := by decide +kernel
theorem d_BR_clear_6 : decode prog_2_method_2_code 6 = .ok (.iconst 0, 1) := by decide +kernel
theorem d_BR_clear_7 : decode prog_2_method_2_code 7 = .ok (.putfield 25, 3) := by decide +kernel
theorem d_BR_clear_10 : decode prog_2_method_2_code 10 = .ok (.return_, 1) := by decide +kernel
def y_BR_appendLowestFirst : MethodName := ⟨"CarrierLink$BitRows", "appendLowestFirst", "(II)V"⟩
theorem hd_BR_appendLowestFirst : y_BR_appendLowestFirst.cls ≠ "java/lang/invoke/MethodHandle" ∧ y_BR_appendLowestFirst.cls ≠ "java/lang/invoke/VarHandle" ∧ (parseMethodDescriptor y_BR_appendLowestFirst.desc).map (fun d => d.parameters.length) = some 2 := ⟨by decide +kernel, by decide +kernel, by decide +kernel⟩
theorem d_BR_appendLowestFirst_0 : decode prog_2_method_4_code 0 = .ok (.iconst 0, 1) := by decide +kernel
theorem d_BR_appendLowestFirst_1 : decode prog_2_method_4_code 1 = .ok (.istore_n 3, 1) := by decide +kernel
theorem d_BR_appendLowestFirst_2 : decode prog_2_method_4_code 2 = .ok (.iload_n 3, 1) := by decide +kernel
theorem d_BR_appendLowestFirst_3 : decode prog_2_method_4_code 3 = .ok (.iload_n 2, 1) := by decide +kernel
theorem d_BR_appendLowestFirst_4 : decode prog_2_method_4_code 4 = .ok (.if_icmp .ge 18, 3) := by decide +kernel
theorem d_BR_appendLowestFirst_7 : decode prog_2_method_4_code 7 = .ok (.aload_n 0, 1) := by decide +kernel
theorem d_BR_appendLowestFirst_8 : decode prog_2_method_4_code 8 = .ok (.iload_n 1, 1) := by decide +kernel
theorem d_BR_appendLowestFirst_9 : decode prog_2_method_4_code 9 = .ok (.iload_n 3, 1) := by decide +kernel
theorem d_BR_appendLowestFirst_10 : decode prog_2_method_4_code 10 = .ok (.ishr, 1) := by decide +kernel
theorem d_BR_appendLowestFirst_11 : decode prog_2_method_4_code 11 = .ok (.iconst 1, 1) := by decide +kernel
theorem d_BR_appendLowestFirst_12 : decode prog_2_method_4_code 12 = .ok (.iand, 1) := by decide +kernel
theorem d_BR_appendLowestFirst_13 : decode prog_2_method_4_code 13 = .ok (.invokevirtual 28, 3) := by decide +kernel
theorem d_BR_appendLowestFirst_16 : decode prog_2_method_4_code 16 = .ok (.iinc 3 1, 3) := by decide +kernel
theorem d_BR_appendLowestFirst_19 : decode prog_2_method_4_code 19 = .ok (.goto (-17), 3) := by decide +kernel
theorem d_BR_appendLowestFirst_22 : decode prog_2_method_4_code 22 = .ok (.return_, 1) := by decide +kernel
def y_BR_append : MethodName := ⟨"CarrierLink$BitRows", "append", "(I)V"⟩
theorem hd_BR_append : y_BR_append.cls ≠ "java/lang/invoke/MethodHandle" ∧ y_BR_append.cls ≠ "java/lang/invoke/VarHandle" ∧ (parseMethodDescriptor y_BR_append.desc).map (fun d => d.parameters.length) = some 1 := ⟨by decide +kernel, by decide +kernel, by decide +kernel⟩
theorem d_BR_append_0 : decode prog_2_method_3_code 0 = .ok (.aload_n 0, 1) := by decide +kernel
theorem d_BR_append_1 : decode prog_2_method_3_code 1 = .ok (.getfield 21, 3) := by decide +kernel
theorem d_BR_append_4 : decode prog_2_method_3_code 4 = .ok (.aload_n 0, 1) := by decide +kernel
theorem d_BR_append_5 : decode prog_2_method_3_code 5 = .ok (.getfield 9, 3) := by decide +kernel
theorem d_BR_append_8 : decode prog_2_method_3_code 8 = .ok (.arraylength, 1) := by decide +kernel
theorem d_BR_append_9 : decode prog_2_method_3_code 9 = .ok (.if_icmp .ge 23, 3) := by decide +kernel
theorem d_BR_append_12 : decode prog_2_method_3_code 12 = .ok (.aload_n 0, 1) := by decide +kernel
theorem d_BR_append_13 : decode prog_2_method_3_code 13 = .ok (.getfield 9, 3) := by decide +kernel
theorem d_BR_append_16 : decode prog_2_method_3_code 16 = .ok (.aload_n 0, 1) := by decide +kernel
theorem d_BR_append_17 : decode prog_2_method_3_code 17 = .ok (.getfield 21, 3) := by decide +kernel
theorem d_BR_append_20 : decode prog_2_method_3_code 20 = .ok (.iload_n 1, 1) := by decide +kernel
theorem d_BR_append_21 : decode prog_2_method_3_code 21 = .ok (.iastore, 1) := by decide +kernel
theorem d_BR_append_22 : decode prog_2_method_3_code 22 = .ok (.aload_n 0, 1) := by decide +kernel
theorem d_BR_append_23 : decode prog_2_method_3_code 23 = .ok (.dup, 1) := by decide +kernel
theorem d_BR_append_24 : decode prog_2_method_3_code 24 = .ok (.getfield 21, 3) := by decide +kernel
theorem d_BR_append_27 : decode prog_2_method_3_code 27 = .ok (.iconst 1, 1) := by decide +kernel
theorem d_BR_append_28 : decode prog_2_method_3_code 28 = .ok (.iadd, 1) := by decide +kernel
theorem d_BR_append_29 : decode prog_2_method_3_code 29 = .ok (.putfield 21, 3) := by decide +kernel
theorem d_BR_append_32 : decode prog_2_method_3_code 32 = .ok (.return_, 1) := by decide +kernel
def y_BR_appendZeros : MethodName := ⟨"CarrierLink$BitRows", "appendZeros", "(I)V"⟩
theorem hd_BR_appendZeros : y_BR_appendZeros.cls ≠ "java/lang/invoke/MethodHandle" ∧ y_BR_appendZeros.cls ≠ "java/lang/invoke/VarHandle" ∧ (parseMethodDescriptor y_BR_appendZeros.desc).map (fun d => d.parameters.length) = some 1 := ⟨by decide +kernel, by decide +kernel, by decide +kernel⟩
theorem d_BR_appendZeros_0 : decode prog_2_method_5_code 0 = .ok (.aload_n 0, 1) := by decide +kernel
theorem d_BR_appendZeros_1 : decode prog_2_method_5_code 1 = .ok (.iconst 0, 1) := by decide +kernel
theorem d_BR_appendZeros_2 : decode prog_2_method_5_code 2 = .ok (.iload_n 1, 1) := by decide +kernel
theorem d_BR_appendZeros_3 : decode prog_2_method_5_code 3 = .ok (.invokevirtual 32, 3) := by decide +kernel
theorem d_BR_appendZeros_6 : decode prog_2_method_5_code 6 = .ok (.return_, 1) := by decide +kernel
def y_BR_encode : MethodName := ⟨"CarrierLink$BitRows", "encode", "(I)V"⟩
theorem hd_BR_encode : y_BR_encode.cls ≠ "java/lang/invoke/MethodHandle" ∧ y_BR_encode.cls ≠ "java/lang/invoke/VarHandle" ∧ (parseMethodDescriptor y_BR_encode.desc).map (fun d => d.parameters.length) = some 1 := ⟨by decide +kernel, by decide +kernel, by decide +kernel⟩
theorem d_BR_encode_0 : decode prog_2_method_6_code 0 = .ok (.aload_n 0, 1) := by decide +kernel
theorem d_BR_encode_1 : decode prog_2_method_6_code 1 = .ok (.iload_n 1, 1) := by decide +kernel
theorem d_BR_encode_2 : decode prog_2_method_6_code 2 = .ok (.invokestatic 36, 3) := by decide +kernel
theorem d_BR_encode_5 : decode prog_2_method_6_code 5 = .ok (.invokevirtual 40, 3) := by decide +kernel
theorem d_BR_encode_8 : decode prog_2_method_6_code 8 = .ok (.aload_n 0, 1) := by decide +kernel
theorem d_BR_encode_9 : decode prog_2_method_6_code 9 = .ok (.getstatic 44, 3) := by decide +kernel
theorem d_BR_encode_12 : decode prog_2_method_6_code 12 = .ok (.iload_n 1, 1) := by decide +kernel
theorem d_BR_encode_13 : decode prog_2_method_6_code 13 = .ok (.iaload, 1) := by decide +kernel
theorem d_BR_encode_14 : decode prog_2_method_6_code 14 = .ok (.invokevirtual 47, 3) := by decide +kernel
theorem d_BR_encode_17 : decode prog_2_method_6_code 17 = .ok (.return_, 1) := by decide +kernel
def y_BR_code : MethodName := ⟨"CarrierLink$BitRows", "code", "(Z)V"⟩
theorem hd_BR_code : y_BR_code.cls ≠ "java/lang/invoke/MethodHandle" ∧ y_BR_code.cls ≠ "java/lang/invoke/VarHandle" ∧ (parseMethodDescriptor y_BR_code.desc).map (fun d => d.parameters.length) = some 1 := ⟨by decide +kernel, by decide +kernel, by decide +kernel⟩
theorem d_BR_code_0 : decode prog_2_method_7_code 0 = .ok (.iconst 0, 1) := by decide +kernel
theorem d_BR_code_1 : decode prog_2_method_7_code 1 = .ok (.istore_n 2, 1) := by decide +kernel
theorem d_BR_code_2 : decode prog_2_method_7_code 2 = .ok (.iconst 0, 1) := by decide +kernel
theorem d_BR_code_3 : decode prog_2_method_7_code 3 = .ok (.istore_n 3, 1) := by decide +kernel
theorem d_BR_code_4 : decode prog_2_method_7_code 4 = .ok (.iload_n 3, 1) := by decide +kernel
theorem d_BR_code_5 : decode prog_2_method_7_code 5 = .ok (.aload_n 0, 1) := by decide +kernel
theorem d_BR_code_6 : decode prog_2_method_7_code 6 = .ok (.getfield 21, 3) := by decide +kernel
theorem d_BR_code_9 : decode prog_2_method_7_code 9 = .ok (.if_icmp .ge 59, 3) := by decide +kernel
theorem d_BR_code_12 : decode prog_2_method_7_code 12 = .ok (.iload_n 2, 1) := by decide +kernel
theorem d_BR_code_13 : decode prog_2_method_7_code 13 = .ok (.iconst 1, 1) := by decide +kernel
theorem d_BR_code_14 : decode prog_2_method_7_code 14 = .ok (.ishr, 1) := by decide +kernel
theorem d_BR_code_15 : decode prog_2_method_7_code 15 = .ok (.aload_n 0, 1) := by decide +kernel
theorem d_BR_code_16 : decode prog_2_method_7_code 16 = .ok (.getfield 9, 3) := by decide +kernel
theorem d_BR_code_19 : decode prog_2_method_7_code 19 = .ok (.iload_n 3, 1) := by decide +kernel
theorem d_BR_code_20 : decode prog_2_method_7_code 20 = .ok (.iaload, 1) := by decide +kernel
theorem d_BR_code_21 : decode prog_2_method_7_code 21 = .ok (.bipush 6, 2) := by decide +kernel
theorem d_BR_code_23 : decode prog_2_method_7_code 23 = .ok (.ishl, 1) := by decide +kernel
theorem d_BR_code_24 : decode prog_2_method_7_code 24 = .ok (.ior, 1) := by decide +kernel
theorem d_BR_code_25 : decode prog_2_method_7_code 25 = .ok (.istore_n 2, 1) := by decide +kernel
theorem d_BR_code_26 : decode prog_2_method_7_code 26 = .ok (.iload_n 1, 1) := by decide +kernel
theorem d_BR_code_27 : decode prog_2_method_7_code 27 = .ok (.iload_n 3, 1) := by decide +kernel
theorem d_BR_code_28 : decode prog_2_method_7_code 28 = .ok (.invokestatic 50, 3) := by decide +kernel
theorem d_BR_code_31 : decode prog_2_method_7_code 31 = .ok (.ifCond .eq 13, 3) := by decide +kernel
theorem d_BR_code_34 : decode prog_2_method_7_code 34 = .ok (.aload_n 0, 1) := by decide +kernel
theorem d_BR_code_35 : decode prog_2_method_7_code 35 = .ok (.iload_n 2, 1) := by decide +kernel
theorem d_BR_code_36 : decode prog_2_method_7_code 36 = .ok (.bipush 91, 2) := by decide +kernel
theorem d_BR_code_38 : decode prog_2_method_7_code 38 = .ok (.invokestatic 54, 3) := by decide +kernel
theorem d_BR_code_41 : decode prog_2_method_7_code 41 = .ok (.invokevirtual 58, 3) := by decide +kernel
theorem d_BR_code_44 : decode prog_2_method_7_code 44 = .ok (.iload_n 1, 1) := by decide +kernel
theorem d_BR_code_45 : decode prog_2_method_7_code 45 = .ok (.iload_n 3, 1) := by decide +kernel
theorem d_BR_code_46 : decode prog_2_method_7_code 46 = .ok (.invokestatic 61, 3) := by decide +kernel
theorem d_BR_code_49 : decode prog_2_method_7_code 49 = .ok (.ifCond .eq 13, 3) := by decide +kernel
theorem d_BR_code_52 : decode prog_2_method_7_code 52 = .ok (.aload_n 0, 1) := by decide +kernel
theorem d_BR_code_53 : decode prog_2_method_7_code 53 = .ok (.iload_n 2, 1) := by decide +kernel
theorem d_BR_code_54 : decode prog_2_method_7_code 54 = .ok (.bipush 121, 2) := by decide +kernel
theorem d_BR_code_56 : decode prog_2_method_7_code 56 = .ok (.invokestatic 54, 3) := by decide +kernel
theorem d_BR_code_59 : decode prog_2_method_7_code 59 = .ok (.invokevirtual 58, 3) := by decide +kernel
theorem d_BR_code_62 : decode prog_2_method_7_code 62 = .ok (.iinc 3 1, 3) := by decide +kernel
theorem d_BR_code_65 : decode prog_2_method_7_code 65 = .ok (.goto (-61), 3) := by decide +kernel
theorem d_BR_code_68 : decode prog_2_method_7_code 68 = .ok (.return_, 1) := by decide +kernel
def y_BR_appendCoded : MethodName := ⟨"CarrierLink$BitRows", "appendCoded", "(I)V"⟩
theorem hd_BR_appendCoded : y_BR_appendCoded.cls ≠ "java/lang/invoke/MethodHandle" ∧ y_BR_appendCoded.cls ≠ "java/lang/invoke/VarHandle" ∧ (parseMethodDescriptor y_BR_appendCoded.desc).map (fun d => d.parameters.length) = some 1 := ⟨by decide +kernel, by decide +kernel, by decide +kernel⟩
theorem d_BR_appendCoded_0 : decode prog_2_method_8_code 0 = .ok (.aload_n 0, 1) := by decide +kernel
theorem d_BR_appendCoded_1 : decode prog_2_method_8_code 1 = .ok (.getfield 25, 3) := by decide +kernel
theorem d_BR_appendCoded_4 : decode prog_2_method_8_code 4 = .ok (.aload_n 0, 1) := by decide +kernel
theorem d_BR_appendCoded_5 : decode prog_2_method_8_code 5 = .ok (.getfield 15, 3) := by decide +kernel
theorem d_BR_appendCoded_8 : decode prog_2_method_8_code 8 = .ok (.arraylength, 1) := by decide +kernel
theorem d_BR_appendCoded_9 : decode prog_2_method_8_code 9 = .ok (.if_icmp .ge 23, 3) := by decide +kernel
theorem d_BR_appendCoded_12 : decode prog_2_method_8_code 12 = .ok (.aload_n 0, 1) := by decide +kernel
theorem d_BR_appendCoded_13 : decode prog_2_method_8_code 13 = .ok (.getfield 15, 3) := by decide +kernel
theorem d_BR_appendCoded_16 : decode prog_2_method_8_code 16 = .ok (.aload_n 0, 1) := by decide +kernel
theorem d_BR_appendCoded_17 : decode prog_2_method_8_code 17 = .ok (.getfield 25, 3) := by decide +kernel
theorem d_BR_appendCoded_20 : decode prog_2_method_8_code 20 = .ok (.iload_n 1, 1) := by decide +kernel
theorem d_BR_appendCoded_21 : decode prog_2_method_8_code 21 = .ok (.iastore, 1) := by decide +kernel
theorem d_BR_appendCoded_22 : decode prog_2_method_8_code 22 = .ok (.aload_n 0, 1) := by decide +kernel
theorem d_BR_appendCoded_23 : decode prog_2_method_8_code 23 = .ok (.dup, 1) := by decide +kernel
theorem d_BR_appendCoded_24 : decode prog_2_method_8_code 24 = .ok (.getfield 25, 3) := by decide +kernel
theorem d_BR_appendCoded_27 : decode prog_2_method_8_code 27 = .ok (.iconst 1, 1) := by decide +kernel
theorem d_BR_appendCoded_28 : decode prog_2_method_8_code 28 = .ok (.iadd, 1) := by decide +kernel
theorem d_BR_appendCoded_29 : decode prog_2_method_8_code 29 = .ok (.putfield 25, 3) := by decide +kernel
theorem d_BR_appendCoded_32 : decode prog_2_method_8_code 32 = .ok (.return_, 1) := by decide +kernel
def y_BR_interleave : MethodName := ⟨"CarrierLink$BitRows", "interleave", "(I)V"⟩
theorem hd_BR_interleave : y_BR_interleave.cls ≠ "java/lang/invoke/MethodHandle" ∧ y_BR_interleave.cls ≠ "java/lang/invoke/VarHandle" ∧ (parseMethodDescriptor y_BR_interleave.desc).map (fun d => d.parameters.length) = some 1 := ⟨by decide +kernel, by decide +kernel, by decide +kernel⟩
theorem d_BR_interleave_0 : decode prog_2_method_9_code 0 = .ok (.bipush 12, 2) := by decide +kernel
theorem d_BR_interleave_2 : decode prog_2_method_9_code 2 = .ok (.iload_n 1, 1) := by decide +kernel
theorem d_BR_interleave_3 : decode prog_2_method_9_code 3 = .ok (.imul, 1) := by decide +kernel
theorem d_BR_interleave_4 : decode prog_2_method_9_code 4 = .ok (.istore_n 2, 1) := by decide +kernel
theorem d_BR_interleave_5 : decode prog_2_method_9_code 5 = .ok (.iconst 0, 1) := by decide +kernel
theorem d_BR_interleave_6 : decode prog_2_method_9_code 6 = .ok (.istore_n 3, 1) := by decide +kernel
theorem d_BR_interleave_7 : decode prog_2_method_9_code 7 = .ok (.iload_n 3, 1) := by decide +kernel
theorem d_BR_interleave_8 : decode prog_2_method_9_code 8 = .ok (.iload_n 2, 1) := by decide +kernel
theorem d_BR_interleave_9 : decode prog_2_method_9_code 9 = .ok (.iadd, 1) := by decide +kernel
theorem d_BR_interleave_10 : decode prog_2_method_9_code 10 = .ok (.aload_n 0, 1) := by decide +kernel
theorem d_BR_interleave_11 : decode prog_2_method_9_code 11 = .ok (.getfield 25, 3) := by decide +kernel
theorem d_BR_interleave_14 : decode prog_2_method_9_code 14 = .ok (.if_icmp .gt 47, 3) := by decide +kernel
theorem d_BR_interleave_17 : decode prog_2_method_9_code 17 = .ok (.iconst 0, 1) := by decide +kernel
theorem d_BR_interleave_18 : decode prog_2_method_9_code 18 = .ok (.istore 4, 2) := by decide +kernel
theorem d_BR_interleave_20 : decode prog_2_method_9_code 20 = .ok (.iload 4, 2) := by decide +kernel
theorem d_BR_interleave_22 : decode prog_2_method_9_code 22 = .ok (.iload_n 2, 1) := by decide +kernel
theorem d_BR_interleave_23 : decode prog_2_method_9_code 23 = .ok (.if_icmp .ge 31, 3) := by decide +kernel
theorem d_BR_interleave_26 : decode prog_2_method_9_code 26 = .ok (.aload_n 0, 1) := by decide +kernel
theorem d_BR_interleave_27 : decode prog_2_method_9_code 27 = .ok (.getfield 18, 3) := by decide +kernel
theorem d_BR_interleave_30 : decode prog_2_method_9_code 30 = .ok (.iload_n 3, 1) := by decide +kernel
theorem d_BR_interleave_31 : decode prog_2_method_9_code 31 = .ok (.iload 4, 2) := by decide +kernel
theorem d_BR_interleave_33 : decode prog_2_method_9_code 33 = .ok (.iload_n 1, 1) := by decide +kernel
theorem d_BR_interleave_34 : decode prog_2_method_9_code 34 = .ok (.invokestatic 64, 3) := by decide +kernel
theorem d_BR_interleave_37 : decode prog_2_method_9_code 37 = .ok (.iadd, 1) := by decide +kernel
theorem d_BR_interleave_38 : decode prog_2_method_9_code 38 = .ok (.aload_n 0, 1) := by decide +kernel
theorem d_BR_interleave_39 : decode prog_2_method_9_code 39 = .ok (.getfield 15, 3) := by decide +kernel
theorem d_BR_interleave_42 : decode prog_2_method_9_code 42 = .ok (.iload_n 3, 1) := by decide +kernel
theorem d_BR_interleave_43 : decode prog_2_method_9_code 43 = .ok (.iload 4, 2) := by decide +kernel
theorem d_BR_interleave_45 : decode prog_2_method_9_code 45 = .ok (.iadd, 1) := by decide +kernel
theorem d_BR_interleave_46 : decode prog_2_method_9_code 46 = .ok (.iaload, 1) := by decide +kernel
theorem d_BR_interleave_47 : decode prog_2_method_9_code 47 = .ok (.iastore, 1) := by decide +kernel
theorem d_BR_interleave_48 : decode prog_2_method_9_code 48 = .ok (.iinc 4 1, 3) := by decide +kernel
theorem d_BR_interleave_51 : decode prog_2_method_9_code 51 = .ok (.goto (-31), 3) := by decide +kernel
theorem d_BR_interleave_54 : decode prog_2_method_9_code 54 = .ok (.iload_n 3, 1) := by decide +kernel
theorem d_BR_interleave_55 : decode prog_2_method_9_code 55 = .ok (.iload_n 2, 1) := by decide +kernel
theorem d_BR_interleave_56 : decode prog_2_method_9_code 56 = .ok (.iadd, 1) := by decide +kernel
theorem d_BR_interleave_57 : decode prog_2_method_9_code 57 = .ok (.istore_n 3, 1) := by decide +kernel
theorem d_BR_interleave_58 : decode prog_2_method_9_code 58 = .ok (.goto (-51), 3) := by decide +kernel
theorem d_BR_interleave_61 : decode prog_2_method_9_code 61 = .ok (.return_, 1) := by decide +kernel
