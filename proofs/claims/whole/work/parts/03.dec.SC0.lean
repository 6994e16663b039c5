def y_SC_init : MethodName := ⟨"CarrierLink$Scrambler", "<init>", "()V"⟩
theorem hd_SC_init : y_SC_init.cls ≠ "java/lang/invoke/MethodHandle" ∧ y_SC_init.cls ≠ "java/lang/invoke/VarHandle" ∧ (parseMethodDescriptor y_SC_init.desc).map (fun d => d.parameters.length) = some 0 := ⟨by decide +kernel, by decide +kernel, by decide +kernel⟩
theorem d_SC_init_0 : decode prog_6_method_1_code 0 = .ok (.aload_n 0, 1) := by decide +kernel
theorem d_SC_init_1 : decode prog_6_method_1_code 1 = .ok (.invokespecial 3, 3) := by decide +kernel
theorem d_SC_init_4 : decode prog_6_method_1_code 4 = .ok (.aload_n 0, 1) := by decide +kernel
theorem d_SC_init_5 : decode prog_6_method_1_code 5 = .ok (.bipush 127, 2) := by decide +kernel
theorem d_SC_init_7 : decode prog_6_method_1_code 7 = .ok (.putfield 9, 3) := by decide +kernel
theorem d_SC_init_10 : decode prog_6_method_1_code 10 = .ok (.return_, 1) := by decide +kernel
def y_SC_begin : MethodName := ⟨"CarrierLink$Scrambler", "begin", "(I)V"⟩
theorem hd_SC_begin : y_SC_begin.cls ≠ "java/lang/invoke/MethodHandle" ∧ y_SC_begin.cls ≠ "java/lang/invoke/VarHandle" ∧ (parseMethodDescriptor y_SC_begin.desc).map (fun d => d.parameters.length) = some 1 := ⟨by decide +kernel, by decide +kernel, by decide +kernel⟩
theorem d_SC_begin_0 : decode prog_6_method_2_code 0 = .ok (.aload_n 0, 1) := by decide +kernel
theorem d_SC_begin_1 : decode prog_6_method_2_code 1 = .ok (.iload_n 1, 1) := by decide +kernel
theorem d_SC_begin_2 : decode prog_6_method_2_code 2 = .ok (.putfield 9, 3) := by decide +kernel
theorem d_SC_begin_5 : decode prog_6_method_2_code 5 = .ok (.return_, 1) := by decide +kernel
def y_SC_next : MethodName := ⟨"CarrierLink$Scrambler", "next", "()I"⟩
theorem hd_SC_next : y_SC_next.cls ≠ "java/lang/invoke/MethodHandle" ∧ y_SC_next.cls ≠ "java/lang/invoke/VarHandle" ∧ (parseMethodDescriptor y_SC_next.desc).map (fun d => d.parameters.length) = some 0 := ⟨by decide +kernel, by decide +kernel, by decide +kernel⟩
theorem d_SC_next_0 : decode prog_6_method_3_code 0 = .ok (.aload_n 0, 1) := by decide +kernel
theorem d_SC_next_1 : decode prog_6_method_3_code 1 = .ok (.getfield 9, 3) := by decide +kernel
theorem d_SC_next_4 : decode prog_6_method_3_code 4 = .ok (.bipush 6, 2) := by decide +kernel
theorem d_SC_next_6 : decode prog_6_method_3_code 6 = .ok (.ishr, 1) := by decide +kernel
theorem d_SC_next_7 : decode prog_6_method_3_code 7 = .ok (.aload_n 0, 1) := by decide +kernel
theorem d_SC_next_8 : decode prog_6_method_3_code 8 = .ok (.getfield 9, 3) := by decide +kernel
theorem d_SC_next_11 : decode prog_6_method_3_code 11 = .ok (.iconst 3, 1) := by decide +kernel
theorem d_SC_next_12 : decode prog_6_method_3_code 12 = .ok (.ishr, 1) := by decide +kernel
theorem d_SC_next_13 : decode prog_6_method_3_code 13 = .ok (.ixor, 1) := by decide +kernel
theorem d_SC_next_14 : decode prog_6_method_3_code 14 = .ok (.iconst 1, 1) := by decide +kernel
theorem d_SC_next_15 : decode prog_6_method_3_code 15 = .ok (.iand, 1) := by decide +kernel
theorem d_SC_next_16 : decode prog_6_method_3_code 16 = .ok (.istore_n 1, 1) := by decide +kernel
theorem d_SC_next_17 : decode prog_6_method_3_code 17 = .ok (.aload_n 0, 1) := by decide +kernel
theorem d_SC_next_18 : decode prog_6_method_3_code 18 = .ok (.aload_n 0, 1) := by decide +kernel
theorem d_SC_next_19 : decode prog_6_method_3_code 19 = .ok (.getfield 9, 3) := by decide +kernel
theorem d_SC_next_22 : decode prog_6_method_3_code 22 = .ok (.iconst 1, 1) := by decide +kernel
theorem d_SC_next_23 : decode prog_6_method_3_code 23 = .ok (.ishl, 1) := by decide +kernel
theorem d_SC_next_24 : decode prog_6_method_3_code 24 = .ok (.iload_n 1, 1) := by decide +kernel
theorem d_SC_next_25 : decode prog_6_method_3_code 25 = .ok (.ior, 1) := by decide +kernel
theorem d_SC_next_26 : decode prog_6_method_3_code 26 = .ok (.bipush 127, 2) := by decide +kernel
theorem d_SC_next_28 : decode prog_6_method_3_code 28 = .ok (.iand, 1) := by decide +kernel
theorem d_SC_next_29 : decode prog_6_method_3_code 29 = .ok (.putfield 9, 3) := by decide +kernel
theorem d_SC_next_32 : decode prog_6_method_3_code 32 = .ok (.iload_n 1, 1) := by decide +kernel
theorem d_SC_next_33 : decode prog_6_method_3_code 33 = .ok (.ireturn, 1) := by decide +kernel
