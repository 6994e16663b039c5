def y_WA_init : MethodName := ⟨"CarrierLink$Wave", "<init>", "(I)V"⟩
theorem hd_WA_init : y_WA_init.cls ≠ "java/lang/invoke/MethodHandle" ∧ y_WA_init.cls ≠ "java/lang/invoke/VarHandle" ∧ (parseMethodDescriptor y_WA_init.desc).map (fun d => d.parameters.length) = some 1 := ⟨by decide +kernel, by decide +kernel, by decide +kernel⟩
theorem d_WA_init_0 : decode prog_8_method_1_code 0 = .ok (.aload_n 0, 1) := by decide +kernel
theorem d_WA_init_1 : decode prog_8_method_1_code 1 = .ok (.invokespecial 1, 3) := by decide +kernel
theorem d_WA_init_4 : decode prog_8_method_1_code 4 = .ok (.aload_n 0, 1) := by decide +kernel
theorem d_WA_init_5 : decode prog_8_method_1_code 5 = .ok (.iload_n 1, 1) := by decide +kernel
theorem d_WA_init_6 : decode prog_8_method_1_code 6 = .ok (.newarray .short, 2) := by decide +kernel
theorem d_WA_init_8 : decode prog_8_method_1_code 8 = .ok (.putfield 7, 3) := by decide +kernel
theorem d_WA_init_11 : decode prog_8_method_1_code 11 = .ok (.aload_n 0, 1) := by decide +kernel
theorem d_WA_init_12 : decode prog_8_method_1_code 12 = .ok (.iload_n 1, 1) := by decide +kernel
theorem d_WA_init_13 : decode prog_8_method_1_code 13 = .ok (.newarray .short, 2) := by decide +kernel
theorem d_WA_init_15 : decode prog_8_method_1_code 15 = .ok (.putfield 13, 3) := by decide +kernel
theorem d_WA_init_18 : decode prog_8_method_1_code 18 = .ok (.aload_n 0, 1) := by decide +kernel
theorem d_WA_init_19 : decode prog_8_method_1_code 19 = .ok (.iconst 0, 1) := by decide +kernel
theorem d_WA_init_20 : decode prog_8_method_1_code 20 = .ok (.putfield 16, 3) := by decide +kernel
theorem d_WA_init_23 : decode prog_8_method_1_code 23 = .ok (.return_, 1) := by decide +kernel
def y_WA_has : MethodName := ⟨"CarrierLink$Wave", "has", "(I)Z"⟩
theorem hd_WA_has : y_WA_has.cls ≠ "java/lang/invoke/MethodHandle" ∧ y_WA_has.cls ≠ "java/lang/invoke/VarHandle" ∧ (parseMethodDescriptor y_WA_has.desc).map (fun d => d.parameters.length) = some 1 := ⟨by decide +kernel, by decide +kernel, by decide +kernel⟩
theorem d_WA_has_0 : decode prog_8_method_3_code 0 = .ok (.iload_n 1, 1) := by decide +kernel
theorem d_WA_has_1 : decode prog_8_method_3_code 1 = .ok (.ifCond .lt 15, 3) := by decide +kernel
theorem d_WA_has_4 : decode prog_8_method_3_code 4 = .ok (.iload_n 1, 1) := by decide +kernel
theorem d_WA_has_5 : decode prog_8_method_3_code 5 = .ok (.aload_n 0, 1) := by decide +kernel
theorem d_WA_has_6 : decode prog_8_method_3_code 6 = .ok (.getfield 16, 3) := by decide +kernel
theorem d_WA_has_9 : decode prog_8_method_3_code 9 = .ok (.if_icmp .ge 7, 3) := by decide +kernel
theorem d_WA_has_12 : decode prog_8_method_3_code 12 = .ok (.iconst 1, 1) := by decide +kernel
theorem d_WA_has_13 : decode prog_8_method_3_code 13 = .ok (.goto 4, 3) := by decide +kernel
theorem d_WA_has_16 : decode prog_8_method_3_code 16 = .ok (.iconst 0, 1) := by decide +kernel
theorem d_WA_has_17 : decode prog_8_method_3_code 17 = .ok (.ireturn, 1) := by decide +kernel
def y_WA_addTo : MethodName := ⟨"CarrierLink$Wave", "addTo", "(III)V"⟩
theorem hd_WA_addTo : y_WA_addTo.cls ≠ "java/lang/invoke/MethodHandle" ∧ y_WA_addTo.cls ≠ "java/lang/invoke/VarHandle" ∧ (parseMethodDescriptor y_WA_addTo.desc).map (fun d => d.parameters.length) = some 3 := ⟨by decide +kernel, by decide +kernel, by decide +kernel⟩
theorem d_WA_addTo_0 : decode prog_8_method_5_code 0 = .ok (.aload_n 0, 1) := by decide +kernel
theorem d_WA_addTo_1 : decode prog_8_method_5_code 1 = .ok (.getfield 7, 3) := by decide +kernel
theorem d_WA_addTo_4 : decode prog_8_method_5_code 4 = .ok (.iload_n 1, 1) := by decide +kernel
theorem d_WA_addTo_5 : decode prog_8_method_5_code 5 = .ok (.aload_n 0, 1) := by decide +kernel
theorem d_WA_addTo_6 : decode prog_8_method_5_code 6 = .ok (.getfield 7, 3) := by decide +kernel
theorem d_WA_addTo_9 : decode prog_8_method_5_code 9 = .ok (.iload_n 1, 1) := by decide +kernel
theorem d_WA_addTo_10 : decode prog_8_method_5_code 10 = .ok (.saload, 1) := by decide +kernel
theorem d_WA_addTo_11 : decode prog_8_method_5_code 11 = .ok (.iload_n 2, 1) := by decide +kernel
theorem d_WA_addTo_12 : decode prog_8_method_5_code 12 = .ok (.iadd, 1) := by decide +kernel
theorem d_WA_addTo_13 : decode prog_8_method_5_code 13 = .ok (.invokestatic 20, 3) := by decide +kernel
theorem d_WA_addTo_16 : decode prog_8_method_5_code 16 = .ok (.sastore, 1) := by decide +kernel
theorem d_WA_addTo_17 : decode prog_8_method_5_code 17 = .ok (.aload_n 0, 1) := by decide +kernel
theorem d_WA_addTo_18 : decode prog_8_method_5_code 18 = .ok (.getfield 13, 3) := by decide +kernel
theorem d_WA_addTo_21 : decode prog_8_method_5_code 21 = .ok (.iload_n 1, 1) := by decide +kernel
theorem d_WA_addTo_22 : decode prog_8_method_5_code 22 = .ok (.aload_n 0, 1) := by decide +kernel
theorem d_WA_addTo_23 : decode prog_8_method_5_code 23 = .ok (.getfield 13, 3) := by decide +kernel
theorem d_WA_addTo_26 : decode prog_8_method_5_code 26 = .ok (.iload_n 1, 1) := by decide +kernel
theorem d_WA_addTo_27 : decode prog_8_method_5_code 27 = .ok (.saload, 1) := by decide +kernel
theorem d_WA_addTo_28 : decode prog_8_method_5_code 28 = .ok (.iload_n 3, 1) := by decide +kernel
theorem d_WA_addTo_29 : decode prog_8_method_5_code 29 = .ok (.iadd, 1) := by decide +kernel
theorem d_WA_addTo_30 : decode prog_8_method_5_code 30 = .ok (.invokestatic 20, 3) := by decide +kernel
theorem d_WA_addTo_33 : decode prog_8_method_5_code 33 = .ok (.sastore, 1) := by decide +kernel
theorem d_WA_addTo_34 : decode prog_8_method_5_code 34 = .ok (.return_, 1) := by decide +kernel
def y_WA_clear : MethodName := ⟨"CarrierLink$Wave", "clear", "()V"⟩
theorem hd_WA_clear : y_WA_clear.cls ≠ "java/lang/invoke/MethodHandle" ∧ y_WA_clear.cls ≠ "java/lang/invoke/VarHandle" ∧ (parseMethodDescriptor y_WA_clear.desc).map (fun d => d.parameters.length) = some 0 := ⟨by decide +kernel, by decide +kernel, by decide +kernel⟩
theorem d_WA_clear_0 : decode prog_8_method_2_code 0 = .ok (.aload_n 0, 1) := by decide +kernel
theorem d_WA_clear_1 : decode prog_8_method_2_code 1 = .ok (.iconst 0, 1) := by decide +kernel
theorem d_WA_clear_2 : decode prog_8_method_2_code 2 = .ok (.putfield 16, 3) := by decide +kernel
theorem d_WA_clear_5 : decode prog_8_method_2_code 5 = .ok (.return_, 1) := by decide +kernel
def y_WA_append : MethodName := ⟨"CarrierLink$Wave", "append", "(II)V"⟩
theorem hd_WA_append : y_WA_append.cls ≠ "java/lang/invoke/MethodHandle" ∧ y_WA_append.cls ≠ "java/lang/invoke/VarHandle" ∧ (parseMethodDescriptor y_WA_append.desc).map (fun d => d.parameters.length) = some 2 := ⟨by decide +kernel, by decide +kernel, by decide +kernel⟩
theorem d_WA_append_0 : decode prog_8_method_4_code 0 = .ok (.aload_n 0, 1) := by decide +kernel
theorem d_WA_append_1 : decode prog_8_method_4_code 1 = .ok (.getfield 16, 3) := by decide +kernel
theorem d_WA_append_4 : decode prog_8_method_4_code 4 = .ok (.aload_n 0, 1) := by decide +kernel
theorem d_WA_append_5 : decode prog_8_method_4_code 5 = .ok (.getfield 7, 3) := by decide +kernel
theorem d_WA_append_8 : decode prog_8_method_4_code 8 = .ok (.arraylength, 1) := by decide +kernel
theorem d_WA_append_9 : decode prog_8_method_4_code 9 = .ok (.if_icmp .ge 39, 3) := by decide +kernel
theorem d_WA_append_12 : decode prog_8_method_4_code 12 = .ok (.aload_n 0, 1) := by decide +kernel
theorem d_WA_append_13 : decode prog_8_method_4_code 13 = .ok (.getfield 7, 3) := by decide +kernel
theorem d_WA_append_16 : decode prog_8_method_4_code 16 = .ok (.aload_n 0, 1) := by decide +kernel
theorem d_WA_append_17 : decode prog_8_method_4_code 17 = .ok (.getfield 16, 3) := by decide +kernel
theorem d_WA_append_20 : decode prog_8_method_4_code 20 = .ok (.iload_n 1, 1) := by decide +kernel
theorem d_WA_append_21 : decode prog_8_method_4_code 21 = .ok (.invokestatic 20, 3) := by decide +kernel
theorem d_WA_append_24 : decode prog_8_method_4_code 24 = .ok (.sastore, 1) := by decide +kernel
theorem d_WA_append_25 : decode prog_8_method_4_code 25 = .ok (.aload_n 0, 1) := by decide +kernel
theorem d_WA_append_26 : decode prog_8_method_4_code 26 = .ok (.getfield 13, 3) := by decide +kernel
theorem d_WA_append_29 : decode prog_8_method_4_code 29 = .ok (.aload_n 0, 1) := by decide +kernel
theorem d_WA_append_30 : decode prog_8_method_4_code 30 = .ok (.getfield 16, 3) := by decide +kernel
theorem d_WA_append_33 : decode prog_8_method_4_code 33 = .ok (.iload_n 2, 1) := by decide +kernel
theorem d_WA_append_34 : decode prog_8_method_4_code 34 = .ok (.invokestatic 20, 3) := by decide +kernel
theorem d_WA_append_37 : decode prog_8_method_4_code 37 = .ok (.sastore, 1) := by decide +kernel
theorem d_WA_append_38 : decode prog_8_method_4_code 38 = .ok (.aload_n 0, 1) := by decide +kernel
theorem d_WA_append_39 : decode prog_8_method_4_code 39 = .ok (.dup, 1) := by decide +kernel
theorem d_WA_append_40 : decode prog_8_method_4_code 40 = .ok (.getfield 16, 3) := by decide +kernel
theorem d_WA_append_43 : decode prog_8_method_4_code 43 = .ok (.iconst 1, 1) := by decide +kernel
theorem d_WA_append_44 : decode prog_8_method_4_code 44 = .ok (.iadd, 1) := by decide +kernel
theorem d_WA_append_45 : decode prog_8_method_4_code 45 = .ok (.putfield 16, 3) := by decide +kernel
theorem d_WA_append_48 : decode prog_8_method_4_code 48 = .ok (.return_, 1) := by decide +kernel
