def y_CL_appendToAir : MethodName := ⟨"CarrierLink", "appendToAir", "(III)V"⟩
theorem hd_CL_appendToAir : y_CL_appendToAir.cls ≠ "java/lang/invoke/MethodHandle" ∧ y_CL_appendToAir.cls ≠ "java/lang/invoke/VarHandle" ∧ (parseMethodDescriptor y_CL_appendToAir.desc).map (fun d => d.parameters.length) = some 3 := ⟨by decide +kernel, by decide +kernel, by decide +kernel⟩
theorem d_CL_appendToAir_0 : decode prog_1_method_16_code 0 = .ok (.aload_n 0, 1) := by decide +kernel
theorem d_CL_appendToAir_1 : decode prog_1_method_16_code 1 = .ok (.getfield 22, 3) := by decide +kernel
theorem d_CL_appendToAir_4 : decode prog_1_method_16_code 4 = .ok (.getfield 110, 3) := by decide +kernel
theorem d_CL_appendToAir_7 : decode prog_1_method_16_code 7 = .ok (.iload_n 1, 1) := by decide +kernel
theorem d_CL_appendToAir_8 : decode prog_1_method_16_code 8 = .ok (.saload, 1) := by decide +kernel
theorem d_CL_appendToAir_9 : decode prog_1_method_16_code 9 = .ok (.istore 4, 2) := by decide +kernel
theorem d_CL_appendToAir_11 : decode prog_1_method_16_code 11 = .ok (.aload_n 0, 1) := by decide +kernel
theorem d_CL_appendToAir_12 : decode prog_1_method_16_code 12 = .ok (.getfield 22, 3) := by decide +kernel
theorem d_CL_appendToAir_15 : decode prog_1_method_16_code 15 = .ok (.getfield 106, 3) := by decide +kernel
theorem d_CL_appendToAir_18 : decode prog_1_method_16_code 18 = .ok (.iload_n 1, 1) := by decide +kernel
theorem d_CL_appendToAir_19 : decode prog_1_method_16_code 19 = .ok (.saload, 1) := by decide +kernel
theorem d_CL_appendToAir_20 : decode prog_1_method_16_code 20 = .ok (.istore 5, 2) := by decide +kernel
theorem d_CL_appendToAir_22 : decode prog_1_method_16_code 22 = .ok (.iload_n 2, 1) := by decide +kernel
theorem d_CL_appendToAir_23 : decode prog_1_method_16_code 23 = .ok (.ifCond .le 44, 3) := by decide +kernel
theorem d_CL_appendToAir_26 : decode prog_1_method_16_code 26 = .ok (.iload_n 1, 1) := by decide +kernel
theorem d_CL_appendToAir_27 : decode prog_1_method_16_code 27 = .ok (.iload_n 2, 1) := by decide +kernel
theorem d_CL_appendToAir_28 : decode prog_1_method_16_code 28 = .ok (.if_icmp .lt 39, 3) := by decide +kernel
theorem d_CL_appendToAir_31 : decode prog_1_method_16_code 31 = .ok (.iload 4, 2) := by decide +kernel
theorem d_CL_appendToAir_33 : decode prog_1_method_16_code 33 = .ok (.aload_n 0, 1) := by decide +kernel
theorem d_CL_appendToAir_34 : decode prog_1_method_16_code 34 = .ok (.getfield 22, 3) := by decide +kernel
theorem d_CL_appendToAir_37 : decode prog_1_method_16_code 37 = .ok (.getfield 110, 3) := by decide +kernel
theorem d_CL_appendToAir_40 : decode prog_1_method_16_code 40 = .ok (.iload_n 1, 1) := by decide +kernel
theorem d_CL_appendToAir_41 : decode prog_1_method_16_code 41 = .ok (.iload_n 2, 1) := by decide +kernel
theorem d_CL_appendToAir_42 : decode prog_1_method_16_code 42 = .ok (.isub, 1) := by decide +kernel
theorem d_CL_appendToAir_43 : decode prog_1_method_16_code 43 = .ok (.saload, 1) := by decide +kernel
theorem d_CL_appendToAir_44 : decode prog_1_method_16_code 44 = .ok (.iconst 1, 1) := by decide +kernel
theorem d_CL_appendToAir_45 : decode prog_1_method_16_code 45 = .ok (.ishr, 1) := by decide +kernel
theorem d_CL_appendToAir_46 : decode prog_1_method_16_code 46 = .ok (.iadd, 1) := by decide +kernel
theorem d_CL_appendToAir_47 : decode prog_1_method_16_code 47 = .ok (.istore 4, 2) := by decide +kernel
theorem d_CL_appendToAir_49 : decode prog_1_method_16_code 49 = .ok (.iload 5, 2) := by decide +kernel
theorem d_CL_appendToAir_51 : decode prog_1_method_16_code 51 = .ok (.aload_n 0, 1) := by decide +kernel
theorem d_CL_appendToAir_52 : decode prog_1_method_16_code 52 = .ok (.getfield 22, 3) := by decide +kernel
theorem d_CL_appendToAir_55 : decode prog_1_method_16_code 55 = .ok (.getfield 106, 3) := by decide +kernel
theorem d_CL_appendToAir_58 : decode prog_1_method_16_code 58 = .ok (.iload_n 1, 1) := by decide +kernel
theorem d_CL_appendToAir_59 : decode prog_1_method_16_code 59 = .ok (.iload_n 2, 1) := by decide +kernel
theorem d_CL_appendToAir_60 : decode prog_1_method_16_code 60 = .ok (.isub, 1) := by decide +kernel
theorem d_CL_appendToAir_61 : decode prog_1_method_16_code 61 = .ok (.saload, 1) := by decide +kernel
theorem d_CL_appendToAir_62 : decode prog_1_method_16_code 62 = .ok (.iconst 1, 1) := by decide +kernel
theorem d_CL_appendToAir_63 : decode prog_1_method_16_code 63 = .ok (.ishr, 1) := by decide +kernel
theorem d_CL_appendToAir_64 : decode prog_1_method_16_code 64 = .ok (.iadd, 1) := by decide +kernel
theorem d_CL_appendToAir_65 : decode prog_1_method_16_code 65 = .ok (.istore 5, 2) := by decide +kernel
theorem d_CL_appendToAir_67 : decode prog_1_method_16_code 67 = .ok (.iconst 0, 1) := by decide +kernel
theorem d_CL_appendToAir_68 : decode prog_1_method_16_code 68 = .ok (.istore 6, 2) := by decide +kernel
theorem d_CL_appendToAir_70 : decode prog_1_method_16_code 70 = .ok (.iload 6, 2) := by decide +kernel
theorem d_CL_appendToAir_72 : decode prog_1_method_16_code 72 = .ok (.iload_n 3, 1) := by decide +kernel
theorem d_CL_appendToAir_73 : decode prog_1_method_16_code 73 = .ok (.if_icmp .ge 22, 3) := by decide +kernel
theorem d_CL_appendToAir_76 : decode prog_1_method_16_code 76 = .ok (.iload 4, 2) := by decide +kernel
theorem d_CL_appendToAir_78 : decode prog_1_method_16_code 78 = .ok (.istore 7, 2) := by decide +kernel
theorem d_CL_appendToAir_80 : decode prog_1_method_16_code 80 = .ok (.iload 5, 2) := by decide +kernel
theorem d_CL_appendToAir_82 : decode prog_1_method_16_code 82 = .ok (.ineg, 1) := by decide +kernel
theorem d_CL_appendToAir_83 : decode prog_1_method_16_code 83 = .ok (.istore 4, 2) := by decide +kernel
theorem d_CL_appendToAir_85 : decode prog_1_method_16_code 85 = .ok (.iload 7, 2) := by decide +kernel
theorem d_CL_appendToAir_87 : decode prog_1_method_16_code 87 = .ok (.istore 5, 2) := by decide +kernel
theorem d_CL_appendToAir_89 : decode prog_1_method_16_code 89 = .ok (.iinc 6 1, 3) := by decide +kernel
theorem d_CL_appendToAir_92 : decode prog_1_method_16_code 92 = .ok (.goto (-22), 3) := by decide +kernel
theorem d_CL_appendToAir_95 : decode prog_1_method_16_code 95 = .ok (.aload_n 0, 1) := by decide +kernel
theorem d_CL_appendToAir_96 : decode prog_1_method_16_code 96 = .ok (.getfield 26, 3) := by decide +kernel
theorem d_CL_appendToAir_99 : decode prog_1_method_16_code 99 = .ok (.iload 4, 2) := by decide +kernel
theorem d_CL_appendToAir_101 : decode prog_1_method_16_code 101 = .ok (.iload 5, 2) := by decide +kernel
theorem d_CL_appendToAir_103 : decode prog_1_method_16_code 103 = .ok (.invokevirtual 120, 3) := by decide +kernel
theorem d_CL_appendToAir_106 : decode prog_1_method_16_code 106 = .ok (.return_, 1) := by decide +kernel
def y_CL_receive : MethodName := ⟨"CarrierLink", "receive", "()I"⟩
theorem hd_CL_receive : y_CL_receive.cls ≠ "java/lang/invoke/MethodHandle" ∧ y_CL_receive.cls ≠ "java/lang/invoke/VarHandle" ∧ (parseMethodDescriptor y_CL_receive.desc).map (fun d => d.parameters.length) = some 0 := ⟨by decide +kernel, by decide +kernel, by decide +kernel⟩
theorem d_CL_receive_0 : decode prog_1_method_11_code 0 = .ok (.aload_n 0, 1) := by decide +kernel
theorem d_CL_receive_1 : decode prog_1_method_11_code 1 = .ok (.getfield 26, 3) := by decide +kernel
theorem d_CL_receive_4 : decode prog_1_method_11_code 4 = .ok (.getfield 69, 3) := by decide +kernel
theorem d_CL_receive_7 : decode prog_1_method_11_code 7 = .ok (.ifCond .ne 13, 3) := by decide +kernel
theorem d_CL_receive_10 : decode prog_1_method_11_code 10 = .ok (.new 60, 3) := by decide +kernel
theorem d_CL_receive_13 : decode prog_1_method_11_code 13 = .ok (.dup, 1) := by decide +kernel
theorem d_CL_receive_14 : decode prog_1_method_11_code 14 = .ok (.ldc 139, 2) := by decide +kernel
theorem d_CL_receive_16 : decode prog_1_method_11_code 16 = .ok (.invokespecial 64, 3) := by decide +kernel
theorem d_CL_receive_19 : decode prog_1_method_11_code 19 = .ok (.athrow, 1) := by decide +kernel
theorem d_CL_receive_20 : decode prog_1_method_11_code 20 = .ok (.aload_n 0, 1) := by decide +kernel
theorem d_CL_receive_21 : decode prog_1_method_11_code 21 = .ok (.getfield 49, 3) := by decide +kernel
theorem d_CL_receive_24 : decode prog_1_method_11_code 24 = .ok (.aload_n 0, 1) := by decide +kernel
theorem d_CL_receive_25 : decode prog_1_method_11_code 25 = .ok (.getfield 26, 3) := by decide +kernel
theorem d_CL_receive_28 : decode prog_1_method_11_code 28 = .ok (.invokevirtual 141, 3) := by decide +kernel
theorem d_CL_receive_31 : decode prog_1_method_11_code 31 = .ok (.ireturn, 1) := by decide +kernel
