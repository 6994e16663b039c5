def y_RE_softOf : MethodName := ⟨"CarrierLink$Receiver", "softOf", "(J)I"⟩
theorem hd_RE_softOf : y_RE_softOf.cls ≠ "java/lang/invoke/MethodHandle" ∧ y_RE_softOf.cls ≠ "java/lang/invoke/VarHandle" ∧ (parseMethodDescriptor y_RE_softOf.desc).map (fun d => d.parameters.length) = some 1 := ⟨by decide +kernel, by decide +kernel, by decide +kernel⟩
theorem d_RE_softOf_0 : decode prog_5_method_9_code 0 = .ok (.ldc2_w 164, 3) := by decide +kernel
theorem d_RE_softOf_3 : decode prog_5_method_9_code 3 = .ok (.ldc2_w 166, 3) := by decide +kernel
theorem d_RE_softOf_6 : decode prog_5_method_9_code 6 = .ok (.lload_n 0, 1) := by decide +kernel
theorem d_RE_softOf_7 : decode prog_5_method_9_code 7 = .ok (.bipush 10, 2) := by decide +kernel
theorem d_RE_softOf_9 : decode prog_5_method_9_code 9 = .ok (.lshr, 1) := by decide +kernel
theorem d_RE_softOf_10 : decode prog_5_method_9_code 10 = .ok (.invokestatic 168, 3) := by decide +kernel
theorem d_RE_softOf_13 : decode prog_5_method_9_code 13 = .ok (.invokestatic 172, 3) := by decide +kernel
theorem d_RE_softOf_16 : decode prog_5_method_9_code 16 = .ok (.l2i, 1) := by decide +kernel
theorem d_RE_softOf_17 : decode prog_5_method_9_code 17 = .ok (.ireturn, 1) := by decide +kernel
def y_RE_isSignal : MethodName := ⟨"CarrierLink$Receiver", "isSignal", "([I)Z"⟩
theorem hd_RE_isSignal : y_RE_isSignal.cls ≠ "java/lang/invoke/MethodHandle" ∧ y_RE_isSignal.cls ≠ "java/lang/invoke/VarHandle" ∧ (parseMethodDescriptor y_RE_isSignal.desc).map (fun d => d.parameters.length) = some 1 := ⟨by decide +kernel, by decide +kernel, by decide +kernel⟩
theorem d_RE_isSignal_0 : decode prog_5_method_10_code 0 = .ok (.iconst 0, 1) := by decide +kernel
theorem d_RE_isSignal_1 : decode prog_5_method_10_code 1 = .ok (.istore_n 1, 1) := by decide +kernel
theorem d_RE_isSignal_2 : decode prog_5_method_10_code 2 = .ok (.iconst 0, 1) := by decide +kernel
theorem d_RE_isSignal_3 : decode prog_5_method_10_code 3 = .ok (.istore_n 2, 1) := by decide +kernel
theorem d_RE_isSignal_4 : decode prog_5_method_10_code 4 = .ok (.iload_n 2, 1) := by decide +kernel
theorem d_RE_isSignal_5 : decode prog_5_method_10_code 5 = .ok (.bipush 7, 2) := by decide +kernel
theorem d_RE_isSignal_7 : decode prog_5_method_10_code 7 = .ok (.if_icmp .ge 15, 3) := by decide +kernel
theorem d_RE_isSignal_10 : decode prog_5_method_10_code 10 = .ok (.iload_n 1, 1) := by decide +kernel
theorem d_RE_isSignal_11 : decode prog_5_method_10_code 11 = .ok (.aload_n 0, 1) := by decide +kernel
theorem d_RE_isSignal_12 : decode prog_5_method_10_code 12 = .ok (.iload_n 2, 1) := by decide +kernel
theorem d_RE_isSignal_13 : decode prog_5_method_10_code 13 = .ok (.iaload, 1) := by decide +kernel
theorem d_RE_isSignal_14 : decode prog_5_method_10_code 14 = .ok (.iadd, 1) := by decide +kernel
theorem d_RE_isSignal_15 : decode prog_5_method_10_code 15 = .ok (.istore_n 1, 1) := by decide +kernel
theorem d_RE_isSignal_16 : decode prog_5_method_10_code 16 = .ok (.iinc 2 1, 3) := by decide +kernel
theorem d_RE_isSignal_19 : decode prog_5_method_10_code 19 = .ok (.goto (-15), 3) := by decide +kernel
theorem d_RE_isSignal_22 : decode prog_5_method_10_code 22 = .ok (.bipush 7, 2) := by decide +kernel
theorem d_RE_isSignal_24 : decode prog_5_method_10_code 24 = .ok (.istore_n 2, 1) := by decide +kernel
theorem d_RE_isSignal_25 : decode prog_5_method_10_code 25 = .ok (.iload_n 2, 1) := by decide +kernel
theorem d_RE_isSignal_26 : decode prog_5_method_10_code 26 = .ok (.bipush 18, 2) := by decide +kernel
theorem d_RE_isSignal_28 : decode prog_5_method_10_code 28 = .ok (.if_icmp .ge 17, 3) := by decide +kernel
theorem d_RE_isSignal_31 : decode prog_5_method_10_code 31 = .ok (.aload_n 0, 1) := by decide +kernel
theorem d_RE_isSignal_32 : decode prog_5_method_10_code 32 = .ok (.iload_n 2, 1) := by decide +kernel
theorem d_RE_isSignal_33 : decode prog_5_method_10_code 33 = .ok (.iaload, 1) := by decide +kernel
theorem d_RE_isSignal_34 : decode prog_5_method_10_code 34 = .ok (.ifCond .eq 5, 3) := by decide +kernel
theorem d_RE_isSignal_37 : decode prog_5_method_10_code 37 = .ok (.iconst 0, 1) := by decide +kernel
theorem d_RE_isSignal_38 : decode prog_5_method_10_code 38 = .ok (.ireturn, 1) := by decide +kernel
theorem d_RE_isSignal_39 : decode prog_5_method_10_code 39 = .ok (.iinc 2 1, 3) := by decide +kernel
theorem d_RE_isSignal_42 : decode prog_5_method_10_code 42 = .ok (.goto (-17), 3) := by decide +kernel
theorem d_RE_isSignal_45 : decode prog_5_method_10_code 45 = .ok (.aload_n 0, 1) := by decide +kernel
theorem d_RE_isSignal_46 : decode prog_5_method_10_code 46 = .ok (.iconst 2, 1) := by decide +kernel
theorem d_RE_isSignal_47 : decode prog_5_method_10_code 47 = .ok (.iconst 4, 1) := by decide +kernel
theorem d_RE_isSignal_48 : decode prog_5_method_10_code 48 = .ok (.invokestatic 90, 3) := by decide +kernel
theorem d_RE_isSignal_51 : decode prog_5_method_10_code 51 = .ok (.istore_n 2, 1) := by decide +kernel
theorem d_RE_isSignal_52 : decode prog_5_method_10_code 52 = .ok (.iload_n 1, 1) := by decide +kernel
theorem d_RE_isSignal_53 : decode prog_5_method_10_code 53 = .ok (.iconst 2, 1) := by decide +kernel
theorem d_RE_isSignal_54 : decode prog_5_method_10_code 54 = .ok (.irem, 1) := by decide +kernel
theorem d_RE_isSignal_55 : decode prog_5_method_10_code 55 = .ok (.ifCond .ne 18, 3) := by decide +kernel
theorem d_RE_isSignal_58 : decode prog_5_method_10_code 58 = .ok (.iload_n 2, 1) := by decide +kernel
theorem d_RE_isSignal_59 : decode prog_5_method_10_code 59 = .ok (.iconst 1, 1) := by decide +kernel
theorem d_RE_isSignal_60 : decode prog_5_method_10_code 60 = .ok (.if_icmp .lt 13, 3) := by decide +kernel
theorem d_RE_isSignal_63 : decode prog_5_method_10_code 63 = .ok (.iload_n 2, 1) := by decide +kernel
theorem d_RE_isSignal_64 : decode prog_5_method_10_code 64 = .ok (.bipush 12, 2) := by decide +kernel
theorem d_RE_isSignal_66 : decode prog_5_method_10_code 66 = .ok (.if_icmp .gt 7, 3) := by decide +kernel
theorem d_RE_isSignal_69 : decode prog_5_method_10_code 69 = .ok (.iconst 1, 1) := by decide +kernel
theorem d_RE_isSignal_70 : decode prog_5_method_10_code 70 = .ok (.goto 4, 3) := by decide +kernel
theorem d_RE_isSignal_73 : decode prog_5_method_10_code 73 = .ok (.iconst 0, 1) := by decide +kernel
theorem d_RE_isSignal_74 : decode prog_5_method_10_code 74 = .ok (.ireturn, 1) := by decide +kernel
def y_RE_numberAt : MethodName := ⟨"CarrierLink$Receiver", "numberAt", "([III)I"⟩
theorem hd_RE_numberAt : y_RE_numberAt.cls ≠ "java/lang/invoke/MethodHandle" ∧ y_RE_numberAt.cls ≠ "java/lang/invoke/VarHandle" ∧ (parseMethodDescriptor y_RE_numberAt.desc).map (fun d => d.parameters.length) = some 3 := ⟨by decide +kernel, by decide +kernel, by decide +kernel⟩
theorem d_RE_numberAt_0 : decode prog_5_method_11_code 0 = .ok (.iconst 0, 1) := by decide +kernel
theorem d_RE_numberAt_1 : decode prog_5_method_11_code 1 = .ok (.istore_n 3, 1) := by decide +kernel
theorem d_RE_numberAt_2 : decode prog_5_method_11_code 2 = .ok (.iconst 0, 1) := by decide +kernel
theorem d_RE_numberAt_3 : decode prog_5_method_11_code 3 = .ok (.istore 4, 2) := by decide +kernel
theorem d_RE_numberAt_5 : decode prog_5_method_11_code 5 = .ok (.iload 4, 2) := by decide +kernel
theorem d_RE_numberAt_7 : decode prog_5_method_11_code 7 = .ok (.iload_n 2, 1) := by decide +kernel
theorem d_RE_numberAt_8 : decode prog_5_method_11_code 8 = .ok (.if_icmp .ge 21, 3) := by decide +kernel
theorem d_RE_numberAt_11 : decode prog_5_method_11_code 11 = .ok (.iload_n 3, 1) := by decide +kernel
theorem d_RE_numberAt_12 : decode prog_5_method_11_code 12 = .ok (.aload_n 0, 1) := by decide +kernel
theorem d_RE_numberAt_13 : decode prog_5_method_11_code 13 = .ok (.iload_n 1, 1) := by decide +kernel
theorem d_RE_numberAt_14 : decode prog_5_method_11_code 14 = .ok (.iload 4, 2) := by decide +kernel
theorem d_RE_numberAt_16 : decode prog_5_method_11_code 16 = .ok (.iadd, 1) := by decide +kernel
theorem d_RE_numberAt_17 : decode prog_5_method_11_code 17 = .ok (.iaload, 1) := by decide +kernel
theorem d_RE_numberAt_18 : decode prog_5_method_11_code 18 = .ok (.iload 4, 2) := by decide +kernel
theorem d_RE_numberAt_20 : decode prog_5_method_11_code 20 = .ok (.ishl, 1) := by decide +kernel
theorem d_RE_numberAt_21 : decode prog_5_method_11_code 21 = .ok (.ior, 1) := by decide +kernel
theorem d_RE_numberAt_22 : decode prog_5_method_11_code 22 = .ok (.istore_n 3, 1) := by decide +kernel
theorem d_RE_numberAt_23 : decode prog_5_method_11_code 23 = .ok (.iinc 4 1, 3) := by decide +kernel
theorem d_RE_numberAt_26 : decode prog_5_method_11_code 26 = .ok (.goto (-21), 3) := by decide +kernel
theorem d_RE_numberAt_29 : decode prog_5_method_11_code 29 = .ok (.iload_n 3, 1) := by decide +kernel
theorem d_RE_numberAt_30 : decode prog_5_method_11_code 30 = .ok (.ireturn, 1) := by decide +kernel
def y_RE_takeBytes : MethodName := ⟨"CarrierLink$Receiver", "takeBytes", "(I)I"⟩
theorem hd_RE_takeBytes : y_RE_takeBytes.cls ≠ "java/lang/invoke/MethodHandle" ∧ y_RE_takeBytes.cls ≠ "java/lang/invoke/VarHandle" ∧ (parseMethodDescriptor y_RE_takeBytes.desc).map (fun d => d.parameters.length) = some 1 := ⟨by decide +kernel, by decide +kernel, by decide +kernel⟩
theorem d_RE_takeBytes_0 : decode prog_5_method_12_code 0 = .ok (.iconst 0, 1) := by decide +kernel
theorem d_RE_takeBytes_1 : decode prog_5_method_12_code 1 = .ok (.istore_n 2, 1) := by decide +kernel
theorem d_RE_takeBytes_2 : decode prog_5_method_12_code 2 = .ok (.iconst 0, 1) := by decide +kernel
theorem d_RE_takeBytes_3 : decode prog_5_method_12_code 3 = .ok (.istore_n 3, 1) := by decide +kernel
theorem d_RE_takeBytes_4 : decode prog_5_method_12_code 4 = .ok (.iload_n 3, 1) := by decide +kernel
theorem d_RE_takeBytes_5 : decode prog_5_method_12_code 5 = .ok (.bipush 7, 2) := by decide +kernel
theorem d_RE_takeBytes_7 : decode prog_5_method_12_code 7 = .ok (.if_icmp .ge 23, 3) := by decide +kernel
theorem d_RE_takeBytes_10 : decode prog_5_method_12_code 10 = .ok (.iload_n 2, 1) := by decide +kernel
theorem d_RE_takeBytes_11 : decode prog_5_method_12_code 11 = .ok (.iconst 1, 1) := by decide +kernel
theorem d_RE_takeBytes_12 : decode prog_5_method_12_code 12 = .ok (.ishl, 1) := by decide +kernel
theorem d_RE_takeBytes_13 : decode prog_5_method_12_code 13 = .ok (.aload_n 0, 1) := by decide +kernel
theorem d_RE_takeBytes_14 : decode prog_5_method_12_code 14 = .ok (.getfield 50, 3) := by decide +kernel
theorem d_RE_takeBytes_17 : decode prog_5_method_12_code 17 = .ok (.getfield 83, 3) := by decide +kernel
theorem d_RE_takeBytes_20 : decode prog_5_method_12_code 20 = .ok (.iload_n 3, 1) := by decide +kernel
theorem d_RE_takeBytes_21 : decode prog_5_method_12_code 21 = .ok (.iaload, 1) := by decide +kernel
theorem d_RE_takeBytes_22 : decode prog_5_method_12_code 22 = .ok (.ior, 1) := by decide +kernel
theorem d_RE_takeBytes_23 : decode prog_5_method_12_code 23 = .ok (.istore_n 2, 1) := by decide +kernel
theorem d_RE_takeBytes_24 : decode prog_5_method_12_code 24 = .ok (.iinc 3 1, 3) := by decide +kernel
theorem d_RE_takeBytes_27 : decode prog_5_method_12_code 27 = .ok (.goto (-23), 3) := by decide +kernel
theorem d_RE_takeBytes_30 : decode prog_5_method_12_code 30 = .ok (.aload_n 0, 1) := by decide +kernel
theorem d_RE_takeBytes_31 : decode prog_5_method_12_code 31 = .ok (.getfield 11, 3) := by decide +kernel
theorem d_RE_takeBytes_34 : decode prog_5_method_12_code 34 = .ok (.iconst 4, 1) := by decide +kernel
theorem d_RE_takeBytes_35 : decode prog_5_method_12_code 35 = .ok (.iload_n 2, 1) := by decide +kernel
theorem d_RE_takeBytes_36 : decode prog_5_method_12_code 36 = .ok (.iastore, 1) := by decide +kernel
theorem d_RE_takeBytes_37 : decode prog_5_method_12_code 37 = .ok (.iload_n 2, 1) := by decide +kernel
theorem d_RE_takeBytes_38 : decode prog_5_method_12_code 38 = .ok (.ifCond .ne 6, 3) := by decide +kernel
theorem d_RE_takeBytes_41 : decode prog_5_method_12_code 41 = .ok (.bipush (-5), 2) := by decide +kernel
theorem d_RE_takeBytes_43 : decode prog_5_method_12_code 43 = .ok (.ireturn, 1) := by decide +kernel
theorem d_RE_takeBytes_44 : decode prog_5_method_12_code 44 = .ok (.aload_n 0, 1) := by decide +kernel
theorem d_RE_takeBytes_45 : decode prog_5_method_12_code 45 = .ok (.getfield 57, 3) := by decide +kernel
theorem d_RE_takeBytes_48 : decode prog_5_method_12_code 48 = .ok (.iload_n 2, 1) := by decide +kernel
theorem d_RE_takeBytes_49 : decode prog_5_method_12_code 49 = .ok (.invokevirtual 175, 3) := by decide +kernel
theorem d_RE_takeBytes_52 : decode prog_5_method_12_code 52 = .ok (.iconst 0, 1) := by decide +kernel
theorem d_RE_takeBytes_53 : decode prog_5_method_12_code 53 = .ok (.istore_n 3, 1) := by decide +kernel
theorem d_RE_takeBytes_54 : decode prog_5_method_12_code 54 = .ok (.iload_n 3, 1) := by decide +kernel
theorem d_RE_takeBytes_55 : decode prog_5_method_12_code 55 = .ok (.iload_n 1, 1) := by decide +kernel
theorem d_RE_takeBytes_56 : decode prog_5_method_12_code 56 = .ok (.if_icmp .ge 39, 3) := by decide +kernel
theorem d_RE_takeBytes_59 : decode prog_5_method_12_code 59 = .ok (.aload_n 0, 1) := by decide +kernel
theorem d_RE_takeBytes_60 : decode prog_5_method_12_code 60 = .ok (.getfield 21, 3) := by decide +kernel
theorem d_RE_takeBytes_63 : decode prog_5_method_12_code 63 = .ok (.iload_n 3, 1) := by decide +kernel
theorem d_RE_takeBytes_64 : decode prog_5_method_12_code 64 = .ok (.aload_n 0, 1) := by decide +kernel
theorem d_RE_takeBytes_65 : decode prog_5_method_12_code 65 = .ok (.getfield 50, 3) := by decide +kernel
theorem d_RE_takeBytes_68 : decode prog_5_method_12_code 68 = .ok (.getfield 83, 3) := by decide +kernel
theorem d_RE_takeBytes_71 : decode prog_5_method_12_code 71 = .ok (.bipush 7, 2) := by decide +kernel
theorem d_RE_takeBytes_73 : decode prog_5_method_12_code 73 = .ok (.bipush 8, 2) := by decide +kernel
theorem d_RE_takeBytes_75 : decode prog_5_method_12_code 75 = .ok (.iload_n 3, 1) := by decide +kernel
theorem d_RE_takeBytes_76 : decode prog_5_method_12_code 76 = .ok (.imul, 1) := by decide +kernel
theorem d_RE_takeBytes_77 : decode prog_5_method_12_code 77 = .ok (.iadd, 1) := by decide +kernel
theorem d_RE_takeBytes_78 : decode prog_5_method_12_code 78 = .ok (.bipush 8, 2) := by decide +kernel
theorem d_RE_takeBytes_80 : decode prog_5_method_12_code 80 = .ok (.invokestatic 90, 3) := by decide +kernel
theorem d_RE_takeBytes_83 : decode prog_5_method_12_code 83 = .ok (.aload_n 0, 1) := by decide +kernel
theorem d_RE_takeBytes_84 : decode prog_5_method_12_code 84 = .ok (.invokevirtual 179, 3) := by decide +kernel
theorem d_RE_takeBytes_87 : decode prog_5_method_12_code 87 = .ok (.ixor, 1) := by decide +kernel
theorem d_RE_takeBytes_88 : decode prog_5_method_12_code 88 = .ok (.iastore, 1) := by decide +kernel
theorem d_RE_takeBytes_89 : decode prog_5_method_12_code 89 = .ok (.iinc 3 1, 3) := by decide +kernel
theorem d_RE_takeBytes_92 : decode prog_5_method_12_code 92 = .ok (.goto (-38), 3) := by decide +kernel
theorem d_RE_takeBytes_95 : decode prog_5_method_12_code 95 = .ok (.aload_n 0, 1) := by decide +kernel
theorem d_RE_takeBytes_96 : decode prog_5_method_12_code 96 = .ok (.iload_n 1, 1) := by decide +kernel
theorem d_RE_takeBytes_97 : decode prog_5_method_12_code 97 = .ok (.putfield 24, 3) := by decide +kernel
theorem d_RE_takeBytes_100 : decode prog_5_method_12_code 100 = .ok (.iload_n 1, 1) := by decide +kernel
theorem d_RE_takeBytes_101 : decode prog_5_method_12_code 101 = .ok (.ireturn, 1) := by decide +kernel
def y_RE_scrambledByte : MethodName := ⟨"CarrierLink$Receiver", "scrambledByte", "()I"⟩
theorem hd_RE_scrambledByte : y_RE_scrambledByte.cls ≠ "java/lang/invoke/MethodHandle" ∧ y_RE_scrambledByte.cls ≠ "java/lang/invoke/VarHandle" ∧ (parseMethodDescriptor y_RE_scrambledByte.desc).map (fun d => d.parameters.length) = some 0 := ⟨by decide +kernel, by decide +kernel, by decide +kernel⟩
theorem d_RE_scrambledByte_0 : decode prog_5_method_13_code 0 = .ok (.iconst 0, 1) := by decide +kernel
theorem d_RE_scrambledByte_1 : decode prog_5_method_13_code 1 = .ok (.istore_n 1, 1) := by decide +kernel
theorem d_RE_scrambledByte_2 : decode prog_5_method_13_code 2 = .ok (.iconst 0, 1) := by decide +kernel
theorem d_RE_scrambledByte_3 : decode prog_5_method_13_code 3 = .ok (.istore_n 2, 1) := by decide +kernel
theorem d_RE_scrambledByte_4 : decode prog_5_method_13_code 4 = .ok (.iload_n 2, 1) := by decide +kernel
theorem d_RE_scrambledByte_5 : decode prog_5_method_13_code 5 = .ok (.bipush 8, 2) := by decide +kernel
theorem d_RE_scrambledByte_7 : decode prog_5_method_13_code 7 = .ok (.if_icmp .ge 21, 3) := by decide +kernel
theorem d_RE_scrambledByte_10 : decode prog_5_method_13_code 10 = .ok (.iload_n 1, 1) := by decide +kernel
theorem d_RE_scrambledByte_11 : decode prog_5_method_13_code 11 = .ok (.aload_n 0, 1) := by decide +kernel
theorem d_RE_scrambledByte_12 : decode prog_5_method_13_code 12 = .ok (.getfield 57, 3) := by decide +kernel
theorem d_RE_scrambledByte_15 : decode prog_5_method_13_code 15 = .ok (.invokevirtual 183, 3) := by decide +kernel
theorem d_RE_scrambledByte_18 : decode prog_5_method_13_code 18 = .ok (.iload_n 2, 1) := by decide +kernel
theorem d_RE_scrambledByte_19 : decode prog_5_method_13_code 19 = .ok (.ishl, 1) := by decide +kernel
theorem d_RE_scrambledByte_20 : decode prog_5_method_13_code 20 = .ok (.ior, 1) := by decide +kernel
theorem d_RE_scrambledByte_21 : decode prog_5_method_13_code 21 = .ok (.istore_n 1, 1) := by decide +kernel
theorem d_RE_scrambledByte_22 : decode prog_5_method_13_code 22 = .ok (.iinc 2 1, 3) := by decide +kernel
theorem d_RE_scrambledByte_25 : decode prog_5_method_13_code 25 = .ok (.goto (-21), 3) := by decide +kernel
theorem d_RE_scrambledByte_28 : decode prog_5_method_13_code 28 = .ok (.iload_n 1, 1) := by decide +kernel
theorem d_RE_scrambledByte_29 : decode prog_5_method_13_code 29 = .ok (.ireturn, 1) := by decide +kernel
