def y_MO_place : MethodName := ⟨"CarrierLinkModel", "place", "(III)I"⟩
theorem hd_MO_place : y_MO_place.cls ≠ "java/lang/invoke/MethodHandle" ∧ y_MO_place.cls ≠ "java/lang/invoke/VarHandle" ∧ (parseMethodDescriptor y_MO_place.desc).map (fun d => d.parameters.length) = some 3 := ⟨by decide +kernel, by decide +kernel, by decide +kernel⟩
theorem d_MO_place_0 : decode prog_10_method_11_code 0 = .ok (.iload_n 1, 1) := by decide +kernel
theorem d_MO_place_1 : decode prog_10_method_11_code 1 = .ok (.iconst 4, 1) := by decide +kernel
theorem d_MO_place_2 : decode prog_10_method_11_code 2 = .ok (.idiv, 1) := by decide +kernel
theorem d_MO_place_3 : decode prog_10_method_11_code 3 = .ok (.iload_n 0, 1) := by decide +kernel
theorem d_MO_place_4 : decode prog_10_method_11_code 4 = .ok (.iconst 4, 1) := by decide +kernel
theorem d_MO_place_5 : decode prog_10_method_11_code 5 = .ok (.irem, 1) := by decide +kernel
theorem d_MO_place_6 : decode prog_10_method_11_code 6 = .ok (.imul, 1) := by decide +kernel
theorem d_MO_place_7 : decode prog_10_method_11_code 7 = .ok (.iload_n 0, 1) := by decide +kernel
theorem d_MO_place_8 : decode prog_10_method_11_code 8 = .ok (.iconst 4, 1) := by decide +kernel
theorem d_MO_place_9 : decode prog_10_method_11_code 9 = .ok (.idiv, 1) := by decide +kernel
theorem d_MO_place_10 : decode prog_10_method_11_code 10 = .ok (.iadd, 1) := by decide +kernel
theorem d_MO_place_11 : decode prog_10_method_11_code 11 = .ok (.istore_n 3, 1) := by decide +kernel
theorem d_MO_place_12 : decode prog_10_method_11_code 12 = .ok (.iload_n 2, 1) := by decide +kernel
theorem d_MO_place_13 : decode prog_10_method_11_code 13 = .ok (.iconst 4, 1) := by decide +kernel
theorem d_MO_place_14 : decode prog_10_method_11_code 14 = .ok (.if_icmp .ge 7, 3) := by decide +kernel
theorem d_MO_place_17 : decode prog_10_method_11_code 17 = .ok (.iconst 1, 1) := by decide +kernel
theorem d_MO_place_18 : decode prog_10_method_11_code 18 = .ok (.goto 4, 3) := by decide +kernel
theorem d_MO_place_21 : decode prog_10_method_11_code 21 = .ok (.iconst 2, 1) := by decide +kernel
theorem d_MO_place_22 : decode prog_10_method_11_code 22 = .ok (.istore 4, 2) := by decide +kernel
theorem d_MO_place_24 : decode prog_10_method_11_code 24 = .ok (.iload 4, 2) := by decide +kernel
theorem d_MO_place_26 : decode prog_10_method_11_code 26 = .ok (.iload_n 3, 1) := by decide +kernel
theorem d_MO_place_27 : decode prog_10_method_11_code 27 = .ok (.iload 4, 2) := by decide +kernel
theorem d_MO_place_29 : decode prog_10_method_11_code 29 = .ok (.idiv, 1) := by decide +kernel
theorem d_MO_place_30 : decode prog_10_method_11_code 30 = .ok (.imul, 1) := by decide +kernel
theorem d_MO_place_31 : decode prog_10_method_11_code 31 = .ok (.iload_n 3, 1) := by decide +kernel
theorem d_MO_place_32 : decode prog_10_method_11_code 32 = .ok (.iload_n 1, 1) := by decide +kernel
theorem d_MO_place_33 : decode prog_10_method_11_code 33 = .ok (.iadd, 1) := by decide +kernel
theorem d_MO_place_34 : decode prog_10_method_11_code 34 = .ok (.iconst 4, 1) := by decide +kernel
theorem d_MO_place_35 : decode prog_10_method_11_code 35 = .ok (.iload_n 3, 1) := by decide +kernel
theorem d_MO_place_36 : decode prog_10_method_11_code 36 = .ok (.imul, 1) := by decide +kernel
theorem d_MO_place_37 : decode prog_10_method_11_code 37 = .ok (.iload_n 1, 1) := by decide +kernel
theorem d_MO_place_38 : decode prog_10_method_11_code 38 = .ok (.idiv, 1) := by decide +kernel
theorem d_MO_place_39 : decode prog_10_method_11_code 39 = .ok (.isub, 1) := by decide +kernel
theorem d_MO_place_40 : decode prog_10_method_11_code 40 = .ok (.iload 4, 2) := by decide +kernel
theorem d_MO_place_42 : decode prog_10_method_11_code 42 = .ok (.irem, 1) := by decide +kernel
theorem d_MO_place_43 : decode prog_10_method_11_code 43 = .ok (.iadd, 1) := by decide +kernel
theorem d_MO_place_44 : decode prog_10_method_11_code 44 = .ok (.ireturn, 1) := by decide +kernel
def y_MO_carrier : MethodName := ⟨"CarrierLinkModel", "carrier", "(I)I"⟩
theorem hd_MO_carrier : y_MO_carrier.cls ≠ "java/lang/invoke/MethodHandle" ∧ y_MO_carrier.cls ≠ "java/lang/invoke/VarHandle" ∧ (parseMethodDescriptor y_MO_carrier.desc).map (fun d => d.parameters.length) = some 1 := ⟨by decide +kernel, by decide +kernel, by decide +kernel⟩
theorem d_MO_carrier_0 : decode prog_10_method_9_code 0 = .ok (.iload_n 0, 1) := by decide +kernel
theorem d_MO_carrier_1 : decode prog_10_method_9_code 1 = .ok (.iconst 3, 1) := by decide +kernel
theorem d_MO_carrier_2 : decode prog_10_method_9_code 2 = .ok (.if_icmp .ge 10, 3) := by decide +kernel
theorem d_MO_carrier_5 : decode prog_10_method_9_code 5 = .ok (.bipush 9, 2) := by decide +kernel
theorem d_MO_carrier_7 : decode prog_10_method_9_code 7 = .ok (.iload_n 0, 1) := by decide +kernel
theorem d_MO_carrier_8 : decode prog_10_method_9_code 8 = .ok (.iadd, 1) := by decide +kernel
theorem d_MO_carrier_9 : decode prog_10_method_9_code 9 = .ok (.goto 31, 3) := by decide +kernel
theorem d_MO_carrier_12 : decode prog_10_method_9_code 12 = .ok (.iload_n 0, 1) := by decide +kernel
theorem d_MO_carrier_13 : decode prog_10_method_9_code 13 = .ok (.bipush 6, 2) := by decide +kernel
theorem d_MO_carrier_15 : decode prog_10_method_9_code 15 = .ok (.if_icmp .ge 10, 3) := by decide +kernel
theorem d_MO_carrier_18 : decode prog_10_method_9_code 18 = .ok (.bipush 10, 2) := by decide +kernel
theorem d_MO_carrier_20 : decode prog_10_method_9_code 20 = .ok (.iload_n 0, 1) := by decide +kernel
theorem d_MO_carrier_21 : decode prog_10_method_9_code 21 = .ok (.iadd, 1) := by decide +kernel
theorem d_MO_carrier_22 : decode prog_10_method_9_code 22 = .ok (.goto 18, 3) := by decide +kernel
theorem d_MO_carrier_25 : decode prog_10_method_9_code 25 = .ok (.iload_n 0, 1) := by decide +kernel
theorem d_MO_carrier_26 : decode prog_10_method_9_code 26 = .ok (.bipush 9, 2) := by decide +kernel
theorem d_MO_carrier_28 : decode prog_10_method_9_code 28 = .ok (.if_icmp .ge 9, 3) := by decide +kernel
theorem d_MO_carrier_31 : decode prog_10_method_9_code 31 = .ok (.iload_n 0, 1) := by decide +kernel
theorem d_MO_carrier_32 : decode prog_10_method_9_code 32 = .ok (.iconst 5, 1) := by decide +kernel
theorem d_MO_carrier_33 : decode prog_10_method_9_code 33 = .ok (.isub, 1) := by decide +kernel
theorem d_MO_carrier_34 : decode prog_10_method_9_code 34 = .ok (.goto 6, 3) := by decide +kernel
theorem d_MO_carrier_37 : decode prog_10_method_9_code 37 = .ok (.iload_n 0, 1) := by decide +kernel
theorem d_MO_carrier_38 : decode prog_10_method_9_code 38 = .ok (.iconst 4, 1) := by decide +kernel
theorem d_MO_carrier_39 : decode prog_10_method_9_code 39 = .ok (.isub, 1) := by decide +kernel
theorem d_MO_carrier_40 : decode prog_10_method_9_code 40 = .ok (.ireturn, 1) := by decide +kernel
def y_MO_map : MethodName := ⟨"CarrierLinkModel", "map", "(III)V"⟩
theorem hd_MO_map : y_MO_map.cls ≠ "java/lang/invoke/MethodHandle" ∧ y_MO_map.cls ≠ "java/lang/invoke/VarHandle" ∧ (parseMethodDescriptor y_MO_map.desc).map (fun d => d.parameters.length) = some 3 := ⟨by decide +kernel, by decide +kernel, by decide +kernel⟩
theorem d_MO_map_0 : decode prog_10_method_21_code 0 = .ok (.aload_n 0, 1) := by decide +kernel
theorem d_MO_map_1 : decode prog_10_method_21_code 1 = .ok (.getfield 43, 3) := by decide +kernel
theorem d_MO_map_4 : decode prog_10_method_21_code 4 = .ok (.iload_n 1, 1) := by decide +kernel
theorem d_MO_map_5 : decode prog_10_method_21_code 5 = .ok (.iload_n 2, 1) := by decide +kernel
theorem d_MO_map_6 : decode prog_10_method_21_code 6 = .ok (.iconst 1, 1) := by decide +kernel
theorem d_MO_map_7 : decode prog_10_method_21_code 7 = .ok (.if_icmp .ne 20, 3) := by decide +kernel
theorem d_MO_map_10 : decode prog_10_method_21_code 10 = .ok (.sipush 2048, 3) := by decide +kernel
theorem d_MO_map_13 : decode prog_10_method_21_code 13 = .ok (.aload_n 0, 1) := by decide +kernel
theorem d_MO_map_14 : decode prog_10_method_21_code 14 = .ok (.getfield 19, 3) := by decide +kernel
theorem d_MO_map_17 : decode prog_10_method_21_code 17 = .ok (.iload_n 3, 1) := by decide +kernel
theorem d_MO_map_18 : decode prog_10_method_21_code 18 = .ok (.iaload, 1) := by decide +kernel
theorem d_MO_map_19 : decode prog_10_method_21_code 19 = .ok (.imul, 1) := by decide +kernel
theorem d_MO_map_20 : decode prog_10_method_21_code 20 = .ok (.sipush 1024, 3) := by decide +kernel
theorem d_MO_map_23 : decode prog_10_method_21_code 23 = .ok (.isub, 1) := by decide +kernel
theorem d_MO_map_24 : decode prog_10_method_21_code 24 = .ok (.goto 42, 3) := by decide +kernel
theorem d_MO_map_27 : decode prog_10_method_21_code 27 = .ok (.iload_n 2, 1) := by decide +kernel
theorem d_MO_map_28 : decode prog_10_method_21_code 28 = .ok (.iconst 2, 1) := by decide +kernel
theorem d_MO_map_29 : decode prog_10_method_21_code 29 = .ok (.if_icmp .ne 20, 3) := by decide +kernel
theorem d_MO_map_32 : decode prog_10_method_21_code 32 = .ok (.sipush 1448, 3) := by decide +kernel
theorem d_MO_map_35 : decode prog_10_method_21_code 35 = .ok (.aload_n 0, 1) := by decide +kernel
theorem d_MO_map_36 : decode prog_10_method_21_code 36 = .ok (.getfield 19, 3) := by decide +kernel
theorem d_MO_map_39 : decode prog_10_method_21_code 39 = .ok (.iload_n 3, 1) := by decide +kernel
theorem d_MO_map_40 : decode prog_10_method_21_code 40 = .ok (.iaload, 1) := by decide +kernel
theorem d_MO_map_41 : decode prog_10_method_21_code 41 = .ok (.imul, 1) := by decide +kernel
theorem d_MO_map_42 : decode prog_10_method_21_code 42 = .ok (.sipush 724, 3) := by decide +kernel
theorem d_MO_map_45 : decode prog_10_method_21_code 45 = .ok (.isub, 1) := by decide +kernel
theorem d_MO_map_46 : decode prog_10_method_21_code 46 = .ok (.goto 20, 3) := by decide +kernel
theorem d_MO_map_49 : decode prog_10_method_21_code 49 = .ok (.aload_n 0, 1) := by decide +kernel
theorem d_MO_map_50 : decode prog_10_method_21_code 50 = .ok (.getfield 19, 3) := by decide +kernel
theorem d_MO_map_53 : decode prog_10_method_21_code 53 = .ok (.iload_n 3, 1) := by decide +kernel
theorem d_MO_map_54 : decode prog_10_method_21_code 54 = .ok (.iaload, 1) := by decide +kernel
theorem d_MO_map_55 : decode prog_10_method_21_code 55 = .ok (.aload_n 0, 1) := by decide +kernel
theorem d_MO_map_56 : decode prog_10_method_21_code 56 = .ok (.getfield 19, 3) := by decide +kernel
theorem d_MO_map_59 : decode prog_10_method_21_code 59 = .ok (.iload_n 3, 1) := by decide +kernel
theorem d_MO_map_60 : decode prog_10_method_21_code 60 = .ok (.iconst 1, 1) := by decide +kernel
theorem d_MO_map_61 : decode prog_10_method_21_code 61 = .ok (.iadd, 1) := by decide +kernel
theorem d_MO_map_62 : decode prog_10_method_21_code 62 = .ok (.iaload, 1) := by decide +kernel
theorem d_MO_map_63 : decode prog_10_method_21_code 63 = .ok (.invokestatic 123, 3) := by decide +kernel
theorem d_MO_map_66 : decode prog_10_method_21_code 66 = .ok (.iastore, 1) := by decide +kernel
theorem d_MO_map_67 : decode prog_10_method_21_code 67 = .ok (.aload_n 0, 1) := by decide +kernel
theorem d_MO_map_68 : decode prog_10_method_21_code 68 = .ok (.getfield 46, 3) := by decide +kernel
theorem d_MO_map_71 : decode prog_10_method_21_code 71 = .ok (.iload_n 1, 1) := by decide +kernel
theorem d_MO_map_72 : decode prog_10_method_21_code 72 = .ok (.iload_n 2, 1) := by decide +kernel
theorem d_MO_map_73 : decode prog_10_method_21_code 73 = .ok (.iconst 1, 1) := by decide +kernel
theorem d_MO_map_74 : decode prog_10_method_21_code 74 = .ok (.if_icmp .ne 7, 3) := by decide +kernel
theorem d_MO_map_77 : decode prog_10_method_21_code 77 = .ok (.iconst 0, 1) := by decide +kernel
theorem d_MO_map_78 : decode prog_10_method_21_code 78 = .ok (.goto 46, 3) := by decide +kernel
theorem d_MO_map_81 : decode prog_10_method_21_code 81 = .ok (.iload_n 2, 1) := by decide +kernel
theorem d_MO_map_82 : decode prog_10_method_21_code 82 = .ok (.iconst 2, 1) := by decide +kernel
theorem d_MO_map_83 : decode prog_10_method_21_code 83 = .ok (.if_icmp .ne 22, 3) := by decide +kernel
theorem d_MO_map_86 : decode prog_10_method_21_code 86 = .ok (.sipush 1448, 3) := by decide +kernel
theorem d_MO_map_89 : decode prog_10_method_21_code 89 = .ok (.aload_n 0, 1) := by decide +kernel
theorem d_MO_map_90 : decode prog_10_method_21_code 90 = .ok (.getfield 19, 3) := by decide +kernel
theorem d_MO_map_93 : decode prog_10_method_21_code 93 = .ok (.iload_n 3, 1) := by decide +kernel
theorem d_MO_map_94 : decode prog_10_method_21_code 94 = .ok (.iconst 1, 1) := by decide +kernel
theorem d_MO_map_95 : decode prog_10_method_21_code 95 = .ok (.iadd, 1) := by decide +kernel
theorem d_MO_map_96 : decode prog_10_method_21_code 96 = .ok (.iaload, 1) := by decide +kernel
theorem d_MO_map_97 : decode prog_10_method_21_code 97 = .ok (.imul, 1) := by decide +kernel
theorem d_MO_map_98 : decode prog_10_method_21_code 98 = .ok (.sipush 724, 3) := by decide +kernel
theorem d_MO_map_101 : decode prog_10_method_21_code 101 = .ok (.isub, 1) := by decide +kernel
theorem d_MO_map_102 : decode prog_10_method_21_code 102 = .ok (.goto 22, 3) := by decide +kernel
theorem d_MO_map_105 : decode prog_10_method_21_code 105 = .ok (.aload_n 0, 1) := by decide +kernel
theorem d_MO_map_106 : decode prog_10_method_21_code 106 = .ok (.getfield 19, 3) := by decide +kernel
theorem d_MO_map_109 : decode prog_10_method_21_code 109 = .ok (.iload_n 3, 1) := by decide +kernel
theorem d_MO_map_110 : decode prog_10_method_21_code 110 = .ok (.iconst 2, 1) := by decide +kernel
theorem d_MO_map_111 : decode prog_10_method_21_code 111 = .ok (.iadd, 1) := by decide +kernel
theorem d_MO_map_112 : decode prog_10_method_21_code 112 = .ok (.iaload, 1) := by decide +kernel
theorem d_MO_map_113 : decode prog_10_method_21_code 113 = .ok (.aload_n 0, 1) := by decide +kernel
theorem d_MO_map_114 : decode prog_10_method_21_code 114 = .ok (.getfield 19, 3) := by decide +kernel
theorem d_MO_map_117 : decode prog_10_method_21_code 117 = .ok (.iload_n 3, 1) := by decide +kernel
theorem d_MO_map_118 : decode prog_10_method_21_code 118 = .ok (.iconst 3, 1) := by decide +kernel
theorem d_MO_map_119 : decode prog_10_method_21_code 119 = .ok (.iadd, 1) := by decide +kernel
theorem d_MO_map_120 : decode prog_10_method_21_code 120 = .ok (.iaload, 1) := by decide +kernel
theorem d_MO_map_121 : decode prog_10_method_21_code 121 = .ok (.invokestatic 123, 3) := by decide +kernel
theorem d_MO_map_124 : decode prog_10_method_21_code 124 = .ok (.iastore, 1) := by decide +kernel
theorem d_MO_map_125 : decode prog_10_method_21_code 125 = .ok (.return_, 1) := by decide +kernel
def y_MO_level : MethodName := ⟨"CarrierLinkModel", "level", "(II)I"⟩
theorem hd_MO_level : y_MO_level.cls ≠ "java/lang/invoke/MethodHandle" ∧ y_MO_level.cls ≠ "java/lang/invoke/VarHandle" ∧ (parseMethodDescriptor y_MO_level.desc).map (fun d => d.parameters.length) = some 2 := ⟨by decide +kernel, by decide +kernel, by decide +kernel⟩
theorem d_MO_level_0 : decode prog_10_method_20_code 0 = .ok (.iload_n 0, 1) := by decide +kernel
theorem d_MO_level_1 : decode prog_10_method_20_code 1 = .ok (.ifCond .ne 19, 3) := by decide +kernel
theorem d_MO_level_4 : decode prog_10_method_20_code 4 = .ok (.iload_n 1, 1) := by decide +kernel
theorem d_MO_level_5 : decode prog_10_method_20_code 5 = .ok (.ifCond .ne 9, 3) := by decide +kernel
theorem d_MO_level_8 : decode prog_10_method_20_code 8 = .ok (.sipush (-972), 3) := by decide +kernel
theorem d_MO_level_11 : decode prog_10_method_20_code 11 = .ok (.goto 23, 3) := by decide +kernel
theorem d_MO_level_14 : decode prog_10_method_20_code 14 = .ok (.sipush (-324), 3) := by decide +kernel
theorem d_MO_level_17 : decode prog_10_method_20_code 17 = .ok (.goto 17, 3) := by decide +kernel
theorem d_MO_level_20 : decode prog_10_method_20_code 20 = .ok (.iload_n 1, 1) := by decide +kernel
theorem d_MO_level_21 : decode prog_10_method_20_code 21 = .ok (.iconst 1, 1) := by decide +kernel
theorem d_MO_level_22 : decode prog_10_method_20_code 22 = .ok (.if_icmp .ne 9, 3) := by decide +kernel
theorem d_MO_level_25 : decode prog_10_method_20_code 25 = .ok (.sipush 324, 3) := by decide +kernel
theorem d_MO_level_28 : decode prog_10_method_20_code 28 = .ok (.goto 6, 3) := by decide +kernel
theorem d_MO_level_31 : decode prog_10_method_20_code 31 = .ok (.sipush 972, 3) := by decide +kernel
theorem d_MO_level_34 : decode prog_10_method_20_code 34 = .ok (.ireturn, 1) := by decide +kernel
def y_MO_scramble : MethodName := ⟨"CarrierLinkModel", "scramble", "()I"⟩
theorem hd_MO_scramble : y_MO_scramble.cls ≠ "java/lang/invoke/MethodHandle" ∧ y_MO_scramble.cls ≠ "java/lang/invoke/VarHandle" ∧ (parseMethodDescriptor y_MO_scramble.desc).map (fun d => d.parameters.length) = some 0 := ⟨by decide +kernel, by decide +kernel, by decide +kernel⟩
theorem d_MO_scramble_0 : decode prog_10_method_10_code 0 = .ok (.aload_n 0, 1) := by decide +kernel
theorem d_MO_scramble_1 : decode prog_10_method_10_code 1 = .ok (.getfield 104, 3) := by decide +kernel
theorem d_MO_scramble_4 : decode prog_10_method_10_code 4 = .ok (.bipush 6, 2) := by decide +kernel
theorem d_MO_scramble_6 : decode prog_10_method_10_code 6 = .ok (.ishr, 1) := by decide +kernel
theorem d_MO_scramble_7 : decode prog_10_method_10_code 7 = .ok (.aload_n 0, 1) := by decide +kernel
theorem d_MO_scramble_8 : decode prog_10_method_10_code 8 = .ok (.getfield 104, 3) := by decide +kernel
theorem d_MO_scramble_11 : decode prog_10_method_10_code 11 = .ok (.iconst 3, 1) := by decide +kernel
theorem d_MO_scramble_12 : decode prog_10_method_10_code 12 = .ok (.ishr, 1) := by decide +kernel
theorem d_MO_scramble_13 : decode prog_10_method_10_code 13 = .ok (.ixor, 1) := by decide +kernel
theorem d_MO_scramble_14 : decode prog_10_method_10_code 14 = .ok (.iconst 1, 1) := by decide +kernel
theorem d_MO_scramble_15 : decode prog_10_method_10_code 15 = .ok (.iand, 1) := by decide +kernel
theorem d_MO_scramble_16 : decode prog_10_method_10_code 16 = .ok (.istore_n 1, 1) := by decide +kernel
theorem d_MO_scramble_17 : decode prog_10_method_10_code 17 = .ok (.aload_n 0, 1) := by decide +kernel
theorem d_MO_scramble_18 : decode prog_10_method_10_code 18 = .ok (.aload_n 0, 1) := by decide +kernel
theorem d_MO_scramble_19 : decode prog_10_method_10_code 19 = .ok (.getfield 104, 3) := by decide +kernel
theorem d_MO_scramble_22 : decode prog_10_method_10_code 22 = .ok (.iconst 1, 1) := by decide +kernel
theorem d_MO_scramble_23 : decode prog_10_method_10_code 23 = .ok (.ishl, 1) := by decide +kernel
theorem d_MO_scramble_24 : decode prog_10_method_10_code 24 = .ok (.iload_n 1, 1) := by decide +kernel
theorem d_MO_scramble_25 : decode prog_10_method_10_code 25 = .ok (.ior, 1) := by decide +kernel
theorem d_MO_scramble_26 : decode prog_10_method_10_code 26 = .ok (.bipush 127, 2) := by decide +kernel
theorem d_MO_scramble_28 : decode prog_10_method_10_code 28 = .ok (.iand, 1) := by decide +kernel
theorem d_MO_scramble_29 : decode prog_10_method_10_code 29 = .ok (.putfield 104, 3) := by decide +kernel
theorem d_MO_scramble_32 : decode prog_10_method_10_code 32 = .ok (.iload_n 1, 1) := by decide +kernel
theorem d_MO_scramble_33 : decode prog_10_method_10_code 33 = .ok (.ireturn, 1) := by decide +kernel
def y_MO_symbolsFor : MethodName := ⟨"CarrierLinkModel", "symbolsFor", "(II)I"⟩
theorem hd_MO_symbolsFor : y_MO_symbolsFor.cls ≠ "java/lang/invoke/MethodHandle" ∧ y_MO_symbolsFor.cls ≠ "java/lang/invoke/VarHandle" ∧ (parseMethodDescriptor y_MO_symbolsFor.desc).map (fun d => d.parameters.length) = some 2 := ⟨by decide +kernel, by decide +kernel, by decide +kernel⟩
theorem d_MO_symbolsFor_0 : decode prog_10_method_7_code 0 = .ok (.bipush 13, 2) := by decide +kernel
theorem d_MO_symbolsFor_2 : decode prog_10_method_7_code 2 = .ok (.bipush 8, 2) := by decide +kernel
theorem d_MO_symbolsFor_4 : decode prog_10_method_7_code 4 = .ok (.iload_n 1, 1) := by decide +kernel
theorem d_MO_symbolsFor_5 : decode prog_10_method_7_code 5 = .ok (.imul, 1) := by decide +kernel
theorem d_MO_symbolsFor_6 : decode prog_10_method_7_code 6 = .ok (.iadd, 1) := by decide +kernel
theorem d_MO_symbolsFor_7 : decode prog_10_method_7_code 7 = .ok (.iload_n 0, 1) := by decide +kernel
theorem d_MO_symbolsFor_8 : decode prog_10_method_7_code 8 = .ok (.invokestatic 101, 3) := by decide +kernel
theorem d_MO_symbolsFor_11 : decode prog_10_method_7_code 11 = .ok (.iadd, 1) := by decide +kernel
theorem d_MO_symbolsFor_12 : decode prog_10_method_7_code 12 = .ok (.iconst 1, 1) := by decide +kernel
theorem d_MO_symbolsFor_13 : decode prog_10_method_7_code 13 = .ok (.isub, 1) := by decide +kernel
theorem d_MO_symbolsFor_14 : decode prog_10_method_7_code 14 = .ok (.iload_n 0, 1) := by decide +kernel
theorem d_MO_symbolsFor_15 : decode prog_10_method_7_code 15 = .ok (.invokestatic 101, 3) := by decide +kernel
theorem d_MO_symbolsFor_18 : decode prog_10_method_7_code 18 = .ok (.idiv, 1) := by decide +kernel
theorem d_MO_symbolsFor_19 : decode prog_10_method_7_code 19 = .ok (.ireturn, 1) := by decide +kernel
def y_MO_dataOf : MethodName := ⟨"CarrierLinkModel", "dataOf", "(I)I"⟩
theorem hd_MO_dataOf : y_MO_dataOf.cls ≠ "java/lang/invoke/MethodHandle" ∧ y_MO_dataOf.cls ≠ "java/lang/invoke/VarHandle" ∧ (parseMethodDescriptor y_MO_dataOf.desc).map (fun d => d.parameters.length) = some 1 := ⟨by decide +kernel, by decide +kernel, by decide +kernel⟩
theorem d_MO_dataOf_0 : decode prog_10_method_6_code 0 = .ok (.iload_n 0, 1) := by decide +kernel
theorem d_MO_dataOf_1 : decode prog_10_method_6_code 1 = .ok (.ifCond .ne 8, 3) := by decide +kernel
theorem d_MO_dataOf_4 : decode prog_10_method_6_code 4 = .ok (.bipush 6, 2) := by decide +kernel
theorem d_MO_dataOf_6 : decode prog_10_method_6_code 6 = .ok (.goto 25, 3) := by decide +kernel
theorem d_MO_dataOf_9 : decode prog_10_method_6_code 9 = .ok (.iload_n 0, 1) := by decide +kernel
theorem d_MO_dataOf_10 : decode prog_10_method_6_code 10 = .ok (.iconst 1, 1) := by decide +kernel
theorem d_MO_dataOf_11 : decode prog_10_method_6_code 11 = .ok (.if_icmp .ne 8, 3) := by decide +kernel
theorem d_MO_dataOf_14 : decode prog_10_method_6_code 14 = .ok (.bipush 12, 2) := by decide +kernel
theorem d_MO_dataOf_16 : decode prog_10_method_6_code 16 = .ok (.goto 15, 3) := by decide +kernel
theorem d_MO_dataOf_19 : decode prog_10_method_6_code 19 = .ok (.iload_n 0, 1) := by decide +kernel
theorem d_MO_dataOf_20 : decode prog_10_method_6_code 20 = .ok (.iconst 2, 1) := by decide +kernel
theorem d_MO_dataOf_21 : decode prog_10_method_6_code 21 = .ok (.if_icmp .ne 8, 3) := by decide +kernel
theorem d_MO_dataOf_24 : decode prog_10_method_6_code 24 = .ok (.bipush 18, 2) := by decide +kernel
theorem d_MO_dataOf_26 : decode prog_10_method_6_code 26 = .ok (.goto 5, 3) := by decide +kernel
theorem d_MO_dataOf_29 : decode prog_10_method_6_code 29 = .ok (.bipush 36, 2) := by decide +kernel
theorem d_MO_dataOf_31 : decode prog_10_method_6_code 31 = .ok (.ireturn, 1) := by decide +kernel
def y_MO_bitsOn : MethodName := ⟨"CarrierLinkModel", "bitsOn", "(I)I"⟩
theorem hd_MO_bitsOn : y_MO_bitsOn.cls ≠ "java/lang/invoke/MethodHandle" ∧ y_MO_bitsOn.cls ≠ "java/lang/invoke/VarHandle" ∧ (parseMethodDescriptor y_MO_bitsOn.desc).map (fun d => d.parameters.length) = some 1 := ⟨by decide +kernel, by decide +kernel, by decide +kernel⟩
theorem d_MO_bitsOn_0 : decode prog_10_method_5_code 0 = .ok (.iload_n 0, 1) := by decide +kernel
theorem d_MO_bitsOn_1 : decode prog_10_method_5_code 1 = .ok (.ifCond .ne 7, 3) := by decide +kernel
theorem d_MO_bitsOn_4 : decode prog_10_method_5_code 4 = .ok (.iconst 1, 1) := by decide +kernel
theorem d_MO_bitsOn_5 : decode prog_10_method_5_code 5 = .ok (.goto 13, 3) := by decide +kernel
theorem d_MO_bitsOn_8 : decode prog_10_method_5_code 8 = .ok (.iload_n 0, 1) := by decide +kernel
theorem d_MO_bitsOn_9 : decode prog_10_method_5_code 9 = .ok (.iconst 3, 1) := by decide +kernel
theorem d_MO_bitsOn_10 : decode prog_10_method_5_code 10 = .ok (.if_icmp .ge 7, 3) := by decide +kernel
theorem d_MO_bitsOn_13 : decode prog_10_method_5_code 13 = .ok (.iconst 2, 1) := by decide +kernel
theorem d_MO_bitsOn_14 : decode prog_10_method_5_code 14 = .ok (.goto 4, 3) := by decide +kernel
theorem d_MO_bitsOn_17 : decode prog_10_method_5_code 17 = .ok (.iconst 4, 1) := by decide +kernel
theorem d_MO_bitsOn_18 : decode prog_10_method_5_code 18 = .ok (.ireturn, 1) := by decide +kernel
def y_MO_bit : MethodName := ⟨"CarrierLinkModel", "bit", "(II)I"⟩
theorem hd_MO_bit : y_MO_bit.cls ≠ "java/lang/invoke/MethodHandle" ∧ y_MO_bit.cls ≠ "java/lang/invoke/VarHandle" ∧ (parseMethodDescriptor y_MO_bit.desc).map (fun d => d.parameters.length) = some 2 := ⟨by decide +kernel, by decide +kernel, by decide +kernel⟩
theorem d_MO_bit_0 : decode prog_10_method_25_code 0 = .ok (.aload_n 0, 1) := by decide +kernel
theorem d_MO_bit_1 : decode prog_10_method_25_code 1 = .ok (.iconst 0, 1) := by decide +kernel
theorem d_MO_bit_2 : decode prog_10_method_25_code 2 = .ok (.putfield 97, 3) := by decide +kernel
theorem d_MO_bit_5 : decode prog_10_method_25_code 5 = .ok (.aload_n 0, 1) := by decide +kernel
theorem d_MO_bit_6 : decode prog_10_method_25_code 6 = .ok (.getfield 127, 3) := by decide +kernel
theorem d_MO_bit_9 : decode prog_10_method_25_code 9 = .ok (.ifCond .eq 12, 3) := by decide +kernel
theorem d_MO_bit_12 : decode prog_10_method_25_code 12 = .ok (.iload_n 1, 1) := by decide +kernel
theorem d_MO_bit_13 : decode prog_10_method_25_code 13 = .ok (.ifCond .lt 8, 3) := by decide +kernel
theorem d_MO_bit_16 : decode prog_10_method_25_code 16 = .ok (.iload_n 1, 1) := by decide +kernel
theorem d_MO_bit_17 : decode prog_10_method_25_code 17 = .ok (.iconst 2, 1) := by decide +kernel
theorem d_MO_bit_18 : decode prog_10_method_25_code 18 = .ok (.if_icmp .le 7, 3) := by decide +kernel
theorem d_MO_bit_21 : decode prog_10_method_25_code 21 = .ok (.iconst (-1), 1) := by decide +kernel
theorem d_MO_bit_22 : decode prog_10_method_25_code 22 = .ok (.goto 18, 3) := by decide +kernel
theorem d_MO_bit_25 : decode prog_10_method_25_code 25 = .ok (.iload_n 1, 1) := by decide +kernel
theorem d_MO_bit_26 : decode prog_10_method_25_code 26 = .ok (.ifCond .ne 10, 3) := by decide +kernel
theorem d_MO_bit_29 : decode prog_10_method_25_code 29 = .ok (.aload_n 0, 1) := by decide +kernel
theorem d_MO_bit_30 : decode prog_10_method_25_code 30 = .ok (.getfield 170, 3) := by decide +kernel
theorem d_MO_bit_33 : decode prog_10_method_25_code 33 = .ok (.goto 7, 3) := by decide +kernel
theorem d_MO_bit_36 : decode prog_10_method_25_code 36 = .ok (.aload_n 0, 1) := by decide +kernel
theorem d_MO_bit_37 : decode prog_10_method_25_code 37 = .ok (.getfield 161, 3) := by decide +kernel
theorem d_MO_bit_40 : decode prog_10_method_25_code 40 = .ok (.istore_n 3, 1) := by decide +kernel
theorem d_MO_bit_41 : decode prog_10_method_25_code 41 = .ok (.iload_n 3, 1) := by decide +kernel
theorem d_MO_bit_42 : decode prog_10_method_25_code 42 = .ok (.ifCond .lt 13, 3) := by decide +kernel
theorem d_MO_bit_45 : decode prog_10_method_25_code 45 = .ok (.iload_n 2, 1) := by decide +kernel
theorem d_MO_bit_46 : decode prog_10_method_25_code 46 = .ok (.iconst (-1), 1) := by decide +kernel
theorem d_MO_bit_47 : decode prog_10_method_25_code 47 = .ok (.if_icmp .lt 8, 3) := by decide +kernel
theorem d_MO_bit_50 : decode prog_10_method_25_code 50 = .ok (.iload_n 2, 1) := by decide +kernel
theorem d_MO_bit_51 : decode prog_10_method_25_code 51 = .ok (.iload_n 3, 1) := by decide +kernel
theorem d_MO_bit_52 : decode prog_10_method_25_code 52 = .ok (.if_icmp .lt 5, 3) := by decide +kernel
theorem d_MO_bit_55 : decode prog_10_method_25_code 55 = .ok (.iconst (-1), 1) := by decide +kernel
theorem d_MO_bit_56 : decode prog_10_method_25_code 56 = .ok (.ireturn, 1) := by decide +kernel
theorem d_MO_bit_57 : decode prog_10_method_25_code 57 = .ok (.iload_n 2, 1) := by decide +kernel
theorem d_MO_bit_58 : decode prog_10_method_25_code 58 = .ok (.iconst (-1), 1) := by decide +kernel
theorem d_MO_bit_59 : decode prog_10_method_25_code 59 = .ok (.if_icmp .ne 7, 3) := by decide +kernel
theorem d_MO_bit_62 : decode prog_10_method_25_code 62 = .ok (.iload_n 3, 1) := by decide +kernel
theorem d_MO_bit_63 : decode prog_10_method_25_code 63 = .ok (.goto 36, 3) := by decide +kernel
theorem d_MO_bit_66 : decode prog_10_method_25_code 66 = .ok (.iload_n 1, 1) := by decide +kernel
theorem d_MO_bit_67 : decode prog_10_method_25_code 67 = .ok (.ifCond .ne 12, 3) := by decide +kernel
theorem d_MO_bit_70 : decode prog_10_method_25_code 70 = .ok (.aload_n 0, 1) := by decide +kernel
theorem d_MO_bit_71 : decode prog_10_method_25_code 71 = .ok (.getfield 13, 3) := by decide +kernel
theorem d_MO_bit_74 : decode prog_10_method_25_code 74 = .ok (.iload_n 2, 1) := by decide +kernel
theorem d_MO_bit_75 : decode prog_10_method_25_code 75 = .ok (.iaload, 1) := by decide +kernel
theorem d_MO_bit_76 : decode prog_10_method_25_code 76 = .ok (.goto 23, 3) := by decide +kernel
theorem d_MO_bit_79 : decode prog_10_method_25_code 79 = .ok (.iload_n 1, 1) := by decide +kernel
theorem d_MO_bit_80 : decode prog_10_method_25_code 80 = .ok (.iconst 1, 1) := by decide +kernel
theorem d_MO_bit_81 : decode prog_10_method_25_code 81 = .ok (.if_icmp .ne 12, 3) := by decide +kernel
theorem d_MO_bit_84 : decode prog_10_method_25_code 84 = .ok (.aload_n 0, 1) := by decide +kernel
theorem d_MO_bit_85 : decode prog_10_method_25_code 85 = .ok (.getfield 16, 3) := by decide +kernel
theorem d_MO_bit_88 : decode prog_10_method_25_code 88 = .ok (.iload_n 2, 1) := by decide +kernel
theorem d_MO_bit_89 : decode prog_10_method_25_code 89 = .ok (.iaload, 1) := by decide +kernel
theorem d_MO_bit_90 : decode prog_10_method_25_code 90 = .ok (.goto 9, 3) := by decide +kernel
theorem d_MO_bit_93 : decode prog_10_method_25_code 93 = .ok (.aload_n 0, 1) := by decide +kernel
theorem d_MO_bit_94 : decode prog_10_method_25_code 94 = .ok (.getfield 19, 3) := by decide +kernel
theorem d_MO_bit_97 : decode prog_10_method_25_code 97 = .ok (.iload_n 2, 1) := by decide +kernel
theorem d_MO_bit_98 : decode prog_10_method_25_code 98 = .ok (.iaload, 1) := by decide +kernel
theorem d_MO_bit_99 : decode prog_10_method_25_code 99 = .ok (.ireturn, 1) := by decide +kernel
def y_MO_sample26 : MethodName := ⟨"CarrierLinkModel", "sample", "(ZIZ)S"⟩
theorem hd_MO_sample26 : y_MO_sample26.cls ≠ "java/lang/invoke/MethodHandle" ∧ y_MO_sample26.cls ≠ "java/lang/invoke/VarHandle" ∧ (parseMethodDescriptor y_MO_sample26.desc).map (fun d => d.parameters.length) = some 3 := ⟨by decide +kernel, by decide +kernel, by decide +kernel⟩
theorem d_MO_sample26_0 : decode prog_10_method_26_code 0 = .ok (.aload_n 0, 1) := by decide +kernel
theorem d_MO_sample26_1 : decode prog_10_method_26_code 1 = .ok (.iload_n 2, 1) := by decide +kernel
theorem d_MO_sample26_2 : decode prog_10_method_26_code 2 = .ok (.ifCond .lt 22, 3) := by decide +kernel
theorem d_MO_sample26_5 : decode prog_10_method_26_code 5 = .ok (.iload_n 2, 1) := by decide +kernel
theorem d_MO_sample26_6 : decode prog_10_method_26_code 6 = .ok (.iload_n 1, 1) := by decide +kernel
theorem d_MO_sample26_7 : decode prog_10_method_26_code 7 = .ok (.ifCond .eq 10, 3) := by decide +kernel
theorem d_MO_sample26_10 : decode prog_10_method_26_code 10 = .ok (.aload_n 0, 1) := by decide +kernel
theorem d_MO_sample26_11 : decode prog_10_method_26_code 11 = .ok (.getfield 176, 3) := by decide +kernel
theorem d_MO_sample26_14 : decode prog_10_method_26_code 14 = .ok (.goto 7, 3) := by decide +kernel
theorem d_MO_sample26_17 : decode prog_10_method_26_code 17 = .ok (.aload_n 0, 1) := by decide +kernel
theorem d_MO_sample26_18 : decode prog_10_method_26_code 18 = .ok (.getfield 127, 3) := by decide +kernel
theorem d_MO_sample26_21 : decode prog_10_method_26_code 21 = .ok (.if_icmp .lt 7, 3) := by decide +kernel
theorem d_MO_sample26_24 : decode prog_10_method_26_code 24 = .ok (.iconst 1, 1) := by decide +kernel
theorem d_MO_sample26_25 : decode prog_10_method_26_code 25 = .ok (.goto 4, 3) := by decide +kernel
theorem d_MO_sample26_28 : decode prog_10_method_26_code 28 = .ok (.iconst 0, 1) := by decide +kernel
theorem d_MO_sample26_29 : decode prog_10_method_26_code 29 = .ok (.putfield 97, 3) := by decide +kernel
theorem d_MO_sample26_32 : decode prog_10_method_26_code 32 = .ok (.aload_n 0, 1) := by decide +kernel
theorem d_MO_sample26_33 : decode prog_10_method_26_code 33 = .ok (.getfield 97, 3) := by decide +kernel
theorem d_MO_sample26_36 : decode prog_10_method_26_code 36 = .ok (.ifCond .le 5, 3) := by decide +kernel
theorem d_MO_sample26_39 : decode prog_10_method_26_code 39 = .ok (.iconst 0, 1) := by decide +kernel
theorem d_MO_sample26_40 : decode prog_10_method_26_code 40 = .ok (.ireturn, 1) := by decide +kernel
theorem d_MO_sample26_41 : decode prog_10_method_26_code 41 = .ok (.iload_n 1, 1) := by decide +kernel
theorem d_MO_sample26_42 : decode prog_10_method_26_code 42 = .ok (.ifCond .eq 25, 3) := by decide +kernel
theorem d_MO_sample26_45 : decode prog_10_method_26_code 45 = .ok (.iload_n 3, 1) := by decide +kernel
theorem d_MO_sample26_46 : decode prog_10_method_26_code 46 = .ok (.ifCond .eq 12, 3) := by decide +kernel
theorem d_MO_sample26_49 : decode prog_10_method_26_code 49 = .ok (.aload_n 0, 1) := by decide +kernel
theorem d_MO_sample26_50 : decode prog_10_method_26_code 50 = .ok (.getfield 31, 3) := by decide +kernel
theorem d_MO_sample26_53 : decode prog_10_method_26_code 53 = .ok (.iload_n 2, 1) := by decide +kernel
theorem d_MO_sample26_54 : decode prog_10_method_26_code 54 = .ok (.iaload, 1) := by decide +kernel
theorem d_MO_sample26_55 : decode prog_10_method_26_code 55 = .ok (.goto 31, 3) := by decide +kernel
theorem d_MO_sample26_58 : decode prog_10_method_26_code 58 = .ok (.aload_n 0, 1) := by decide +kernel
theorem d_MO_sample26_59 : decode prog_10_method_26_code 59 = .ok (.getfield 28, 3) := by decide +kernel
theorem d_MO_sample26_62 : decode prog_10_method_26_code 62 = .ok (.iload_n 2, 1) := by decide +kernel
theorem d_MO_sample26_63 : decode prog_10_method_26_code 63 = .ok (.iaload, 1) := by decide +kernel
theorem d_MO_sample26_64 : decode prog_10_method_26_code 64 = .ok (.goto 22, 3) := by decide +kernel
theorem d_MO_sample26_67 : decode prog_10_method_26_code 67 = .ok (.iload_n 3, 1) := by decide +kernel
theorem d_MO_sample26_68 : decode prog_10_method_26_code 68 = .ok (.ifCond .eq 12, 3) := by decide +kernel
theorem d_MO_sample26_71 : decode prog_10_method_26_code 71 = .ok (.aload_n 0, 1) := by decide +kernel
theorem d_MO_sample26_72 : decode prog_10_method_26_code 72 = .ok (.getfield 25, 3) := by decide +kernel
theorem d_MO_sample26_75 : decode prog_10_method_26_code 75 = .ok (.iload_n 2, 1) := by decide +kernel
theorem d_MO_sample26_76 : decode prog_10_method_26_code 76 = .ok (.iaload, 1) := by decide +kernel
theorem d_MO_sample26_77 : decode prog_10_method_26_code 77 = .ok (.goto 9, 3) := by decide +kernel
theorem d_MO_sample26_80 : decode prog_10_method_26_code 80 = .ok (.aload_n 0, 1) := by decide +kernel
theorem d_MO_sample26_81 : decode prog_10_method_26_code 81 = .ok (.getfield 22, 3) := by decide +kernel
theorem d_MO_sample26_84 : decode prog_10_method_26_code 84 = .ok (.iload_n 2, 1) := by decide +kernel
theorem d_MO_sample26_85 : decode prog_10_method_26_code 85 = .ok (.iaload, 1) := by decide +kernel
theorem d_MO_sample26_86 : decode prog_10_method_26_code 86 = .ok (.i2s, 1) := by decide +kernel
theorem d_MO_sample26_87 : decode prog_10_method_26_code 87 = .ok (.ireturn, 1) := by decide +kernel
def y_MO_air : MethodName := ⟨"CarrierLinkModel", "air", "(III)I"⟩
theorem hd_MO_air : y_MO_air.cls ≠ "java/lang/invoke/MethodHandle" ∧ y_MO_air.cls ≠ "java/lang/invoke/VarHandle" ∧ (parseMethodDescriptor y_MO_air.desc).map (fun d => d.parameters.length) = some 3 := ⟨by decide +kernel, by decide +kernel, by decide +kernel⟩
theorem d_MO_air_0 : decode prog_10_method_27_code 0 = .ok (.aload_n 0, 1) := by decide +kernel
theorem d_MO_air_1 : decode prog_10_method_27_code 1 = .ok (.iload_n 1, 1) := by decide +kernel
theorem d_MO_air_2 : decode prog_10_method_27_code 2 = .ok (.ifCond .lt 27, 3) := by decide +kernel
theorem d_MO_air_5 : decode prog_10_method_27_code 5 = .ok (.iload_n 1, 1) := by decide +kernel
theorem d_MO_air_6 : decode prog_10_method_27_code 6 = .ok (.bipush 40, 2) := by decide +kernel
theorem d_MO_air_8 : decode prog_10_method_27_code 8 = .ok (.if_icmp .gt 21, 3) := by decide +kernel
theorem d_MO_air_11 : decode prog_10_method_27_code 11 = .ok (.iload_n 2, 1) := by decide +kernel
theorem d_MO_air_12 : decode prog_10_method_27_code 12 = .ok (.ifCond .lt 17, 3) := by decide +kernel
theorem d_MO_air_15 : decode prog_10_method_27_code 15 = .ok (.iload_n 2, 1) := by decide +kernel
theorem d_MO_air_16 : decode prog_10_method_27_code 16 = .ok (.iconst 3, 1) := by decide +kernel
theorem d_MO_air_17 : decode prog_10_method_27_code 17 = .ok (.if_icmp .gt 12, 3) := by decide +kernel
theorem d_MO_air_20 : decode prog_10_method_27_code 20 = .ok (.iload_n 3, 1) := by decide +kernel
theorem d_MO_air_21 : decode prog_10_method_27_code 21 = .ok (.ifCond .lt 8, 3) := by decide +kernel
theorem d_MO_air_24 : decode prog_10_method_27_code 24 = .ok (.iload_n 3, 1) := by decide +kernel
theorem d_MO_air_25 : decode prog_10_method_27_code 25 = .ok (.iconst 3, 1) := by decide +kernel
theorem d_MO_air_26 : decode prog_10_method_27_code 26 = .ok (.if_icmp .le 7, 3) := by decide +kernel
theorem d_MO_air_29 : decode prog_10_method_27_code 29 = .ok (.iconst 1, 1) := by decide +kernel
theorem d_MO_air_30 : decode prog_10_method_27_code 30 = .ok (.goto 15, 3) := by decide +kernel
theorem d_MO_air_33 : decode prog_10_method_27_code 33 = .ok (.aload_n 0, 1) := by decide +kernel
theorem d_MO_air_34 : decode prog_10_method_27_code 34 = .ok (.getfield 127, 3) := by decide +kernel
theorem d_MO_air_37 : decode prog_10_method_27_code 37 = .ok (.ifCond .ne 7, 3) := by decide +kernel
theorem d_MO_air_40 : decode prog_10_method_27_code 40 = .ok (.iconst 2, 1) := by decide +kernel
theorem d_MO_air_41 : decode prog_10_method_27_code 41 = .ok (.goto 4, 3) := by decide +kernel
theorem d_MO_air_44 : decode prog_10_method_27_code 44 = .ok (.iconst 0, 1) := by decide +kernel
theorem d_MO_air_45 : decode prog_10_method_27_code 45 = .ok (.putfield 97, 3) := by decide +kernel
theorem d_MO_air_48 : decode prog_10_method_27_code 48 = .ok (.aload_n 0, 1) := by decide +kernel
theorem d_MO_air_49 : decode prog_10_method_27_code 49 = .ok (.getfield 97, 3) := by decide +kernel
theorem d_MO_air_52 : decode prog_10_method_27_code 52 = .ok (.ifCond .le 5, 3) := by decide +kernel
theorem d_MO_air_55 : decode prog_10_method_27_code 55 = .ok (.iconst 0, 1) := by decide +kernel
theorem d_MO_air_56 : decode prog_10_method_27_code 56 = .ok (.ireturn, 1) := by decide +kernel
theorem d_MO_air_57 : decode prog_10_method_27_code 57 = .ok (.iconst 0, 1) := by decide +kernel
theorem d_MO_air_58 : decode prog_10_method_27_code 58 = .ok (.istore 4, 2) := by decide +kernel
theorem d_MO_air_60 : decode prog_10_method_27_code 60 = .ok (.iload 4, 2) := by decide +kernel
theorem d_MO_air_62 : decode prog_10_method_27_code 62 = .ok (.iload_n 1, 1) := by decide +kernel
theorem d_MO_air_63 : decode prog_10_method_27_code 63 = .ok (.if_icmp .ge 25, 3) := by decide +kernel
theorem d_MO_air_66 : decode prog_10_method_27_code 66 = .ok (.aload_n 0, 1) := by decide +kernel
theorem d_MO_air_67 : decode prog_10_method_27_code 67 = .ok (.getfield 28, 3) := by decide +kernel
theorem d_MO_air_70 : decode prog_10_method_27_code 70 = .ok (.iload 4, 2) := by decide +kernel
theorem d_MO_air_72 : decode prog_10_method_27_code 72 = .ok (.iconst 0, 1) := by decide +kernel
theorem d_MO_air_73 : decode prog_10_method_27_code 73 = .ok (.iastore, 1) := by decide +kernel
theorem d_MO_air_74 : decode prog_10_method_27_code 74 = .ok (.aload_n 0, 1) := by decide +kernel
theorem d_MO_air_75 : decode prog_10_method_27_code 75 = .ok (.getfield 31, 3) := by decide +kernel
theorem d_MO_air_78 : decode prog_10_method_27_code 78 = .ok (.iload 4, 2) := by decide +kernel
theorem d_MO_air_80 : decode prog_10_method_27_code 80 = .ok (.iconst 0, 1) := by decide +kernel
theorem d_MO_air_81 : decode prog_10_method_27_code 81 = .ok (.iastore, 1) := by decide +kernel
theorem d_MO_air_82 : decode prog_10_method_27_code 82 = .ok (.iinc 4 1, 3) := by decide +kernel
theorem d_MO_air_85 : decode prog_10_method_27_code 85 = .ok (.goto (-25), 3) := by decide +kernel
theorem d_MO_air_88 : decode prog_10_method_27_code 88 = .ok (.iconst 0, 1) := by decide +kernel
theorem d_MO_air_89 : decode prog_10_method_27_code 89 = .ok (.istore 4, 2) := by decide +kernel
theorem d_MO_air_91 : decode prog_10_method_27_code 91 = .ok (.iload 4, 2) := by decide +kernel
theorem d_MO_air_93 : decode prog_10_method_27_code 93 = .ok (.aload_n 0, 1) := by decide +kernel
theorem d_MO_air_94 : decode prog_10_method_27_code 94 = .ok (.getfield 127, 3) := by decide +kernel
theorem d_MO_air_97 : decode prog_10_method_27_code 97 = .ok (.if_icmp .ge 125, 3) := by decide +kernel
theorem d_MO_air_100 : decode prog_10_method_27_code 100 = .ok (.aload_n 0, 1) := by decide +kernel
theorem d_MO_air_101 : decode prog_10_method_27_code 101 = .ok (.getfield 22, 3) := by decide +kernel
theorem d_MO_air_104 : decode prog_10_method_27_code 104 = .ok (.iload 4, 2) := by decide +kernel
theorem d_MO_air_106 : decode prog_10_method_27_code 106 = .ok (.iaload, 1) := by decide +kernel
theorem d_MO_air_107 : decode prog_10_method_27_code 107 = .ok (.istore 5, 2) := by decide +kernel
theorem d_MO_air_109 : decode prog_10_method_27_code 109 = .ok (.aload_n 0, 1) := by decide +kernel
theorem d_MO_air_110 : decode prog_10_method_27_code 110 = .ok (.getfield 25, 3) := by decide +kernel
theorem d_MO_air_113 : decode prog_10_method_27_code 113 = .ok (.iload 4, 2) := by decide +kernel
theorem d_MO_air_115 : decode prog_10_method_27_code 115 = .ok (.iaload, 1) := by decide +kernel
theorem d_MO_air_116 : decode prog_10_method_27_code 116 = .ok (.istore 6, 2) := by decide +kernel
theorem d_MO_air_118 : decode prog_10_method_27_code 118 = .ok (.iload_n 2, 1) := by decide +kernel
theorem d_MO_air_119 : decode prog_10_method_27_code 119 = .ok (.ifCond .le 41, 3) := by decide +kernel
theorem d_MO_air_122 : decode prog_10_method_27_code 122 = .ok (.iload 4, 2) := by decide +kernel
theorem d_MO_air_124 : decode prog_10_method_27_code 124 = .ok (.iload_n 2, 1) := by decide +kernel
theorem d_MO_air_125 : decode prog_10_method_27_code 125 = .ok (.if_icmp .lt 35, 3) := by decide +kernel
theorem d_MO_air_128 : decode prog_10_method_27_code 128 = .ok (.iload 5, 2) := by decide +kernel
theorem d_MO_air_130 : decode prog_10_method_27_code 130 = .ok (.aload_n 0, 1) := by decide +kernel
theorem d_MO_air_131 : decode prog_10_method_27_code 131 = .ok (.getfield 22, 3) := by decide +kernel
theorem d_MO_air_134 : decode prog_10_method_27_code 134 = .ok (.iload 4, 2) := by decide +kernel
theorem d_MO_air_136 : decode prog_10_method_27_code 136 = .ok (.iload_n 2, 1) := by decide +kernel
theorem d_MO_air_137 : decode prog_10_method_27_code 137 = .ok (.isub, 1) := by decide +kernel
theorem d_MO_air_138 : decode prog_10_method_27_code 138 = .ok (.iaload, 1) := by decide +kernel
theorem d_MO_air_139 : decode prog_10_method_27_code 139 = .ok (.iconst 1, 1) := by decide +kernel
theorem d_MO_air_140 : decode prog_10_method_27_code 140 = .ok (.ishr, 1) := by decide +kernel
theorem d_MO_air_141 : decode prog_10_method_27_code 141 = .ok (.iadd, 1) := by decide +kernel
theorem d_MO_air_142 : decode prog_10_method_27_code 142 = .ok (.istore 5, 2) := by decide +kernel
theorem d_MO_air_144 : decode prog_10_method_27_code 144 = .ok (.iload 6, 2) := by decide +kernel
theorem d_MO_air_146 : decode prog_10_method_27_code 146 = .ok (.aload_n 0, 1) := by decide +kernel
theorem d_MO_air_147 : decode prog_10_method_27_code 147 = .ok (.getfield 25, 3) := by decide +kernel
theorem d_MO_air_150 : decode prog_10_method_27_code 150 = .ok (.iload 4, 2) := by decide +kernel
theorem d_MO_air_152 : decode prog_10_method_27_code 152 = .ok (.iload_n 2, 1) := by decide +kernel
theorem d_MO_air_153 : decode prog_10_method_27_code 153 = .ok (.isub, 1) := by decide +kernel
theorem d_MO_air_154 : decode prog_10_method_27_code 154 = .ok (.iaload, 1) := by decide +kernel
theorem d_MO_air_155 : decode prog_10_method_27_code 155 = .ok (.iconst 1, 1) := by decide +kernel
theorem d_MO_air_156 : decode prog_10_method_27_code 156 = .ok (.ishr, 1) := by decide +kernel
theorem d_MO_air_157 : decode prog_10_method_27_code 157 = .ok (.iadd, 1) := by decide +kernel
theorem d_MO_air_158 : decode prog_10_method_27_code 158 = .ok (.istore 6, 2) := by decide +kernel
theorem d_MO_air_160 : decode prog_10_method_27_code 160 = .ok (.iconst 0, 1) := by decide +kernel
theorem d_MO_air_161 : decode prog_10_method_27_code 161 = .ok (.istore 7, 2) := by decide +kernel
theorem d_MO_air_163 : decode prog_10_method_27_code 163 = .ok (.iload 7, 2) := by decide +kernel
theorem d_MO_air_165 : decode prog_10_method_27_code 165 = .ok (.iload_n 3, 1) := by decide +kernel
theorem d_MO_air_166 : decode prog_10_method_27_code 166 = .ok (.if_icmp .ge 22, 3) := by decide +kernel
theorem d_MO_air_169 : decode prog_10_method_27_code 169 = .ok (.iload 5, 2) := by decide +kernel
theorem d_MO_air_171 : decode prog_10_method_27_code 171 = .ok (.istore 8, 2) := by decide +kernel
theorem d_MO_air_173 : decode prog_10_method_27_code 173 = .ok (.iload 6, 2) := by decide +kernel
theorem d_MO_air_175 : decode prog_10_method_27_code 175 = .ok (.ineg, 1) := by decide +kernel
theorem d_MO_air_176 : decode prog_10_method_27_code 176 = .ok (.istore 5, 2) := by decide +kernel
theorem d_MO_air_178 : decode prog_10_method_27_code 178 = .ok (.iload 8, 2) := by decide +kernel
theorem d_MO_air_180 : decode prog_10_method_27_code 180 = .ok (.istore 6, 2) := by decide +kernel
theorem d_MO_air_182 : decode prog_10_method_27_code 182 = .ok (.iinc 7 1, 3) := by decide +kernel
theorem d_MO_air_185 : decode prog_10_method_27_code 185 = .ok (.goto (-22), 3) := by decide +kernel
theorem d_MO_air_188 : decode prog_10_method_27_code 188 = .ok (.aload_n 0, 1) := by decide +kernel
theorem d_MO_air_189 : decode prog_10_method_27_code 189 = .ok (.getfield 28, 3) := by decide +kernel
theorem d_MO_air_192 : decode prog_10_method_27_code 192 = .ok (.iload_n 1, 1) := by decide +kernel
theorem d_MO_air_193 : decode prog_10_method_27_code 193 = .ok (.iload 4, 2) := by decide +kernel
theorem d_MO_air_195 : decode prog_10_method_27_code 195 = .ok (.iadd, 1) := by decide +kernel
theorem d_MO_air_196 : decode prog_10_method_27_code 196 = .ok (.iload 5, 2) := by decide +kernel
theorem d_MO_air_198 : decode prog_10_method_27_code 198 = .ok (.invokestatic 130, 3) := by decide +kernel
theorem d_MO_air_201 : decode prog_10_method_27_code 201 = .ok (.iastore, 1) := by decide +kernel
theorem d_MO_air_202 : decode prog_10_method_27_code 202 = .ok (.aload_n 0, 1) := by decide +kernel
theorem d_MO_air_203 : decode prog_10_method_27_code 203 = .ok (.getfield 31, 3) := by decide +kernel
theorem d_MO_air_206 : decode prog_10_method_27_code 206 = .ok (.iload_n 1, 1) := by decide +kernel
theorem d_MO_air_207 : decode prog_10_method_27_code 207 = .ok (.iload 4, 2) := by decide +kernel
theorem d_MO_air_209 : decode prog_10_method_27_code 209 = .ok (.iadd, 1) := by decide +kernel
theorem d_MO_air_210 : decode prog_10_method_27_code 210 = .ok (.iload 6, 2) := by decide +kernel
theorem d_MO_air_212 : decode prog_10_method_27_code 212 = .ok (.invokestatic 130, 3) := by decide +kernel
theorem d_MO_air_215 : decode prog_10_method_27_code 215 = .ok (.iastore, 1) := by decide +kernel
theorem d_MO_air_216 : decode prog_10_method_27_code 216 = .ok (.iinc 4 1, 3) := by decide +kernel
theorem d_MO_air_219 : decode prog_10_method_27_code 219 = .ok (.goto (-128), 3) := by decide +kernel
theorem d_MO_air_222 : decode prog_10_method_27_code 222 = .ok (.aload_n 0, 1) := by decide +kernel
theorem d_MO_air_223 : decode prog_10_method_27_code 223 = .ok (.iload_n 1, 1) := by decide +kernel
theorem d_MO_air_224 : decode prog_10_method_27_code 224 = .ok (.aload_n 0, 1) := by decide +kernel
theorem d_MO_air_225 : decode prog_10_method_27_code 225 = .ok (.getfield 127, 3) := by decide +kernel
theorem d_MO_air_228 : decode prog_10_method_27_code 228 = .ok (.iadd, 1) := by decide +kernel
theorem d_MO_air_229 : decode prog_10_method_27_code 229 = .ok (.putfield 176, 3) := by decide +kernel
theorem d_MO_air_232 : decode prog_10_method_27_code 232 = .ok (.aload_n 0, 1) := by decide +kernel
theorem d_MO_air_233 : decode prog_10_method_27_code 233 = .ok (.getfield 176, 3) := by decide +kernel
theorem d_MO_air_236 : decode prog_10_method_27_code 236 = .ok (.ireturn, 1) := by decide +kernel
def y_MO_disturb : MethodName := ⟨"CarrierLinkModel", "disturb", "(ISS)Z"⟩
theorem hd_MO_disturb : y_MO_disturb.cls ≠ "java/lang/invoke/MethodHandle" ∧ y_MO_disturb.cls ≠ "java/lang/invoke/VarHandle" ∧ (parseMethodDescriptor y_MO_disturb.desc).map (fun d => d.parameters.length) = some 3 := ⟨by decide +kernel, by decide +kernel, by decide +kernel⟩
theorem d_MO_disturb_0 : decode prog_10_method_28_code 0 = .ok (.aload_n 0, 1) := by decide +kernel
theorem d_MO_disturb_1 : decode prog_10_method_28_code 1 = .ok (.iconst 0, 1) := by decide +kernel
theorem d_MO_disturb_2 : decode prog_10_method_28_code 2 = .ok (.putfield 97, 3) := by decide +kernel
theorem d_MO_disturb_5 : decode prog_10_method_28_code 5 = .ok (.iload_n 1, 1) := by decide +kernel
theorem d_MO_disturb_6 : decode prog_10_method_28_code 6 = .ok (.ifCond .lt 11, 3) := by decide +kernel
theorem d_MO_disturb_9 : decode prog_10_method_28_code 9 = .ok (.iload_n 1, 1) := by decide +kernel
theorem d_MO_disturb_10 : decode prog_10_method_28_code 10 = .ok (.aload_n 0, 1) := by decide +kernel
theorem d_MO_disturb_11 : decode prog_10_method_28_code 11 = .ok (.getfield 176, 3) := by decide +kernel
theorem d_MO_disturb_14 : decode prog_10_method_28_code 14 = .ok (.if_icmp .lt 5, 3) := by decide +kernel
theorem d_MO_disturb_17 : decode prog_10_method_28_code 17 = .ok (.iconst 0, 1) := by decide +kernel
theorem d_MO_disturb_18 : decode prog_10_method_28_code 18 = .ok (.ireturn, 1) := by decide +kernel
theorem d_MO_disturb_19 : decode prog_10_method_28_code 19 = .ok (.aload_n 0, 1) := by decide +kernel
theorem d_MO_disturb_20 : decode prog_10_method_28_code 20 = .ok (.getfield 28, 3) := by decide +kernel
theorem d_MO_disturb_23 : decode prog_10_method_28_code 23 = .ok (.iload_n 1, 1) := by decide +kernel
theorem d_MO_disturb_24 : decode prog_10_method_28_code 24 = .ok (.aload_n 0, 1) := by decide +kernel
theorem d_MO_disturb_25 : decode prog_10_method_28_code 25 = .ok (.getfield 28, 3) := by decide +kernel
theorem d_MO_disturb_28 : decode prog_10_method_28_code 28 = .ok (.iload_n 1, 1) := by decide +kernel
theorem d_MO_disturb_29 : decode prog_10_method_28_code 29 = .ok (.iaload, 1) := by decide +kernel
theorem d_MO_disturb_30 : decode prog_10_method_28_code 30 = .ok (.iload_n 2, 1) := by decide +kernel
theorem d_MO_disturb_31 : decode prog_10_method_28_code 31 = .ok (.iadd, 1) := by decide +kernel
theorem d_MO_disturb_32 : decode prog_10_method_28_code 32 = .ok (.invokestatic 130, 3) := by decide +kernel
theorem d_MO_disturb_35 : decode prog_10_method_28_code 35 = .ok (.iastore, 1) := by decide +kernel
theorem d_MO_disturb_36 : decode prog_10_method_28_code 36 = .ok (.aload_n 0, 1) := by decide +kernel
theorem d_MO_disturb_37 : decode prog_10_method_28_code 37 = .ok (.getfield 31, 3) := by decide +kernel
theorem d_MO_disturb_40 : decode prog_10_method_28_code 40 = .ok (.iload_n 1, 1) := by decide +kernel
theorem d_MO_disturb_41 : decode prog_10_method_28_code 41 = .ok (.aload_n 0, 1) := by decide +kernel
theorem d_MO_disturb_42 : decode prog_10_method_28_code 42 = .ok (.getfield 31, 3) := by decide +kernel
theorem d_MO_disturb_45 : decode prog_10_method_28_code 45 = .ok (.iload_n 1, 1) := by decide +kernel
theorem d_MO_disturb_46 : decode prog_10_method_28_code 46 = .ok (.iaload, 1) := by decide +kernel
theorem d_MO_disturb_47 : decode prog_10_method_28_code 47 = .ok (.iload_n 3, 1) := by decide +kernel
theorem d_MO_disturb_48 : decode prog_10_method_28_code 48 = .ok (.iadd, 1) := by decide +kernel
theorem d_MO_disturb_49 : decode prog_10_method_28_code 49 = .ok (.invokestatic 130, 3) := by decide +kernel
theorem d_MO_disturb_52 : decode prog_10_method_28_code 52 = .ok (.iastore, 1) := by decide +kernel
theorem d_MO_disturb_53 : decode prog_10_method_28_code 53 = .ok (.iconst 1, 1) := by decide +kernel
theorem d_MO_disturb_54 : decode prog_10_method_28_code 54 = .ok (.ireturn, 1) := by decide +kernel
def y_MO_stir : MethodName := ⟨"CarrierLinkModel", "stir", "(II)Z"⟩
theorem hd_MO_stir : y_MO_stir.cls ≠ "java/lang/invoke/MethodHandle" ∧ y_MO_stir.cls ≠ "java/lang/invoke/VarHandle" ∧ (parseMethodDescriptor y_MO_stir.desc).map (fun d => d.parameters.length) = some 2 := ⟨by decide +kernel, by decide +kernel, by decide +kernel⟩
theorem d_MO_stir_0 : decode prog_10_method_29_code 0 = .ok (.aload_n 0, 1) := by decide +kernel
theorem d_MO_stir_1 : decode prog_10_method_29_code 1 = .ok (.iconst 0, 1) := by decide +kernel
theorem d_MO_stir_2 : decode prog_10_method_29_code 2 = .ok (.putfield 97, 3) := by decide +kernel
theorem d_MO_stir_5 : decode prog_10_method_29_code 5 = .ok (.iload_n 1, 1) := by decide +kernel
theorem d_MO_stir_6 : decode prog_10_method_29_code 6 = .ok (.ifCond .lt 17, 3) := by decide +kernel
theorem d_MO_stir_9 : decode prog_10_method_29_code 9 = .ok (.iload_n 1, 1) := by decide +kernel
theorem d_MO_stir_10 : decode prog_10_method_29_code 10 = .ok (.sipush 2000, 3) := by decide +kernel
theorem d_MO_stir_13 : decode prog_10_method_29_code 13 = .ok (.if_icmp .gt 10, 3) := by decide +kernel
theorem d_MO_stir_16 : decode prog_10_method_29_code 16 = .ok (.aload_n 0, 1) := by decide +kernel
theorem d_MO_stir_17 : decode prog_10_method_29_code 17 = .ok (.getfield 176, 3) := by decide +kernel
theorem d_MO_stir_20 : decode prog_10_method_29_code 20 = .ok (.ifCond .ne 5, 3) := by decide +kernel
theorem d_MO_stir_23 : decode prog_10_method_29_code 23 = .ok (.iconst 0, 1) := by decide +kernel
theorem d_MO_stir_24 : decode prog_10_method_29_code 24 = .ok (.ireturn, 1) := by decide +kernel
theorem d_MO_stir_25 : decode prog_10_method_29_code 25 = .ok (.iload_n 2, 1) := by decide +kernel
theorem d_MO_stir_26 : decode prog_10_method_29_code 26 = .ok (.istore_n 3, 1) := by decide +kernel
theorem d_MO_stir_27 : decode prog_10_method_29_code 27 = .ok (.iconst 0, 1) := by decide +kernel
theorem d_MO_stir_28 : decode prog_10_method_29_code 28 = .ok (.istore 4, 2) := by decide +kernel
theorem d_MO_stir_30 : decode prog_10_method_29_code 30 = .ok (.iload 4, 2) := by decide +kernel
theorem d_MO_stir_32 : decode prog_10_method_29_code 32 = .ok (.aload_n 0, 1) := by decide +kernel
theorem d_MO_stir_33 : decode prog_10_method_29_code 33 = .ok (.getfield 176, 3) := by decide +kernel
theorem d_MO_stir_36 : decode prog_10_method_29_code 36 = .ok (.if_icmp .ge 87, 3) := by decide +kernel
theorem d_MO_stir_39 : decode prog_10_method_29_code 39 = .ok (.iload_n 3, 1) := by decide +kernel
theorem d_MO_stir_40 : decode prog_10_method_29_code 40 = .ok (.ldc 179, 2) := by decide +kernel
theorem d_MO_stir_42 : decode prog_10_method_29_code 42 = .ok (.imul, 1) := by decide +kernel
theorem d_MO_stir_43 : decode prog_10_method_29_code 43 = .ok (.sipush 12345, 3) := by decide +kernel
theorem d_MO_stir_46 : decode prog_10_method_29_code 46 = .ok (.iadd, 1) := by decide +kernel
theorem d_MO_stir_47 : decode prog_10_method_29_code 47 = .ok (.istore_n 3, 1) := by decide +kernel
theorem d_MO_stir_48 : decode prog_10_method_29_code 48 = .ok (.aload_n 0, 1) := by decide +kernel
theorem d_MO_stir_49 : decode prog_10_method_29_code 49 = .ok (.getfield 28, 3) := by decide +kernel
theorem d_MO_stir_52 : decode prog_10_method_29_code 52 = .ok (.iload 4, 2) := by decide +kernel
theorem d_MO_stir_54 : decode prog_10_method_29_code 54 = .ok (.aload_n 0, 1) := by decide +kernel
theorem d_MO_stir_55 : decode prog_10_method_29_code 55 = .ok (.getfield 28, 3) := by decide +kernel
theorem d_MO_stir_58 : decode prog_10_method_29_code 58 = .ok (.iload 4, 2) := by decide +kernel
theorem d_MO_stir_60 : decode prog_10_method_29_code 60 = .ok (.iaload, 1) := by decide +kernel
theorem d_MO_stir_61 : decode prog_10_method_29_code 61 = .ok (.iload_n 3, 1) := by decide +kernel
theorem d_MO_stir_62 : decode prog_10_method_29_code 62 = .ok (.bipush 16, 2) := by decide +kernel
theorem d_MO_stir_64 : decode prog_10_method_29_code 64 = .ok (.iushr, 1) := by decide +kernel
theorem d_MO_stir_65 : decode prog_10_method_29_code 65 = .ok (.iconst 2, 1) := by decide +kernel
theorem d_MO_stir_66 : decode prog_10_method_29_code 66 = .ok (.iload_n 1, 1) := by decide +kernel
theorem d_MO_stir_67 : decode prog_10_method_29_code 67 = .ok (.imul, 1) := by decide +kernel
theorem d_MO_stir_68 : decode prog_10_method_29_code 68 = .ok (.iconst 1, 1) := by decide +kernel
theorem d_MO_stir_69 : decode prog_10_method_29_code 69 = .ok (.iadd, 1) := by decide +kernel
theorem d_MO_stir_70 : decode prog_10_method_29_code 70 = .ok (.irem, 1) := by decide +kernel
theorem d_MO_stir_71 : decode prog_10_method_29_code 71 = .ok (.iadd, 1) := by decide +kernel
theorem d_MO_stir_72 : decode prog_10_method_29_code 72 = .ok (.iload_n 1, 1) := by decide +kernel
theorem d_MO_stir_73 : decode prog_10_method_29_code 73 = .ok (.isub, 1) := by decide +kernel
theorem d_MO_stir_74 : decode prog_10_method_29_code 74 = .ok (.invokestatic 130, 3) := by decide +kernel
theorem d_MO_stir_77 : decode prog_10_method_29_code 77 = .ok (.iastore, 1) := by decide +kernel
theorem d_MO_stir_78 : decode prog_10_method_29_code 78 = .ok (.iload_n 3, 1) := by decide +kernel
theorem d_MO_stir_79 : decode prog_10_method_29_code 79 = .ok (.ldc 179, 2) := by decide +kernel
theorem d_MO_stir_81 : decode prog_10_method_29_code 81 = .ok (.imul, 1) := by decide +kernel
theorem d_MO_stir_82 : decode prog_10_method_29_code 82 = .ok (.sipush 12345, 3) := by decide +kernel
theorem d_MO_stir_85 : decode prog_10_method_29_code 85 = .ok (.iadd, 1) := by decide +kernel
theorem d_MO_stir_86 : decode prog_10_method_29_code 86 = .ok (.istore_n 3, 1) := by decide +kernel
theorem d_MO_stir_87 : decode prog_10_method_29_code 87 = .ok (.aload_n 0, 1) := by decide +kernel
theorem d_MO_stir_88 : decode prog_10_method_29_code 88 = .ok (.getfield 31, 3) := by decide +kernel
theorem d_MO_stir_91 : decode prog_10_method_29_code 91 = .ok (.iload 4, 2) := by decide +kernel
theorem d_MO_stir_93 : decode prog_10_method_29_code 93 = .ok (.aload_n 0, 1) := by decide +kernel
theorem d_MO_stir_94 : decode prog_10_method_29_code 94 = .ok (.getfield 31, 3) := by decide +kernel
theorem d_MO_stir_97 : decode prog_10_method_29_code 97 = .ok (.iload 4, 2) := by decide +kernel
theorem d_MO_stir_99 : decode prog_10_method_29_code 99 = .ok (.iaload, 1) := by decide +kernel
theorem d_MO_stir_100 : decode prog_10_method_29_code 100 = .ok (.iload_n 3, 1) := by decide +kernel
theorem d_MO_stir_101 : decode prog_10_method_29_code 101 = .ok (.bipush 16, 2) := by decide +kernel
theorem d_MO_stir_103 : decode prog_10_method_29_code 103 = .ok (.iushr, 1) := by decide +kernel
theorem d_MO_stir_104 : decode prog_10_method_29_code 104 = .ok (.iconst 2, 1) := by decide +kernel
theorem d_MO_stir_105 : decode prog_10_method_29_code 105 = .ok (.iload_n 1, 1) := by decide +kernel
theorem d_MO_stir_106 : decode prog_10_method_29_code 106 = .ok (.imul, 1) := by decide +kernel
theorem d_MO_stir_107 : decode prog_10_method_29_code 107 = .ok (.iconst 1, 1) := by decide +kernel
theorem d_MO_stir_108 : decode prog_10_method_29_code 108 = .ok (.iadd, 1) := by decide +kernel
theorem d_MO_stir_109 : decode prog_10_method_29_code 109 = .ok (.irem, 1) := by decide +kernel
theorem d_MO_stir_110 : decode prog_10_method_29_code 110 = .ok (.iadd, 1) := by decide +kernel
theorem d_MO_stir_111 : decode prog_10_method_29_code 111 = .ok (.iload_n 1, 1) := by decide +kernel
theorem d_MO_stir_112 : decode prog_10_method_29_code 112 = .ok (.isub, 1) := by decide +kernel
theorem d_MO_stir_113 : decode prog_10_method_29_code 113 = .ok (.invokestatic 130, 3) := by decide +kernel
theorem d_MO_stir_116 : decode prog_10_method_29_code 116 = .ok (.iastore, 1) := by decide +kernel
theorem d_MO_stir_117 : decode prog_10_method_29_code 117 = .ok (.iinc 4 1, 3) := by decide +kernel
theorem d_MO_stir_120 : decode prog_10_method_29_code 120 = .ok (.goto (-90), 3) := by decide +kernel
theorem d_MO_stir_123 : decode prog_10_method_29_code 123 = .ok (.iconst 1, 1) := by decide +kernel
theorem d_MO_stir_124 : decode prog_10_method_29_code 124 = .ok (.ireturn, 1) := by decide +kernel
