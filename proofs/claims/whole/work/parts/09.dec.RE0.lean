def y_RE_init : MethodName := ⟨"CarrierLink$Receiver", "<init>", "(LCarrierLink$Points;)V"⟩
theorem hd_RE_init : y_RE_init.cls ≠ "java/lang/invoke/MethodHandle" ∧ y_RE_init.cls ≠ "java/lang/invoke/VarHandle" ∧ (parseMethodDescriptor y_RE_init.desc).map (fun d => d.parameters.length) = some 1 := ⟨by decide +kernel, by decide +kernel, by decide +kernel⟩
theorem d_RE_init_0 : decode prog_5_method_1_code 0 = .ok (.aload_n 0, 1) := by decide +kernel
theorem d_RE_init_1 : decode prog_5_method_1_code 1 = .ok (.invokespecial 3, 3) := by decide +kernel
theorem d_RE_init_4 : decode prog_5_method_1_code 4 = .ok (.aload_n 0, 1) := by decide +kernel
theorem d_RE_init_5 : decode prog_5_method_1_code 5 = .ok (.bipush 6, 2) := by decide +kernel
theorem d_RE_init_7 : decode prog_5_method_1_code 7 = .ok (.newarray .int, 2) := by decide +kernel
theorem d_RE_init_9 : decode prog_5_method_1_code 9 = .ok (.putfield 11, 3) := by decide +kernel
theorem d_RE_init_12 : decode prog_5_method_1_code 12 = .ok (.aload_n 0, 1) := by decide +kernel
theorem d_RE_init_13 : decode prog_5_method_1_code 13 = .ok (.getfield 11, 3) := by decide +kernel
theorem d_RE_init_16 : decode prog_5_method_1_code 16 = .ok (.iconst (-1), 1) := by decide +kernel
theorem d_RE_init_17 : decode prog_5_method_1_code 17 = .ok (.invokestatic 15, 3) := by decide +kernel
theorem d_RE_init_20 : decode prog_5_method_1_code 20 = .ok (.aload_n 0, 1) := by decide +kernel
theorem d_RE_init_21 : decode prog_5_method_1_code 21 = .ok (.bipush 12, 2) := by decide +kernel
theorem d_RE_init_23 : decode prog_5_method_1_code 23 = .ok (.newarray .int, 2) := by decide +kernel
theorem d_RE_init_25 : decode prog_5_method_1_code 25 = .ok (.putfield 21, 3) := by decide +kernel
theorem d_RE_init_28 : decode prog_5_method_1_code 28 = .ok (.aload_n 0, 1) := by decide +kernel
theorem d_RE_init_29 : decode prog_5_method_1_code 29 = .ok (.iconst 0, 1) := by decide +kernel
theorem d_RE_init_30 : decode prog_5_method_1_code 30 = .ok (.putfield 24, 3) := by decide +kernel
theorem d_RE_init_33 : decode prog_5_method_1_code 33 = .ok (.aload_n 0, 1) := by decide +kernel
theorem d_RE_init_34 : decode prog_5_method_1_code 34 = .ok (.new 28, 3) := by decide +kernel
theorem d_RE_init_37 : decode prog_5_method_1_code 37 = .ok (.dup, 1) := by decide +kernel
theorem d_RE_init_38 : decode prog_5_method_1_code 38 = .ok (.invokespecial 30, 3) := by decide +kernel
theorem d_RE_init_41 : decode prog_5_method_1_code 41 = .ok (.putfield 31, 3) := by decide +kernel
theorem d_RE_init_44 : decode prog_5_method_1_code 44 = .ok (.aload_n 0, 1) := by decide +kernel
theorem d_RE_init_45 : decode prog_5_method_1_code 45 = .ok (.aload_n 1, 1) := by decide +kernel
theorem d_RE_init_46 : decode prog_5_method_1_code 46 = .ok (.putfield 35, 3) := by decide +kernel
theorem d_RE_init_49 : decode prog_5_method_1_code 49 = .ok (.aload_n 0, 1) := by decide +kernel
theorem d_RE_init_50 : decode prog_5_method_1_code 50 = .ok (.new 28, 3) := by decide +kernel
theorem d_RE_init_53 : decode prog_5_method_1_code 53 = .ok (.dup, 1) := by decide +kernel
theorem d_RE_init_54 : decode prog_5_method_1_code 54 = .ok (.invokespecial 30, 3) := by decide +kernel
theorem d_RE_init_57 : decode prog_5_method_1_code 57 = .ok (.putfield 38, 3) := by decide +kernel
theorem d_RE_init_60 : decode prog_5_method_1_code 60 = .ok (.aload_n 0, 1) := by decide +kernel
theorem d_RE_init_61 : decode prog_5_method_1_code 61 = .ok (.bipush 48, 2) := by decide +kernel
theorem d_RE_init_63 : decode prog_5_method_1_code 63 = .ok (.newarray .int, 2) := by decide +kernel
theorem d_RE_init_65 : decode prog_5_method_1_code 65 = .ok (.putfield 41, 3) := by decide +kernel
theorem d_RE_init_68 : decode prog_5_method_1_code 68 = .ok (.aload_n 0, 1) := by decide +kernel
theorem d_RE_init_69 : decode prog_5_method_1_code 69 = .ok (.sipush 240, 3) := by decide +kernel
theorem d_RE_init_72 : decode prog_5_method_1_code 72 = .ok (.newarray .int, 2) := by decide +kernel
theorem d_RE_init_74 : decode prog_5_method_1_code 74 = .ok (.putfield 44, 3) := by decide +kernel
theorem d_RE_init_77 : decode prog_5_method_1_code 77 = .ok (.aload_n 0, 1) := by decide +kernel
theorem d_RE_init_78 : decode prog_5_method_1_code 78 = .ok (.new 47, 3) := by decide +kernel
theorem d_RE_init_81 : decode prog_5_method_1_code 81 = .ok (.dup, 1) := by decide +kernel
theorem d_RE_init_82 : decode prog_5_method_1_code 82 = .ok (.invokespecial 49, 3) := by decide +kernel
theorem d_RE_init_85 : decode prog_5_method_1_code 85 = .ok (.putfield 50, 3) := by decide +kernel
theorem d_RE_init_88 : decode prog_5_method_1_code 88 = .ok (.aload_n 0, 1) := by decide +kernel
theorem d_RE_init_89 : decode prog_5_method_1_code 89 = .ok (.new 54, 3) := by decide +kernel
theorem d_RE_init_92 : decode prog_5_method_1_code 92 = .ok (.dup, 1) := by decide +kernel
theorem d_RE_init_93 : decode prog_5_method_1_code 93 = .ok (.invokespecial 56, 3) := by decide +kernel
theorem d_RE_init_96 : decode prog_5_method_1_code 96 = .ok (.putfield 57, 3) := by decide +kernel
theorem d_RE_init_99 : decode prog_5_method_1_code 99 = .ok (.return_, 1) := by decide +kernel
def y_RE_listen : MethodName := ⟨"CarrierLink$Receiver", "listen", "(LCarrierLink$Wave;)I"⟩
theorem hd_RE_listen : y_RE_listen.cls ≠ "java/lang/invoke/MethodHandle" ∧ y_RE_listen.cls ≠ "java/lang/invoke/VarHandle" ∧ (parseMethodDescriptor y_RE_listen.desc).map (fun d => d.parameters.length) = some 1 := ⟨by decide +kernel, by decide +kernel, by decide +kernel⟩
theorem d_RE_listen_0 : decode prog_5_method_2_code 0 = .ok (.aload_n 0, 1) := by decide +kernel
theorem d_RE_listen_1 : decode prog_5_method_2_code 1 = .ok (.getfield 11, 3) := by decide +kernel
theorem d_RE_listen_4 : decode prog_5_method_2_code 4 = .ok (.iconst (-1), 1) := by decide +kernel
theorem d_RE_listen_5 : decode prog_5_method_2_code 5 = .ok (.invokestatic 15, 3) := by decide +kernel
theorem d_RE_listen_8 : decode prog_5_method_2_code 8 = .ok (.aload_n 0, 1) := by decide +kernel
theorem d_RE_listen_9 : decode prog_5_method_2_code 9 = .ok (.iconst 0, 1) := by decide +kernel
theorem d_RE_listen_10 : decode prog_5_method_2_code 10 = .ok (.putfield 24, 3) := by decide +kernel
theorem d_RE_listen_13 : decode prog_5_method_2_code 13 = .ok (.aload_n 0, 1) := by decide +kernel
theorem d_RE_listen_14 : decode prog_5_method_2_code 14 = .ok (.getfield 31, 3) := by decide +kernel
theorem d_RE_listen_17 : decode prog_5_method_2_code 17 = .ok (.invokevirtual 61, 3) := by decide +kernel
theorem d_RE_listen_20 : decode prog_5_method_2_code 20 = .ok (.aload_n 0, 1) := by decide +kernel
theorem d_RE_listen_21 : decode prog_5_method_2_code 21 = .ok (.getfield 11, 3) := by decide +kernel
theorem d_RE_listen_24 : decode prog_5_method_2_code 24 = .ok (.iconst 0, 1) := by decide +kernel
theorem d_RE_listen_25 : decode prog_5_method_2_code 25 = .ok (.aload_n 0, 1) := by decide +kernel
theorem d_RE_listen_26 : decode prog_5_method_2_code 26 = .ok (.aload_n 1, 1) := by decide +kernel
theorem d_RE_listen_27 : decode prog_5_method_2_code 27 = .ok (.invokevirtual 64, 3) := by decide +kernel
theorem d_RE_listen_30 : decode prog_5_method_2_code 30 = .ok (.iastore, 1) := by decide +kernel
theorem d_RE_listen_31 : decode prog_5_method_2_code 31 = .ok (.aload_n 0, 1) := by decide +kernel
theorem d_RE_listen_32 : decode prog_5_method_2_code 32 = .ok (.getfield 11, 3) := by decide +kernel
theorem d_RE_listen_35 : decode prog_5_method_2_code 35 = .ok (.iconst 0, 1) := by decide +kernel
theorem d_RE_listen_36 : decode prog_5_method_2_code 36 = .ok (.iaload, 1) := by decide +kernel
theorem d_RE_listen_37 : decode prog_5_method_2_code 37 = .ok (.ireturn, 1) := by decide +kernel
def y_RE_findBytes : MethodName := ⟨"CarrierLink$Receiver", "findBytes", "(LCarrierLink$Wave;)I"⟩
theorem hd_RE_findBytes : y_RE_findBytes.cls ≠ "java/lang/invoke/MethodHandle" ∧ y_RE_findBytes.cls ≠ "java/lang/invoke/VarHandle" ∧ (parseMethodDescriptor y_RE_findBytes.desc).map (fun d => d.parameters.length) = some 1 := ⟨by decide +kernel, by decide +kernel, by decide +kernel⟩
theorem d_RE_findBytes_0 : decode prog_5_method_3_code 0 = .ok (.aload_n 0, 1) := by decide +kernel
theorem d_RE_findBytes_1 : decode prog_5_method_3_code 1 = .ok (.aload_n 1, 1) := by decide +kernel
theorem d_RE_findBytes_2 : decode prog_5_method_3_code 2 = .ok (.invokevirtual 68, 3) := by decide +kernel
theorem d_RE_findBytes_5 : decode prog_5_method_3_code 5 = .ok (.istore_n 2, 1) := by decide +kernel
theorem d_RE_findBytes_6 : decode prog_5_method_3_code 6 = .ok (.iload_n 2, 1) := by decide +kernel
theorem d_RE_findBytes_7 : decode prog_5_method_3_code 7 = .ok (.iconst (-1), 1) := by decide +kernel
theorem d_RE_findBytes_8 : decode prog_5_method_3_code 8 = .ok (.if_icmp .ne 6, 3) := by decide +kernel
theorem d_RE_findBytes_11 : decode prog_5_method_3_code 11 = .ok (.bipush (-2), 2) := by decide +kernel
theorem d_RE_findBytes_13 : decode prog_5_method_3_code 13 = .ok (.ireturn, 1) := by decide +kernel
theorem d_RE_findBytes_14 : decode prog_5_method_3_code 14 = .ok (.aload_n 0, 1) := by decide +kernel
theorem d_RE_findBytes_15 : decode prog_5_method_3_code 15 = .ok (.getfield 11, 3) := by decide +kernel
theorem d_RE_findBytes_18 : decode prog_5_method_3_code 18 = .ok (.iconst 1, 1) := by decide +kernel
theorem d_RE_findBytes_19 : decode prog_5_method_3_code 19 = .ok (.iload_n 2, 1) := by decide +kernel
theorem d_RE_findBytes_20 : decode prog_5_method_3_code 20 = .ok (.iastore, 1) := by decide +kernel
theorem d_RE_findBytes_21 : decode prog_5_method_3_code 21 = .ok (.aload_n 0, 1) := by decide +kernel
theorem d_RE_findBytes_22 : decode prog_5_method_3_code 22 = .ok (.aload_n 1, 1) := by decide +kernel
theorem d_RE_findBytes_23 : decode prog_5_method_3_code 23 = .ok (.iload_n 2, 1) := by decide +kernel
theorem d_RE_findBytes_24 : decode prog_5_method_3_code 24 = .ok (.invokevirtual 71, 3) := by decide +kernel
theorem d_RE_findBytes_27 : decode prog_5_method_3_code 27 = .ok (.aload_n 0, 1) := by decide +kernel
theorem d_RE_findBytes_28 : decode prog_5_method_3_code 28 = .ok (.aload_n 1, 1) := by decide +kernel
theorem d_RE_findBytes_29 : decode prog_5_method_3_code 29 = .ok (.iload_n 2, 1) := by decide +kernel
theorem d_RE_findBytes_30 : decode prog_5_method_3_code 30 = .ok (.bipush 40, 2) := by decide +kernel
theorem d_RE_findBytes_32 : decode prog_5_method_3_code 32 = .ok (.iadd, 1) := by decide +kernel
theorem d_RE_findBytes_33 : decode prog_5_method_3_code 33 = .ok (.iconst 3, 1) := by decide +kernel
theorem d_RE_findBytes_34 : decode prog_5_method_3_code 34 = .ok (.iconst 1, 1) := by decide +kernel
theorem d_RE_findBytes_35 : decode prog_5_method_3_code 35 = .ok (.invokevirtual 75, 3) := by decide +kernel
theorem d_RE_findBytes_38 : decode prog_5_method_3_code 38 = .ok (.aload_n 0, 1) := by decide +kernel
theorem d_RE_findBytes_39 : decode prog_5_method_3_code 39 = .ok (.getfield 50, 3) := by decide +kernel
theorem d_RE_findBytes_42 : decode prog_5_method_3_code 42 = .ok (.aload_n 0, 1) := by decide +kernel
theorem d_RE_findBytes_43 : decode prog_5_method_3_code 43 = .ok (.getfield 44, 3) := by decide +kernel
theorem d_RE_findBytes_46 : decode prog_5_method_3_code 46 = .ok (.bipush 18, 2) := by decide +kernel
theorem d_RE_findBytes_48 : decode prog_5_method_3_code 48 = .ok (.iconst 0, 1) := by decide +kernel
theorem d_RE_findBytes_49 : decode prog_5_method_3_code 49 = .ok (.invokevirtual 79, 3) := by decide +kernel
theorem d_RE_findBytes_52 : decode prog_5_method_3_code 52 = .ok (.pop, 1) := by decide +kernel
theorem d_RE_findBytes_53 : decode prog_5_method_3_code 53 = .ok (.aload_n 0, 1) := by decide +kernel
theorem d_RE_findBytes_54 : decode prog_5_method_3_code 54 = .ok (.getfield 50, 3) := by decide +kernel
theorem d_RE_findBytes_57 : decode prog_5_method_3_code 57 = .ok (.getfield 83, 3) := by decide +kernel
theorem d_RE_findBytes_60 : decode prog_5_method_3_code 60 = .ok (.invokestatic 86, 3) := by decide +kernel
theorem d_RE_findBytes_63 : decode prog_5_method_3_code 63 = .ok (.ifCond .ne 6, 3) := by decide +kernel
theorem d_RE_findBytes_66 : decode prog_5_method_3_code 66 = .ok (.bipush (-3), 2) := by decide +kernel
theorem d_RE_findBytes_68 : decode prog_5_method_3_code 68 = .ok (.ireturn, 1) := by decide +kernel
theorem d_RE_findBytes_69 : decode prog_5_method_3_code 69 = .ok (.aload_n 0, 1) := by decide +kernel
theorem d_RE_findBytes_70 : decode prog_5_method_3_code 70 = .ok (.getfield 50, 3) := by decide +kernel
theorem d_RE_findBytes_73 : decode prog_5_method_3_code 73 = .ok (.getfield 83, 3) := by decide +kernel
theorem d_RE_findBytes_76 : decode prog_5_method_3_code 76 = .ok (.iconst 0, 1) := by decide +kernel
theorem d_RE_findBytes_77 : decode prog_5_method_3_code 77 = .ok (.iconst 2, 1) := by decide +kernel
theorem d_RE_findBytes_78 : decode prog_5_method_3_code 78 = .ok (.invokestatic 90, 3) := by decide +kernel
theorem d_RE_findBytes_81 : decode prog_5_method_3_code 81 = .ok (.istore_n 3, 1) := by decide +kernel
theorem d_RE_findBytes_82 : decode prog_5_method_3_code 82 = .ok (.aload_n 0, 1) := by decide +kernel
theorem d_RE_findBytes_83 : decode prog_5_method_3_code 83 = .ok (.getfield 50, 3) := by decide +kernel
theorem d_RE_findBytes_86 : decode prog_5_method_3_code 86 = .ok (.getfield 83, 3) := by decide +kernel
theorem d_RE_findBytes_89 : decode prog_5_method_3_code 89 = .ok (.iconst 2, 1) := by decide +kernel
theorem d_RE_findBytes_90 : decode prog_5_method_3_code 90 = .ok (.iconst 4, 1) := by decide +kernel
theorem d_RE_findBytes_91 : decode prog_5_method_3_code 91 = .ok (.invokestatic 90, 3) := by decide +kernel
theorem d_RE_findBytes_94 : decode prog_5_method_3_code 94 = .ok (.istore 4, 2) := by decide +kernel
theorem d_RE_findBytes_96 : decode prog_5_method_3_code 96 = .ok (.aload_n 0, 1) := by decide +kernel
theorem d_RE_findBytes_97 : decode prog_5_method_3_code 97 = .ok (.getfield 11, 3) := by decide +kernel
theorem d_RE_findBytes_100 : decode prog_5_method_3_code 100 = .ok (.iconst 2, 1) := by decide +kernel
theorem d_RE_findBytes_101 : decode prog_5_method_3_code 101 = .ok (.iload_n 3, 1) := by decide +kernel
theorem d_RE_findBytes_102 : decode prog_5_method_3_code 102 = .ok (.iastore, 1) := by decide +kernel
theorem d_RE_findBytes_103 : decode prog_5_method_3_code 103 = .ok (.aload_n 0, 1) := by decide +kernel
theorem d_RE_findBytes_104 : decode prog_5_method_3_code 104 = .ok (.getfield 11, 3) := by decide +kernel
theorem d_RE_findBytes_107 : decode prog_5_method_3_code 107 = .ok (.iconst 3, 1) := by decide +kernel
theorem d_RE_findBytes_108 : decode prog_5_method_3_code 108 = .ok (.iload 4, 2) := by decide +kernel
theorem d_RE_findBytes_110 : decode prog_5_method_3_code 110 = .ok (.iastore, 1) := by decide +kernel
theorem d_RE_findBytes_111 : decode prog_5_method_3_code 111 = .ok (.iload_n 3, 1) := by decide +kernel
theorem d_RE_findBytes_112 : decode prog_5_method_3_code 112 = .ok (.iload 4, 2) := by decide +kernel
theorem d_RE_findBytes_114 : decode prog_5_method_3_code 114 = .ok (.invokestatic 94, 3) := by decide +kernel
theorem d_RE_findBytes_117 : decode prog_5_method_3_code 117 = .ok (.istore 5, 2) := by decide +kernel
theorem d_RE_findBytes_119 : decode prog_5_method_3_code 119 = .ok (.iload_n 2, 1) := by decide +kernel
theorem d_RE_findBytes_120 : decode prog_5_method_3_code 120 = .ok (.bipush 100, 2) := by decide +kernel
theorem d_RE_findBytes_122 : decode prog_5_method_3_code 122 = .ok (.iadd, 1) := by decide +kernel
theorem d_RE_findBytes_123 : decode prog_5_method_3_code 123 = .ok (.iload 5, 2) := by decide +kernel
theorem d_RE_findBytes_125 : decode prog_5_method_3_code 125 = .ok (.bipush 20, 2) := by decide +kernel
theorem d_RE_findBytes_127 : decode prog_5_method_3_code 127 = .ok (.imul, 1) := by decide +kernel
theorem d_RE_findBytes_128 : decode prog_5_method_3_code 128 = .ok (.iadd, 1) := by decide +kernel
theorem d_RE_findBytes_129 : decode prog_5_method_3_code 129 = .ok (.aload_n 1, 1) := by decide +kernel
theorem d_RE_findBytes_130 : decode prog_5_method_3_code 130 = .ok (.getfield 98, 3) := by decide +kernel
theorem d_RE_findBytes_133 : decode prog_5_method_3_code 133 = .ok (.if_icmp .le 6, 3) := by decide +kernel
theorem d_RE_findBytes_136 : decode prog_5_method_3_code 136 = .ok (.bipush (-4), 2) := by decide +kernel
theorem d_RE_findBytes_138 : decode prog_5_method_3_code 138 = .ok (.ireturn, 1) := by decide +kernel
theorem d_RE_findBytes_139 : decode prog_5_method_3_code 139 = .ok (.aload_n 0, 1) := by decide +kernel
theorem d_RE_findBytes_140 : decode prog_5_method_3_code 140 = .ok (.aload_n 1, 1) := by decide +kernel
theorem d_RE_findBytes_141 : decode prog_5_method_3_code 141 = .ok (.iload_n 2, 1) := by decide +kernel
theorem d_RE_findBytes_142 : decode prog_5_method_3_code 142 = .ok (.bipush 100, 2) := by decide +kernel
theorem d_RE_findBytes_144 : decode prog_5_method_3_code 144 = .ok (.iadd, 1) := by decide +kernel
theorem d_RE_findBytes_145 : decode prog_5_method_3_code 145 = .ok (.iload 5, 2) := by decide +kernel
theorem d_RE_findBytes_147 : decode prog_5_method_3_code 147 = .ok (.getstatic 103, 3) := by decide +kernel
theorem d_RE_findBytes_150 : decode prog_5_method_3_code 150 = .ok (.iload_n 3, 1) := by decide +kernel
theorem d_RE_findBytes_151 : decode prog_5_method_3_code 151 = .ok (.iaload, 1) := by decide +kernel
theorem d_RE_findBytes_152 : decode prog_5_method_3_code 152 = .ok (.invokevirtual 75, 3) := by decide +kernel
theorem d_RE_findBytes_155 : decode prog_5_method_3_code 155 = .ok (.aload_n 0, 1) := by decide +kernel
theorem d_RE_findBytes_156 : decode prog_5_method_3_code 156 = .ok (.getfield 11, 3) := by decide +kernel
theorem d_RE_findBytes_159 : decode prog_5_method_3_code 159 = .ok (.iconst 5, 1) := by decide +kernel
theorem d_RE_findBytes_160 : decode prog_5_method_3_code 160 = .ok (.aload_n 0, 1) := by decide +kernel
theorem d_RE_findBytes_161 : decode prog_5_method_3_code 161 = .ok (.getfield 50, 3) := by decide +kernel
theorem d_RE_findBytes_164 : decode prog_5_method_3_code 164 = .ok (.aload_n 0, 1) := by decide +kernel
theorem d_RE_findBytes_165 : decode prog_5_method_3_code 165 = .ok (.getfield 44, 3) := by decide +kernel
theorem d_RE_findBytes_168 : decode prog_5_method_3_code 168 = .ok (.iload 5, 2) := by decide +kernel
theorem d_RE_findBytes_170 : decode prog_5_method_3_code 170 = .ok (.getstatic 106, 3) := by decide +kernel
theorem d_RE_findBytes_173 : decode prog_5_method_3_code 173 = .ok (.iload_n 3, 1) := by decide +kernel
theorem d_RE_findBytes_174 : decode prog_5_method_3_code 174 = .ok (.iaload, 1) := by decide +kernel
theorem d_RE_findBytes_175 : decode prog_5_method_3_code 175 = .ok (.imul, 1) := by decide +kernel
theorem d_RE_findBytes_176 : decode prog_5_method_3_code 176 = .ok (.iload_n 3, 1) := by decide +kernel
theorem d_RE_findBytes_177 : decode prog_5_method_3_code 177 = .ok (.invokestatic 109, 3) := by decide +kernel
theorem d_RE_findBytes_180 : decode prog_5_method_3_code 180 = .ok (.invokevirtual 79, 3) := by decide +kernel
theorem d_RE_findBytes_183 : decode prog_5_method_3_code 183 = .ok (.iastore, 1) := by decide +kernel
theorem d_RE_findBytes_184 : decode prog_5_method_3_code 184 = .ok (.aload_n 0, 1) := by decide +kernel
theorem d_RE_findBytes_185 : decode prog_5_method_3_code 185 = .ok (.iload 4, 2) := by decide +kernel
theorem d_RE_findBytes_187 : decode prog_5_method_3_code 187 = .ok (.invokevirtual 113, 3) := by decide +kernel
theorem d_RE_findBytes_190 : decode prog_5_method_3_code 190 = .ok (.ireturn, 1) := by decide +kernel
def y_RE_findStart : MethodName := ⟨"CarrierLink$Receiver", "findStart", "(LCarrierLink$Wave;)I"⟩
theorem hd_RE_findStart : y_RE_findStart.cls ≠ "java/lang/invoke/MethodHandle" ∧ y_RE_findStart.cls ≠ "java/lang/invoke/VarHandle" ∧ (parseMethodDescriptor y_RE_findStart.desc).map (fun d => d.parameters.length) = some 1 := ⟨by decide +kernel, by decide +kernel, by decide +kernel⟩
theorem d_RE_findStart_0 : decode prog_5_method_4_code 0 = .ok (.iconst (-1), 1) := by decide +kernel
theorem d_RE_findStart_1 : decode prog_5_method_4_code 1 = .ok (.istore_n 2, 1) := by decide +kernel
theorem d_RE_findStart_2 : decode prog_5_method_4_code 2 = .ok (.ldc2_w 117, 3) := by decide +kernel
theorem d_RE_findStart_5 : decode prog_5_method_4_code 5 = .ok (.lstore_n 3, 1) := by decide +kernel
theorem d_RE_findStart_6 : decode prog_5_method_4_code 6 = .ok (.iconst 0, 1) := by decide +kernel
theorem d_RE_findStart_7 : decode prog_5_method_4_code 7 = .ok (.istore 5, 2) := by decide +kernel
theorem d_RE_findStart_9 : decode prog_5_method_4_code 9 = .ok (.iload 5, 2) := by decide +kernel
theorem d_RE_findStart_11 : decode prog_5_method_4_code 11 = .ok (.bipush 40, 2) := by decide +kernel
theorem d_RE_findStart_13 : decode prog_5_method_4_code 13 = .ok (.if_icmp .gt 46, 3) := by decide +kernel
theorem d_RE_findStart_16 : decode prog_5_method_4_code 16 = .ok (.iload 5, 2) := by decide +kernel
theorem d_RE_findStart_18 : decode prog_5_method_4_code 18 = .ok (.bipush 100, 2) := by decide +kernel
theorem d_RE_findStart_20 : decode prog_5_method_4_code 20 = .ok (.iadd, 1) := by decide +kernel
theorem d_RE_findStart_21 : decode prog_5_method_4_code 21 = .ok (.aload_n 1, 1) := by decide +kernel
theorem d_RE_findStart_22 : decode prog_5_method_4_code 22 = .ok (.getfield 98, 3) := by decide +kernel
theorem d_RE_findStart_25 : decode prog_5_method_4_code 25 = .ok (.if_icmp .gt 34, 3) := by decide +kernel
theorem d_RE_findStart_28 : decode prog_5_method_4_code 28 = .ok (.aload_n 0, 1) := by decide +kernel
theorem d_RE_findStart_29 : decode prog_5_method_4_code 29 = .ok (.aload_n 1, 1) := by decide +kernel
theorem d_RE_findStart_30 : decode prog_5_method_4_code 30 = .ok (.iload 5, 2) := by decide +kernel
theorem d_RE_findStart_32 : decode prog_5_method_4_code 32 = .ok (.bipush 8, 2) := by decide +kernel
theorem d_RE_findStart_34 : decode prog_5_method_4_code 34 = .ok (.iadd, 1) := by decide +kernel
theorem d_RE_findStart_35 : decode prog_5_method_4_code 35 = .ok (.invokevirtual 119, 3) := by decide +kernel
theorem d_RE_findStart_38 : decode prog_5_method_4_code 38 = .ok (.lstore 6, 2) := by decide +kernel
theorem d_RE_findStart_40 : decode prog_5_method_4_code 40 = .ok (.lload 6, 2) := by decide +kernel
theorem d_RE_findStart_42 : decode prog_5_method_4_code 42 = .ok (.lload_n 3, 1) := by decide +kernel
theorem d_RE_findStart_43 : decode prog_5_method_4_code 43 = .ok (.lcmp, 1) := by decide +kernel
theorem d_RE_findStart_44 : decode prog_5_method_4_code 44 = .ok (.ifCond .le 9, 3) := by decide +kernel
theorem d_RE_findStart_47 : decode prog_5_method_4_code 47 = .ok (.lload 6, 2) := by decide +kernel
theorem d_RE_findStart_49 : decode prog_5_method_4_code 49 = .ok (.lstore_n 3, 1) := by decide +kernel
theorem d_RE_findStart_50 : decode prog_5_method_4_code 50 = .ok (.iload 5, 2) := by decide +kernel
theorem d_RE_findStart_52 : decode prog_5_method_4_code 52 = .ok (.istore_n 2, 1) := by decide +kernel
theorem d_RE_findStart_53 : decode prog_5_method_4_code 53 = .ok (.iinc 5 1, 3) := by decide +kernel
theorem d_RE_findStart_56 : decode prog_5_method_4_code 56 = .ok (.goto (-47), 3) := by decide +kernel
theorem d_RE_findStart_59 : decode prog_5_method_4_code 59 = .ok (.iload_n 2, 1) := by decide +kernel
theorem d_RE_findStart_60 : decode prog_5_method_4_code 60 = .ok (.ireturn, 1) := by decide +kernel
def y_RE_powerAt : MethodName := ⟨"CarrierLink$Receiver", "powerAt", "(LCarrierLink$Wave;I)J"⟩
theorem hd_RE_powerAt : y_RE_powerAt.cls ≠ "java/lang/invoke/MethodHandle" ∧ y_RE_powerAt.cls ≠ "java/lang/invoke/VarHandle" ∧ (parseMethodDescriptor y_RE_powerAt.desc).map (fun d => d.parameters.length) = some 2 := ⟨by decide +kernel, by decide +kernel, by decide +kernel⟩
theorem d_RE_powerAt_0 : decode prog_5_method_5_code 0 = .ok (.lconst 0, 1) := by decide +kernel
theorem d_RE_powerAt_1 : decode prog_5_method_5_code 1 = .ok (.lstore_n 3, 1) := by decide +kernel
theorem d_RE_powerAt_2 : decode prog_5_method_5_code 2 = .ok (.lconst 0, 1) := by decide +kernel
theorem d_RE_powerAt_3 : decode prog_5_method_5_code 3 = .ok (.lstore 5, 2) := by decide +kernel
theorem d_RE_powerAt_5 : decode prog_5_method_5_code 5 = .ok (.iconst 0, 1) := by decide +kernel
theorem d_RE_powerAt_6 : decode prog_5_method_5_code 6 = .ok (.istore 7, 2) := by decide +kernel
theorem d_RE_powerAt_8 : decode prog_5_method_5_code 8 = .ok (.iload 7, 2) := by decide +kernel
theorem d_RE_powerAt_10 : decode prog_5_method_5_code 10 = .ok (.bipush 32, 2) := by decide +kernel
theorem d_RE_powerAt_12 : decode prog_5_method_5_code 12 = .ok (.if_icmp .ge 97, 3) := by decide +kernel
theorem d_RE_powerAt_15 : decode prog_5_method_5_code 15 = .ok (.aload_n 1, 1) := by decide +kernel
theorem d_RE_powerAt_16 : decode prog_5_method_5_code 16 = .ok (.getfield 123, 3) := by decide +kernel
theorem d_RE_powerAt_19 : decode prog_5_method_5_code 19 = .ok (.iload_n 2, 1) := by decide +kernel
theorem d_RE_powerAt_20 : decode prog_5_method_5_code 20 = .ok (.iload 7, 2) := by decide +kernel
theorem d_RE_powerAt_22 : decode prog_5_method_5_code 22 = .ok (.iadd, 1) := by decide +kernel
theorem d_RE_powerAt_23 : decode prog_5_method_5_code 23 = .ok (.saload, 1) := by decide +kernel
theorem d_RE_powerAt_24 : decode prog_5_method_5_code 24 = .ok (.i2l, 1) := by decide +kernel
theorem d_RE_powerAt_25 : decode prog_5_method_5_code 25 = .ok (.lstore 8, 2) := by decide +kernel
theorem d_RE_powerAt_27 : decode prog_5_method_5_code 27 = .ok (.aload_n 1, 1) := by decide +kernel
theorem d_RE_powerAt_28 : decode prog_5_method_5_code 28 = .ok (.getfield 127, 3) := by decide +kernel
theorem d_RE_powerAt_31 : decode prog_5_method_5_code 31 = .ok (.iload_n 2, 1) := by decide +kernel
theorem d_RE_powerAt_32 : decode prog_5_method_5_code 32 = .ok (.iload 7, 2) := by decide +kernel
theorem d_RE_powerAt_34 : decode prog_5_method_5_code 34 = .ok (.iadd, 1) := by decide +kernel
theorem d_RE_powerAt_35 : decode prog_5_method_5_code 35 = .ok (.saload, 1) := by decide +kernel
theorem d_RE_powerAt_36 : decode prog_5_method_5_code 36 = .ok (.i2l, 1) := by decide +kernel
theorem d_RE_powerAt_37 : decode prog_5_method_5_code 37 = .ok (.lstore 10, 2) := by decide +kernel
theorem d_RE_powerAt_39 : decode prog_5_method_5_code 39 = .ok (.aload_n 0, 1) := by decide +kernel
theorem d_RE_powerAt_40 : decode prog_5_method_5_code 40 = .ok (.getfield 35, 3) := by decide +kernel
theorem d_RE_powerAt_43 : decode prog_5_method_5_code 43 = .ok (.getfield 130, 3) := by decide +kernel
theorem d_RE_powerAt_46 : decode prog_5_method_5_code 46 = .ok (.iload 7, 2) := by decide +kernel
theorem d_RE_powerAt_48 : decode prog_5_method_5_code 48 = .ok (.bipush 16, 2) := by decide +kernel
theorem d_RE_powerAt_50 : decode prog_5_method_5_code 50 = .ok (.irem, 1) := by decide +kernel
theorem d_RE_powerAt_51 : decode prog_5_method_5_code 51 = .ok (.iaload, 1) := by decide +kernel
theorem d_RE_powerAt_52 : decode prog_5_method_5_code 52 = .ok (.istore 12, 2) := by decide +kernel
theorem d_RE_powerAt_54 : decode prog_5_method_5_code 54 = .ok (.aload_n 0, 1) := by decide +kernel
theorem d_RE_powerAt_55 : decode prog_5_method_5_code 55 = .ok (.getfield 35, 3) := by decide +kernel
theorem d_RE_powerAt_58 : decode prog_5_method_5_code 58 = .ok (.getfield 133, 3) := by decide +kernel
theorem d_RE_powerAt_61 : decode prog_5_method_5_code 61 = .ok (.iload 7, 2) := by decide +kernel
theorem d_RE_powerAt_63 : decode prog_5_method_5_code 63 = .ok (.bipush 16, 2) := by decide +kernel
theorem d_RE_powerAt_65 : decode prog_5_method_5_code 65 = .ok (.irem, 1) := by decide +kernel
theorem d_RE_powerAt_66 : decode prog_5_method_5_code 66 = .ok (.iaload, 1) := by decide +kernel
theorem d_RE_powerAt_67 : decode prog_5_method_5_code 67 = .ok (.istore 13, 2) := by decide +kernel
theorem d_RE_powerAt_69 : decode prog_5_method_5_code 69 = .ok (.lload_n 3, 1) := by decide +kernel
theorem d_RE_powerAt_70 : decode prog_5_method_5_code 70 = .ok (.lload 8, 2) := by decide +kernel
theorem d_RE_powerAt_72 : decode prog_5_method_5_code 72 = .ok (.iload 12, 2) := by decide +kernel
theorem d_RE_powerAt_74 : decode prog_5_method_5_code 74 = .ok (.i2l, 1) := by decide +kernel
theorem d_RE_powerAt_75 : decode prog_5_method_5_code 75 = .ok (.lmul, 1) := by decide +kernel
theorem d_RE_powerAt_76 : decode prog_5_method_5_code 76 = .ok (.lload 10, 2) := by decide +kernel
theorem d_RE_powerAt_78 : decode prog_5_method_5_code 78 = .ok (.iload 13, 2) := by decide +kernel
theorem d_RE_powerAt_80 : decode prog_5_method_5_code 80 = .ok (.i2l, 1) := by decide +kernel
theorem d_RE_powerAt_81 : decode prog_5_method_5_code 81 = .ok (.lmul, 1) := by decide +kernel
theorem d_RE_powerAt_82 : decode prog_5_method_5_code 82 = .ok (.ladd, 1) := by decide +kernel
theorem d_RE_powerAt_83 : decode prog_5_method_5_code 83 = .ok (.ladd, 1) := by decide +kernel
theorem d_RE_powerAt_84 : decode prog_5_method_5_code 84 = .ok (.lstore_n 3, 1) := by decide +kernel
theorem d_RE_powerAt_85 : decode prog_5_method_5_code 85 = .ok (.lload 5, 2) := by decide +kernel
theorem d_RE_powerAt_87 : decode prog_5_method_5_code 87 = .ok (.lload 10, 2) := by decide +kernel
theorem d_RE_powerAt_89 : decode prog_5_method_5_code 89 = .ok (.iload 12, 2) := by decide +kernel
theorem d_RE_powerAt_91 : decode prog_5_method_5_code 91 = .ok (.i2l, 1) := by decide +kernel
theorem d_RE_powerAt_92 : decode prog_5_method_5_code 92 = .ok (.lmul, 1) := by decide +kernel
theorem d_RE_powerAt_93 : decode prog_5_method_5_code 93 = .ok (.lload 8, 2) := by decide +kernel
theorem d_RE_powerAt_95 : decode prog_5_method_5_code 95 = .ok (.iload 13, 2) := by decide +kernel
theorem d_RE_powerAt_97 : decode prog_5_method_5_code 97 = .ok (.i2l, 1) := by decide +kernel
theorem d_RE_powerAt_98 : decode prog_5_method_5_code 98 = .ok (.lmul, 1) := by decide +kernel
theorem d_RE_powerAt_99 : decode prog_5_method_5_code 99 = .ok (.lsub, 1) := by decide +kernel
theorem d_RE_powerAt_100 : decode prog_5_method_5_code 100 = .ok (.ladd, 1) := by decide +kernel
theorem d_RE_powerAt_101 : decode prog_5_method_5_code 101 = .ok (.lstore 5, 2) := by decide +kernel
theorem d_RE_powerAt_103 : decode prog_5_method_5_code 103 = .ok (.iinc 7 1, 3) := by decide +kernel
theorem d_RE_powerAt_106 : decode prog_5_method_5_code 106 = .ok (.goto (-98), 3) := by decide +kernel
theorem d_RE_powerAt_109 : decode prog_5_method_5_code 109 = .ok (.lload_n 3, 1) := by decide +kernel
theorem d_RE_powerAt_110 : decode prog_5_method_5_code 110 = .ok (.bipush 8, 2) := by decide +kernel
theorem d_RE_powerAt_112 : decode prog_5_method_5_code 112 = .ok (.lshr, 1) := by decide +kernel
theorem d_RE_powerAt_113 : decode prog_5_method_5_code 113 = .ok (.lload_n 3, 1) := by decide +kernel
theorem d_RE_powerAt_114 : decode prog_5_method_5_code 114 = .ok (.bipush 8, 2) := by decide +kernel
theorem d_RE_powerAt_116 : decode prog_5_method_5_code 116 = .ok (.lshr, 1) := by decide +kernel
theorem d_RE_powerAt_117 : decode prog_5_method_5_code 117 = .ok (.lmul, 1) := by decide +kernel
theorem d_RE_powerAt_118 : decode prog_5_method_5_code 118 = .ok (.lload 5, 2) := by decide +kernel
theorem d_RE_powerAt_120 : decode prog_5_method_5_code 120 = .ok (.bipush 8, 2) := by decide +kernel
theorem d_RE_powerAt_122 : decode prog_5_method_5_code 122 = .ok (.lshr, 1) := by decide +kernel
theorem d_RE_powerAt_123 : decode prog_5_method_5_code 123 = .ok (.lload 5, 2) := by decide +kernel
theorem d_RE_powerAt_125 : decode prog_5_method_5_code 125 = .ok (.bipush 8, 2) := by decide +kernel
theorem d_RE_powerAt_127 : decode prog_5_method_5_code 127 = .ok (.lshr, 1) := by decide +kernel
theorem d_RE_powerAt_128 : decode prog_5_method_5_code 128 = .ok (.lmul, 1) := by decide +kernel
theorem d_RE_powerAt_129 : decode prog_5_method_5_code 129 = .ok (.ladd, 1) := by decide +kernel
theorem d_RE_powerAt_130 : decode prog_5_method_5_code 130 = .ok (.lreturn, 1) := by decide +kernel
def y_RE_learnCarriers : MethodName := ⟨"CarrierLink$Receiver", "learnCarriers", "(LCarrierLink$Wave;I)V"⟩
theorem hd_RE_learnCarriers : y_RE_learnCarriers.cls ≠ "java/lang/invoke/MethodHandle" ∧ y_RE_learnCarriers.cls ≠ "java/lang/invoke/VarHandle" ∧ (parseMethodDescriptor y_RE_learnCarriers.desc).map (fun d => d.parameters.length) = some 2 := ⟨by decide +kernel, by decide +kernel, by decide +kernel⟩
theorem d_RE_learnCarriers_0 : decode prog_5_method_6_code 0 = .ok (.iconst 0, 1) := by decide +kernel
theorem d_RE_learnCarriers_1 : decode prog_5_method_6_code 1 = .ok (.istore_n 3, 1) := by decide +kernel
theorem d_RE_learnCarriers_2 : decode prog_5_method_6_code 2 = .ok (.iload_n 3, 1) := by decide +kernel
theorem d_RE_learnCarriers_3 : decode prog_5_method_6_code 3 = .ok (.iconst 2, 1) := by decide +kernel
theorem d_RE_learnCarriers_4 : decode prog_5_method_6_code 4 = .ok (.if_icmp .ge 102, 3) := by decide +kernel
theorem d_RE_learnCarriers_7 : decode prog_5_method_6_code 7 = .ok (.aload_n 0, 1) := by decide +kernel
theorem d_RE_learnCarriers_8 : decode prog_5_method_6_code 8 = .ok (.getfield 38, 3) := by decide +kernel
theorem d_RE_learnCarriers_11 : decode prog_5_method_6_code 11 = .ok (.aload_n 1, 1) := by decide +kernel
theorem d_RE_learnCarriers_12 : decode prog_5_method_6_code 12 = .ok (.iload_n 2, 1) := by decide +kernel
theorem d_RE_learnCarriers_13 : decode prog_5_method_6_code 13 = .ok (.bipush 8, 2) := by decide +kernel
theorem d_RE_learnCarriers_15 : decode prog_5_method_6_code 15 = .ok (.iadd, 1) := by decide +kernel
theorem d_RE_learnCarriers_16 : decode prog_5_method_6_code 16 = .ok (.iload_n 3, 1) := by decide +kernel
theorem d_RE_learnCarriers_17 : decode prog_5_method_6_code 17 = .ok (.bipush 16, 2) := by decide +kernel
theorem d_RE_learnCarriers_19 : decode prog_5_method_6_code 19 = .ok (.imul, 1) := by decide +kernel
theorem d_RE_learnCarriers_20 : decode prog_5_method_6_code 20 = .ok (.iadd, 1) := by decide +kernel
theorem d_RE_learnCarriers_21 : decode prog_5_method_6_code 21 = .ok (.invokevirtual 136, 3) := by decide +kernel
theorem d_RE_learnCarriers_24 : decode prog_5_method_6_code 24 = .ok (.iconst 0, 1) := by decide +kernel
theorem d_RE_learnCarriers_25 : decode prog_5_method_6_code 25 = .ok (.istore 4, 2) := by decide +kernel
theorem d_RE_learnCarriers_27 : decode prog_5_method_6_code 27 = .ok (.iload 4, 2) := by decide +kernel
theorem d_RE_learnCarriers_29 : decode prog_5_method_6_code 29 = .ok (.bipush 16, 2) := by decide +kernel
theorem d_RE_learnCarriers_31 : decode prog_5_method_6_code 31 = .ok (.if_icmp .ge 69, 3) := by decide +kernel
theorem d_RE_learnCarriers_34 : decode prog_5_method_6_code 34 = .ok (.aload_n 0, 1) := by decide +kernel
theorem d_RE_learnCarriers_35 : decode prog_5_method_6_code 35 = .ok (.getfield 31, 3) := by decide +kernel
theorem d_RE_learnCarriers_38 : decode prog_5_method_6_code 38 = .ok (.getfield 130, 3) := by decide +kernel
theorem d_RE_learnCarriers_41 : decode prog_5_method_6_code 41 = .ok (.iload 4, 2) := by decide +kernel
theorem d_RE_learnCarriers_43 : decode prog_5_method_6_code 43 = .ok (.dup2, 1) := by decide +kernel
theorem d_RE_learnCarriers_44 : decode prog_5_method_6_code 44 = .ok (.iaload, 1) := by decide +kernel
theorem d_RE_learnCarriers_45 : decode prog_5_method_6_code 45 = .ok (.getstatic 139, 3) := by decide +kernel
theorem d_RE_learnCarriers_48 : decode prog_5_method_6_code 48 = .ok (.iload 4, 2) := by decide +kernel
theorem d_RE_learnCarriers_50 : decode prog_5_method_6_code 50 = .ok (.iaload, 1) := by decide +kernel
theorem d_RE_learnCarriers_51 : decode prog_5_method_6_code 51 = .ok (.aload_n 0, 1) := by decide +kernel
theorem d_RE_learnCarriers_52 : decode prog_5_method_6_code 52 = .ok (.getfield 38, 3) := by decide +kernel
theorem d_RE_learnCarriers_55 : decode prog_5_method_6_code 55 = .ok (.getfield 130, 3) := by decide +kernel
theorem d_RE_learnCarriers_58 : decode prog_5_method_6_code 58 = .ok (.iload 4, 2) := by decide +kernel
theorem d_RE_learnCarriers_60 : decode prog_5_method_6_code 60 = .ok (.iaload, 1) := by decide +kernel
theorem d_RE_learnCarriers_61 : decode prog_5_method_6_code 61 = .ok (.imul, 1) := by decide +kernel
theorem d_RE_learnCarriers_62 : decode prog_5_method_6_code 62 = .ok (.iadd, 1) := by decide +kernel
theorem d_RE_learnCarriers_63 : decode prog_5_method_6_code 63 = .ok (.iastore, 1) := by decide +kernel
theorem d_RE_learnCarriers_64 : decode prog_5_method_6_code 64 = .ok (.aload_n 0, 1) := by decide +kernel
theorem d_RE_learnCarriers_65 : decode prog_5_method_6_code 65 = .ok (.getfield 31, 3) := by decide +kernel
theorem d_RE_learnCarriers_68 : decode prog_5_method_6_code 68 = .ok (.getfield 133, 3) := by decide +kernel
theorem d_RE_learnCarriers_71 : decode prog_5_method_6_code 71 = .ok (.iload 4, 2) := by decide +kernel
theorem d_RE_learnCarriers_73 : decode prog_5_method_6_code 73 = .ok (.dup2, 1) := by decide +kernel
theorem d_RE_learnCarriers_74 : decode prog_5_method_6_code 74 = .ok (.iaload, 1) := by decide +kernel
theorem d_RE_learnCarriers_75 : decode prog_5_method_6_code 75 = .ok (.getstatic 139, 3) := by decide +kernel
theorem d_RE_learnCarriers_78 : decode prog_5_method_6_code 78 = .ok (.iload 4, 2) := by decide +kernel
theorem d_RE_learnCarriers_80 : decode prog_5_method_6_code 80 = .ok (.iaload, 1) := by decide +kernel
theorem d_RE_learnCarriers_81 : decode prog_5_method_6_code 81 = .ok (.aload_n 0, 1) := by decide +kernel
theorem d_RE_learnCarriers_82 : decode prog_5_method_6_code 82 = .ok (.getfield 38, 3) := by decide +kernel
theorem d_RE_learnCarriers_85 : decode prog_5_method_6_code 85 = .ok (.getfield 133, 3) := by decide +kernel
theorem d_RE_learnCarriers_88 : decode prog_5_method_6_code 88 = .ok (.iload 4, 2) := by decide +kernel
theorem d_RE_learnCarriers_90 : decode prog_5_method_6_code 90 = .ok (.iaload, 1) := by decide +kernel
theorem d_RE_learnCarriers_91 : decode prog_5_method_6_code 91 = .ok (.imul, 1) := by decide +kernel
theorem d_RE_learnCarriers_92 : decode prog_5_method_6_code 92 = .ok (.iadd, 1) := by decide +kernel
theorem d_RE_learnCarriers_93 : decode prog_5_method_6_code 93 = .ok (.iastore, 1) := by decide +kernel
theorem d_RE_learnCarriers_94 : decode prog_5_method_6_code 94 = .ok (.iinc 4 1, 3) := by decide +kernel
theorem d_RE_learnCarriers_97 : decode prog_5_method_6_code 97 = .ok (.goto (-70), 3) := by decide +kernel
theorem d_RE_learnCarriers_100 : decode prog_5_method_6_code 100 = .ok (.iinc 3 1, 3) := by decide +kernel
theorem d_RE_learnCarriers_103 : decode prog_5_method_6_code 103 = .ok (.goto (-101), 3) := by decide +kernel
theorem d_RE_learnCarriers_106 : decode prog_5_method_6_code 106 = .ok (.return_, 1) := by decide +kernel
def y_RE_takeSymbols : MethodName := ⟨"CarrierLink$Receiver", "takeSymbols", "(LCarrierLink$Wave;III)V"⟩
theorem hd_RE_takeSymbols : y_RE_takeSymbols.cls ≠ "java/lang/invoke/MethodHandle" ∧ y_RE_takeSymbols.cls ≠ "java/lang/invoke/VarHandle" ∧ (parseMethodDescriptor y_RE_takeSymbols.desc).map (fun d => d.parameters.length) = some 4 := ⟨by decide +kernel, by decide +kernel, by decide +kernel⟩
theorem d_RE_takeSymbols_0 : decode prog_5_method_7_code 0 = .ok (.bipush 12, 2) := by decide +kernel
theorem d_RE_takeSymbols_2 : decode prog_5_method_7_code 2 = .ok (.iload 4, 2) := by decide +kernel
theorem d_RE_takeSymbols_4 : decode prog_5_method_7_code 4 = .ok (.imul, 1) := by decide +kernel
theorem d_RE_takeSymbols_5 : decode prog_5_method_7_code 5 = .ok (.istore 5, 2) := by decide +kernel
theorem d_RE_takeSymbols_7 : decode prog_5_method_7_code 7 = .ok (.iconst 0, 1) := by decide +kernel
theorem d_RE_takeSymbols_8 : decode prog_5_method_7_code 8 = .ok (.istore 6, 2) := by decide +kernel
theorem d_RE_takeSymbols_10 : decode prog_5_method_7_code 10 = .ok (.iload 6, 2) := by decide +kernel
theorem d_RE_takeSymbols_12 : decode prog_5_method_7_code 12 = .ok (.iload_n 3, 1) := by decide +kernel
theorem d_RE_takeSymbols_13 : decode prog_5_method_7_code 13 = .ok (.if_icmp .ge 115, 3) := by decide +kernel
theorem d_RE_takeSymbols_16 : decode prog_5_method_7_code 16 = .ok (.iload 6, 2) := by decide +kernel
theorem d_RE_takeSymbols_18 : decode prog_5_method_7_code 18 = .ok (.iconst 1, 1) := by decide +kernel
theorem d_RE_takeSymbols_19 : decode prog_5_method_7_code 19 = .ok (.iadd, 1) := by decide +kernel
theorem d_RE_takeSymbols_20 : decode prog_5_method_7_code 20 = .ok (.iload 5, 2) := by decide +kernel
theorem d_RE_takeSymbols_22 : decode prog_5_method_7_code 22 = .ok (.imul, 1) := by decide +kernel
theorem d_RE_takeSymbols_23 : decode prog_5_method_7_code 23 = .ok (.aload_n 0, 1) := by decide +kernel
theorem d_RE_takeSymbols_24 : decode prog_5_method_7_code 24 = .ok (.getfield 44, 3) := by decide +kernel
theorem d_RE_takeSymbols_27 : decode prog_5_method_7_code 27 = .ok (.arraylength, 1) := by decide +kernel
theorem d_RE_takeSymbols_28 : decode prog_5_method_7_code 28 = .ok (.if_icmp .gt 100, 3) := by decide +kernel
theorem d_RE_takeSymbols_31 : decode prog_5_method_7_code 31 = .ok (.aload_n 0, 1) := by decide +kernel
theorem d_RE_takeSymbols_32 : decode prog_5_method_7_code 32 = .ok (.getfield 38, 3) := by decide +kernel
theorem d_RE_takeSymbols_35 : decode prog_5_method_7_code 35 = .ok (.aload_n 1, 1) := by decide +kernel
theorem d_RE_takeSymbols_36 : decode prog_5_method_7_code 36 = .ok (.iload_n 2, 1) := by decide +kernel
theorem d_RE_takeSymbols_37 : decode prog_5_method_7_code 37 = .ok (.iload 6, 2) := by decide +kernel
theorem d_RE_takeSymbols_39 : decode prog_5_method_7_code 39 = .ok (.bipush 20, 2) := by decide +kernel
theorem d_RE_takeSymbols_41 : decode prog_5_method_7_code 41 = .ok (.imul, 1) := by decide +kernel
theorem d_RE_takeSymbols_42 : decode prog_5_method_7_code 42 = .ok (.iadd, 1) := by decide +kernel
theorem d_RE_takeSymbols_43 : decode prog_5_method_7_code 43 = .ok (.iconst 4, 1) := by decide +kernel
theorem d_RE_takeSymbols_44 : decode prog_5_method_7_code 44 = .ok (.iadd, 1) := by decide +kernel
theorem d_RE_takeSymbols_45 : decode prog_5_method_7_code 45 = .ok (.invokevirtual 136, 3) := by decide +kernel
theorem d_RE_takeSymbols_48 : decode prog_5_method_7_code 48 = .ok (.iconst 0, 1) := by decide +kernel
theorem d_RE_takeSymbols_49 : decode prog_5_method_7_code 49 = .ok (.istore 7, 2) := by decide +kernel
theorem d_RE_takeSymbols_51 : decode prog_5_method_7_code 51 = .ok (.iload 7, 2) := by decide +kernel
theorem d_RE_takeSymbols_53 : decode prog_5_method_7_code 53 = .ok (.bipush 12, 2) := by decide +kernel
theorem d_RE_takeSymbols_55 : decode prog_5_method_7_code 55 = .ok (.if_icmp .ge 26, 3) := by decide +kernel
theorem d_RE_takeSymbols_58 : decode prog_5_method_7_code 58 = .ok (.aload_n 0, 1) := by decide +kernel
theorem d_RE_takeSymbols_59 : decode prog_5_method_7_code 59 = .ok (.getstatic 142, 3) := by decide +kernel
theorem d_RE_takeSymbols_62 : decode prog_5_method_7_code 62 = .ok (.iload 7, 2) := by decide +kernel
theorem d_RE_takeSymbols_64 : decode prog_5_method_7_code 64 = .ok (.iaload, 1) := by decide +kernel
theorem d_RE_takeSymbols_65 : decode prog_5_method_7_code 65 = .ok (.iload 4, 2) := by decide +kernel
theorem d_RE_takeSymbols_67 : decode prog_5_method_7_code 67 = .ok (.iload 7, 2) := by decide +kernel
theorem d_RE_takeSymbols_69 : decode prog_5_method_7_code 69 = .ok (.imul, 1) := by decide +kernel
theorem d_RE_takeSymbols_70 : decode prog_5_method_7_code 70 = .ok (.iload 4, 2) := by decide +kernel
theorem d_RE_takeSymbols_72 : decode prog_5_method_7_code 72 = .ok (.invokevirtual 145, 3) := by decide +kernel
theorem d_RE_takeSymbols_75 : decode prog_5_method_7_code 75 = .ok (.iinc 7 1, 3) := by decide +kernel
theorem d_RE_takeSymbols_78 : decode prog_5_method_7_code 78 = .ok (.goto (-27), 3) := by decide +kernel
theorem d_RE_takeSymbols_81 : decode prog_5_method_7_code 81 = .ok (.iconst 0, 1) := by decide +kernel
theorem d_RE_takeSymbols_82 : decode prog_5_method_7_code 82 = .ok (.istore 7, 2) := by decide +kernel
theorem d_RE_takeSymbols_84 : decode prog_5_method_7_code 84 = .ok (.iload 7, 2) := by decide +kernel
theorem d_RE_takeSymbols_86 : decode prog_5_method_7_code 86 = .ok (.iload 5, 2) := by decide +kernel
theorem d_RE_takeSymbols_88 : decode prog_5_method_7_code 88 = .ok (.if_icmp .ge 34, 3) := by decide +kernel
theorem d_RE_takeSymbols_91 : decode prog_5_method_7_code 91 = .ok (.aload_n 0, 1) := by decide +kernel
theorem d_RE_takeSymbols_92 : decode prog_5_method_7_code 92 = .ok (.getfield 44, 3) := by decide +kernel
theorem d_RE_takeSymbols_95 : decode prog_5_method_7_code 95 = .ok (.iload 6, 2) := by decide +kernel
theorem d_RE_takeSymbols_97 : decode prog_5_method_7_code 97 = .ok (.iload 5, 2) := by decide +kernel
theorem d_RE_takeSymbols_99 : decode prog_5_method_7_code 99 = .ok (.imul, 1) := by decide +kernel
theorem d_RE_takeSymbols_100 : decode prog_5_method_7_code 100 = .ok (.iload 7, 2) := by decide +kernel
theorem d_RE_takeSymbols_102 : decode prog_5_method_7_code 102 = .ok (.iadd, 1) := by decide +kernel
theorem d_RE_takeSymbols_103 : decode prog_5_method_7_code 103 = .ok (.aload_n 0, 1) := by decide +kernel
theorem d_RE_takeSymbols_104 : decode prog_5_method_7_code 104 = .ok (.getfield 41, 3) := by decide +kernel
theorem d_RE_takeSymbols_107 : decode prog_5_method_7_code 107 = .ok (.iload 7, 2) := by decide +kernel
theorem d_RE_takeSymbols_109 : decode prog_5_method_7_code 109 = .ok (.iload 4, 2) := by decide +kernel
theorem d_RE_takeSymbols_111 : decode prog_5_method_7_code 111 = .ok (.invokestatic 149, 3) := by decide +kernel
theorem d_RE_takeSymbols_114 : decode prog_5_method_7_code 114 = .ok (.iaload, 1) := by decide +kernel
theorem d_RE_takeSymbols_115 : decode prog_5_method_7_code 115 = .ok (.iastore, 1) := by decide +kernel
theorem d_RE_takeSymbols_116 : decode prog_5_method_7_code 116 = .ok (.iinc 7 1, 3) := by decide +kernel
theorem d_RE_takeSymbols_119 : decode prog_5_method_7_code 119 = .ok (.goto (-35), 3) := by decide +kernel
theorem d_RE_takeSymbols_122 : decode prog_5_method_7_code 122 = .ok (.iinc 6 1, 3) := by decide +kernel
theorem d_RE_takeSymbols_125 : decode prog_5_method_7_code 125 = .ok (.goto (-115), 3) := by decide +kernel
theorem d_RE_takeSymbols_128 : decode prog_5_method_7_code 128 = .ok (.return_, 1) := by decide +kernel
def y_RE_takeCarrier : MethodName := ⟨"CarrierLink$Receiver", "takeCarrier", "(III)V"⟩
theorem hd_RE_takeCarrier : y_RE_takeCarrier.cls ≠ "java/lang/invoke/MethodHandle" ∧ y_RE_takeCarrier.cls ≠ "java/lang/invoke/VarHandle" ∧ (parseMethodDescriptor y_RE_takeCarrier.desc).map (fun d => d.parameters.length) = some 3 := ⟨by decide +kernel, by decide +kernel, by decide +kernel⟩
theorem d_RE_takeCarrier_0 : decode prog_5_method_8_code 0 = .ok (.aload_n 0, 1) := by decide +kernel
theorem d_RE_takeCarrier_1 : decode prog_5_method_8_code 1 = .ok (.getfield 31, 3) := by decide +kernel
theorem d_RE_takeCarrier_4 : decode prog_5_method_8_code 4 = .ok (.getfield 130, 3) := by decide +kernel
theorem d_RE_takeCarrier_7 : decode prog_5_method_8_code 7 = .ok (.iload_n 1, 1) := by decide +kernel
theorem d_RE_takeCarrier_8 : decode prog_5_method_8_code 8 = .ok (.iaload, 1) := by decide +kernel
theorem d_RE_takeCarrier_9 : decode prog_5_method_8_code 9 = .ok (.i2l, 1) := by decide +kernel
theorem d_RE_takeCarrier_10 : decode prog_5_method_8_code 10 = .ok (.lstore 4, 2) := by decide +kernel
theorem d_RE_takeCarrier_12 : decode prog_5_method_8_code 12 = .ok (.aload_n 0, 1) := by decide +kernel
theorem d_RE_takeCarrier_13 : decode prog_5_method_8_code 13 = .ok (.getfield 31, 3) := by decide +kernel
theorem d_RE_takeCarrier_16 : decode prog_5_method_8_code 16 = .ok (.getfield 133, 3) := by decide +kernel
theorem d_RE_takeCarrier_19 : decode prog_5_method_8_code 19 = .ok (.iload_n 1, 1) := by decide +kernel
theorem d_RE_takeCarrier_20 : decode prog_5_method_8_code 20 = .ok (.iaload, 1) := by decide +kernel
theorem d_RE_takeCarrier_21 : decode prog_5_method_8_code 21 = .ok (.i2l, 1) := by decide +kernel
theorem d_RE_takeCarrier_22 : decode prog_5_method_8_code 22 = .ok (.lstore 6, 2) := by decide +kernel
theorem d_RE_takeCarrier_24 : decode prog_5_method_8_code 24 = .ok (.aload_n 0, 1) := by decide +kernel
theorem d_RE_takeCarrier_25 : decode prog_5_method_8_code 25 = .ok (.getfield 38, 3) := by decide +kernel
theorem d_RE_takeCarrier_28 : decode prog_5_method_8_code 28 = .ok (.getfield 130, 3) := by decide +kernel
theorem d_RE_takeCarrier_31 : decode prog_5_method_8_code 31 = .ok (.iload_n 1, 1) := by decide +kernel
theorem d_RE_takeCarrier_32 : decode prog_5_method_8_code 32 = .ok (.iaload, 1) := by decide +kernel
theorem d_RE_takeCarrier_33 : decode prog_5_method_8_code 33 = .ok (.i2l, 1) := by decide +kernel
theorem d_RE_takeCarrier_34 : decode prog_5_method_8_code 34 = .ok (.lstore 8, 2) := by decide +kernel
theorem d_RE_takeCarrier_36 : decode prog_5_method_8_code 36 = .ok (.aload_n 0, 1) := by decide +kernel
theorem d_RE_takeCarrier_37 : decode prog_5_method_8_code 37 = .ok (.getfield 38, 3) := by decide +kernel
theorem d_RE_takeCarrier_40 : decode prog_5_method_8_code 40 = .ok (.getfield 133, 3) := by decide +kernel
theorem d_RE_takeCarrier_43 : decode prog_5_method_8_code 43 = .ok (.iload_n 1, 1) := by decide +kernel
theorem d_RE_takeCarrier_44 : decode prog_5_method_8_code 44 = .ok (.iaload, 1) := by decide +kernel
theorem d_RE_takeCarrier_45 : decode prog_5_method_8_code 45 = .ok (.i2l, 1) := by decide +kernel
theorem d_RE_takeCarrier_46 : decode prog_5_method_8_code 46 = .ok (.lstore 10, 2) := by decide +kernel
theorem d_RE_takeCarrier_48 : decode prog_5_method_8_code 48 = .ok (.lload 8, 2) := by decide +kernel
theorem d_RE_takeCarrier_50 : decode prog_5_method_8_code 50 = .ok (.lload 4, 2) := by decide +kernel
theorem d_RE_takeCarrier_52 : decode prog_5_method_8_code 52 = .ok (.lmul, 1) := by decide +kernel
theorem d_RE_takeCarrier_53 : decode prog_5_method_8_code 53 = .ok (.lload 10, 2) := by decide +kernel
theorem d_RE_takeCarrier_55 : decode prog_5_method_8_code 55 = .ok (.lload 6, 2) := by decide +kernel
theorem d_RE_takeCarrier_57 : decode prog_5_method_8_code 57 = .ok (.lmul, 1) := by decide +kernel
theorem d_RE_takeCarrier_58 : decode prog_5_method_8_code 58 = .ok (.ladd, 1) := by decide +kernel
theorem d_RE_takeCarrier_59 : decode prog_5_method_8_code 59 = .ok (.lstore 12, 2) := by decide +kernel
theorem d_RE_takeCarrier_61 : decode prog_5_method_8_code 61 = .ok (.lload 10, 2) := by decide +kernel
theorem d_RE_takeCarrier_63 : decode prog_5_method_8_code 63 = .ok (.lload 4, 2) := by decide +kernel
theorem d_RE_takeCarrier_65 : decode prog_5_method_8_code 65 = .ok (.lmul, 1) := by decide +kernel
theorem d_RE_takeCarrier_66 : decode prog_5_method_8_code 66 = .ok (.lload 8, 2) := by decide +kernel
theorem d_RE_takeCarrier_68 : decode prog_5_method_8_code 68 = .ok (.lload 6, 2) := by decide +kernel
theorem d_RE_takeCarrier_70 : decode prog_5_method_8_code 70 = .ok (.lmul, 1) := by decide +kernel
theorem d_RE_takeCarrier_71 : decode prog_5_method_8_code 71 = .ok (.lsub, 1) := by decide +kernel
theorem d_RE_takeCarrier_72 : decode prog_5_method_8_code 72 = .ok (.lstore 14, 2) := by decide +kernel
theorem d_RE_takeCarrier_74 : decode prog_5_method_8_code 74 = .ok (.aload_n 0, 1) := by decide +kernel
theorem d_RE_takeCarrier_75 : decode prog_5_method_8_code 75 = .ok (.getfield 41, 3) := by decide +kernel
theorem d_RE_takeCarrier_78 : decode prog_5_method_8_code 78 = .ok (.iload_n 2, 1) := by decide +kernel
theorem d_RE_takeCarrier_79 : decode prog_5_method_8_code 79 = .ok (.lload 12, 2) := by decide +kernel
theorem d_RE_takeCarrier_81 : decode prog_5_method_8_code 81 = .ok (.invokestatic 152, 3) := by decide +kernel
theorem d_RE_takeCarrier_84 : decode prog_5_method_8_code 84 = .ok (.iastore, 1) := by decide +kernel
theorem d_RE_takeCarrier_85 : decode prog_5_method_8_code 85 = .ok (.iload_n 3, 1) := by decide +kernel
theorem d_RE_takeCarrier_86 : decode prog_5_method_8_code 86 = .ok (.iconst 2, 1) := by decide +kernel
theorem d_RE_takeCarrier_87 : decode prog_5_method_8_code 87 = .ok (.if_icmp .ne 19, 3) := by decide +kernel
theorem d_RE_takeCarrier_90 : decode prog_5_method_8_code 90 = .ok (.aload_n 0, 1) := by decide +kernel
theorem d_RE_takeCarrier_91 : decode prog_5_method_8_code 91 = .ok (.getfield 41, 3) := by decide +kernel
theorem d_RE_takeCarrier_94 : decode prog_5_method_8_code 94 = .ok (.iload_n 2, 1) := by decide +kernel
theorem d_RE_takeCarrier_95 : decode prog_5_method_8_code 95 = .ok (.iconst 1, 1) := by decide +kernel
theorem d_RE_takeCarrier_96 : decode prog_5_method_8_code 96 = .ok (.iadd, 1) := by decide +kernel
theorem d_RE_takeCarrier_97 : decode prog_5_method_8_code 97 = .ok (.lload 14, 2) := by decide +kernel
theorem d_RE_takeCarrier_99 : decode prog_5_method_8_code 99 = .ok (.invokestatic 152, 3) := by decide +kernel
theorem d_RE_takeCarrier_102 : decode prog_5_method_8_code 102 = .ok (.iastore, 1) := by decide +kernel
theorem d_RE_takeCarrier_103 : decode prog_5_method_8_code 103 = .ok (.goto 79, 3) := by decide +kernel
theorem d_RE_takeCarrier_106 : decode prog_5_method_8_code 106 = .ok (.iload_n 3, 1) := by decide +kernel
theorem d_RE_takeCarrier_107 : decode prog_5_method_8_code 107 = .ok (.iconst 4, 1) := by decide +kernel
theorem d_RE_takeCarrier_108 : decode prog_5_method_8_code 108 = .ok (.if_icmp .ne 74, 3) := by decide +kernel
theorem d_RE_takeCarrier_111 : decode prog_5_method_8_code 111 = .ok (.lload 4, 2) := by decide +kernel
theorem d_RE_takeCarrier_113 : decode prog_5_method_8_code 113 = .ok (.lload 4, 2) := by decide +kernel
theorem d_RE_takeCarrier_115 : decode prog_5_method_8_code 115 = .ok (.lmul, 1) := by decide +kernel
theorem d_RE_takeCarrier_116 : decode prog_5_method_8_code 116 = .ok (.lload 6, 2) := by decide +kernel
theorem d_RE_takeCarrier_118 : decode prog_5_method_8_code 118 = .ok (.lload 6, 2) := by decide +kernel
theorem d_RE_takeCarrier_120 : decode prog_5_method_8_code 120 = .ok (.lmul, 1) := by decide +kernel
theorem d_RE_takeCarrier_121 : decode prog_5_method_8_code 121 = .ok (.ladd, 1) := by decide +kernel
theorem d_RE_takeCarrier_122 : decode prog_5_method_8_code 122 = .ok (.ldc2_w 156, 3) := by decide +kernel
theorem d_RE_takeCarrier_125 : decode prog_5_method_8_code 125 = .ok (.lmul, 1) := by decide +kernel
theorem d_RE_takeCarrier_126 : decode prog_5_method_8_code 126 = .ok (.bipush 11, 2) := by decide +kernel
theorem d_RE_takeCarrier_128 : decode prog_5_method_8_code 128 = .ok (.lshr, 1) := by decide +kernel
theorem d_RE_takeCarrier_129 : decode prog_5_method_8_code 129 = .ok (.lstore 16, 2) := by decide +kernel
theorem d_RE_takeCarrier_131 : decode prog_5_method_8_code 131 = .ok (.aload_n 0, 1) := by decide +kernel
theorem d_RE_takeCarrier_132 : decode prog_5_method_8_code 132 = .ok (.getfield 41, 3) := by decide +kernel
theorem d_RE_takeCarrier_135 : decode prog_5_method_8_code 135 = .ok (.iload_n 2, 1) := by decide +kernel
theorem d_RE_takeCarrier_136 : decode prog_5_method_8_code 136 = .ok (.iconst 1, 1) := by decide +kernel
theorem d_RE_takeCarrier_137 : decode prog_5_method_8_code 137 = .ok (.iadd, 1) := by decide +kernel
theorem d_RE_takeCarrier_138 : decode prog_5_method_8_code 138 = .ok (.lload 16, 2) := by decide +kernel
theorem d_RE_takeCarrier_140 : decode prog_5_method_8_code 140 = .ok (.lload 12, 2) := by decide +kernel
theorem d_RE_takeCarrier_142 : decode prog_5_method_8_code 142 = .ok (.invokestatic 158, 3) := by decide +kernel
theorem d_RE_takeCarrier_145 : decode prog_5_method_8_code 145 = .ok (.lsub, 1) := by decide +kernel
theorem d_RE_takeCarrier_146 : decode prog_5_method_8_code 146 = .ok (.invokestatic 152, 3) := by decide +kernel
theorem d_RE_takeCarrier_149 : decode prog_5_method_8_code 149 = .ok (.iastore, 1) := by decide +kernel
theorem d_RE_takeCarrier_150 : decode prog_5_method_8_code 150 = .ok (.aload_n 0, 1) := by decide +kernel
theorem d_RE_takeCarrier_151 : decode prog_5_method_8_code 151 = .ok (.getfield 41, 3) := by decide +kernel
theorem d_RE_takeCarrier_154 : decode prog_5_method_8_code 154 = .ok (.iload_n 2, 1) := by decide +kernel
theorem d_RE_takeCarrier_155 : decode prog_5_method_8_code 155 = .ok (.iconst 2, 1) := by decide +kernel
theorem d_RE_takeCarrier_156 : decode prog_5_method_8_code 156 = .ok (.iadd, 1) := by decide +kernel
theorem d_RE_takeCarrier_157 : decode prog_5_method_8_code 157 = .ok (.lload 14, 2) := by decide +kernel
theorem d_RE_takeCarrier_159 : decode prog_5_method_8_code 159 = .ok (.invokestatic 152, 3) := by decide +kernel
theorem d_RE_takeCarrier_162 : decode prog_5_method_8_code 162 = .ok (.iastore, 1) := by decide +kernel
theorem d_RE_takeCarrier_163 : decode prog_5_method_8_code 163 = .ok (.aload_n 0, 1) := by decide +kernel
theorem d_RE_takeCarrier_164 : decode prog_5_method_8_code 164 = .ok (.getfield 41, 3) := by decide +kernel
theorem d_RE_takeCarrier_167 : decode prog_5_method_8_code 167 = .ok (.iload_n 2, 1) := by decide +kernel
theorem d_RE_takeCarrier_168 : decode prog_5_method_8_code 168 = .ok (.iconst 3, 1) := by decide +kernel
theorem d_RE_takeCarrier_169 : decode prog_5_method_8_code 169 = .ok (.iadd, 1) := by decide +kernel
theorem d_RE_takeCarrier_170 : decode prog_5_method_8_code 170 = .ok (.lload 16, 2) := by decide +kernel
theorem d_RE_takeCarrier_172 : decode prog_5_method_8_code 172 = .ok (.lload 14, 2) := by decide +kernel
theorem d_RE_takeCarrier_174 : decode prog_5_method_8_code 174 = .ok (.invokestatic 158, 3) := by decide +kernel
theorem d_RE_takeCarrier_177 : decode prog_5_method_8_code 177 = .ok (.lsub, 1) := by decide +kernel
theorem d_RE_takeCarrier_178 : decode prog_5_method_8_code 178 = .ok (.invokestatic 152, 3) := by decide +kernel
theorem d_RE_takeCarrier_181 : decode prog_5_method_8_code 181 = .ok (.iastore, 1) := by decide +kernel
theorem d_RE_takeCarrier_182 : decode prog_5_method_8_code 182 = .ok (.return_, 1) := by decide +kernel
