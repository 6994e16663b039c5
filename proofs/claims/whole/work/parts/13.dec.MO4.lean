def y_MO_listen : MethodName := ⟨"CarrierLinkModel", "listen", "(IIIZ)I"⟩
theorem hd_MO_listen : y_MO_listen.cls ≠ "java/lang/invoke/MethodHandle" ∧ y_MO_listen.cls ≠ "java/lang/invoke/VarHandle" ∧ (parseMethodDescriptor y_MO_listen.desc).map (fun d => d.parameters.length) = some 4 := ⟨by decide +kernel, by decide +kernel, by decide +kernel⟩
theorem d_MO_listen_0 : decode prog_10_method_38_code 0 = .ok (.bipush 12, 2) := by decide +kernel
theorem d_MO_listen_2 : decode prog_10_method_38_code 2 = .ok (.iload_n 3, 1) := by decide +kernel
theorem d_MO_listen_3 : decode prog_10_method_38_code 3 = .ok (.imul, 1) := by decide +kernel
theorem d_MO_listen_4 : decode prog_10_method_38_code 4 = .ok (.istore 5, 2) := by decide +kernel
theorem d_MO_listen_6 : decode prog_10_method_38_code 6 = .ok (.iconst 0, 1) := by decide +kernel
theorem d_MO_listen_7 : decode prog_10_method_38_code 7 = .ok (.istore 6, 2) := by decide +kernel
theorem d_MO_listen_9 : decode prog_10_method_38_code 9 = .ok (.iconst 0, 1) := by decide +kernel
theorem d_MO_listen_10 : decode prog_10_method_38_code 10 = .ok (.istore 7, 2) := by decide +kernel
theorem d_MO_listen_12 : decode prog_10_method_38_code 12 = .ok (.iconst 0, 1) := by decide +kernel
theorem d_MO_listen_13 : decode prog_10_method_38_code 13 = .ok (.istore 8, 2) := by decide +kernel
theorem d_MO_listen_15 : decode prog_10_method_38_code 15 = .ok (.iload 8, 2) := by decide +kernel
theorem d_MO_listen_17 : decode prog_10_method_38_code 17 = .ok (.iload_n 2, 1) := by decide +kernel
theorem d_MO_listen_18 : decode prog_10_method_38_code 18 = .ok (.if_icmp .ge 173, 3) := by decide +kernel
theorem d_MO_listen_21 : decode prog_10_method_38_code 21 = .ok (.aload_n 0, 1) := by decide +kernel
theorem d_MO_listen_22 : decode prog_10_method_38_code 22 = .ok (.aload_n 0, 1) := by decide +kernel
theorem d_MO_listen_23 : decode prog_10_method_38_code 23 = .ok (.getfield 186, 3) := by decide +kernel
theorem d_MO_listen_26 : decode prog_10_method_38_code 26 = .ok (.bipush 44, 2) := by decide +kernel
theorem d_MO_listen_28 : decode prog_10_method_38_code 28 = .ok (.iadd, 1) := by decide +kernel
theorem d_MO_listen_29 : decode prog_10_method_38_code 29 = .ok (.bipush 20, 2) := by decide +kernel
theorem d_MO_listen_31 : decode prog_10_method_38_code 31 = .ok (.iload_n 1, 1) := by decide +kernel
theorem d_MO_listen_32 : decode prog_10_method_38_code 32 = .ok (.iload 8, 2) := by decide +kernel
theorem d_MO_listen_34 : decode prog_10_method_38_code 34 = .ok (.iadd, 1) := by decide +kernel
theorem d_MO_listen_35 : decode prog_10_method_38_code 35 = .ok (.imul, 1) := by decide +kernel
theorem d_MO_listen_36 : decode prog_10_method_38_code 36 = .ok (.iadd, 1) := by decide +kernel
theorem d_MO_listen_37 : decode prog_10_method_38_code 37 = .ok (.invokevirtual 189, 3) := by decide +kernel
theorem d_MO_listen_40 : decode prog_10_method_38_code 40 = .ok (.iconst 0, 1) := by decide +kernel
theorem d_MO_listen_41 : decode prog_10_method_38_code 41 = .ok (.istore 9, 2) := by decide +kernel
theorem d_MO_listen_43 : decode prog_10_method_38_code 43 = .ok (.iload 9, 2) := by decide +kernel
theorem d_MO_listen_45 : decode prog_10_method_38_code 45 = .ok (.bipush 12, 2) := by decide +kernel
theorem d_MO_listen_47 : decode prog_10_method_38_code 47 = .ok (.if_icmp .ge 16, 3) := by decide +kernel
theorem d_MO_listen_50 : decode prog_10_method_38_code 50 = .ok (.aload_n 0, 1) := by decide +kernel
theorem d_MO_listen_51 : decode prog_10_method_38_code 51 = .ok (.iload 9, 2) := by decide +kernel
theorem d_MO_listen_53 : decode prog_10_method_38_code 53 = .ok (.iload_n 3, 1) := by decide +kernel
theorem d_MO_listen_54 : decode prog_10_method_38_code 54 = .ok (.invokevirtual 206, 3) := by decide +kernel
theorem d_MO_listen_57 : decode prog_10_method_38_code 57 = .ok (.iinc 9 1, 3) := by decide +kernel
theorem d_MO_listen_60 : decode prog_10_method_38_code 60 = .ok (.goto (-17), 3) := by decide +kernel
theorem d_MO_listen_63 : decode prog_10_method_38_code 63 = .ok (.iconst 0, 1) := by decide +kernel
theorem d_MO_listen_64 : decode prog_10_method_38_code 64 = .ok (.istore 9, 2) := by decide +kernel
theorem d_MO_listen_66 : decode prog_10_method_38_code 66 = .ok (.iload 9, 2) := by decide +kernel
theorem d_MO_listen_68 : decode prog_10_method_38_code 68 = .ok (.iload 5, 2) := by decide +kernel
theorem d_MO_listen_70 : decode prog_10_method_38_code 70 = .ok (.if_icmp .ge 115, 3) := by decide +kernel
theorem d_MO_listen_73 : decode prog_10_method_38_code 73 = .ok (.aload_n 0, 1) := by decide +kernel
theorem d_MO_listen_74 : decode prog_10_method_38_code 74 = .ok (.getfield 67, 3) := by decide +kernel
theorem d_MO_listen_77 : decode prog_10_method_38_code 77 = .ok (.iload 9, 2) := by decide +kernel
theorem d_MO_listen_79 : decode prog_10_method_38_code 79 = .ok (.iload 5, 2) := by decide +kernel
theorem d_MO_listen_81 : decode prog_10_method_38_code 81 = .ok (.iload_n 3, 1) := by decide +kernel
theorem d_MO_listen_82 : decode prog_10_method_38_code 82 = .ok (.invokestatic 133, 3) := by decide +kernel
theorem d_MO_listen_85 : decode prog_10_method_38_code 85 = .ok (.iaload, 1) := by decide +kernel
theorem d_MO_listen_86 : decode prog_10_method_38_code 86 = .ok (.istore 10, 2) := by decide +kernel
theorem d_MO_listen_88 : decode prog_10_method_38_code 88 = .ok (.iload 4, 2) := by decide +kernel
theorem d_MO_listen_90 : decode prog_10_method_38_code 90 = .ok (.ifCond .eq 27, 3) := by decide +kernel
theorem d_MO_listen_93 : decode prog_10_method_38_code 93 = .ok (.iload 7, 2) := by decide +kernel
theorem d_MO_listen_95 : decode prog_10_method_38_code 95 = .ok (.ifCond .ne 22, 3) := by decide +kernel
theorem d_MO_listen_98 : decode prog_10_method_38_code 98 = .ok (.iload 6, 2) := by decide +kernel
theorem d_MO_listen_100 : decode prog_10_method_38_code 100 = .ok (.iconst 3, 1) := by decide +kernel
theorem d_MO_listen_101 : decode prog_10_method_38_code 101 = .ok (.irem, 1) := by decide +kernel
theorem d_MO_listen_102 : decode prog_10_method_38_code 102 = .ok (.iconst 2, 1) := by decide +kernel
theorem d_MO_listen_103 : decode prog_10_method_38_code 103 = .ok (.if_icmp .ne 14, 3) := by decide +kernel
theorem d_MO_listen_106 : decode prog_10_method_38_code 106 = .ok (.aload_n 0, 1) := by decide +kernel
theorem d_MO_listen_107 : decode prog_10_method_38_code 107 = .ok (.getfield 61, 3) := by decide +kernel
theorem d_MO_listen_110 : decode prog_10_method_38_code 110 = .ok (.iload 6, 2) := by decide +kernel
theorem d_MO_listen_112 : decode prog_10_method_38_code 112 = .ok (.iconst 0, 1) := by decide +kernel
theorem d_MO_listen_113 : decode prog_10_method_38_code 113 = .ok (.iastore, 1) := by decide +kernel
theorem d_MO_listen_114 : decode prog_10_method_38_code 114 = .ok (.iconst 1, 1) := by decide +kernel
theorem d_MO_listen_115 : decode prog_10_method_38_code 115 = .ok (.istore 7, 2) := by decide +kernel
theorem d_MO_listen_117 : decode prog_10_method_38_code 117 = .ok (.iload 7, 2) := by decide +kernel
theorem d_MO_listen_119 : decode prog_10_method_38_code 119 = .ok (.ifCond .eq 21, 3) := by decide +kernel
theorem d_MO_listen_122 : decode prog_10_method_38_code 122 = .ok (.aload_n 0, 1) := by decide +kernel
theorem d_MO_listen_123 : decode prog_10_method_38_code 123 = .ok (.getfield 64, 3) := by decide +kernel
theorem d_MO_listen_126 : decode prog_10_method_38_code 126 = .ok (.iload 6, 2) := by decide +kernel
theorem d_MO_listen_128 : decode prog_10_method_38_code 128 = .ok (.iload 10, 2) := by decide +kernel
theorem d_MO_listen_130 : decode prog_10_method_38_code 130 = .ok (.iastore, 1) := by decide +kernel
theorem d_MO_listen_131 : decode prog_10_method_38_code 131 = .ok (.iconst 0, 1) := by decide +kernel
theorem d_MO_listen_132 : decode prog_10_method_38_code 132 = .ok (.istore 7, 2) := by decide +kernel
theorem d_MO_listen_134 : decode prog_10_method_38_code 134 = .ok (.iinc 6 1, 3) := by decide +kernel
theorem d_MO_listen_137 : decode prog_10_method_38_code 137 = .ok (.goto 42, 3) := by decide +kernel
theorem d_MO_listen_140 : decode prog_10_method_38_code 140 = .ok (.aload_n 0, 1) := by decide +kernel
theorem d_MO_listen_141 : decode prog_10_method_38_code 141 = .ok (.getfield 61, 3) := by decide +kernel
theorem d_MO_listen_144 : decode prog_10_method_38_code 144 = .ok (.iload 6, 2) := by decide +kernel
theorem d_MO_listen_146 : decode prog_10_method_38_code 146 = .ok (.iload 10, 2) := by decide +kernel
theorem d_MO_listen_148 : decode prog_10_method_38_code 148 = .ok (.iastore, 1) := by decide +kernel
theorem d_MO_listen_149 : decode prog_10_method_38_code 149 = .ok (.iconst 1, 1) := by decide +kernel
theorem d_MO_listen_150 : decode prog_10_method_38_code 150 = .ok (.istore 7, 2) := by decide +kernel
theorem d_MO_listen_152 : decode prog_10_method_38_code 152 = .ok (.iload 4, 2) := by decide +kernel
theorem d_MO_listen_154 : decode prog_10_method_38_code 154 = .ok (.ifCond .eq 25, 3) := by decide +kernel
theorem d_MO_listen_157 : decode prog_10_method_38_code 157 = .ok (.iload 6, 2) := by decide +kernel
theorem d_MO_listen_159 : decode prog_10_method_38_code 159 = .ok (.iconst 3, 1) := by decide +kernel
theorem d_MO_listen_160 : decode prog_10_method_38_code 160 = .ok (.irem, 1) := by decide +kernel
theorem d_MO_listen_161 : decode prog_10_method_38_code 161 = .ok (.iconst 1, 1) := by decide +kernel
theorem d_MO_listen_162 : decode prog_10_method_38_code 162 = .ok (.if_icmp .ne 17, 3) := by decide +kernel
theorem d_MO_listen_165 : decode prog_10_method_38_code 165 = .ok (.aload_n 0, 1) := by decide +kernel
theorem d_MO_listen_166 : decode prog_10_method_38_code 166 = .ok (.getfield 64, 3) := by decide +kernel
theorem d_MO_listen_169 : decode prog_10_method_38_code 169 = .ok (.iload 6, 2) := by decide +kernel
theorem d_MO_listen_171 : decode prog_10_method_38_code 171 = .ok (.iconst 0, 1) := by decide +kernel
theorem d_MO_listen_172 : decode prog_10_method_38_code 172 = .ok (.iastore, 1) := by decide +kernel
theorem d_MO_listen_173 : decode prog_10_method_38_code 173 = .ok (.iconst 0, 1) := by decide +kernel
theorem d_MO_listen_174 : decode prog_10_method_38_code 174 = .ok (.istore 7, 2) := by decide +kernel
theorem d_MO_listen_176 : decode prog_10_method_38_code 176 = .ok (.iinc 6 1, 3) := by decide +kernel
theorem d_MO_listen_179 : decode prog_10_method_38_code 179 = .ok (.iinc 9 1, 3) := by decide +kernel
theorem d_MO_listen_182 : decode prog_10_method_38_code 182 = .ok (.goto (-116), 3) := by decide +kernel
theorem d_MO_listen_185 : decode prog_10_method_38_code 185 = .ok (.iinc 8 1, 3) := by decide +kernel
theorem d_MO_listen_188 : decode prog_10_method_38_code 188 = .ok (.goto (-173), 3) := by decide +kernel
theorem d_MO_listen_191 : decode prog_10_method_38_code 191 = .ok (.iload 6, 2) := by decide +kernel
theorem d_MO_listen_193 : decode prog_10_method_38_code 193 = .ok (.ireturn, 1) := by decide +kernel
def y_MO_soften : MethodName := ⟨"CarrierLinkModel", "soften", "(II)V"⟩
theorem hd_MO_soften : y_MO_soften.cls ≠ "java/lang/invoke/MethodHandle" ∧ y_MO_soften.cls ≠ "java/lang/invoke/VarHandle" ∧ (parseMethodDescriptor y_MO_soften.desc).map (fun d => d.parameters.length) = some 2 := ⟨by decide +kernel, by decide +kernel, by decide +kernel⟩
theorem d_MO_soften_0 : decode prog_10_method_37_code 0 = .ok (.iload_n 1, 1) := by decide +kernel
theorem d_MO_soften_1 : decode prog_10_method_37_code 1 = .ok (.invokestatic 137, 3) := by decide +kernel
theorem d_MO_soften_4 : decode prog_10_method_37_code 4 = .ok (.istore_n 3, 1) := by decide +kernel
theorem d_MO_soften_5 : decode prog_10_method_37_code 5 = .ok (.aload_n 0, 1) := by decide +kernel
theorem d_MO_soften_6 : decode prog_10_method_37_code 6 = .ok (.getfield 43, 3) := by decide +kernel
theorem d_MO_soften_9 : decode prog_10_method_37_code 9 = .ok (.iload_n 3, 1) := by decide +kernel
theorem d_MO_soften_10 : decode prog_10_method_37_code 10 = .ok (.iaload, 1) := by decide +kernel
theorem d_MO_soften_11 : decode prog_10_method_37_code 11 = .ok (.i2l, 1) := by decide +kernel
theorem d_MO_soften_12 : decode prog_10_method_37_code 12 = .ok (.aload_n 0, 1) := by decide +kernel
theorem d_MO_soften_13 : decode prog_10_method_37_code 13 = .ok (.getfield 37, 3) := by decide +kernel
theorem d_MO_soften_16 : decode prog_10_method_37_code 16 = .ok (.iload_n 3, 1) := by decide +kernel
theorem d_MO_soften_17 : decode prog_10_method_37_code 17 = .ok (.iaload, 1) := by decide +kernel
theorem d_MO_soften_18 : decode prog_10_method_37_code 18 = .ok (.i2l, 1) := by decide +kernel
theorem d_MO_soften_19 : decode prog_10_method_37_code 19 = .ok (.lmul, 1) := by decide +kernel
theorem d_MO_soften_20 : decode prog_10_method_37_code 20 = .ok (.aload_n 0, 1) := by decide +kernel
theorem d_MO_soften_21 : decode prog_10_method_37_code 21 = .ok (.getfield 46, 3) := by decide +kernel
theorem d_MO_soften_24 : decode prog_10_method_37_code 24 = .ok (.iload_n 3, 1) := by decide +kernel
theorem d_MO_soften_25 : decode prog_10_method_37_code 25 = .ok (.iaload, 1) := by decide +kernel
theorem d_MO_soften_26 : decode prog_10_method_37_code 26 = .ok (.i2l, 1) := by decide +kernel
theorem d_MO_soften_27 : decode prog_10_method_37_code 27 = .ok (.aload_n 0, 1) := by decide +kernel
theorem d_MO_soften_28 : decode prog_10_method_37_code 28 = .ok (.getfield 40, 3) := by decide +kernel
theorem d_MO_soften_31 : decode prog_10_method_37_code 31 = .ok (.iload_n 3, 1) := by decide +kernel
theorem d_MO_soften_32 : decode prog_10_method_37_code 32 = .ok (.iaload, 1) := by decide +kernel
theorem d_MO_soften_33 : decode prog_10_method_37_code 33 = .ok (.i2l, 1) := by decide +kernel
theorem d_MO_soften_34 : decode prog_10_method_37_code 34 = .ok (.lmul, 1) := by decide +kernel
theorem d_MO_soften_35 : decode prog_10_method_37_code 35 = .ok (.ladd, 1) := by decide +kernel
theorem d_MO_soften_36 : decode prog_10_method_37_code 36 = .ok (.lstore 4, 2) := by decide +kernel
theorem d_MO_soften_38 : decode prog_10_method_37_code 38 = .ok (.aload_n 0, 1) := by decide +kernel
theorem d_MO_soften_39 : decode prog_10_method_37_code 39 = .ok (.getfield 46, 3) := by decide +kernel
theorem d_MO_soften_42 : decode prog_10_method_37_code 42 = .ok (.iload_n 3, 1) := by decide +kernel
theorem d_MO_soften_43 : decode prog_10_method_37_code 43 = .ok (.iaload, 1) := by decide +kernel
theorem d_MO_soften_44 : decode prog_10_method_37_code 44 = .ok (.i2l, 1) := by decide +kernel
theorem d_MO_soften_45 : decode prog_10_method_37_code 45 = .ok (.aload_n 0, 1) := by decide +kernel
theorem d_MO_soften_46 : decode prog_10_method_37_code 46 = .ok (.getfield 37, 3) := by decide +kernel
theorem d_MO_soften_49 : decode prog_10_method_37_code 49 = .ok (.iload_n 3, 1) := by decide +kernel
theorem d_MO_soften_50 : decode prog_10_method_37_code 50 = .ok (.iaload, 1) := by decide +kernel
theorem d_MO_soften_51 : decode prog_10_method_37_code 51 = .ok (.i2l, 1) := by decide +kernel
theorem d_MO_soften_52 : decode prog_10_method_37_code 52 = .ok (.lmul, 1) := by decide +kernel
theorem d_MO_soften_53 : decode prog_10_method_37_code 53 = .ok (.aload_n 0, 1) := by decide +kernel
theorem d_MO_soften_54 : decode prog_10_method_37_code 54 = .ok (.getfield 43, 3) := by decide +kernel
theorem d_MO_soften_57 : decode prog_10_method_37_code 57 = .ok (.iload_n 3, 1) := by decide +kernel
theorem d_MO_soften_58 : decode prog_10_method_37_code 58 = .ok (.iaload, 1) := by decide +kernel
theorem d_MO_soften_59 : decode prog_10_method_37_code 59 = .ok (.i2l, 1) := by decide +kernel
theorem d_MO_soften_60 : decode prog_10_method_37_code 60 = .ok (.aload_n 0, 1) := by decide +kernel
theorem d_MO_soften_61 : decode prog_10_method_37_code 61 = .ok (.getfield 40, 3) := by decide +kernel
theorem d_MO_soften_64 : decode prog_10_method_37_code 64 = .ok (.iload_n 3, 1) := by decide +kernel
theorem d_MO_soften_65 : decode prog_10_method_37_code 65 = .ok (.iaload, 1) := by decide +kernel
theorem d_MO_soften_66 : decode prog_10_method_37_code 66 = .ok (.i2l, 1) := by decide +kernel
theorem d_MO_soften_67 : decode prog_10_method_37_code 67 = .ok (.lmul, 1) := by decide +kernel
theorem d_MO_soften_68 : decode prog_10_method_37_code 68 = .ok (.lsub, 1) := by decide +kernel
theorem d_MO_soften_69 : decode prog_10_method_37_code 69 = .ok (.lstore 6, 2) := by decide +kernel
theorem d_MO_soften_71 : decode prog_10_method_37_code 71 = .ok (.aload_n 0, 1) := by decide +kernel
theorem d_MO_soften_72 : decode prog_10_method_37_code 72 = .ok (.getfield 37, 3) := by decide +kernel
theorem d_MO_soften_75 : decode prog_10_method_37_code 75 = .ok (.iload_n 3, 1) := by decide +kernel
theorem d_MO_soften_76 : decode prog_10_method_37_code 76 = .ok (.iaload, 1) := by decide +kernel
theorem d_MO_soften_77 : decode prog_10_method_37_code 77 = .ok (.i2l, 1) := by decide +kernel
theorem d_MO_soften_78 : decode prog_10_method_37_code 78 = .ok (.aload_n 0, 1) := by decide +kernel
theorem d_MO_soften_79 : decode prog_10_method_37_code 79 = .ok (.getfield 37, 3) := by decide +kernel
theorem d_MO_soften_82 : decode prog_10_method_37_code 82 = .ok (.iload_n 3, 1) := by decide +kernel
theorem d_MO_soften_83 : decode prog_10_method_37_code 83 = .ok (.iaload, 1) := by decide +kernel
theorem d_MO_soften_84 : decode prog_10_method_37_code 84 = .ok (.i2l, 1) := by decide +kernel
theorem d_MO_soften_85 : decode prog_10_method_37_code 85 = .ok (.lmul, 1) := by decide +kernel
theorem d_MO_soften_86 : decode prog_10_method_37_code 86 = .ok (.aload_n 0, 1) := by decide +kernel
theorem d_MO_soften_87 : decode prog_10_method_37_code 87 = .ok (.getfield 40, 3) := by decide +kernel
theorem d_MO_soften_90 : decode prog_10_method_37_code 90 = .ok (.iload_n 3, 1) := by decide +kernel
theorem d_MO_soften_91 : decode prog_10_method_37_code 91 = .ok (.iaload, 1) := by decide +kernel
theorem d_MO_soften_92 : decode prog_10_method_37_code 92 = .ok (.i2l, 1) := by decide +kernel
theorem d_MO_soften_93 : decode prog_10_method_37_code 93 = .ok (.aload_n 0, 1) := by decide +kernel
theorem d_MO_soften_94 : decode prog_10_method_37_code 94 = .ok (.getfield 40, 3) := by decide +kernel
theorem d_MO_soften_97 : decode prog_10_method_37_code 97 = .ok (.iload_n 3, 1) := by decide +kernel
theorem d_MO_soften_98 : decode prog_10_method_37_code 98 = .ok (.iaload, 1) := by decide +kernel
theorem d_MO_soften_99 : decode prog_10_method_37_code 99 = .ok (.i2l, 1) := by decide +kernel
theorem d_MO_soften_100 : decode prog_10_method_37_code 100 = .ok (.lmul, 1) := by decide +kernel
theorem d_MO_soften_101 : decode prog_10_method_37_code 101 = .ok (.ladd, 1) := by decide +kernel
theorem d_MO_soften_102 : decode prog_10_method_37_code 102 = .ok (.lstore 8, 2) := by decide +kernel
theorem d_MO_soften_104 : decode prog_10_method_37_code 104 = .ok (.lload 8, 2) := by decide +kernel
theorem d_MO_soften_106 : decode prog_10_method_37_code 106 = .ok (.ldc2_w 196, 3) := by decide +kernel
theorem d_MO_soften_109 : decode prog_10_method_37_code 109 = .ok (.lmul, 1) := by decide +kernel
theorem d_MO_soften_110 : decode prog_10_method_37_code 110 = .ok (.bipush 11, 2) := by decide +kernel
theorem d_MO_soften_112 : decode prog_10_method_37_code 112 = .ok (.lshr, 1) := by decide +kernel
theorem d_MO_soften_113 : decode prog_10_method_37_code 113 = .ok (.lstore 10, 2) := by decide +kernel
theorem d_MO_soften_115 : decode prog_10_method_37_code 115 = .ok (.aload_n 0, 1) := by decide +kernel
theorem d_MO_soften_116 : decode prog_10_method_37_code 116 = .ok (.getfield 67, 3) := by decide +kernel
theorem d_MO_soften_119 : decode prog_10_method_37_code 119 = .ok (.iload_n 2, 1) := by decide +kernel
theorem d_MO_soften_120 : decode prog_10_method_37_code 120 = .ok (.iload_n 1, 1) := by decide +kernel
theorem d_MO_soften_121 : decode prog_10_method_37_code 121 = .ok (.imul, 1) := by decide +kernel
theorem d_MO_soften_122 : decode prog_10_method_37_code 122 = .ok (.lload 4, 2) := by decide +kernel
theorem d_MO_soften_124 : decode prog_10_method_37_code 124 = .ok (.invokestatic 198, 3) := by decide +kernel
theorem d_MO_soften_127 : decode prog_10_method_37_code 127 = .ok (.iastore, 1) := by decide +kernel
theorem d_MO_soften_128 : decode prog_10_method_37_code 128 = .ok (.iload_n 2, 1) := by decide +kernel
theorem d_MO_soften_129 : decode prog_10_method_37_code 129 = .ok (.iconst 2, 1) := by decide +kernel
theorem d_MO_soften_130 : decode prog_10_method_37_code 130 = .ok (.if_icmp .ne 21, 3) := by decide +kernel
theorem d_MO_soften_133 : decode prog_10_method_37_code 133 = .ok (.aload_n 0, 1) := by decide +kernel
theorem d_MO_soften_134 : decode prog_10_method_37_code 134 = .ok (.getfield 67, 3) := by decide +kernel
theorem d_MO_soften_137 : decode prog_10_method_37_code 137 = .ok (.iload_n 2, 1) := by decide +kernel
theorem d_MO_soften_138 : decode prog_10_method_37_code 138 = .ok (.iload_n 1, 1) := by decide +kernel
theorem d_MO_soften_139 : decode prog_10_method_37_code 139 = .ok (.imul, 1) := by decide +kernel
theorem d_MO_soften_140 : decode prog_10_method_37_code 140 = .ok (.iconst 1, 1) := by decide +kernel
theorem d_MO_soften_141 : decode prog_10_method_37_code 141 = .ok (.iadd, 1) := by decide +kernel
theorem d_MO_soften_142 : decode prog_10_method_37_code 142 = .ok (.lload 6, 2) := by decide +kernel
theorem d_MO_soften_144 : decode prog_10_method_37_code 144 = .ok (.invokestatic 198, 3) := by decide +kernel
theorem d_MO_soften_147 : decode prog_10_method_37_code 147 = .ok (.iastore, 1) := by decide +kernel
theorem d_MO_soften_148 : decode prog_10_method_37_code 148 = .ok (.goto 65, 3) := by decide +kernel
theorem d_MO_soften_151 : decode prog_10_method_37_code 151 = .ok (.iload_n 2, 1) := by decide +kernel
theorem d_MO_soften_152 : decode prog_10_method_37_code 152 = .ok (.iconst 4, 1) := by decide +kernel
theorem d_MO_soften_153 : decode prog_10_method_37_code 153 = .ok (.if_icmp .ne 60, 3) := by decide +kernel
theorem d_MO_soften_156 : decode prog_10_method_37_code 156 = .ok (.aload_n 0, 1) := by decide +kernel
theorem d_MO_soften_157 : decode prog_10_method_37_code 157 = .ok (.getfield 67, 3) := by decide +kernel
theorem d_MO_soften_160 : decode prog_10_method_37_code 160 = .ok (.iload_n 2, 1) := by decide +kernel
theorem d_MO_soften_161 : decode prog_10_method_37_code 161 = .ok (.iload_n 1, 1) := by decide +kernel
theorem d_MO_soften_162 : decode prog_10_method_37_code 162 = .ok (.imul, 1) := by decide +kernel
theorem d_MO_soften_163 : decode prog_10_method_37_code 163 = .ok (.iconst 1, 1) := by decide +kernel
theorem d_MO_soften_164 : decode prog_10_method_37_code 164 = .ok (.iadd, 1) := by decide +kernel
theorem d_MO_soften_165 : decode prog_10_method_37_code 165 = .ok (.lload 10, 2) := by decide +kernel
theorem d_MO_soften_167 : decode prog_10_method_37_code 167 = .ok (.lload 4, 2) := by decide +kernel
theorem d_MO_soften_169 : decode prog_10_method_37_code 169 = .ok (.invokestatic 202, 3) := by decide +kernel
theorem d_MO_soften_172 : decode prog_10_method_37_code 172 = .ok (.lsub, 1) := by decide +kernel
theorem d_MO_soften_173 : decode prog_10_method_37_code 173 = .ok (.invokestatic 198, 3) := by decide +kernel
theorem d_MO_soften_176 : decode prog_10_method_37_code 176 = .ok (.iastore, 1) := by decide +kernel
theorem d_MO_soften_177 : decode prog_10_method_37_code 177 = .ok (.aload_n 0, 1) := by decide +kernel
theorem d_MO_soften_178 : decode prog_10_method_37_code 178 = .ok (.getfield 67, 3) := by decide +kernel
theorem d_MO_soften_181 : decode prog_10_method_37_code 181 = .ok (.iload_n 2, 1) := by decide +kernel
theorem d_MO_soften_182 : decode prog_10_method_37_code 182 = .ok (.iload_n 1, 1) := by decide +kernel
theorem d_MO_soften_183 : decode prog_10_method_37_code 183 = .ok (.imul, 1) := by decide +kernel
theorem d_MO_soften_184 : decode prog_10_method_37_code 184 = .ok (.iconst 2, 1) := by decide +kernel
theorem d_MO_soften_185 : decode prog_10_method_37_code 185 = .ok (.iadd, 1) := by decide +kernel
theorem d_MO_soften_186 : decode prog_10_method_37_code 186 = .ok (.lload 6, 2) := by decide +kernel
theorem d_MO_soften_188 : decode prog_10_method_37_code 188 = .ok (.invokestatic 198, 3) := by decide +kernel
theorem d_MO_soften_191 : decode prog_10_method_37_code 191 = .ok (.iastore, 1) := by decide +kernel
theorem d_MO_soften_192 : decode prog_10_method_37_code 192 = .ok (.aload_n 0, 1) := by decide +kernel
theorem d_MO_soften_193 : decode prog_10_method_37_code 193 = .ok (.getfield 67, 3) := by decide +kernel
theorem d_MO_soften_196 : decode prog_10_method_37_code 196 = .ok (.iload_n 2, 1) := by decide +kernel
theorem d_MO_soften_197 : decode prog_10_method_37_code 197 = .ok (.iload_n 1, 1) := by decide +kernel
theorem d_MO_soften_198 : decode prog_10_method_37_code 198 = .ok (.imul, 1) := by decide +kernel
theorem d_MO_soften_199 : decode prog_10_method_37_code 199 = .ok (.iconst 3, 1) := by decide +kernel
theorem d_MO_soften_200 : decode prog_10_method_37_code 200 = .ok (.iadd, 1) := by decide +kernel
theorem d_MO_soften_201 : decode prog_10_method_37_code 201 = .ok (.lload 10, 2) := by decide +kernel
theorem d_MO_soften_203 : decode prog_10_method_37_code 203 = .ok (.lload 6, 2) := by decide +kernel
theorem d_MO_soften_205 : decode prog_10_method_37_code 205 = .ok (.invokestatic 202, 3) := by decide +kernel
theorem d_MO_soften_208 : decode prog_10_method_37_code 208 = .ok (.lsub, 1) := by decide +kernel
theorem d_MO_soften_209 : decode prog_10_method_37_code 209 = .ok (.invokestatic 198, 3) := by decide +kernel
theorem d_MO_soften_212 : decode prog_10_method_37_code 212 = .ok (.iastore, 1) := by decide +kernel
theorem d_MO_soften_213 : decode prog_10_method_37_code 213 = .ok (.return_, 1) := by decide +kernel
def y_MO_squeeze : MethodName := ⟨"CarrierLinkModel", "squeeze", "(J)I"⟩
theorem hd_MO_squeeze : y_MO_squeeze.cls ≠ "java/lang/invoke/MethodHandle" ∧ y_MO_squeeze.cls ≠ "java/lang/invoke/VarHandle" ∧ (parseMethodDescriptor y_MO_squeeze.desc).map (fun d => d.parameters.length) = some 1 := ⟨by decide +kernel, by decide +kernel, by decide +kernel⟩
theorem d_MO_squeeze_0 : decode prog_10_method_35_code 0 = .ok (.lload_n 0, 1) := by decide +kernel
theorem d_MO_squeeze_1 : decode prog_10_method_35_code 1 = .ok (.bipush 10, 2) := by decide +kernel
theorem d_MO_squeeze_3 : decode prog_10_method_35_code 3 = .ok (.lshr, 1) := by decide +kernel
theorem d_MO_squeeze_4 : decode prog_10_method_35_code 4 = .ok (.lstore_n 2, 1) := by decide +kernel
theorem d_MO_squeeze_5 : decode prog_10_method_35_code 5 = .ok (.lload_n 2, 1) := by decide +kernel
theorem d_MO_squeeze_6 : decode prog_10_method_35_code 6 = .ok (.ldc2_w 192, 3) := by decide +kernel
theorem d_MO_squeeze_9 : decode prog_10_method_35_code 9 = .ok (.lcmp, 1) := by decide +kernel
theorem d_MO_squeeze_10 : decode prog_10_method_35_code 10 = .ok (.ifCond .ge 9, 3) := by decide +kernel
theorem d_MO_squeeze_13 : decode prog_10_method_35_code 13 = .ok (.sipush (-2047), 3) := by decide +kernel
theorem d_MO_squeeze_16 : decode prog_10_method_35_code 16 = .ok (.goto 19, 3) := by decide +kernel
theorem d_MO_squeeze_19 : decode prog_10_method_35_code 19 = .ok (.lload_n 2, 1) := by decide +kernel
theorem d_MO_squeeze_20 : decode prog_10_method_35_code 20 = .ok (.ldc2_w 194, 3) := by decide +kernel
theorem d_MO_squeeze_23 : decode prog_10_method_35_code 23 = .ok (.lcmp, 1) := by decide +kernel
theorem d_MO_squeeze_24 : decode prog_10_method_35_code 24 = .ok (.ifCond .le 9, 3) := by decide +kernel
theorem d_MO_squeeze_27 : decode prog_10_method_35_code 27 = .ok (.sipush 2047, 3) := by decide +kernel
theorem d_MO_squeeze_30 : decode prog_10_method_35_code 30 = .ok (.goto 5, 3) := by decide +kernel
theorem d_MO_squeeze_33 : decode prog_10_method_35_code 33 = .ok (.lload_n 2, 1) := by decide +kernel
theorem d_MO_squeeze_34 : decode prog_10_method_35_code 34 = .ok (.l2i, 1) := by decide +kernel
theorem d_MO_squeeze_35 : decode prog_10_method_35_code 35 = .ok (.ireturn, 1) := by decide +kernel
def y_MO_amount : MethodName := ⟨"CarrierLinkModel", "amount", "(J)J"⟩
theorem hd_MO_amount : y_MO_amount.cls ≠ "java/lang/invoke/MethodHandle" ∧ y_MO_amount.cls ≠ "java/lang/invoke/VarHandle" ∧ (parseMethodDescriptor y_MO_amount.desc).map (fun d => d.parameters.length) = some 1 := ⟨by decide +kernel, by decide +kernel, by decide +kernel⟩
theorem d_MO_amount_0 : decode prog_10_method_36_code 0 = .ok (.lload_n 0, 1) := by decide +kernel
theorem d_MO_amount_1 : decode prog_10_method_36_code 1 = .ok (.lconst 0, 1) := by decide +kernel
theorem d_MO_amount_2 : decode prog_10_method_36_code 2 = .ok (.lcmp, 1) := by decide +kernel
theorem d_MO_amount_3 : decode prog_10_method_36_code 3 = .ok (.ifCond .ge 8, 3) := by decide +kernel
theorem d_MO_amount_6 : decode prog_10_method_36_code 6 = .ok (.lload_n 0, 1) := by decide +kernel
theorem d_MO_amount_7 : decode prog_10_method_36_code 7 = .ok (.lneg, 1) := by decide +kernel
theorem d_MO_amount_8 : decode prog_10_method_36_code 8 = .ok (.goto 4, 3) := by decide +kernel
theorem d_MO_amount_11 : decode prog_10_method_36_code 11 = .ok (.lload_n 0, 1) := by decide +kernel
theorem d_MO_amount_12 : decode prog_10_method_36_code 12 = .ok (.lreturn, 1) := by decide +kernel
def y_MO_decode : MethodName := ⟨"CarrierLinkModel", "decode", "(I)I"⟩
theorem hd_MO_decode : y_MO_decode.cls ≠ "java/lang/invoke/MethodHandle" ∧ y_MO_decode.cls ≠ "java/lang/invoke/VarHandle" ∧ (parseMethodDescriptor y_MO_decode.desc).map (fun d => d.parameters.length) = some 1 := ⟨by decide +kernel, by decide +kernel, by decide +kernel⟩
theorem d_MO_decode_0 : decode prog_10_method_40_code 0 = .ok (.iconst 0, 1) := by decide +kernel
theorem d_MO_decode_1 : decode prog_10_method_40_code 1 = .ok (.istore_n 2, 1) := by decide +kernel
theorem d_MO_decode_2 : decode prog_10_method_40_code 2 = .ok (.iload_n 2, 1) := by decide +kernel
theorem d_MO_decode_3 : decode prog_10_method_40_code 3 = .ok (.bipush 64, 2) := by decide +kernel
theorem d_MO_decode_5 : decode prog_10_method_40_code 5 = .ok (.if_icmp .ge 25, 3) := by decide +kernel
theorem d_MO_decode_8 : decode prog_10_method_40_code 8 = .ok (.aload_n 0, 1) := by decide +kernel
theorem d_MO_decode_9 : decode prog_10_method_40_code 9 = .ok (.getfield 70, 3) := by decide +kernel
theorem d_MO_decode_12 : decode prog_10_method_40_code 12 = .ok (.iload_n 2, 1) := by decide +kernel
theorem d_MO_decode_13 : decode prog_10_method_40_code 13 = .ok (.iload_n 2, 1) := by decide +kernel
theorem d_MO_decode_14 : decode prog_10_method_40_code 14 = .ok (.ifCond .ne 7, 3) := by decide +kernel
theorem d_MO_decode_17 : decode prog_10_method_40_code 17 = .ok (.iconst 0, 1) := by decide +kernel
theorem d_MO_decode_18 : decode prog_10_method_40_code 18 = .ok (.goto 5, 3) := by decide +kernel
theorem d_MO_decode_21 : decode prog_10_method_40_code 21 = .ok (.ldc 209, 2) := by decide +kernel
theorem d_MO_decode_23 : decode prog_10_method_40_code 23 = .ok (.iastore, 1) := by decide +kernel
theorem d_MO_decode_24 : decode prog_10_method_40_code 24 = .ok (.iinc 2 1, 3) := by decide +kernel
theorem d_MO_decode_27 : decode prog_10_method_40_code 27 = .ok (.goto (-25), 3) := by decide +kernel
theorem d_MO_decode_30 : decode prog_10_method_40_code 30 = .ok (.iconst 0, 1) := by decide +kernel
theorem d_MO_decode_31 : decode prog_10_method_40_code 31 = .ok (.istore_n 2, 1) := by decide +kernel
theorem d_MO_decode_32 : decode prog_10_method_40_code 32 = .ok (.iload_n 2, 1) := by decide +kernel
theorem d_MO_decode_33 : decode prog_10_method_40_code 33 = .ok (.iload_n 1, 1) := by decide +kernel
theorem d_MO_decode_34 : decode prog_10_method_40_code 34 = .ok (.if_icmp .ge 126, 3) := by decide +kernel
theorem d_MO_decode_37 : decode prog_10_method_40_code 37 = .ok (.iconst 0, 1) := by decide +kernel
theorem d_MO_decode_38 : decode prog_10_method_40_code 38 = .ok (.istore_n 3, 1) := by decide +kernel
theorem d_MO_decode_39 : decode prog_10_method_40_code 39 = .ok (.iload_n 3, 1) := by decide +kernel
theorem d_MO_decode_40 : decode prog_10_method_40_code 40 = .ok (.bipush 64, 2) := by decide +kernel
theorem d_MO_decode_42 : decode prog_10_method_40_code 42 = .ok (.if_icmp .ge 86, 3) := by decide +kernel
theorem d_MO_decode_45 : decode prog_10_method_40_code 45 = .ok (.aload_n 0, 1) := by decide +kernel
theorem d_MO_decode_46 : decode prog_10_method_40_code 46 = .ok (.getfield 73, 3) := by decide +kernel
theorem d_MO_decode_49 : decode prog_10_method_40_code 49 = .ok (.iload_n 3, 1) := by decide +kernel
theorem d_MO_decode_50 : decode prog_10_method_40_code 50 = .ok (.aload_n 0, 1) := by decide +kernel
theorem d_MO_decode_51 : decode prog_10_method_40_code 51 = .ok (.iload_n 2, 1) := by decide +kernel
theorem d_MO_decode_52 : decode prog_10_method_40_code 52 = .ok (.iload_n 3, 1) := by decide +kernel
theorem d_MO_decode_53 : decode prog_10_method_40_code 53 = .ok (.iconst 0, 1) := by decide +kernel
theorem d_MO_decode_54 : decode prog_10_method_40_code 54 = .ok (.invokevirtual 210, 3) := by decide +kernel
theorem d_MO_decode_57 : decode prog_10_method_40_code 57 = .ok (.iastore, 1) := by decide +kernel
theorem d_MO_decode_58 : decode prog_10_method_40_code 58 = .ok (.aload_n 0, 1) := by decide +kernel
theorem d_MO_decode_59 : decode prog_10_method_40_code 59 = .ok (.iload_n 2, 1) := by decide +kernel
theorem d_MO_decode_60 : decode prog_10_method_40_code 60 = .ok (.iload_n 3, 1) := by decide +kernel
theorem d_MO_decode_61 : decode prog_10_method_40_code 61 = .ok (.iconst 1, 1) := by decide +kernel
theorem d_MO_decode_62 : decode prog_10_method_40_code 62 = .ok (.invokevirtual 210, 3) := by decide +kernel
theorem d_MO_decode_65 : decode prog_10_method_40_code 65 = .ok (.istore 4, 2) := by decide +kernel
theorem d_MO_decode_67 : decode prog_10_method_40_code 67 = .ok (.aload_n 0, 1) := by decide +kernel
theorem d_MO_decode_68 : decode prog_10_method_40_code 68 = .ok (.getfield 76, 3) := by decide +kernel
theorem d_MO_decode_71 : decode prog_10_method_40_code 71 = .ok (.bipush 64, 2) := by decide +kernel
theorem d_MO_decode_73 : decode prog_10_method_40_code 73 = .ok (.iload_n 2, 1) := by decide +kernel
theorem d_MO_decode_74 : decode prog_10_method_40_code 74 = .ok (.imul, 1) := by decide +kernel
theorem d_MO_decode_75 : decode prog_10_method_40_code 75 = .ok (.iload_n 3, 1) := by decide +kernel
theorem d_MO_decode_76 : decode prog_10_method_40_code 76 = .ok (.iadd, 1) := by decide +kernel
theorem d_MO_decode_77 : decode prog_10_method_40_code 77 = .ok (.iload 4, 2) := by decide +kernel
theorem d_MO_decode_79 : decode prog_10_method_40_code 79 = .ok (.aload_n 0, 1) := by decide +kernel
theorem d_MO_decode_80 : decode prog_10_method_40_code 80 = .ok (.getfield 73, 3) := by decide +kernel
theorem d_MO_decode_83 : decode prog_10_method_40_code 83 = .ok (.iload_n 3, 1) := by decide +kernel
theorem d_MO_decode_84 : decode prog_10_method_40_code 84 = .ok (.iaload, 1) := by decide +kernel
theorem d_MO_decode_85 : decode prog_10_method_40_code 85 = .ok (.if_icmp .le 7, 3) := by decide +kernel
theorem d_MO_decode_88 : decode prog_10_method_40_code 88 = .ok (.iconst 1, 1) := by decide +kernel
theorem d_MO_decode_89 : decode prog_10_method_40_code 89 = .ok (.goto 4, 3) := by decide +kernel
theorem d_MO_decode_92 : decode prog_10_method_40_code 92 = .ok (.iconst 0, 1) := by decide +kernel
theorem d_MO_decode_93 : decode prog_10_method_40_code 93 = .ok (.bastore, 1) := by decide +kernel
theorem d_MO_decode_94 : decode prog_10_method_40_code 94 = .ok (.aload_n 0, 1) := by decide +kernel
theorem d_MO_decode_95 : decode prog_10_method_40_code 95 = .ok (.getfield 73, 3) := by decide +kernel
theorem d_MO_decode_98 : decode prog_10_method_40_code 98 = .ok (.iload_n 3, 1) := by decide +kernel
theorem d_MO_decode_99 : decode prog_10_method_40_code 99 = .ok (.iload 4, 2) := by decide +kernel
theorem d_MO_decode_101 : decode prog_10_method_40_code 101 = .ok (.aload_n 0, 1) := by decide +kernel
theorem d_MO_decode_102 : decode prog_10_method_40_code 102 = .ok (.getfield 73, 3) := by decide +kernel
theorem d_MO_decode_105 : decode prog_10_method_40_code 105 = .ok (.iload_n 3, 1) := by decide +kernel
theorem d_MO_decode_106 : decode prog_10_method_40_code 106 = .ok (.iaload, 1) := by decide +kernel
theorem d_MO_decode_107 : decode prog_10_method_40_code 107 = .ok (.if_icmp .le 8, 3) := by decide +kernel
theorem d_MO_decode_110 : decode prog_10_method_40_code 110 = .ok (.iload 4, 2) := by decide +kernel
theorem d_MO_decode_112 : decode prog_10_method_40_code 112 = .ok (.goto 9, 3) := by decide +kernel
theorem d_MO_decode_115 : decode prog_10_method_40_code 115 = .ok (.aload_n 0, 1) := by decide +kernel
theorem d_MO_decode_116 : decode prog_10_method_40_code 116 = .ok (.getfield 73, 3) := by decide +kernel
theorem d_MO_decode_119 : decode prog_10_method_40_code 119 = .ok (.iload_n 3, 1) := by decide +kernel
theorem d_MO_decode_120 : decode prog_10_method_40_code 120 = .ok (.iaload, 1) := by decide +kernel
theorem d_MO_decode_121 : decode prog_10_method_40_code 121 = .ok (.iastore, 1) := by decide +kernel
theorem d_MO_decode_122 : decode prog_10_method_40_code 122 = .ok (.iinc 3 1, 3) := by decide +kernel
theorem d_MO_decode_125 : decode prog_10_method_40_code 125 = .ok (.goto (-86), 3) := by decide +kernel
theorem d_MO_decode_128 : decode prog_10_method_40_code 128 = .ok (.iconst 0, 1) := by decide +kernel
theorem d_MO_decode_129 : decode prog_10_method_40_code 129 = .ok (.istore_n 3, 1) := by decide +kernel
theorem d_MO_decode_130 : decode prog_10_method_40_code 130 = .ok (.iload_n 3, 1) := by decide +kernel
theorem d_MO_decode_131 : decode prog_10_method_40_code 131 = .ok (.bipush 64, 2) := by decide +kernel
theorem d_MO_decode_133 : decode prog_10_method_40_code 133 = .ok (.if_icmp .ge 21, 3) := by decide +kernel
theorem d_MO_decode_136 : decode prog_10_method_40_code 136 = .ok (.aload_n 0, 1) := by decide +kernel
theorem d_MO_decode_137 : decode prog_10_method_40_code 137 = .ok (.getfield 70, 3) := by decide +kernel
theorem d_MO_decode_140 : decode prog_10_method_40_code 140 = .ok (.iload_n 3, 1) := by decide +kernel
theorem d_MO_decode_141 : decode prog_10_method_40_code 141 = .ok (.aload_n 0, 1) := by decide +kernel
theorem d_MO_decode_142 : decode prog_10_method_40_code 142 = .ok (.getfield 73, 3) := by decide +kernel
theorem d_MO_decode_145 : decode prog_10_method_40_code 145 = .ok (.iload_n 3, 1) := by decide +kernel
theorem d_MO_decode_146 : decode prog_10_method_40_code 146 = .ok (.iaload, 1) := by decide +kernel
theorem d_MO_decode_147 : decode prog_10_method_40_code 147 = .ok (.iastore, 1) := by decide +kernel
theorem d_MO_decode_148 : decode prog_10_method_40_code 148 = .ok (.iinc 3 1, 3) := by decide +kernel
theorem d_MO_decode_151 : decode prog_10_method_40_code 151 = .ok (.goto (-21), 3) := by decide +kernel
theorem d_MO_decode_154 : decode prog_10_method_40_code 154 = .ok (.iinc 2 1, 3) := by decide +kernel
theorem d_MO_decode_157 : decode prog_10_method_40_code 157 = .ok (.goto (-125), 3) := by decide +kernel
theorem d_MO_decode_160 : decode prog_10_method_40_code 160 = .ok (.iconst 0, 1) := by decide +kernel
theorem d_MO_decode_161 : decode prog_10_method_40_code 161 = .ok (.istore_n 2, 1) := by decide +kernel
theorem d_MO_decode_162 : decode prog_10_method_40_code 162 = .ok (.iconst 1, 1) := by decide +kernel
theorem d_MO_decode_163 : decode prog_10_method_40_code 163 = .ok (.istore_n 3, 1) := by decide +kernel
theorem d_MO_decode_164 : decode prog_10_method_40_code 164 = .ok (.iload_n 3, 1) := by decide +kernel
theorem d_MO_decode_165 : decode prog_10_method_40_code 165 = .ok (.bipush 64, 2) := by decide +kernel
theorem d_MO_decode_167 : decode prog_10_method_40_code 167 = .ok (.if_icmp .ge 30, 3) := by decide +kernel
theorem d_MO_decode_170 : decode prog_10_method_40_code 170 = .ok (.aload_n 0, 1) := by decide +kernel
theorem d_MO_decode_171 : decode prog_10_method_40_code 171 = .ok (.getfield 70, 3) := by decide +kernel
theorem d_MO_decode_174 : decode prog_10_method_40_code 174 = .ok (.iload_n 3, 1) := by decide +kernel
theorem d_MO_decode_175 : decode prog_10_method_40_code 175 = .ok (.iaload, 1) := by decide +kernel
theorem d_MO_decode_176 : decode prog_10_method_40_code 176 = .ok (.aload_n 0, 1) := by decide +kernel
theorem d_MO_decode_177 : decode prog_10_method_40_code 177 = .ok (.getfield 70, 3) := by decide +kernel
theorem d_MO_decode_180 : decode prog_10_method_40_code 180 = .ok (.iload_n 2, 1) := by decide +kernel
theorem d_MO_decode_181 : decode prog_10_method_40_code 181 = .ok (.iaload, 1) := by decide +kernel
theorem d_MO_decode_182 : decode prog_10_method_40_code 182 = .ok (.if_icmp .le 7, 3) := by decide +kernel
theorem d_MO_decode_185 : decode prog_10_method_40_code 185 = .ok (.iload_n 3, 1) := by decide +kernel
theorem d_MO_decode_186 : decode prog_10_method_40_code 186 = .ok (.goto 4, 3) := by decide +kernel
theorem d_MO_decode_189 : decode prog_10_method_40_code 189 = .ok (.iload_n 2, 1) := by decide +kernel
theorem d_MO_decode_190 : decode prog_10_method_40_code 190 = .ok (.istore_n 2, 1) := by decide +kernel
theorem d_MO_decode_191 : decode prog_10_method_40_code 191 = .ok (.iinc 3 1, 3) := by decide +kernel
theorem d_MO_decode_194 : decode prog_10_method_40_code 194 = .ok (.goto (-30), 3) := by decide +kernel
theorem d_MO_decode_197 : decode prog_10_method_40_code 197 = .ok (.aload_n 0, 1) := by decide +kernel
theorem d_MO_decode_198 : decode prog_10_method_40_code 198 = .ok (.getfield 70, 3) := by decide +kernel
theorem d_MO_decode_201 : decode prog_10_method_40_code 201 = .ok (.iload_n 2, 1) := by decide +kernel
theorem d_MO_decode_202 : decode prog_10_method_40_code 202 = .ok (.iaload, 1) := by decide +kernel
theorem d_MO_decode_203 : decode prog_10_method_40_code 203 = .ok (.istore_n 3, 1) := by decide +kernel
theorem d_MO_decode_204 : decode prog_10_method_40_code 204 = .ok (.iload_n 1, 1) := by decide +kernel
theorem d_MO_decode_205 : decode prog_10_method_40_code 205 = .ok (.iconst 1, 1) := by decide +kernel
theorem d_MO_decode_206 : decode prog_10_method_40_code 206 = .ok (.isub, 1) := by decide +kernel
theorem d_MO_decode_207 : decode prog_10_method_40_code 207 = .ok (.istore 4, 2) := by decide +kernel
theorem d_MO_decode_209 : decode prog_10_method_40_code 209 = .ok (.iload 4, 2) := by decide +kernel
theorem d_MO_decode_211 : decode prog_10_method_40_code 211 = .ok (.ifCond .lt 47, 3) := by decide +kernel
theorem d_MO_decode_214 : decode prog_10_method_40_code 214 = .ok (.aload_n 0, 1) := by decide +kernel
theorem d_MO_decode_215 : decode prog_10_method_40_code 215 = .ok (.getfield 80, 3) := by decide +kernel
theorem d_MO_decode_218 : decode prog_10_method_40_code 218 = .ok (.iload 4, 2) := by decide +kernel
theorem d_MO_decode_220 : decode prog_10_method_40_code 220 = .ok (.iload_n 2, 1) := by decide +kernel
theorem d_MO_decode_221 : decode prog_10_method_40_code 221 = .ok (.iconst 5, 1) := by decide +kernel
theorem d_MO_decode_222 : decode prog_10_method_40_code 222 = .ok (.ishr, 1) := by decide +kernel
theorem d_MO_decode_223 : decode prog_10_method_40_code 223 = .ok (.iastore, 1) := by decide +kernel
theorem d_MO_decode_224 : decode prog_10_method_40_code 224 = .ok (.iload_n 2, 1) := by decide +kernel
theorem d_MO_decode_225 : decode prog_10_method_40_code 225 = .ok (.bipush 31, 2) := by decide +kernel
theorem d_MO_decode_227 : decode prog_10_method_40_code 227 = .ok (.iand, 1) := by decide +kernel
theorem d_MO_decode_228 : decode prog_10_method_40_code 228 = .ok (.iconst 2, 1) := by decide +kernel
theorem d_MO_decode_229 : decode prog_10_method_40_code 229 = .ok (.imul, 1) := by decide +kernel
theorem d_MO_decode_230 : decode prog_10_method_40_code 230 = .ok (.aload_n 0, 1) := by decide +kernel
theorem d_MO_decode_231 : decode prog_10_method_40_code 231 = .ok (.getfield 76, 3) := by decide +kernel
theorem d_MO_decode_234 : decode prog_10_method_40_code 234 = .ok (.bipush 64, 2) := by decide +kernel
theorem d_MO_decode_236 : decode prog_10_method_40_code 236 = .ok (.iload 4, 2) := by decide +kernel
theorem d_MO_decode_238 : decode prog_10_method_40_code 238 = .ok (.imul, 1) := by decide +kernel
theorem d_MO_decode_239 : decode prog_10_method_40_code 239 = .ok (.iload_n 2, 1) := by decide +kernel
theorem d_MO_decode_240 : decode prog_10_method_40_code 240 = .ok (.iadd, 1) := by decide +kernel
theorem d_MO_decode_241 : decode prog_10_method_40_code 241 = .ok (.baload, 1) := by decide +kernel
theorem d_MO_decode_242 : decode prog_10_method_40_code 242 = .ok (.ifCond .eq 7, 3) := by decide +kernel
theorem d_MO_decode_245 : decode prog_10_method_40_code 245 = .ok (.iconst 1, 1) := by decide +kernel
theorem d_MO_decode_246 : decode prog_10_method_40_code 246 = .ok (.goto 4, 3) := by decide +kernel
theorem d_MO_decode_249 : decode prog_10_method_40_code 249 = .ok (.iconst 0, 1) := by decide +kernel
theorem d_MO_decode_250 : decode prog_10_method_40_code 250 = .ok (.iadd, 1) := by decide +kernel
theorem d_MO_decode_251 : decode prog_10_method_40_code 251 = .ok (.istore_n 2, 1) := by decide +kernel
theorem d_MO_decode_252 : decode prog_10_method_40_code 252 = .ok (.iinc 4 (-1), 3) := by decide +kernel
theorem d_MO_decode_255 : decode prog_10_method_40_code 255 = .ok (.goto (-46), 3) := by decide +kernel
theorem d_MO_decode_258 : decode prog_10_method_40_code 258 = .ok (.iload_n 3, 1) := by decide +kernel
theorem d_MO_decode_259 : decode prog_10_method_40_code 259 = .ok (.ireturn, 1) := by decide +kernel
def y_MO_step : MethodName := ⟨"CarrierLinkModel", "step", "(III)I"⟩
theorem hd_MO_step : y_MO_step.cls ≠ "java/lang/invoke/MethodHandle" ∧ y_MO_step.cls ≠ "java/lang/invoke/VarHandle" ∧ (parseMethodDescriptor y_MO_step.desc).map (fun d => d.parameters.length) = some 3 := ⟨by decide +kernel, by decide +kernel, by decide +kernel⟩
theorem d_MO_step_0 : decode prog_10_method_41_code 0 = .ok (.iload_n 2, 1) := by decide +kernel
theorem d_MO_step_1 : decode prog_10_method_41_code 1 = .ok (.bipush 31, 2) := by decide +kernel
theorem d_MO_step_3 : decode prog_10_method_41_code 3 = .ok (.iand, 1) := by decide +kernel
theorem d_MO_step_4 : decode prog_10_method_41_code 4 = .ok (.iconst 2, 1) := by decide +kernel
theorem d_MO_step_5 : decode prog_10_method_41_code 5 = .ok (.imul, 1) := by decide +kernel
theorem d_MO_step_6 : decode prog_10_method_41_code 6 = .ok (.iload_n 3, 1) := by decide +kernel
theorem d_MO_step_7 : decode prog_10_method_41_code 7 = .ok (.iadd, 1) := by decide +kernel
theorem d_MO_step_8 : decode prog_10_method_41_code 8 = .ok (.istore 4, 2) := by decide +kernel
theorem d_MO_step_10 : decode prog_10_method_41_code 10 = .ok (.iload_n 2, 1) := by decide +kernel
theorem d_MO_step_11 : decode prog_10_method_41_code 11 = .ok (.iconst 5, 1) := by decide +kernel
theorem d_MO_step_12 : decode prog_10_method_41_code 12 = .ok (.ishr, 1) := by decide +kernel
theorem d_MO_step_13 : decode prog_10_method_41_code 13 = .ok (.istore 5, 2) := by decide +kernel
theorem d_MO_step_15 : decode prog_10_method_41_code 15 = .ok (.iload 5, 2) := by decide +kernel
theorem d_MO_step_17 : decode prog_10_method_41_code 17 = .ok (.iload 4, 2) := by decide +kernel
theorem d_MO_step_19 : decode prog_10_method_41_code 19 = .ok (.iconst 4, 1) := by decide +kernel
theorem d_MO_step_20 : decode prog_10_method_41_code 20 = .ok (.ishr, 1) := by decide +kernel
theorem d_MO_step_21 : decode prog_10_method_41_code 21 = .ok (.ixor, 1) := by decide +kernel
theorem d_MO_step_22 : decode prog_10_method_41_code 22 = .ok (.iload 4, 2) := by decide +kernel
theorem d_MO_step_24 : decode prog_10_method_41_code 24 = .ok (.iconst 3, 1) := by decide +kernel
theorem d_MO_step_25 : decode prog_10_method_41_code 25 = .ok (.ishr, 1) := by decide +kernel
theorem d_MO_step_26 : decode prog_10_method_41_code 26 = .ok (.ixor, 1) := by decide +kernel
theorem d_MO_step_27 : decode prog_10_method_41_code 27 = .ok (.iload 4, 2) := by decide +kernel
theorem d_MO_step_29 : decode prog_10_method_41_code 29 = .ok (.ixor, 1) := by decide +kernel
theorem d_MO_step_30 : decode prog_10_method_41_code 30 = .ok (.istore 6, 2) := by decide +kernel
theorem d_MO_step_32 : decode prog_10_method_41_code 32 = .ok (.iload 6, 2) := by decide +kernel
theorem d_MO_step_34 : decode prog_10_method_41_code 34 = .ok (.iload 4, 2) := by decide +kernel
theorem d_MO_step_36 : decode prog_10_method_41_code 36 = .ok (.iconst 1, 1) := by decide +kernel
theorem d_MO_step_37 : decode prog_10_method_41_code 37 = .ok (.ishr, 1) := by decide +kernel
theorem d_MO_step_38 : decode prog_10_method_41_code 38 = .ok (.ixor, 1) := by decide +kernel
theorem d_MO_step_39 : decode prog_10_method_41_code 39 = .ok (.iconst 1, 1) := by decide +kernel
theorem d_MO_step_40 : decode prog_10_method_41_code 40 = .ok (.iand, 1) := by decide +kernel
theorem d_MO_step_41 : decode prog_10_method_41_code 41 = .ok (.istore 7, 2) := by decide +kernel
theorem d_MO_step_43 : decode prog_10_method_41_code 43 = .ok (.iload 6, 2) := by decide +kernel
theorem d_MO_step_45 : decode prog_10_method_41_code 45 = .ok (.iload 4, 2) := by decide +kernel
theorem d_MO_step_47 : decode prog_10_method_41_code 47 = .ok (.iconst 5, 1) := by decide +kernel
theorem d_MO_step_48 : decode prog_10_method_41_code 48 = .ok (.ishr, 1) := by decide +kernel
theorem d_MO_step_49 : decode prog_10_method_41_code 49 = .ok (.ixor, 1) := by decide +kernel
theorem d_MO_step_50 : decode prog_10_method_41_code 50 = .ok (.iconst 1, 1) := by decide +kernel
theorem d_MO_step_51 : decode prog_10_method_41_code 51 = .ok (.iand, 1) := by decide +kernel
theorem d_MO_step_52 : decode prog_10_method_41_code 52 = .ok (.istore 8, 2) := by decide +kernel
theorem d_MO_step_54 : decode prog_10_method_41_code 54 = .ok (.aload_n 0, 1) := by decide +kernel
theorem d_MO_step_55 : decode prog_10_method_41_code 55 = .ok (.getfield 70, 3) := by decide +kernel
theorem d_MO_step_58 : decode prog_10_method_41_code 58 = .ok (.iload 4, 2) := by decide +kernel
theorem d_MO_step_60 : decode prog_10_method_41_code 60 = .ok (.iaload, 1) := by decide +kernel
theorem d_MO_step_61 : decode prog_10_method_41_code 61 = .ok (.iload 7, 2) := by decide +kernel
theorem d_MO_step_63 : decode prog_10_method_41_code 63 = .ok (.aload_n 0, 1) := by decide +kernel
theorem d_MO_step_64 : decode prog_10_method_41_code 64 = .ok (.getfield 61, 3) := by decide +kernel
theorem d_MO_step_67 : decode prog_10_method_41_code 67 = .ok (.iload_n 1, 1) := by decide +kernel
theorem d_MO_step_68 : decode prog_10_method_41_code 68 = .ok (.iaload, 1) := by decide +kernel
theorem d_MO_step_69 : decode prog_10_method_41_code 69 = .ok (.invokestatic 213, 3) := by decide +kernel
theorem d_MO_step_72 : decode prog_10_method_41_code 72 = .ok (.iadd, 1) := by decide +kernel
theorem d_MO_step_73 : decode prog_10_method_41_code 73 = .ok (.iload 8, 2) := by decide +kernel
theorem d_MO_step_75 : decode prog_10_method_41_code 75 = .ok (.aload_n 0, 1) := by decide +kernel
theorem d_MO_step_76 : decode prog_10_method_41_code 76 = .ok (.getfield 64, 3) := by decide +kernel
theorem d_MO_step_79 : decode prog_10_method_41_code 79 = .ok (.iload_n 1, 1) := by decide +kernel
theorem d_MO_step_80 : decode prog_10_method_41_code 80 = .ok (.iaload, 1) := by decide +kernel
theorem d_MO_step_81 : decode prog_10_method_41_code 81 = .ok (.invokestatic 213, 3) := by decide +kernel
theorem d_MO_step_84 : decode prog_10_method_41_code 84 = .ok (.iadd, 1) := by decide +kernel
theorem d_MO_step_85 : decode prog_10_method_41_code 85 = .ok (.ireturn, 1) := by decide +kernel
def y_MO_along : MethodName := ⟨"CarrierLinkModel", "along", "(II)I"⟩
theorem hd_MO_along : y_MO_along.cls ≠ "java/lang/invoke/MethodHandle" ∧ y_MO_along.cls ≠ "java/lang/invoke/VarHandle" ∧ (parseMethodDescriptor y_MO_along.desc).map (fun d => d.parameters.length) = some 2 := ⟨by decide +kernel, by decide +kernel, by decide +kernel⟩
theorem d_MO_along_0 : decode prog_10_method_39_code 0 = .ok (.iload_n 0, 1) := by decide +kernel
theorem d_MO_along_1 : decode prog_10_method_39_code 1 = .ok (.iconst 1, 1) := by decide +kernel
theorem d_MO_along_2 : decode prog_10_method_39_code 2 = .ok (.if_icmp .ne 7, 3) := by decide +kernel
theorem d_MO_along_5 : decode prog_10_method_39_code 5 = .ok (.iload_n 1, 1) := by decide +kernel
theorem d_MO_along_6 : decode prog_10_method_39_code 6 = .ok (.goto 5, 3) := by decide +kernel
theorem d_MO_along_9 : decode prog_10_method_39_code 9 = .ok (.iload_n 1, 1) := by decide +kernel
theorem d_MO_along_10 : decode prog_10_method_39_code 10 = .ok (.ineg, 1) := by decide +kernel
theorem d_MO_along_11 : decode prog_10_method_39_code 11 = .ok (.ireturn, 1) := by decide +kernel
def y_MO_got : MethodName := ⟨"CarrierLinkModel", "got", "(I)I"⟩
theorem hd_MO_got : y_MO_got.cls ≠ "java/lang/invoke/MethodHandle" ∧ y_MO_got.cls ≠ "java/lang/invoke/VarHandle" ∧ (parseMethodDescriptor y_MO_got.desc).map (fun d => d.parameters.length) = some 1 := ⟨by decide +kernel, by decide +kernel, by decide +kernel⟩
theorem d_MO_got_0 : decode prog_10_method_45_code 0 = .ok (.aload_n 0, 1) := by decide +kernel
theorem d_MO_got_1 : decode prog_10_method_45_code 1 = .ok (.iconst 0, 1) := by decide +kernel
theorem d_MO_got_2 : decode prog_10_method_45_code 2 = .ok (.putfield 97, 3) := by decide +kernel
theorem d_MO_got_5 : decode prog_10_method_45_code 5 = .ok (.aload_n 0, 1) := by decide +kernel
theorem d_MO_got_6 : decode prog_10_method_45_code 6 = .ok (.getfield 245, 3) := by decide +kernel
theorem d_MO_got_9 : decode prog_10_method_45_code 9 = .ok (.ifCond .eq 22, 3) := by decide +kernel
theorem d_MO_got_12 : decode prog_10_method_45_code 12 = .ok (.aload_n 0, 1) := by decide +kernel
theorem d_MO_got_13 : decode prog_10_method_45_code 13 = .ok (.getfield 252, 3) := by decide +kernel
theorem d_MO_got_16 : decode prog_10_method_45_code 16 = .ok (.ifCond .lt 15, 3) := by decide +kernel
theorem d_MO_got_19 : decode prog_10_method_45_code 19 = .ok (.iload_n 1, 1) := by decide +kernel
theorem d_MO_got_20 : decode prog_10_method_45_code 20 = .ok (.ifCond .lt 11, 3) := by decide +kernel
theorem d_MO_got_23 : decode prog_10_method_45_code 23 = .ok (.iload_n 1, 1) := by decide +kernel
theorem d_MO_got_24 : decode prog_10_method_45_code 24 = .ok (.aload_n 0, 1) := by decide +kernel
theorem d_MO_got_25 : decode prog_10_method_45_code 25 = .ok (.getfield 252, 3) := by decide +kernel
theorem d_MO_got_28 : decode prog_10_method_45_code 28 = .ok (.if_icmp .lt 7, 3) := by decide +kernel
theorem d_MO_got_31 : decode prog_10_method_45_code 31 = .ok (.iconst (-1), 1) := by decide +kernel
theorem d_MO_got_32 : decode prog_10_method_45_code 32 = .ok (.goto 9, 3) := by decide +kernel
theorem d_MO_got_35 : decode prog_10_method_45_code 35 = .ok (.aload_n 0, 1) := by decide +kernel
theorem d_MO_got_36 : decode prog_10_method_45_code 36 = .ok (.getfield 34, 3) := by decide +kernel
theorem d_MO_got_39 : decode prog_10_method_45_code 39 = .ok (.iload_n 1, 1) := by decide +kernel
theorem d_MO_got_40 : decode prog_10_method_45_code 40 = .ok (.iaload, 1) := by decide +kernel
theorem d_MO_got_41 : decode prog_10_method_45_code 41 = .ok (.ireturn, 1) := by decide +kernel
