def y_MO_cut : MethodName := ⟨"CarrierLinkModel", "cut", "(I)Z"⟩
theorem hd_MO_cut : y_MO_cut.cls ≠ "java/lang/invoke/MethodHandle" ∧ y_MO_cut.cls ≠ "java/lang/invoke/VarHandle" ∧ (parseMethodDescriptor y_MO_cut.desc).map (fun d => d.parameters.length) = some 1 := ⟨by decide +kernel, by decide +kernel, by decide +kernel⟩
theorem d_MO_cut_0 : decode prog_10_method_30_code 0 = .ok (.aload_n 0, 1) := by decide +kernel
theorem d_MO_cut_1 : decode prog_10_method_30_code 1 = .ok (.iconst 0, 1) := by decide +kernel
theorem d_MO_cut_2 : decode prog_10_method_30_code 2 = .ok (.putfield 97, 3) := by decide +kernel
theorem d_MO_cut_5 : decode prog_10_method_30_code 5 = .ok (.iload_n 1, 1) := by decide +kernel
theorem d_MO_cut_6 : decode prog_10_method_30_code 6 = .ok (.ifCond .lt 11, 3) := by decide +kernel
theorem d_MO_cut_9 : decode prog_10_method_30_code 9 = .ok (.iload_n 1, 1) := by decide +kernel
theorem d_MO_cut_10 : decode prog_10_method_30_code 10 = .ok (.aload_n 0, 1) := by decide +kernel
theorem d_MO_cut_11 : decode prog_10_method_30_code 11 = .ok (.getfield 176, 3) := by decide +kernel
theorem d_MO_cut_14 : decode prog_10_method_30_code 14 = .ok (.if_icmp .lt 5, 3) := by decide +kernel
theorem d_MO_cut_17 : decode prog_10_method_30_code 17 = .ok (.iconst 0, 1) := by decide +kernel
theorem d_MO_cut_18 : decode prog_10_method_30_code 18 = .ok (.ireturn, 1) := by decide +kernel
theorem d_MO_cut_19 : decode prog_10_method_30_code 19 = .ok (.aload_n 0, 1) := by decide +kernel
theorem d_MO_cut_20 : decode prog_10_method_30_code 20 = .ok (.iload_n 1, 1) := by decide +kernel
theorem d_MO_cut_21 : decode prog_10_method_30_code 21 = .ok (.putfield 176, 3) := by decide +kernel
theorem d_MO_cut_24 : decode prog_10_method_30_code 24 = .ok (.iconst 1, 1) := by decide +kernel
theorem d_MO_cut_25 : decode prog_10_method_30_code 25 = .ok (.ireturn, 1) := by decide +kernel
def y_MO_receive : MethodName := ⟨"CarrierLinkModel", "receive", "()I"⟩
theorem hd_MO_receive : y_MO_receive.cls ≠ "java/lang/invoke/MethodHandle" ∧ y_MO_receive.cls ≠ "java/lang/invoke/VarHandle" ∧ (parseMethodDescriptor y_MO_receive.desc).map (fun d => d.parameters.length) = some 0 := ⟨by decide +kernel, by decide +kernel, by decide +kernel⟩
theorem d_MO_receive_0 : decode prog_10_method_44_code 0 = .ok (.aload_n 0, 1) := by decide +kernel
theorem d_MO_receive_1 : decode prog_10_method_44_code 1 = .ok (.aload_n 0, 1) := by decide +kernel
theorem d_MO_receive_2 : decode prog_10_method_44_code 2 = .ok (.getfield 176, 3) := by decide +kernel
theorem d_MO_receive_5 : decode prog_10_method_44_code 5 = .ok (.ifCond .ne 7, 3) := by decide +kernel
theorem d_MO_receive_8 : decode prog_10_method_44_code 8 = .ok (.iconst 1, 1) := by decide +kernel
theorem d_MO_receive_9 : decode prog_10_method_44_code 9 = .ok (.goto 4, 3) := by decide +kernel
theorem d_MO_receive_12 : decode prog_10_method_44_code 12 = .ok (.iconst 0, 1) := by decide +kernel
theorem d_MO_receive_13 : decode prog_10_method_44_code 13 = .ok (.putfield 97, 3) := by decide +kernel
theorem d_MO_receive_16 : decode prog_10_method_44_code 16 = .ok (.aload_n 0, 1) := by decide +kernel
theorem d_MO_receive_17 : decode prog_10_method_44_code 17 = .ok (.getfield 97, 3) := by decide +kernel
theorem d_MO_receive_20 : decode prog_10_method_44_code 20 = .ok (.ifCond .le 5, 3) := by decide +kernel
theorem d_MO_receive_23 : decode prog_10_method_44_code 23 = .ok (.iconst 0, 1) := by decide +kernel
theorem d_MO_receive_24 : decode prog_10_method_44_code 24 = .ok (.ireturn, 1) := by decide +kernel
theorem d_MO_receive_25 : decode prog_10_method_44_code 25 = .ok (.aload_n 0, 1) := by decide +kernel
theorem d_MO_receive_26 : decode prog_10_method_44_code 26 = .ok (.iconst 1, 1) := by decide +kernel
theorem d_MO_receive_27 : decode prog_10_method_44_code 27 = .ok (.putfield 245, 3) := by decide +kernel
theorem d_MO_receive_30 : decode prog_10_method_44_code 30 = .ok (.aload_n 0, 1) := by decide +kernel
theorem d_MO_receive_31 : decode prog_10_method_44_code 31 = .ok (.aload_n 0, 1) := by decide +kernel
theorem d_MO_receive_32 : decode prog_10_method_44_code 32 = .ok (.invokevirtual 249, 3) := by decide +kernel
theorem d_MO_receive_35 : decode prog_10_method_44_code 35 = .ok (.putfield 252, 3) := by decide +kernel
theorem d_MO_receive_38 : decode prog_10_method_44_code 38 = .ok (.aload_n 0, 1) := by decide +kernel
theorem d_MO_receive_39 : decode prog_10_method_44_code 39 = .ok (.getfield 252, 3) := by decide +kernel
theorem d_MO_receive_42 : decode prog_10_method_44_code 42 = .ok (.ireturn, 1) := by decide +kernel
def y_MO_hear : MethodName := ⟨"CarrierLinkModel", "hear", "()I"⟩
theorem hd_MO_hear : y_MO_hear.cls ≠ "java/lang/invoke/MethodHandle" ∧ y_MO_hear.cls ≠ "java/lang/invoke/VarHandle" ∧ (parseMethodDescriptor y_MO_hear.desc).map (fun d => d.parameters.length) = some 0 := ⟨by decide +kernel, by decide +kernel, by decide +kernel⟩
theorem d_MO_hear_0 : decode prog_10_method_43_code 0 = .ok (.aload_n 0, 1) := by decide +kernel
theorem d_MO_hear_1 : decode prog_10_method_43_code 1 = .ok (.aload_n 0, 1) := by decide +kernel
theorem d_MO_hear_2 : decode prog_10_method_43_code 2 = .ok (.invokevirtual 229, 3) := by decide +kernel
theorem d_MO_hear_5 : decode prog_10_method_43_code 5 = .ok (.putfield 186, 3) := by decide +kernel
theorem d_MO_hear_8 : decode prog_10_method_43_code 8 = .ok (.aload_n 0, 1) := by decide +kernel
theorem d_MO_hear_9 : decode prog_10_method_43_code 9 = .ok (.getfield 186, 3) := by decide +kernel
theorem d_MO_hear_12 : decode prog_10_method_43_code 12 = .ok (.ifCond .ge 6, 3) := by decide +kernel
theorem d_MO_hear_15 : decode prog_10_method_43_code 15 = .ok (.bipush (-2), 2) := by decide +kernel
theorem d_MO_hear_17 : decode prog_10_method_43_code 17 = .ok (.ireturn, 1) := by decide +kernel
theorem d_MO_hear_18 : decode prog_10_method_43_code 18 = .ok (.aload_n 0, 1) := by decide +kernel
theorem d_MO_hear_19 : decode prog_10_method_43_code 19 = .ok (.invokevirtual 232, 3) := by decide +kernel
theorem d_MO_hear_22 : decode prog_10_method_43_code 22 = .ok (.aload_n 0, 1) := by decide +kernel
theorem d_MO_hear_23 : decode prog_10_method_43_code 23 = .ok (.invokevirtual 235, 3) := by decide +kernel
theorem d_MO_hear_26 : decode prog_10_method_43_code 26 = .ok (.ifCond .ne 6, 3) := by decide +kernel
theorem d_MO_hear_29 : decode prog_10_method_43_code 29 = .ok (.bipush (-3), 2) := by decide +kernel
theorem d_MO_hear_31 : decode prog_10_method_43_code 31 = .ok (.ireturn, 1) := by decide +kernel
theorem d_MO_hear_32 : decode prog_10_method_43_code 32 = .ok (.aload_n 0, 1) := by decide +kernel
theorem d_MO_hear_33 : decode prog_10_method_43_code 33 = .ok (.getfield 223, 3) := by decide +kernel
theorem d_MO_hear_36 : decode prog_10_method_43_code 36 = .ok (.aload_n 0, 1) := by decide +kernel
theorem d_MO_hear_37 : decode prog_10_method_43_code 37 = .ok (.getfield 226, 3) := by decide +kernel
theorem d_MO_hear_40 : decode prog_10_method_43_code 40 = .ok (.invokestatic 167, 3) := by decide +kernel
theorem d_MO_hear_43 : decode prog_10_method_43_code 43 = .ok (.istore_n 1, 1) := by decide +kernel
theorem d_MO_hear_44 : decode prog_10_method_43_code 44 = .ok (.aload_n 0, 1) := by decide +kernel
theorem d_MO_hear_45 : decode prog_10_method_43_code 45 = .ok (.getfield 186, 3) := by decide +kernel
theorem d_MO_hear_48 : decode prog_10_method_43_code 48 = .ok (.bipush 100, 2) := by decide +kernel
theorem d_MO_hear_50 : decode prog_10_method_43_code 50 = .ok (.iadd, 1) := by decide +kernel
theorem d_MO_hear_51 : decode prog_10_method_43_code 51 = .ok (.bipush 20, 2) := by decide +kernel
theorem d_MO_hear_53 : decode prog_10_method_43_code 53 = .ok (.iload_n 1, 1) := by decide +kernel
theorem d_MO_hear_54 : decode prog_10_method_43_code 54 = .ok (.imul, 1) := by decide +kernel
theorem d_MO_hear_55 : decode prog_10_method_43_code 55 = .ok (.iadd, 1) := by decide +kernel
theorem d_MO_hear_56 : decode prog_10_method_43_code 56 = .ok (.aload_n 0, 1) := by decide +kernel
theorem d_MO_hear_57 : decode prog_10_method_43_code 57 = .ok (.getfield 176, 3) := by decide +kernel
theorem d_MO_hear_60 : decode prog_10_method_43_code 60 = .ok (.if_icmp .le 6, 3) := by decide +kernel
theorem d_MO_hear_63 : decode prog_10_method_43_code 63 = .ok (.bipush (-4), 2) := by decide +kernel
theorem d_MO_hear_65 : decode prog_10_method_43_code 65 = .ok (.ireturn, 1) := by decide +kernel
theorem d_MO_hear_66 : decode prog_10_method_43_code 66 = .ok (.aload_n 0, 1) := by decide +kernel
theorem d_MO_hear_67 : decode prog_10_method_43_code 67 = .ok (.iconst 3, 1) := by decide +kernel
theorem d_MO_hear_68 : decode prog_10_method_43_code 68 = .ok (.iload_n 1, 1) := by decide +kernel
theorem d_MO_hear_69 : decode prog_10_method_43_code 69 = .ok (.aload_n 0, 1) := by decide +kernel
theorem d_MO_hear_70 : decode prog_10_method_43_code 70 = .ok (.getfield 223, 3) := by decide +kernel
theorem d_MO_hear_73 : decode prog_10_method_43_code 73 = .ok (.invokestatic 173, 3) := by decide +kernel
theorem d_MO_hear_76 : decode prog_10_method_43_code 76 = .ok (.aload_n 0, 1) := by decide +kernel
theorem d_MO_hear_77 : decode prog_10_method_43_code 77 = .ok (.getfield 223, 3) := by decide +kernel
theorem d_MO_hear_80 : decode prog_10_method_43_code 80 = .ok (.iconst 1, 1) := by decide +kernel
theorem d_MO_hear_81 : decode prog_10_method_43_code 81 = .ok (.if_icmp .le 7, 3) := by decide +kernel
theorem d_MO_hear_84 : decode prog_10_method_43_code 84 = .ok (.iconst 1, 1) := by decide +kernel
theorem d_MO_hear_85 : decode prog_10_method_43_code 85 = .ok (.goto 4, 3) := by decide +kernel
theorem d_MO_hear_88 : decode prog_10_method_43_code 88 = .ok (.iconst 0, 1) := by decide +kernel
theorem d_MO_hear_89 : decode prog_10_method_43_code 89 = .ok (.invokevirtual 216, 3) := by decide +kernel
theorem d_MO_hear_92 : decode prog_10_method_43_code 92 = .ok (.istore_n 2, 1) := by decide +kernel
theorem d_MO_hear_93 : decode prog_10_method_43_code 93 = .ok (.aload_n 0, 1) := by decide +kernel
theorem d_MO_hear_94 : decode prog_10_method_43_code 94 = .ok (.aload_n 0, 1) := by decide +kernel
theorem d_MO_hear_95 : decode prog_10_method_43_code 95 = .ok (.iload_n 2, 1) := by decide +kernel
theorem d_MO_hear_96 : decode prog_10_method_43_code 96 = .ok (.invokevirtual 220, 3) := by decide +kernel
theorem d_MO_hear_99 : decode prog_10_method_43_code 99 = .ok (.putfield 239, 3) := by decide +kernel
theorem d_MO_hear_102 : decode prog_10_method_43_code 102 = .ok (.aload_n 0, 1) := by decide +kernel
theorem d_MO_hear_103 : decode prog_10_method_43_code 103 = .ok (.iconst 0, 1) := by decide +kernel
theorem d_MO_hear_104 : decode prog_10_method_43_code 104 = .ok (.putfield 242, 3) := by decide +kernel
theorem d_MO_hear_107 : decode prog_10_method_43_code 107 = .ok (.iconst 0, 1) := by decide +kernel
theorem d_MO_hear_108 : decode prog_10_method_43_code 108 = .ok (.istore_n 3, 1) := by decide +kernel
theorem d_MO_hear_109 : decode prog_10_method_43_code 109 = .ok (.iload_n 3, 1) := by decide +kernel
theorem d_MO_hear_110 : decode prog_10_method_43_code 110 = .ok (.bipush 7, 2) := by decide +kernel
theorem d_MO_hear_112 : decode prog_10_method_43_code 112 = .ok (.if_icmp .ge 26, 3) := by decide +kernel
theorem d_MO_hear_115 : decode prog_10_method_43_code 115 = .ok (.aload_n 0, 1) := by decide +kernel
theorem d_MO_hear_116 : decode prog_10_method_43_code 116 = .ok (.iconst 2, 1) := by decide +kernel
theorem d_MO_hear_117 : decode prog_10_method_43_code 117 = .ok (.aload_n 0, 1) := by decide +kernel
theorem d_MO_hear_118 : decode prog_10_method_43_code 118 = .ok (.getfield 242, 3) := by decide +kernel
theorem d_MO_hear_121 : decode prog_10_method_43_code 121 = .ok (.imul, 1) := by decide +kernel
theorem d_MO_hear_122 : decode prog_10_method_43_code 122 = .ok (.aload_n 0, 1) := by decide +kernel
theorem d_MO_hear_123 : decode prog_10_method_43_code 123 = .ok (.getfield 80, 3) := by decide +kernel
theorem d_MO_hear_126 : decode prog_10_method_43_code 126 = .ok (.iload_n 3, 1) := by decide +kernel
theorem d_MO_hear_127 : decode prog_10_method_43_code 127 = .ok (.iaload, 1) := by decide +kernel
theorem d_MO_hear_128 : decode prog_10_method_43_code 128 = .ok (.iadd, 1) := by decide +kernel
theorem d_MO_hear_129 : decode prog_10_method_43_code 129 = .ok (.putfield 242, 3) := by decide +kernel
theorem d_MO_hear_132 : decode prog_10_method_43_code 132 = .ok (.iinc 3 1, 3) := by decide +kernel
theorem d_MO_hear_135 : decode prog_10_method_43_code 135 = .ok (.goto (-26), 3) := by decide +kernel
theorem d_MO_hear_138 : decode prog_10_method_43_code 138 = .ok (.aload_n 0, 1) := by decide +kernel
theorem d_MO_hear_139 : decode prog_10_method_43_code 139 = .ok (.getfield 242, 3) := by decide +kernel
theorem d_MO_hear_142 : decode prog_10_method_43_code 142 = .ok (.ifCond .ne 6, 3) := by decide +kernel
theorem d_MO_hear_145 : decode prog_10_method_43_code 145 = .ok (.bipush (-5), 2) := by decide +kernel
theorem d_MO_hear_147 : decode prog_10_method_43_code 147 = .ok (.ireturn, 1) := by decide +kernel
theorem d_MO_hear_148 : decode prog_10_method_43_code 148 = .ok (.aload_n 0, 1) := by decide +kernel
theorem d_MO_hear_149 : decode prog_10_method_43_code 149 = .ok (.aload_n 0, 1) := by decide +kernel
theorem d_MO_hear_150 : decode prog_10_method_43_code 150 = .ok (.getfield 242, 3) := by decide +kernel
theorem d_MO_hear_153 : decode prog_10_method_43_code 153 = .ok (.putfield 104, 3) := by decide +kernel
theorem d_MO_hear_156 : decode prog_10_method_43_code 156 = .ok (.iconst 0, 1) := by decide +kernel
theorem d_MO_hear_157 : decode prog_10_method_43_code 157 = .ok (.istore_n 3, 1) := by decide +kernel
theorem d_MO_hear_158 : decode prog_10_method_43_code 158 = .ok (.iload_n 3, 1) := by decide +kernel
theorem d_MO_hear_159 : decode prog_10_method_43_code 159 = .ok (.aload_n 0, 1) := by decide +kernel
theorem d_MO_hear_160 : decode prog_10_method_43_code 160 = .ok (.getfield 226, 3) := by decide +kernel
theorem d_MO_hear_163 : decode prog_10_method_43_code 163 = .ok (.if_icmp .ge 64, 3) := by decide +kernel
theorem d_MO_hear_166 : decode prog_10_method_43_code 166 = .ok (.aload_n 0, 1) := by decide +kernel
theorem d_MO_hear_167 : decode prog_10_method_43_code 167 = .ok (.getfield 34, 3) := by decide +kernel
theorem d_MO_hear_170 : decode prog_10_method_43_code 170 = .ok (.iload_n 3, 1) := by decide +kernel
theorem d_MO_hear_171 : decode prog_10_method_43_code 171 = .ok (.iconst 0, 1) := by decide +kernel
theorem d_MO_hear_172 : decode prog_10_method_43_code 172 = .ok (.iastore, 1) := by decide +kernel
theorem d_MO_hear_173 : decode prog_10_method_43_code 173 = .ok (.iconst 0, 1) := by decide +kernel
theorem d_MO_hear_174 : decode prog_10_method_43_code 174 = .ok (.istore 4, 2) := by decide +kernel
theorem d_MO_hear_176 : decode prog_10_method_43_code 176 = .ok (.iload 4, 2) := by decide +kernel
theorem d_MO_hear_178 : decode prog_10_method_43_code 178 = .ok (.bipush 8, 2) := by decide +kernel
theorem d_MO_hear_180 : decode prog_10_method_43_code 180 = .ok (.if_icmp .ge 41, 3) := by decide +kernel
theorem d_MO_hear_183 : decode prog_10_method_43_code 183 = .ok (.aload_n 0, 1) := by decide +kernel
theorem d_MO_hear_184 : decode prog_10_method_43_code 184 = .ok (.getfield 34, 3) := by decide +kernel
theorem d_MO_hear_187 : decode prog_10_method_43_code 187 = .ok (.iload_n 3, 1) := by decide +kernel
theorem d_MO_hear_188 : decode prog_10_method_43_code 188 = .ok (.dup2, 1) := by decide +kernel
theorem d_MO_hear_189 : decode prog_10_method_43_code 189 = .ok (.iaload, 1) := by decide +kernel
theorem d_MO_hear_190 : decode prog_10_method_43_code 190 = .ok (.aload_n 0, 1) := by decide +kernel
theorem d_MO_hear_191 : decode prog_10_method_43_code 191 = .ok (.getfield 80, 3) := by decide +kernel
theorem d_MO_hear_194 : decode prog_10_method_43_code 194 = .ok (.bipush 7, 2) := by decide +kernel
theorem d_MO_hear_196 : decode prog_10_method_43_code 196 = .ok (.bipush 8, 2) := by decide +kernel
theorem d_MO_hear_198 : decode prog_10_method_43_code 198 = .ok (.iload_n 3, 1) := by decide +kernel
theorem d_MO_hear_199 : decode prog_10_method_43_code 199 = .ok (.imul, 1) := by decide +kernel
theorem d_MO_hear_200 : decode prog_10_method_43_code 200 = .ok (.iadd, 1) := by decide +kernel
theorem d_MO_hear_201 : decode prog_10_method_43_code 201 = .ok (.iload 4, 2) := by decide +kernel
theorem d_MO_hear_203 : decode prog_10_method_43_code 203 = .ok (.iadd, 1) := by decide +kernel
theorem d_MO_hear_204 : decode prog_10_method_43_code 204 = .ok (.iaload, 1) := by decide +kernel
theorem d_MO_hear_205 : decode prog_10_method_43_code 205 = .ok (.aload_n 0, 1) := by decide +kernel
theorem d_MO_hear_206 : decode prog_10_method_43_code 206 = .ok (.invokevirtual 147, 3) := by decide +kernel
theorem d_MO_hear_209 : decode prog_10_method_43_code 209 = .ok (.ixor, 1) := by decide +kernel
theorem d_MO_hear_210 : decode prog_10_method_43_code 210 = .ok (.iload 4, 2) := by decide +kernel
theorem d_MO_hear_212 : decode prog_10_method_43_code 212 = .ok (.ishl, 1) := by decide +kernel
theorem d_MO_hear_213 : decode prog_10_method_43_code 213 = .ok (.ior, 1) := by decide +kernel
theorem d_MO_hear_214 : decode prog_10_method_43_code 214 = .ok (.iastore, 1) := by decide +kernel
theorem d_MO_hear_215 : decode prog_10_method_43_code 215 = .ok (.iinc 4 1, 3) := by decide +kernel
theorem d_MO_hear_218 : decode prog_10_method_43_code 218 = .ok (.goto (-42), 3) := by decide +kernel
theorem d_MO_hear_221 : decode prog_10_method_43_code 221 = .ok (.iinc 3 1, 3) := by decide +kernel
theorem d_MO_hear_224 : decode prog_10_method_43_code 224 = .ok (.goto (-66), 3) := by decide +kernel
theorem d_MO_hear_227 : decode prog_10_method_43_code 227 = .ok (.aload_n 0, 1) := by decide +kernel
theorem d_MO_hear_228 : decode prog_10_method_43_code 228 = .ok (.getfield 226, 3) := by decide +kernel
theorem d_MO_hear_231 : decode prog_10_method_43_code 231 = .ok (.ireturn, 1) := by decide +kernel
def y_MO_find : MethodName := ⟨"CarrierLinkModel", "find", "()I"⟩
theorem hd_MO_find : y_MO_find.cls ≠ "java/lang/invoke/MethodHandle" ∧ y_MO_find.cls ≠ "java/lang/invoke/VarHandle" ∧ (parseMethodDescriptor y_MO_find.desc).map (fun d => d.parameters.length) = some 0 := ⟨by decide +kernel, by decide +kernel, by decide +kernel⟩
theorem d_MO_find_0 : decode prog_10_method_32_code 0 = .ok (.lconst 0, 1) := by decide +kernel
theorem d_MO_find_1 : decode prog_10_method_32_code 1 = .ok (.lstore_n 1, 1) := by decide +kernel
theorem d_MO_find_2 : decode prog_10_method_32_code 2 = .ok (.bipush (-2), 2) := by decide +kernel
theorem d_MO_find_4 : decode prog_10_method_32_code 4 = .ok (.istore_n 3, 1) := by decide +kernel
theorem d_MO_find_5 : decode prog_10_method_32_code 5 = .ok (.iconst 0, 1) := by decide +kernel
theorem d_MO_find_6 : decode prog_10_method_32_code 6 = .ok (.istore 4, 2) := by decide +kernel
theorem d_MO_find_8 : decode prog_10_method_32_code 8 = .ok (.iload 4, 2) := by decide +kernel
theorem d_MO_find_10 : decode prog_10_method_32_code 10 = .ok (.bipush 40, 2) := by decide +kernel
theorem d_MO_find_12 : decode prog_10_method_32_code 12 = .ok (.if_icmp .gt 46, 3) := by decide +kernel
theorem d_MO_find_15 : decode prog_10_method_32_code 15 = .ok (.iload 4, 2) := by decide +kernel
theorem d_MO_find_17 : decode prog_10_method_32_code 17 = .ok (.bipush 100, 2) := by decide +kernel
theorem d_MO_find_19 : decode prog_10_method_32_code 19 = .ok (.iadd, 1) := by decide +kernel
theorem d_MO_find_20 : decode prog_10_method_32_code 20 = .ok (.aload_n 0, 1) := by decide +kernel
theorem d_MO_find_21 : decode prog_10_method_32_code 21 = .ok (.getfield 176, 3) := by decide +kernel
theorem d_MO_find_24 : decode prog_10_method_32_code 24 = .ok (.if_icmp .gt 34, 3) := by decide +kernel
theorem d_MO_find_27 : decode prog_10_method_32_code 27 = .ok (.aload_n 0, 1) := by decide +kernel
theorem d_MO_find_28 : decode prog_10_method_32_code 28 = .ok (.iload 4, 2) := by decide +kernel
theorem d_MO_find_30 : decode prog_10_method_32_code 30 = .ok (.invokevirtual 180, 3) := by decide +kernel
theorem d_MO_find_33 : decode prog_10_method_32_code 33 = .ok (.lstore 5, 2) := by decide +kernel
theorem d_MO_find_35 : decode prog_10_method_32_code 35 = .ok (.iload_n 3, 1) := by decide +kernel
theorem d_MO_find_36 : decode prog_10_method_32_code 36 = .ok (.ifCond .lt 10, 3) := by decide +kernel
theorem d_MO_find_39 : decode prog_10_method_32_code 39 = .ok (.lload 5, 2) := by decide +kernel
theorem d_MO_find_41 : decode prog_10_method_32_code 41 = .ok (.lload_n 1, 1) := by decide +kernel
theorem d_MO_find_42 : decode prog_10_method_32_code 42 = .ok (.lcmp, 1) := by decide +kernel
theorem d_MO_find_43 : decode prog_10_method_32_code 43 = .ok (.ifCond .le 9, 3) := by decide +kernel
theorem d_MO_find_46 : decode prog_10_method_32_code 46 = .ok (.lload 5, 2) := by decide +kernel
theorem d_MO_find_48 : decode prog_10_method_32_code 48 = .ok (.lstore_n 1, 1) := by decide +kernel
theorem d_MO_find_49 : decode prog_10_method_32_code 49 = .ok (.iload 4, 2) := by decide +kernel
theorem d_MO_find_51 : decode prog_10_method_32_code 51 = .ok (.istore_n 3, 1) := by decide +kernel
theorem d_MO_find_52 : decode prog_10_method_32_code 52 = .ok (.iinc 4 1, 3) := by decide +kernel
theorem d_MO_find_55 : decode prog_10_method_32_code 55 = .ok (.goto (-47), 3) := by decide +kernel
theorem d_MO_find_58 : decode prog_10_method_32_code 58 = .ok (.lload_n 1, 1) := by decide +kernel
theorem d_MO_find_59 : decode prog_10_method_32_code 59 = .ok (.ldc2_w 184, 3) := by decide +kernel
theorem d_MO_find_62 : decode prog_10_method_32_code 62 = .ok (.lcmp, 1) := by decide +kernel
theorem d_MO_find_63 : decode prog_10_method_32_code 63 = .ok (.ifCond .ge 8, 3) := by decide +kernel
theorem d_MO_find_66 : decode prog_10_method_32_code 66 = .ok (.bipush (-2), 2) := by decide +kernel
theorem d_MO_find_68 : decode prog_10_method_32_code 68 = .ok (.goto 4, 3) := by decide +kernel
theorem d_MO_find_71 : decode prog_10_method_32_code 71 = .ok (.iload_n 3, 1) := by decide +kernel
theorem d_MO_find_72 : decode prog_10_method_32_code 72 = .ok (.ireturn, 1) := by decide +kernel
def y_MO_power : MethodName := ⟨"CarrierLinkModel", "power", "(I)J"⟩
theorem hd_MO_power : y_MO_power.cls ≠ "java/lang/invoke/MethodHandle" ∧ y_MO_power.cls ≠ "java/lang/invoke/VarHandle" ∧ (parseMethodDescriptor y_MO_power.desc).map (fun d => d.parameters.length) = some 1 := ⟨by decide +kernel, by decide +kernel, by decide +kernel⟩
theorem d_MO_power_0 : decode prog_10_method_31_code 0 = .ok (.lconst 0, 1) := by decide +kernel
theorem d_MO_power_1 : decode prog_10_method_31_code 1 = .ok (.lstore_n 2, 1) := by decide +kernel
theorem d_MO_power_2 : decode prog_10_method_31_code 2 = .ok (.lconst 0, 1) := by decide +kernel
theorem d_MO_power_3 : decode prog_10_method_31_code 3 = .ok (.lstore 4, 2) := by decide +kernel
theorem d_MO_power_5 : decode prog_10_method_31_code 5 = .ok (.iconst 0, 1) := by decide +kernel
theorem d_MO_power_6 : decode prog_10_method_31_code 6 = .ok (.istore 6, 2) := by decide +kernel
theorem d_MO_power_8 : decode prog_10_method_31_code 8 = .ok (.iload 6, 2) := by decide +kernel
theorem d_MO_power_10 : decode prog_10_method_31_code 10 = .ok (.bipush 32, 2) := by decide +kernel
theorem d_MO_power_12 : decode prog_10_method_31_code 12 = .ok (.if_icmp .ge 105, 3) := by decide +kernel
theorem d_MO_power_15 : decode prog_10_method_31_code 15 = .ok (.aload_n 0, 1) := by decide +kernel
theorem d_MO_power_16 : decode prog_10_method_31_code 16 = .ok (.getfield 28, 3) := by decide +kernel
theorem d_MO_power_19 : decode prog_10_method_31_code 19 = .ok (.iload_n 1, 1) := by decide +kernel
theorem d_MO_power_20 : decode prog_10_method_31_code 20 = .ok (.bipush 8, 2) := by decide +kernel
theorem d_MO_power_22 : decode prog_10_method_31_code 22 = .ok (.iadd, 1) := by decide +kernel
theorem d_MO_power_23 : decode prog_10_method_31_code 23 = .ok (.iload 6, 2) := by decide +kernel
theorem d_MO_power_25 : decode prog_10_method_31_code 25 = .ok (.iadd, 1) := by decide +kernel
theorem d_MO_power_26 : decode prog_10_method_31_code 26 = .ok (.iaload, 1) := by decide +kernel
theorem d_MO_power_27 : decode prog_10_method_31_code 27 = .ok (.i2l, 1) := by decide +kernel
theorem d_MO_power_28 : decode prog_10_method_31_code 28 = .ok (.lstore 7, 2) := by decide +kernel
theorem d_MO_power_30 : decode prog_10_method_31_code 30 = .ok (.aload_n 0, 1) := by decide +kernel
theorem d_MO_power_31 : decode prog_10_method_31_code 31 = .ok (.getfield 31, 3) := by decide +kernel
theorem d_MO_power_34 : decode prog_10_method_31_code 34 = .ok (.iload_n 1, 1) := by decide +kernel
theorem d_MO_power_35 : decode prog_10_method_31_code 35 = .ok (.bipush 8, 2) := by decide +kernel
theorem d_MO_power_37 : decode prog_10_method_31_code 37 = .ok (.iadd, 1) := by decide +kernel
theorem d_MO_power_38 : decode prog_10_method_31_code 38 = .ok (.iload 6, 2) := by decide +kernel
theorem d_MO_power_40 : decode prog_10_method_31_code 40 = .ok (.iadd, 1) := by decide +kernel
theorem d_MO_power_41 : decode prog_10_method_31_code 41 = .ok (.iaload, 1) := by decide +kernel
theorem d_MO_power_42 : decode prog_10_method_31_code 42 = .ok (.i2l, 1) := by decide +kernel
theorem d_MO_power_43 : decode prog_10_method_31_code 43 = .ok (.lstore 9, 2) := by decide +kernel
theorem d_MO_power_45 : decode prog_10_method_31_code 45 = .ok (.lload_n 2, 1) := by decide +kernel
theorem d_MO_power_46 : decode prog_10_method_31_code 46 = .ok (.lload 7, 2) := by decide +kernel
theorem d_MO_power_48 : decode prog_10_method_31_code 48 = .ok (.aload_n 0, 1) := by decide +kernel
theorem d_MO_power_49 : decode prog_10_method_31_code 49 = .ok (.getfield 52, 3) := by decide +kernel
theorem d_MO_power_52 : decode prog_10_method_31_code 52 = .ok (.iload 6, 2) := by decide +kernel
theorem d_MO_power_54 : decode prog_10_method_31_code 54 = .ok (.bipush 16, 2) := by decide +kernel
theorem d_MO_power_56 : decode prog_10_method_31_code 56 = .ok (.irem, 1) := by decide +kernel
theorem d_MO_power_57 : decode prog_10_method_31_code 57 = .ok (.iaload, 1) := by decide +kernel
theorem d_MO_power_58 : decode prog_10_method_31_code 58 = .ok (.i2l, 1) := by decide +kernel
theorem d_MO_power_59 : decode prog_10_method_31_code 59 = .ok (.lmul, 1) := by decide +kernel
theorem d_MO_power_60 : decode prog_10_method_31_code 60 = .ok (.lload 9, 2) := by decide +kernel
theorem d_MO_power_62 : decode prog_10_method_31_code 62 = .ok (.aload_n 0, 1) := by decide +kernel
theorem d_MO_power_63 : decode prog_10_method_31_code 63 = .ok (.getfield 55, 3) := by decide +kernel
theorem d_MO_power_66 : decode prog_10_method_31_code 66 = .ok (.iload 6, 2) := by decide +kernel
theorem d_MO_power_68 : decode prog_10_method_31_code 68 = .ok (.bipush 16, 2) := by decide +kernel
theorem d_MO_power_70 : decode prog_10_method_31_code 70 = .ok (.irem, 1) := by decide +kernel
theorem d_MO_power_71 : decode prog_10_method_31_code 71 = .ok (.iaload, 1) := by decide +kernel
theorem d_MO_power_72 : decode prog_10_method_31_code 72 = .ok (.i2l, 1) := by decide +kernel
theorem d_MO_power_73 : decode prog_10_method_31_code 73 = .ok (.lmul, 1) := by decide +kernel
theorem d_MO_power_74 : decode prog_10_method_31_code 74 = .ok (.ladd, 1) := by decide +kernel
theorem d_MO_power_75 : decode prog_10_method_31_code 75 = .ok (.ladd, 1) := by decide +kernel
theorem d_MO_power_76 : decode prog_10_method_31_code 76 = .ok (.lstore_n 2, 1) := by decide +kernel
theorem d_MO_power_77 : decode prog_10_method_31_code 77 = .ok (.lload 4, 2) := by decide +kernel
theorem d_MO_power_79 : decode prog_10_method_31_code 79 = .ok (.lload 9, 2) := by decide +kernel
theorem d_MO_power_81 : decode prog_10_method_31_code 81 = .ok (.aload_n 0, 1) := by decide +kernel
theorem d_MO_power_82 : decode prog_10_method_31_code 82 = .ok (.getfield 52, 3) := by decide +kernel
theorem d_MO_power_85 : decode prog_10_method_31_code 85 = .ok (.iload 6, 2) := by decide +kernel
theorem d_MO_power_87 : decode prog_10_method_31_code 87 = .ok (.bipush 16, 2) := by decide +kernel
theorem d_MO_power_89 : decode prog_10_method_31_code 89 = .ok (.irem, 1) := by decide +kernel
theorem d_MO_power_90 : decode prog_10_method_31_code 90 = .ok (.iaload, 1) := by decide +kernel
theorem d_MO_power_91 : decode prog_10_method_31_code 91 = .ok (.i2l, 1) := by decide +kernel
theorem d_MO_power_92 : decode prog_10_method_31_code 92 = .ok (.lmul, 1) := by decide +kernel
theorem d_MO_power_93 : decode prog_10_method_31_code 93 = .ok (.lload 7, 2) := by decide +kernel
theorem d_MO_power_95 : decode prog_10_method_31_code 95 = .ok (.aload_n 0, 1) := by decide +kernel
theorem d_MO_power_96 : decode prog_10_method_31_code 96 = .ok (.getfield 55, 3) := by decide +kernel
theorem d_MO_power_99 : decode prog_10_method_31_code 99 = .ok (.iload 6, 2) := by decide +kernel
theorem d_MO_power_101 : decode prog_10_method_31_code 101 = .ok (.bipush 16, 2) := by decide +kernel
theorem d_MO_power_103 : decode prog_10_method_31_code 103 = .ok (.irem, 1) := by decide +kernel
theorem d_MO_power_104 : decode prog_10_method_31_code 104 = .ok (.iaload, 1) := by decide +kernel
theorem d_MO_power_105 : decode prog_10_method_31_code 105 = .ok (.i2l, 1) := by decide +kernel
theorem d_MO_power_106 : decode prog_10_method_31_code 106 = .ok (.lmul, 1) := by decide +kernel
theorem d_MO_power_107 : decode prog_10_method_31_code 107 = .ok (.lsub, 1) := by decide +kernel
theorem d_MO_power_108 : decode prog_10_method_31_code 108 = .ok (.ladd, 1) := by decide +kernel
theorem d_MO_power_109 : decode prog_10_method_31_code 109 = .ok (.lstore 4, 2) := by decide +kernel
theorem d_MO_power_111 : decode prog_10_method_31_code 111 = .ok (.iinc 6 1, 3) := by decide +kernel
theorem d_MO_power_114 : decode prog_10_method_31_code 114 = .ok (.goto (-106), 3) := by decide +kernel
theorem d_MO_power_117 : decode prog_10_method_31_code 117 = .ok (.lload_n 2, 1) := by decide +kernel
theorem d_MO_power_118 : decode prog_10_method_31_code 118 = .ok (.bipush 8, 2) := by decide +kernel
theorem d_MO_power_120 : decode prog_10_method_31_code 120 = .ok (.lshr, 1) := by decide +kernel
theorem d_MO_power_121 : decode prog_10_method_31_code 121 = .ok (.lstore_n 2, 1) := by decide +kernel
theorem d_MO_power_122 : decode prog_10_method_31_code 122 = .ok (.lload 4, 2) := by decide +kernel
theorem d_MO_power_124 : decode prog_10_method_31_code 124 = .ok (.bipush 8, 2) := by decide +kernel
theorem d_MO_power_126 : decode prog_10_method_31_code 126 = .ok (.lshr, 1) := by decide +kernel
theorem d_MO_power_127 : decode prog_10_method_31_code 127 = .ok (.lstore 4, 2) := by decide +kernel
theorem d_MO_power_129 : decode prog_10_method_31_code 129 = .ok (.lload_n 2, 1) := by decide +kernel
theorem d_MO_power_130 : decode prog_10_method_31_code 130 = .ok (.lload_n 2, 1) := by decide +kernel
theorem d_MO_power_131 : decode prog_10_method_31_code 131 = .ok (.lmul, 1) := by decide +kernel
theorem d_MO_power_132 : decode prog_10_method_31_code 132 = .ok (.lload 4, 2) := by decide +kernel
theorem d_MO_power_134 : decode prog_10_method_31_code 134 = .ok (.lload 4, 2) := by decide +kernel
theorem d_MO_power_136 : decode prog_10_method_31_code 136 = .ok (.lmul, 1) := by decide +kernel
theorem d_MO_power_137 : decode prog_10_method_31_code 137 = .ok (.ladd, 1) := by decide +kernel
theorem d_MO_power_138 : decode prog_10_method_31_code 138 = .ok (.lreturn, 1) := by decide +kernel
def y_MO_learn : MethodName := ⟨"CarrierLinkModel", "learn", "()V"⟩
theorem hd_MO_learn : y_MO_learn.cls ≠ "java/lang/invoke/MethodHandle" ∧ y_MO_learn.cls ≠ "java/lang/invoke/VarHandle" ∧ (parseMethodDescriptor y_MO_learn.desc).map (fun d => d.parameters.length) = some 0 := ⟨by decide +kernel, by decide +kernel, by decide +kernel⟩
theorem d_MO_learn_0 : decode prog_10_method_34_code 0 = .ok (.iconst 0, 1) := by decide +kernel
theorem d_MO_learn_1 : decode prog_10_method_34_code 1 = .ok (.istore_n 1, 1) := by decide +kernel
theorem d_MO_learn_2 : decode prog_10_method_34_code 2 = .ok (.iload_n 1, 1) := by decide +kernel
theorem d_MO_learn_3 : decode prog_10_method_34_code 3 = .ok (.bipush 16, 2) := by decide +kernel
theorem d_MO_learn_5 : decode prog_10_method_34_code 5 = .ok (.if_icmp .ge 23, 3) := by decide +kernel
theorem d_MO_learn_8 : decode prog_10_method_34_code 8 = .ok (.aload_n 0, 1) := by decide +kernel
theorem d_MO_learn_9 : decode prog_10_method_34_code 9 = .ok (.getfield 37, 3) := by decide +kernel
theorem d_MO_learn_12 : decode prog_10_method_34_code 12 = .ok (.iload_n 1, 1) := by decide +kernel
theorem d_MO_learn_13 : decode prog_10_method_34_code 13 = .ok (.iconst 0, 1) := by decide +kernel
theorem d_MO_learn_14 : decode prog_10_method_34_code 14 = .ok (.iastore, 1) := by decide +kernel
theorem d_MO_learn_15 : decode prog_10_method_34_code 15 = .ok (.aload_n 0, 1) := by decide +kernel
theorem d_MO_learn_16 : decode prog_10_method_34_code 16 = .ok (.getfield 40, 3) := by decide +kernel
theorem d_MO_learn_19 : decode prog_10_method_34_code 19 = .ok (.iload_n 1, 1) := by decide +kernel
theorem d_MO_learn_20 : decode prog_10_method_34_code 20 = .ok (.iconst 0, 1) := by decide +kernel
theorem d_MO_learn_21 : decode prog_10_method_34_code 21 = .ok (.iastore, 1) := by decide +kernel
theorem d_MO_learn_22 : decode prog_10_method_34_code 22 = .ok (.iinc 1 1, 3) := by decide +kernel
theorem d_MO_learn_25 : decode prog_10_method_34_code 25 = .ok (.goto (-23), 3) := by decide +kernel
theorem d_MO_learn_28 : decode prog_10_method_34_code 28 = .ok (.iconst 0, 1) := by decide +kernel
theorem d_MO_learn_29 : decode prog_10_method_34_code 29 = .ok (.istore_n 1, 1) := by decide +kernel
theorem d_MO_learn_30 : decode prog_10_method_34_code 30 = .ok (.iload_n 1, 1) := by decide +kernel
theorem d_MO_learn_31 : decode prog_10_method_34_code 31 = .ok (.iconst 2, 1) := by decide +kernel
theorem d_MO_learn_32 : decode prog_10_method_34_code 32 = .ok (.if_icmp .ge 79, 3) := by decide +kernel
theorem d_MO_learn_35 : decode prog_10_method_34_code 35 = .ok (.aload_n 0, 1) := by decide +kernel
theorem d_MO_learn_36 : decode prog_10_method_34_code 36 = .ok (.aload_n 0, 1) := by decide +kernel
theorem d_MO_learn_37 : decode prog_10_method_34_code 37 = .ok (.getfield 186, 3) := by decide +kernel
theorem d_MO_learn_40 : decode prog_10_method_34_code 40 = .ok (.bipush 8, 2) := by decide +kernel
theorem d_MO_learn_42 : decode prog_10_method_34_code 42 = .ok (.iadd, 1) := by decide +kernel
theorem d_MO_learn_43 : decode prog_10_method_34_code 43 = .ok (.bipush 16, 2) := by decide +kernel
theorem d_MO_learn_45 : decode prog_10_method_34_code 45 = .ok (.iload_n 1, 1) := by decide +kernel
theorem d_MO_learn_46 : decode prog_10_method_34_code 46 = .ok (.imul, 1) := by decide +kernel
theorem d_MO_learn_47 : decode prog_10_method_34_code 47 = .ok (.iadd, 1) := by decide +kernel
theorem d_MO_learn_48 : decode prog_10_method_34_code 48 = .ok (.invokevirtual 189, 3) := by decide +kernel
theorem d_MO_learn_51 : decode prog_10_method_34_code 51 = .ok (.iconst 0, 1) := by decide +kernel
theorem d_MO_learn_52 : decode prog_10_method_34_code 52 = .ok (.istore_n 2, 1) := by decide +kernel
theorem d_MO_learn_53 : decode prog_10_method_34_code 53 = .ok (.iload_n 2, 1) := by decide +kernel
theorem d_MO_learn_54 : decode prog_10_method_34_code 54 = .ok (.bipush 16, 2) := by decide +kernel
theorem d_MO_learn_56 : decode prog_10_method_34_code 56 = .ok (.if_icmp .ge 49, 3) := by decide +kernel
theorem d_MO_learn_59 : decode prog_10_method_34_code 59 = .ok (.aload_n 0, 1) := by decide +kernel
theorem d_MO_learn_60 : decode prog_10_method_34_code 60 = .ok (.getfield 37, 3) := by decide +kernel
theorem d_MO_learn_63 : decode prog_10_method_34_code 63 = .ok (.iload_n 2, 1) := by decide +kernel
theorem d_MO_learn_64 : decode prog_10_method_34_code 64 = .ok (.dup2, 1) := by decide +kernel
theorem d_MO_learn_65 : decode prog_10_method_34_code 65 = .ok (.iaload, 1) := by decide +kernel
theorem d_MO_learn_66 : decode prog_10_method_34_code 66 = .ok (.iload_n 2, 1) := by decide +kernel
theorem d_MO_learn_67 : decode prog_10_method_34_code 67 = .ok (.invokestatic 90, 3) := by decide +kernel
theorem d_MO_learn_70 : decode prog_10_method_34_code 70 = .ok (.aload_n 0, 1) := by decide +kernel
theorem d_MO_learn_71 : decode prog_10_method_34_code 71 = .ok (.getfield 43, 3) := by decide +kernel
theorem d_MO_learn_74 : decode prog_10_method_34_code 74 = .ok (.iload_n 2, 1) := by decide +kernel
theorem d_MO_learn_75 : decode prog_10_method_34_code 75 = .ok (.iaload, 1) := by decide +kernel
theorem d_MO_learn_76 : decode prog_10_method_34_code 76 = .ok (.imul, 1) := by decide +kernel
theorem d_MO_learn_77 : decode prog_10_method_34_code 77 = .ok (.iadd, 1) := by decide +kernel
theorem d_MO_learn_78 : decode prog_10_method_34_code 78 = .ok (.iastore, 1) := by decide +kernel
theorem d_MO_learn_79 : decode prog_10_method_34_code 79 = .ok (.aload_n 0, 1) := by decide +kernel
theorem d_MO_learn_80 : decode prog_10_method_34_code 80 = .ok (.getfield 40, 3) := by decide +kernel
theorem d_MO_learn_83 : decode prog_10_method_34_code 83 = .ok (.iload_n 2, 1) := by decide +kernel
theorem d_MO_learn_84 : decode prog_10_method_34_code 84 = .ok (.dup2, 1) := by decide +kernel
theorem d_MO_learn_85 : decode prog_10_method_34_code 85 = .ok (.iaload, 1) := by decide +kernel
theorem d_MO_learn_86 : decode prog_10_method_34_code 86 = .ok (.iload_n 2, 1) := by decide +kernel
theorem d_MO_learn_87 : decode prog_10_method_34_code 87 = .ok (.invokestatic 90, 3) := by decide +kernel
theorem d_MO_learn_90 : decode prog_10_method_34_code 90 = .ok (.aload_n 0, 1) := by decide +kernel
theorem d_MO_learn_91 : decode prog_10_method_34_code 91 = .ok (.getfield 46, 3) := by decide +kernel
theorem d_MO_learn_94 : decode prog_10_method_34_code 94 = .ok (.iload_n 2, 1) := by decide +kernel
theorem d_MO_learn_95 : decode prog_10_method_34_code 95 = .ok (.iaload, 1) := by decide +kernel
theorem d_MO_learn_96 : decode prog_10_method_34_code 96 = .ok (.imul, 1) := by decide +kernel
theorem d_MO_learn_97 : decode prog_10_method_34_code 97 = .ok (.iadd, 1) := by decide +kernel
theorem d_MO_learn_98 : decode prog_10_method_34_code 98 = .ok (.iastore, 1) := by decide +kernel
theorem d_MO_learn_99 : decode prog_10_method_34_code 99 = .ok (.iinc 2 1, 3) := by decide +kernel
theorem d_MO_learn_102 : decode prog_10_method_34_code 102 = .ok (.goto (-49), 3) := by decide +kernel
theorem d_MO_learn_105 : decode prog_10_method_34_code 105 = .ok (.iinc 1 1, 3) := by decide +kernel
theorem d_MO_learn_108 : decode prog_10_method_34_code 108 = .ok (.goto (-78), 3) := by decide +kernel
theorem d_MO_learn_111 : decode prog_10_method_34_code 111 = .ok (.return_, 1) := by decide +kernel
def y_MO_load : MethodName := ⟨"CarrierLinkModel", "load", "(I)V"⟩
theorem hd_MO_load : y_MO_load.cls ≠ "java/lang/invoke/MethodHandle" ∧ y_MO_load.cls ≠ "java/lang/invoke/VarHandle" ∧ (parseMethodDescriptor y_MO_load.desc).map (fun d => d.parameters.length) = some 1 := ⟨by decide +kernel, by decide +kernel, by decide +kernel⟩
theorem d_MO_load_0 : decode prog_10_method_33_code 0 = .ok (.iconst 0, 1) := by decide +kernel
theorem d_MO_load_1 : decode prog_10_method_33_code 1 = .ok (.istore_n 2, 1) := by decide +kernel
theorem d_MO_load_2 : decode prog_10_method_33_code 2 = .ok (.iload_n 2, 1) := by decide +kernel
theorem d_MO_load_3 : decode prog_10_method_33_code 3 = .ok (.bipush 16, 2) := by decide +kernel
theorem d_MO_load_5 : decode prog_10_method_33_code 5 = .ok (.if_icmp .ge 37, 3) := by decide +kernel
theorem d_MO_load_8 : decode prog_10_method_33_code 8 = .ok (.aload_n 0, 1) := by decide +kernel
theorem d_MO_load_9 : decode prog_10_method_33_code 9 = .ok (.getfield 43, 3) := by decide +kernel
theorem d_MO_load_12 : decode prog_10_method_33_code 12 = .ok (.iload_n 2, 1) := by decide +kernel
theorem d_MO_load_13 : decode prog_10_method_33_code 13 = .ok (.aload_n 0, 1) := by decide +kernel
theorem d_MO_load_14 : decode prog_10_method_33_code 14 = .ok (.getfield 28, 3) := by decide +kernel
theorem d_MO_load_17 : decode prog_10_method_33_code 17 = .ok (.iload_n 1, 1) := by decide +kernel
theorem d_MO_load_18 : decode prog_10_method_33_code 18 = .ok (.iload_n 2, 1) := by decide +kernel
theorem d_MO_load_19 : decode prog_10_method_33_code 19 = .ok (.iadd, 1) := by decide +kernel
theorem d_MO_load_20 : decode prog_10_method_33_code 20 = .ok (.iaload, 1) := by decide +kernel
theorem d_MO_load_21 : decode prog_10_method_33_code 21 = .ok (.iastore, 1) := by decide +kernel
theorem d_MO_load_22 : decode prog_10_method_33_code 22 = .ok (.aload_n 0, 1) := by decide +kernel
theorem d_MO_load_23 : decode prog_10_method_33_code 23 = .ok (.getfield 46, 3) := by decide +kernel
theorem d_MO_load_26 : decode prog_10_method_33_code 26 = .ok (.iload_n 2, 1) := by decide +kernel
theorem d_MO_load_27 : decode prog_10_method_33_code 27 = .ok (.aload_n 0, 1) := by decide +kernel
theorem d_MO_load_28 : decode prog_10_method_33_code 28 = .ok (.getfield 31, 3) := by decide +kernel
theorem d_MO_load_31 : decode prog_10_method_33_code 31 = .ok (.iload_n 1, 1) := by decide +kernel
theorem d_MO_load_32 : decode prog_10_method_33_code 32 = .ok (.iload_n 2, 1) := by decide +kernel
theorem d_MO_load_33 : decode prog_10_method_33_code 33 = .ok (.iadd, 1) := by decide +kernel
theorem d_MO_load_34 : decode prog_10_method_33_code 34 = .ok (.iaload, 1) := by decide +kernel
theorem d_MO_load_35 : decode prog_10_method_33_code 35 = .ok (.iastore, 1) := by decide +kernel
theorem d_MO_load_36 : decode prog_10_method_33_code 36 = .ok (.iinc 2 1, 3) := by decide +kernel
theorem d_MO_load_39 : decode prog_10_method_33_code 39 = .ok (.goto (-37), 3) := by decide +kernel
theorem d_MO_load_42 : decode prog_10_method_33_code 42 = .ok (.aload_n 0, 1) := by decide +kernel
theorem d_MO_load_43 : decode prog_10_method_33_code 43 = .ok (.iconst (-1), 1) := by decide +kernel
theorem d_MO_load_44 : decode prog_10_method_33_code 44 = .ok (.invokevirtual 93, 3) := by decide +kernel
theorem d_MO_load_47 : decode prog_10_method_33_code 47 = .ok (.return_, 1) := by decide +kernel
def y_MO_readSignal : MethodName := ⟨"CarrierLinkModel", "readSignal", "()Z"⟩
theorem hd_MO_readSignal : y_MO_readSignal.cls ≠ "java/lang/invoke/MethodHandle" ∧ y_MO_readSignal.cls ≠ "java/lang/invoke/VarHandle" ∧ (parseMethodDescriptor y_MO_readSignal.desc).map (fun d => d.parameters.length) = some 0 := ⟨by decide +kernel, by decide +kernel, by decide +kernel⟩
theorem d_MO_readSignal_0 : decode prog_10_method_42_code 0 = .ok (.aload_n 0, 1) := by decide +kernel
theorem d_MO_readSignal_1 : decode prog_10_method_42_code 1 = .ok (.iconst 0, 1) := by decide +kernel
theorem d_MO_readSignal_2 : decode prog_10_method_42_code 2 = .ok (.iconst 3, 1) := by decide +kernel
theorem d_MO_readSignal_3 : decode prog_10_method_42_code 3 = .ok (.iconst 1, 1) := by decide +kernel
theorem d_MO_readSignal_4 : decode prog_10_method_42_code 4 = .ok (.iconst 0, 1) := by decide +kernel
theorem d_MO_readSignal_5 : decode prog_10_method_42_code 5 = .ok (.invokevirtual 216, 3) := by decide +kernel
theorem d_MO_readSignal_8 : decode prog_10_method_42_code 8 = .ok (.istore_n 1, 1) := by decide +kernel
theorem d_MO_readSignal_9 : decode prog_10_method_42_code 9 = .ok (.aload_n 0, 1) := by decide +kernel
theorem d_MO_readSignal_10 : decode prog_10_method_42_code 10 = .ok (.iload_n 1, 1) := by decide +kernel
theorem d_MO_readSignal_11 : decode prog_10_method_42_code 11 = .ok (.invokevirtual 220, 3) := by decide +kernel
theorem d_MO_readSignal_14 : decode prog_10_method_42_code 14 = .ok (.istore_n 2, 1) := by decide +kernel
theorem d_MO_readSignal_15 : decode prog_10_method_42_code 15 = .ok (.iconst 0, 1) := by decide +kernel
theorem d_MO_readSignal_16 : decode prog_10_method_42_code 16 = .ok (.istore_n 3, 1) := by decide +kernel
theorem d_MO_readSignal_17 : decode prog_10_method_42_code 17 = .ok (.iconst 0, 1) := by decide +kernel
theorem d_MO_readSignal_18 : decode prog_10_method_42_code 18 = .ok (.istore 4, 2) := by decide +kernel
theorem d_MO_readSignal_20 : decode prog_10_method_42_code 20 = .ok (.iload 4, 2) := by decide +kernel
theorem d_MO_readSignal_22 : decode prog_10_method_42_code 22 = .ok (.bipush 7, 2) := by decide +kernel
theorem d_MO_readSignal_24 : decode prog_10_method_42_code 24 = .ok (.if_icmp .ge 19, 3) := by decide +kernel
theorem d_MO_readSignal_27 : decode prog_10_method_42_code 27 = .ok (.iload_n 3, 1) := by decide +kernel
theorem d_MO_readSignal_28 : decode prog_10_method_42_code 28 = .ok (.aload_n 0, 1) := by decide +kernel
theorem d_MO_readSignal_29 : decode prog_10_method_42_code 29 = .ok (.getfield 80, 3) := by decide +kernel
theorem d_MO_readSignal_32 : decode prog_10_method_42_code 32 = .ok (.iload 4, 2) := by decide +kernel
theorem d_MO_readSignal_34 : decode prog_10_method_42_code 34 = .ok (.iaload, 1) := by decide +kernel
theorem d_MO_readSignal_35 : decode prog_10_method_42_code 35 = .ok (.iadd, 1) := by decide +kernel
theorem d_MO_readSignal_36 : decode prog_10_method_42_code 36 = .ok (.istore_n 3, 1) := by decide +kernel
theorem d_MO_readSignal_37 : decode prog_10_method_42_code 37 = .ok (.iinc 4 1, 3) := by decide +kernel
theorem d_MO_readSignal_40 : decode prog_10_method_42_code 40 = .ok (.goto (-20), 3) := by decide +kernel
theorem d_MO_readSignal_43 : decode prog_10_method_42_code 43 = .ok (.iload_n 3, 1) := by decide +kernel
theorem d_MO_readSignal_44 : decode prog_10_method_42_code 44 = .ok (.iconst 2, 1) := by decide +kernel
theorem d_MO_readSignal_45 : decode prog_10_method_42_code 45 = .ok (.irem, 1) := by decide +kernel
theorem d_MO_readSignal_46 : decode prog_10_method_42_code 46 = .ok (.ifCond .ne 7, 3) := by decide +kernel
theorem d_MO_readSignal_49 : decode prog_10_method_42_code 49 = .ok (.iconst 1, 1) := by decide +kernel
theorem d_MO_readSignal_50 : decode prog_10_method_42_code 50 = .ok (.goto 4, 3) := by decide +kernel
theorem d_MO_readSignal_53 : decode prog_10_method_42_code 53 = .ok (.iconst 0, 1) := by decide +kernel
theorem d_MO_readSignal_54 : decode prog_10_method_42_code 54 = .ok (.istore 4, 2) := by decide +kernel
theorem d_MO_readSignal_56 : decode prog_10_method_42_code 56 = .ok (.bipush 7, 2) := by decide +kernel
theorem d_MO_readSignal_58 : decode prog_10_method_42_code 58 = .ok (.istore 5, 2) := by decide +kernel
theorem d_MO_readSignal_60 : decode prog_10_method_42_code 60 = .ok (.iload 5, 2) := by decide +kernel
theorem d_MO_readSignal_62 : decode prog_10_method_42_code 62 = .ok (.bipush 18, 2) := by decide +kernel
theorem d_MO_readSignal_64 : decode prog_10_method_42_code 64 = .ok (.if_icmp .ge 31, 3) := by decide +kernel
theorem d_MO_readSignal_67 : decode prog_10_method_42_code 67 = .ok (.iload 4, 2) := by decide +kernel
theorem d_MO_readSignal_69 : decode prog_10_method_42_code 69 = .ok (.ifCond .eq 17, 3) := by decide +kernel
theorem d_MO_readSignal_72 : decode prog_10_method_42_code 72 = .ok (.aload_n 0, 1) := by decide +kernel
theorem d_MO_readSignal_73 : decode prog_10_method_42_code 73 = .ok (.getfield 80, 3) := by decide +kernel
theorem d_MO_readSignal_76 : decode prog_10_method_42_code 76 = .ok (.iload 5, 2) := by decide +kernel
theorem d_MO_readSignal_78 : decode prog_10_method_42_code 78 = .ok (.iaload, 1) := by decide +kernel
theorem d_MO_readSignal_79 : decode prog_10_method_42_code 79 = .ok (.ifCond .ne 7, 3) := by decide +kernel
theorem d_MO_readSignal_82 : decode prog_10_method_42_code 82 = .ok (.iconst 1, 1) := by decide +kernel
theorem d_MO_readSignal_83 : decode prog_10_method_42_code 83 = .ok (.goto 4, 3) := by decide +kernel
theorem d_MO_readSignal_86 : decode prog_10_method_42_code 86 = .ok (.iconst 0, 1) := by decide +kernel
theorem d_MO_readSignal_87 : decode prog_10_method_42_code 87 = .ok (.istore 4, 2) := by decide +kernel
theorem d_MO_readSignal_89 : decode prog_10_method_42_code 89 = .ok (.iinc 5 1, 3) := by decide +kernel
theorem d_MO_readSignal_92 : decode prog_10_method_42_code 92 = .ok (.goto (-32), 3) := by decide +kernel
theorem d_MO_readSignal_95 : decode prog_10_method_42_code 95 = .ok (.aload_n 0, 1) := by decide +kernel
theorem d_MO_readSignal_96 : decode prog_10_method_42_code 96 = .ok (.aload_n 0, 1) := by decide +kernel
theorem d_MO_readSignal_97 : decode prog_10_method_42_code 97 = .ok (.getfield 80, 3) := by decide +kernel
theorem d_MO_readSignal_100 : decode prog_10_method_42_code 100 = .ok (.iconst 0, 1) := by decide +kernel
theorem d_MO_readSignal_101 : decode prog_10_method_42_code 101 = .ok (.iaload, 1) := by decide +kernel
theorem d_MO_readSignal_102 : decode prog_10_method_42_code 102 = .ok (.iconst 2, 1) := by decide +kernel
theorem d_MO_readSignal_103 : decode prog_10_method_42_code 103 = .ok (.aload_n 0, 1) := by decide +kernel
theorem d_MO_readSignal_104 : decode prog_10_method_42_code 104 = .ok (.getfield 80, 3) := by decide +kernel
theorem d_MO_readSignal_107 : decode prog_10_method_42_code 107 = .ok (.iconst 1, 1) := by decide +kernel
theorem d_MO_readSignal_108 : decode prog_10_method_42_code 108 = .ok (.iaload, 1) := by decide +kernel
theorem d_MO_readSignal_109 : decode prog_10_method_42_code 109 = .ok (.imul, 1) := by decide +kernel
theorem d_MO_readSignal_110 : decode prog_10_method_42_code 110 = .ok (.iadd, 1) := by decide +kernel
theorem d_MO_readSignal_111 : decode prog_10_method_42_code 111 = .ok (.putfield 223, 3) := by decide +kernel
theorem d_MO_readSignal_114 : decode prog_10_method_42_code 114 = .ok (.aload_n 0, 1) := by decide +kernel
theorem d_MO_readSignal_115 : decode prog_10_method_42_code 115 = .ok (.aload_n 0, 1) := by decide +kernel
theorem d_MO_readSignal_116 : decode prog_10_method_42_code 116 = .ok (.getfield 80, 3) := by decide +kernel
theorem d_MO_readSignal_119 : decode prog_10_method_42_code 119 = .ok (.iconst 2, 1) := by decide +kernel
theorem d_MO_readSignal_120 : decode prog_10_method_42_code 120 = .ok (.iaload, 1) := by decide +kernel
theorem d_MO_readSignal_121 : decode prog_10_method_42_code 121 = .ok (.iconst 2, 1) := by decide +kernel
theorem d_MO_readSignal_122 : decode prog_10_method_42_code 122 = .ok (.aload_n 0, 1) := by decide +kernel
theorem d_MO_readSignal_123 : decode prog_10_method_42_code 123 = .ok (.getfield 80, 3) := by decide +kernel
theorem d_MO_readSignal_126 : decode prog_10_method_42_code 126 = .ok (.iconst 3, 1) := by decide +kernel
theorem d_MO_readSignal_127 : decode prog_10_method_42_code 127 = .ok (.iaload, 1) := by decide +kernel
theorem d_MO_readSignal_128 : decode prog_10_method_42_code 128 = .ok (.imul, 1) := by decide +kernel
theorem d_MO_readSignal_129 : decode prog_10_method_42_code 129 = .ok (.iadd, 1) := by decide +kernel
theorem d_MO_readSignal_130 : decode prog_10_method_42_code 130 = .ok (.iconst 4, 1) := by decide +kernel
theorem d_MO_readSignal_131 : decode prog_10_method_42_code 131 = .ok (.aload_n 0, 1) := by decide +kernel
theorem d_MO_readSignal_132 : decode prog_10_method_42_code 132 = .ok (.getfield 80, 3) := by decide +kernel
theorem d_MO_readSignal_135 : decode prog_10_method_42_code 135 = .ok (.iconst 4, 1) := by decide +kernel
theorem d_MO_readSignal_136 : decode prog_10_method_42_code 136 = .ok (.iaload, 1) := by decide +kernel
theorem d_MO_readSignal_137 : decode prog_10_method_42_code 137 = .ok (.imul, 1) := by decide +kernel
theorem d_MO_readSignal_138 : decode prog_10_method_42_code 138 = .ok (.iadd, 1) := by decide +kernel
theorem d_MO_readSignal_139 : decode prog_10_method_42_code 139 = .ok (.bipush 8, 2) := by decide +kernel
theorem d_MO_readSignal_141 : decode prog_10_method_42_code 141 = .ok (.aload_n 0, 1) := by decide +kernel
theorem d_MO_readSignal_142 : decode prog_10_method_42_code 142 = .ok (.getfield 80, 3) := by decide +kernel
theorem d_MO_readSignal_145 : decode prog_10_method_42_code 145 = .ok (.iconst 5, 1) := by decide +kernel
theorem d_MO_readSignal_146 : decode prog_10_method_42_code 146 = .ok (.iaload, 1) := by decide +kernel
theorem d_MO_readSignal_147 : decode prog_10_method_42_code 147 = .ok (.imul, 1) := by decide +kernel
theorem d_MO_readSignal_148 : decode prog_10_method_42_code 148 = .ok (.iadd, 1) := by decide +kernel
theorem d_MO_readSignal_149 : decode prog_10_method_42_code 149 = .ok (.putfield 226, 3) := by decide +kernel
theorem d_MO_readSignal_152 : decode prog_10_method_42_code 152 = .ok (.iload 4, 2) := by decide +kernel
theorem d_MO_readSignal_154 : decode prog_10_method_42_code 154 = .ok (.ifCond .eq 23, 3) := by decide +kernel
theorem d_MO_readSignal_157 : decode prog_10_method_42_code 157 = .ok (.aload_n 0, 1) := by decide +kernel
theorem d_MO_readSignal_158 : decode prog_10_method_42_code 158 = .ok (.getfield 226, 3) := by decide +kernel
theorem d_MO_readSignal_161 : decode prog_10_method_42_code 161 = .ok (.ifCond .le 16, 3) := by decide +kernel
theorem d_MO_readSignal_164 : decode prog_10_method_42_code 164 = .ok (.aload_n 0, 1) := by decide +kernel
theorem d_MO_readSignal_165 : decode prog_10_method_42_code 165 = .ok (.getfield 226, 3) := by decide +kernel
theorem d_MO_readSignal_168 : decode prog_10_method_42_code 168 = .ok (.bipush 12, 2) := by decide +kernel
theorem d_MO_readSignal_170 : decode prog_10_method_42_code 170 = .ok (.if_icmp .gt 7, 3) := by decide +kernel
theorem d_MO_readSignal_173 : decode prog_10_method_42_code 173 = .ok (.iconst 1, 1) := by decide +kernel
theorem d_MO_readSignal_174 : decode prog_10_method_42_code 174 = .ok (.goto 4, 3) := by decide +kernel
theorem d_MO_readSignal_177 : decode prog_10_method_42_code 177 = .ok (.iconst 0, 1) := by decide +kernel
theorem d_MO_readSignal_178 : decode prog_10_method_42_code 178 = .ok (.ireturn, 1) := by decide +kernel
