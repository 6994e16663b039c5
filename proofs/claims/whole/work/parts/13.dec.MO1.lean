def y_MO_thrown : MethodName := ⟨"CarrierLinkModel", "thrown", "()I"⟩
theorem hd_MO_thrown : y_MO_thrown.cls ≠ "java/lang/invoke/MethodHandle" ∧ y_MO_thrown.cls ≠ "java/lang/invoke/VarHandle" ∧ (parseMethodDescriptor y_MO_thrown.desc).map (fun d => d.parameters.length) = some 0 := ⟨by decide +kernel, by decide +kernel, by decide +kernel⟩
theorem d_MO_thrown_0 : decode prog_10_method_3_code 0 = .ok (.aload_n 0, 1) := by decide +kernel
theorem d_MO_thrown_1 : decode prog_10_method_3_code 1 = .ok (.getfield 97, 3) := by decide +kernel
theorem d_MO_thrown_4 : decode prog_10_method_3_code 4 = .ok (.ireturn, 1) := by decide +kernel
def y_MO_put : MethodName := ⟨"CarrierLinkModel", "put", "(IJ)Z"⟩
theorem hd_MO_put : y_MO_put.cls ≠ "java/lang/invoke/MethodHandle" ∧ y_MO_put.cls ≠ "java/lang/invoke/VarHandle" ∧ (parseMethodDescriptor y_MO_put.desc).map (fun d => d.parameters.length) = some 2 := ⟨by decide +kernel, by decide +kernel, by decide +kernel⟩
theorem d_MO_put_0 : decode prog_10_method_16_code 0 = .ok (.aload_n 0, 1) := by decide +kernel
theorem d_MO_put_1 : decode prog_10_method_16_code 1 = .ok (.iconst 0, 1) := by decide +kernel
theorem d_MO_put_2 : decode prog_10_method_16_code 2 = .ok (.putfield 97, 3) := by decide +kernel
theorem d_MO_put_5 : decode prog_10_method_16_code 5 = .ok (.iload_n 1, 1) := by decide +kernel
theorem d_MO_put_6 : decode prog_10_method_16_code 6 = .ok (.iconst 1, 1) := by decide +kernel
theorem d_MO_put_7 : decode prog_10_method_16_code 7 = .ok (.if_icmp .lt 20, 3) := by decide +kernel
theorem d_MO_put_10 : decode prog_10_method_16_code 10 = .ok (.iload_n 1, 1) := by decide +kernel
theorem d_MO_put_11 : decode prog_10_method_16_code 11 = .ok (.bipush 8, 2) := by decide +kernel
theorem d_MO_put_13 : decode prog_10_method_16_code 13 = .ok (.if_icmp .gt 14, 3) := by decide +kernel
theorem d_MO_put_16 : decode prog_10_method_16_code 16 = .ok (.aload_n 0, 1) := by decide +kernel
theorem d_MO_put_17 : decode prog_10_method_16_code 17 = .ok (.getfield 117, 3) := by decide +kernel
theorem d_MO_put_20 : decode prog_10_method_16_code 20 = .ok (.iload_n 1, 1) := by decide +kernel
theorem d_MO_put_21 : decode prog_10_method_16_code 21 = .ok (.iadd, 1) := by decide +kernel
theorem d_MO_put_22 : decode prog_10_method_16_code 22 = .ok (.bipush 12, 2) := by decide +kernel
theorem d_MO_put_24 : decode prog_10_method_16_code 24 = .ok (.if_icmp .le 5, 3) := by decide +kernel
theorem d_MO_put_27 : decode prog_10_method_16_code 27 = .ok (.iconst 0, 1) := by decide +kernel
theorem d_MO_put_28 : decode prog_10_method_16_code 28 = .ok (.ireturn, 1) := by decide +kernel
theorem d_MO_put_29 : decode prog_10_method_16_code 29 = .ok (.iload_n 1, 1) := by decide +kernel
theorem d_MO_put_30 : decode prog_10_method_16_code 30 = .ok (.iconst 1, 1) := by decide +kernel
theorem d_MO_put_31 : decode prog_10_method_16_code 31 = .ok (.isub, 1) := by decide +kernel
theorem d_MO_put_32 : decode prog_10_method_16_code 32 = .ok (.istore 4, 2) := by decide +kernel
theorem d_MO_put_34 : decode prog_10_method_16_code 34 = .ok (.iload 4, 2) := by decide +kernel
theorem d_MO_put_36 : decode prog_10_method_16_code 36 = .ok (.ifCond .lt 40, 3) := by decide +kernel
theorem d_MO_put_39 : decode prog_10_method_16_code 39 = .ok (.aload_n 0, 1) := by decide +kernel
theorem d_MO_put_40 : decode prog_10_method_16_code 40 = .ok (.getfield 7, 3) := by decide +kernel
theorem d_MO_put_43 : decode prog_10_method_16_code 43 = .ok (.aload_n 0, 1) := by decide +kernel
theorem d_MO_put_44 : decode prog_10_method_16_code 44 = .ok (.getfield 117, 3) := by decide +kernel
theorem d_MO_put_47 : decode prog_10_method_16_code 47 = .ok (.lload_n 2, 1) := by decide +kernel
theorem d_MO_put_48 : decode prog_10_method_16_code 48 = .ok (.bipush 8, 2) := by decide +kernel
theorem d_MO_put_50 : decode prog_10_method_16_code 50 = .ok (.iload 4, 2) := by decide +kernel
theorem d_MO_put_52 : decode prog_10_method_16_code 52 = .ok (.imul, 1) := by decide +kernel
theorem d_MO_put_53 : decode prog_10_method_16_code 53 = .ok (.lshr, 1) := by decide +kernel
theorem d_MO_put_54 : decode prog_10_method_16_code 54 = .ok (.l2i, 1) := by decide +kernel
theorem d_MO_put_55 : decode prog_10_method_16_code 55 = .ok (.sipush 255, 3) := by decide +kernel
theorem d_MO_put_58 : decode prog_10_method_16_code 58 = .ok (.iand, 1) := by decide +kernel
theorem d_MO_put_59 : decode prog_10_method_16_code 59 = .ok (.iastore, 1) := by decide +kernel
theorem d_MO_put_60 : decode prog_10_method_16_code 60 = .ok (.aload_n 0, 1) := by decide +kernel
theorem d_MO_put_61 : decode prog_10_method_16_code 61 = .ok (.dup, 1) := by decide +kernel
theorem d_MO_put_62 : decode prog_10_method_16_code 62 = .ok (.getfield 117, 3) := by decide +kernel
theorem d_MO_put_65 : decode prog_10_method_16_code 65 = .ok (.iconst 1, 1) := by decide +kernel
theorem d_MO_put_66 : decode prog_10_method_16_code 66 = .ok (.iadd, 1) := by decide +kernel
theorem d_MO_put_67 : decode prog_10_method_16_code 67 = .ok (.putfield 117, 3) := by decide +kernel
theorem d_MO_put_70 : decode prog_10_method_16_code 70 = .ok (.iinc 4 (-1), 3) := by decide +kernel
theorem d_MO_put_73 : decode prog_10_method_16_code 73 = .ok (.goto (-39), 3) := by decide +kernel
theorem d_MO_put_76 : decode prog_10_method_16_code 76 = .ok (.iconst 1, 1) := by decide +kernel
theorem d_MO_put_77 : decode prog_10_method_16_code 77 = .ok (.ireturn, 1) := by decide +kernel
def y_MO_wipe : MethodName := ⟨"CarrierLinkModel", "wipe", "()V"⟩
theorem hd_MO_wipe : y_MO_wipe.cls ≠ "java/lang/invoke/MethodHandle" ∧ y_MO_wipe.cls ≠ "java/lang/invoke/VarHandle" ∧ (parseMethodDescriptor y_MO_wipe.desc).map (fun d => d.parameters.length) = some 0 := ⟨by decide +kernel, by decide +kernel, by decide +kernel⟩
theorem d_MO_wipe_0 : decode prog_10_method_17_code 0 = .ok (.aload_n 0, 1) := by decide +kernel
theorem d_MO_wipe_1 : decode prog_10_method_17_code 1 = .ok (.iconst 0, 1) := by decide +kernel
theorem d_MO_wipe_2 : decode prog_10_method_17_code 2 = .ok (.putfield 97, 3) := by decide +kernel
theorem d_MO_wipe_5 : decode prog_10_method_17_code 5 = .ok (.aload_n 0, 1) := by decide +kernel
theorem d_MO_wipe_6 : decode prog_10_method_17_code 6 = .ok (.iconst 0, 1) := by decide +kernel
theorem d_MO_wipe_7 : decode prog_10_method_17_code 7 = .ok (.putfield 117, 3) := by decide +kernel
theorem d_MO_wipe_10 : decode prog_10_method_17_code 10 = .ok (.return_, 1) := by decide +kernel
def y_MO_send : MethodName := ⟨"CarrierLinkModel", "send", "(II)I"⟩
theorem hd_MO_send : y_MO_send.cls ≠ "java/lang/invoke/MethodHandle" ∧ y_MO_send.cls ≠ "java/lang/invoke/VarHandle" ∧ (parseMethodDescriptor y_MO_send.desc).map (fun d => d.parameters.length) = some 2 := ⟨by decide +kernel, by decide +kernel, by decide +kernel⟩
theorem d_MO_send_0 : decode prog_10_method_24_code 0 = .ok (.aload_n 0, 1) := by decide +kernel
theorem d_MO_send_1 : decode prog_10_method_24_code 1 = .ok (.iload_n 1, 1) := by decide +kernel
theorem d_MO_send_2 : decode prog_10_method_24_code 2 = .ok (.ifCond .lt 19, 3) := by decide +kernel
theorem d_MO_send_5 : decode prog_10_method_24_code 5 = .ok (.iload_n 1, 1) := by decide +kernel
theorem d_MO_send_6 : decode prog_10_method_24_code 6 = .ok (.iconst 3, 1) := by decide +kernel
theorem d_MO_send_7 : decode prog_10_method_24_code 7 = .ok (.if_icmp .gt 14, 3) := by decide +kernel
theorem d_MO_send_10 : decode prog_10_method_24_code 10 = .ok (.iload_n 2, 1) := by decide +kernel
theorem d_MO_send_11 : decode prog_10_method_24_code 11 = .ok (.iconst 1, 1) := by decide +kernel
theorem d_MO_send_12 : decode prog_10_method_24_code 12 = .ok (.if_icmp .lt 9, 3) := by decide +kernel
theorem d_MO_send_15 : decode prog_10_method_24_code 15 = .ok (.iload_n 2, 1) := by decide +kernel
theorem d_MO_send_16 : decode prog_10_method_24_code 16 = .ok (.bipush 127, 2) := by decide +kernel
theorem d_MO_send_18 : decode prog_10_method_24_code 18 = .ok (.if_icmp .le 7, 3) := by decide +kernel
theorem d_MO_send_21 : decode prog_10_method_24_code 21 = .ok (.iconst 1, 1) := by decide +kernel
theorem d_MO_send_22 : decode prog_10_method_24_code 22 = .ok (.goto 15, 3) := by decide +kernel
theorem d_MO_send_25 : decode prog_10_method_24_code 25 = .ok (.aload_n 0, 1) := by decide +kernel
theorem d_MO_send_26 : decode prog_10_method_24_code 26 = .ok (.getfield 117, 3) := by decide +kernel
theorem d_MO_send_29 : decode prog_10_method_24_code 29 = .ok (.ifCond .ne 7, 3) := by decide +kernel
theorem d_MO_send_32 : decode prog_10_method_24_code 32 = .ok (.iconst 2, 1) := by decide +kernel
theorem d_MO_send_33 : decode prog_10_method_24_code 33 = .ok (.goto 4, 3) := by decide +kernel
theorem d_MO_send_36 : decode prog_10_method_24_code 36 = .ok (.iconst 0, 1) := by decide +kernel
theorem d_MO_send_37 : decode prog_10_method_24_code 37 = .ok (.putfield 97, 3) := by decide +kernel
theorem d_MO_send_40 : decode prog_10_method_24_code 40 = .ok (.aload_n 0, 1) := by decide +kernel
theorem d_MO_send_41 : decode prog_10_method_24_code 41 = .ok (.getfield 97, 3) := by decide +kernel
theorem d_MO_send_44 : decode prog_10_method_24_code 44 = .ok (.ifCond .le 5, 3) := by decide +kernel
theorem d_MO_send_47 : decode prog_10_method_24_code 47 = .ok (.iconst 0, 1) := by decide +kernel
theorem d_MO_send_48 : decode prog_10_method_24_code 48 = .ok (.ireturn, 1) := by decide +kernel
theorem d_MO_send_49 : decode prog_10_method_24_code 49 = .ok (.aload_n 0, 1) := by decide +kernel
theorem d_MO_send_50 : decode prog_10_method_24_code 50 = .ok (.iload_n 1, 1) := by decide +kernel
theorem d_MO_send_51 : decode prog_10_method_24_code 51 = .ok (.putfield 154, 3) := by decide +kernel
theorem d_MO_send_54 : decode prog_10_method_24_code 54 = .ok (.aload_n 0, 1) := by decide +kernel
theorem d_MO_send_55 : decode prog_10_method_24_code 55 = .ok (.iconst 0, 1) := by decide +kernel
theorem d_MO_send_56 : decode prog_10_method_24_code 56 = .ok (.putfield 127, 3) := by decide +kernel
theorem d_MO_send_59 : decode prog_10_method_24_code 59 = .ok (.aload_n 0, 1) := by decide +kernel
theorem d_MO_send_60 : decode prog_10_method_24_code 60 = .ok (.iconst 0, 1) := by decide +kernel
theorem d_MO_send_61 : decode prog_10_method_24_code 61 = .ok (.putfield 144, 3) := by decide +kernel
theorem d_MO_send_64 : decode prog_10_method_24_code 64 = .ok (.bipush 8, 2) := by decide +kernel
theorem d_MO_send_66 : decode prog_10_method_24_code 66 = .ok (.istore_n 3, 1) := by decide +kernel
theorem d_MO_send_67 : decode prog_10_method_24_code 67 = .ok (.iload_n 3, 1) := by decide +kernel
theorem d_MO_send_68 : decode prog_10_method_24_code 68 = .ok (.bipush 48, 2) := by decide +kernel
theorem d_MO_send_70 : decode prog_10_method_24_code 70 = .ok (.if_icmp .ge 31, 3) := by decide +kernel
theorem d_MO_send_73 : decode prog_10_method_24_code 73 = .ok (.aload_n 0, 1) := by decide +kernel
theorem d_MO_send_74 : decode prog_10_method_24_code 74 = .ok (.aload_n 0, 1) := by decide +kernel
theorem d_MO_send_75 : decode prog_10_method_24_code 75 = .ok (.getfield 52, 3) := by decide +kernel
theorem d_MO_send_78 : decode prog_10_method_24_code 78 = .ok (.iload_n 3, 1) := by decide +kernel
theorem d_MO_send_79 : decode prog_10_method_24_code 79 = .ok (.bipush 16, 2) := by decide +kernel
theorem d_MO_send_81 : decode prog_10_method_24_code 81 = .ok (.irem, 1) := by decide +kernel
theorem d_MO_send_82 : decode prog_10_method_24_code 82 = .ok (.iaload, 1) := by decide +kernel
theorem d_MO_send_83 : decode prog_10_method_24_code 83 = .ok (.aload_n 0, 1) := by decide +kernel
theorem d_MO_send_84 : decode prog_10_method_24_code 84 = .ok (.getfield 55, 3) := by decide +kernel
theorem d_MO_send_87 : decode prog_10_method_24_code 87 = .ok (.iload_n 3, 1) := by decide +kernel
theorem d_MO_send_88 : decode prog_10_method_24_code 88 = .ok (.bipush 16, 2) := by decide +kernel
theorem d_MO_send_90 : decode prog_10_method_24_code 90 = .ok (.irem, 1) := by decide +kernel
theorem d_MO_send_91 : decode prog_10_method_24_code 91 = .ok (.iaload, 1) := by decide +kernel
theorem d_MO_send_92 : decode prog_10_method_24_code 92 = .ok (.invokevirtual 151, 3) := by decide +kernel
theorem d_MO_send_95 : decode prog_10_method_24_code 95 = .ok (.iinc 3 1, 3) := by decide +kernel
theorem d_MO_send_98 : decode prog_10_method_24_code 98 = .ok (.goto (-31), 3) := by decide +kernel
theorem d_MO_send_101 : decode prog_10_method_24_code 101 = .ok (.iconst 0, 1) := by decide +kernel
theorem d_MO_send_102 : decode prog_10_method_24_code 102 = .ok (.istore_n 3, 1) := by decide +kernel
theorem d_MO_send_103 : decode prog_10_method_24_code 103 = .ok (.iconst 0, 1) := by decide +kernel
theorem d_MO_send_104 : decode prog_10_method_24_code 104 = .ok (.istore 4, 2) := by decide +kernel
theorem d_MO_send_106 : decode prog_10_method_24_code 106 = .ok (.iload 4, 2) := by decide +kernel
theorem d_MO_send_108 : decode prog_10_method_24_code 108 = .ok (.bipush 18, 2) := by decide +kernel
theorem d_MO_send_110 : decode prog_10_method_24_code 110 = .ok (.if_icmp .ge 76, 3) := by decide +kernel
theorem d_MO_send_113 : decode prog_10_method_24_code 113 = .ok (.aload_n 0, 1) := by decide +kernel
theorem d_MO_send_114 : decode prog_10_method_24_code 114 = .ok (.getfield 13, 3) := by decide +kernel
theorem d_MO_send_117 : decode prog_10_method_24_code 117 = .ok (.iload 4, 2) := by decide +kernel
theorem d_MO_send_119 : decode prog_10_method_24_code 119 = .ok (.iload 4, 2) := by decide +kernel
theorem d_MO_send_121 : decode prog_10_method_24_code 121 = .ok (.iconst 2, 1) := by decide +kernel
theorem d_MO_send_122 : decode prog_10_method_24_code 122 = .ok (.if_icmp .ge 12, 3) := by decide +kernel
theorem d_MO_send_125 : decode prog_10_method_24_code 125 = .ok (.iload_n 1, 1) := by decide +kernel
theorem d_MO_send_126 : decode prog_10_method_24_code 126 = .ok (.iload 4, 2) := by decide +kernel
theorem d_MO_send_128 : decode prog_10_method_24_code 128 = .ok (.ishr, 1) := by decide +kernel
theorem d_MO_send_129 : decode prog_10_method_24_code 129 = .ok (.iconst 1, 1) := by decide +kernel
theorem d_MO_send_130 : decode prog_10_method_24_code 130 = .ok (.iand, 1) := by decide +kernel
theorem d_MO_send_131 : decode prog_10_method_24_code 131 = .ok (.goto 38, 3) := by decide +kernel
theorem d_MO_send_134 : decode prog_10_method_24_code 134 = .ok (.iload 4, 2) := by decide +kernel
theorem d_MO_send_136 : decode prog_10_method_24_code 136 = .ok (.bipush 6, 2) := by decide +kernel
theorem d_MO_send_138 : decode prog_10_method_24_code 138 = .ok (.if_icmp .ge 17, 3) := by decide +kernel
theorem d_MO_send_141 : decode prog_10_method_24_code 141 = .ok (.aload_n 0, 1) := by decide +kernel
theorem d_MO_send_142 : decode prog_10_method_24_code 142 = .ok (.getfield 117, 3) := by decide +kernel
theorem d_MO_send_145 : decode prog_10_method_24_code 145 = .ok (.iload 4, 2) := by decide +kernel
theorem d_MO_send_147 : decode prog_10_method_24_code 147 = .ok (.iconst 2, 1) := by decide +kernel
theorem d_MO_send_148 : decode prog_10_method_24_code 148 = .ok (.isub, 1) := by decide +kernel
theorem d_MO_send_149 : decode prog_10_method_24_code 149 = .ok (.ishr, 1) := by decide +kernel
theorem d_MO_send_150 : decode prog_10_method_24_code 150 = .ok (.iconst 1, 1) := by decide +kernel
theorem d_MO_send_151 : decode prog_10_method_24_code 151 = .ok (.iand, 1) := by decide +kernel
theorem d_MO_send_152 : decode prog_10_method_24_code 152 = .ok (.goto 17, 3) := by decide +kernel
theorem d_MO_send_155 : decode prog_10_method_24_code 155 = .ok (.iload 4, 2) := by decide +kernel
theorem d_MO_send_157 : decode prog_10_method_24_code 157 = .ok (.bipush 6, 2) := by decide +kernel
theorem d_MO_send_159 : decode prog_10_method_24_code 159 = .ok (.if_icmp .ne 9, 3) := by decide +kernel
theorem d_MO_send_162 : decode prog_10_method_24_code 162 = .ok (.iload_n 3, 1) := by decide +kernel
theorem d_MO_send_163 : decode prog_10_method_24_code 163 = .ok (.iconst 1, 1) := by decide +kernel
theorem d_MO_send_164 : decode prog_10_method_24_code 164 = .ok (.iand, 1) := by decide +kernel
theorem d_MO_send_165 : decode prog_10_method_24_code 165 = .ok (.goto 4, 3) := by decide +kernel
theorem d_MO_send_168 : decode prog_10_method_24_code 168 = .ok (.iconst 0, 1) := by decide +kernel
theorem d_MO_send_169 : decode prog_10_method_24_code 169 = .ok (.iastore, 1) := by decide +kernel
theorem d_MO_send_170 : decode prog_10_method_24_code 170 = .ok (.iload_n 3, 1) := by decide +kernel
theorem d_MO_send_171 : decode prog_10_method_24_code 171 = .ok (.aload_n 0, 1) := by decide +kernel
theorem d_MO_send_172 : decode prog_10_method_24_code 172 = .ok (.getfield 13, 3) := by decide +kernel
theorem d_MO_send_175 : decode prog_10_method_24_code 175 = .ok (.iload 4, 2) := by decide +kernel
theorem d_MO_send_177 : decode prog_10_method_24_code 177 = .ok (.iaload, 1) := by decide +kernel
theorem d_MO_send_178 : decode prog_10_method_24_code 178 = .ok (.iadd, 1) := by decide +kernel
theorem d_MO_send_179 : decode prog_10_method_24_code 179 = .ok (.istore_n 3, 1) := by decide +kernel
theorem d_MO_send_180 : decode prog_10_method_24_code 180 = .ok (.iinc 4 1, 3) := by decide +kernel
theorem d_MO_send_183 : decode prog_10_method_24_code 183 = .ok (.goto (-77), 3) := by decide +kernel
theorem d_MO_send_186 : decode prog_10_method_24_code 186 = .ok (.aload_n 0, 1) := by decide +kernel
theorem d_MO_send_187 : decode prog_10_method_24_code 187 = .ok (.aload_n 0, 1) := by decide +kernel
theorem d_MO_send_188 : decode prog_10_method_24_code 188 = .ok (.bipush 18, 2) := by decide +kernel
theorem d_MO_send_190 : decode prog_10_method_24_code 190 = .ok (.iconst 0, 1) := by decide +kernel
theorem d_MO_send_191 : decode prog_10_method_24_code 191 = .ok (.invokevirtual 157, 3) := by decide +kernel
theorem d_MO_send_194 : decode prog_10_method_24_code 194 = .ok (.putfield 161, 3) := by decide +kernel
theorem d_MO_send_197 : decode prog_10_method_24_code 197 = .ok (.aload_n 0, 1) := by decide +kernel
theorem d_MO_send_198 : decode prog_10_method_24_code 198 = .ok (.iconst 3, 1) := by decide +kernel
theorem d_MO_send_199 : decode prog_10_method_24_code 199 = .ok (.iconst 1, 1) := by decide +kernel
theorem d_MO_send_200 : decode prog_10_method_24_code 200 = .ok (.invokevirtual 164, 3) := by decide +kernel
theorem d_MO_send_203 : decode prog_10_method_24_code 203 = .ok (.iload_n 1, 1) := by decide +kernel
theorem d_MO_send_204 : decode prog_10_method_24_code 204 = .ok (.aload_n 0, 1) := by decide +kernel
theorem d_MO_send_205 : decode prog_10_method_24_code 205 = .ok (.getfield 117, 3) := by decide +kernel
theorem d_MO_send_208 : decode prog_10_method_24_code 208 = .ok (.invokestatic 167, 3) := by decide +kernel
theorem d_MO_send_211 : decode prog_10_method_24_code 211 = .ok (.istore 4, 2) := by decide +kernel
theorem d_MO_send_213 : decode prog_10_method_24_code 213 = .ok (.aload_n 0, 1) := by decide +kernel
theorem d_MO_send_214 : decode prog_10_method_24_code 214 = .ok (.iload 4, 2) := by decide +kernel
theorem d_MO_send_216 : decode prog_10_method_24_code 216 = .ok (.iload_n 1, 1) := by decide +kernel
theorem d_MO_send_217 : decode prog_10_method_24_code 217 = .ok (.invokestatic 101, 3) := by decide +kernel
theorem d_MO_send_220 : decode prog_10_method_24_code 220 = .ok (.imul, 1) := by decide +kernel
theorem d_MO_send_221 : decode prog_10_method_24_code 221 = .ok (.putfield 170, 3) := by decide +kernel
theorem d_MO_send_224 : decode prog_10_method_24_code 224 = .ok (.aload_n 0, 1) := by decide +kernel
theorem d_MO_send_225 : decode prog_10_method_24_code 225 = .ok (.iload_n 2, 1) := by decide +kernel
theorem d_MO_send_226 : decode prog_10_method_24_code 226 = .ok (.putfield 104, 3) := by decide +kernel
theorem d_MO_send_229 : decode prog_10_method_24_code 229 = .ok (.iconst 0, 1) := by decide +kernel
theorem d_MO_send_230 : decode prog_10_method_24_code 230 = .ok (.istore 5, 2) := by decide +kernel
theorem d_MO_send_232 : decode prog_10_method_24_code 232 = .ok (.iload 5, 2) := by decide +kernel
theorem d_MO_send_234 : decode prog_10_method_24_code 234 = .ok (.aload_n 0, 1) := by decide +kernel
theorem d_MO_send_235 : decode prog_10_method_24_code 235 = .ok (.getfield 170, 3) := by decide +kernel
theorem d_MO_send_238 : decode prog_10_method_24_code 238 = .ok (.if_icmp .ge 71, 3) := by decide +kernel
theorem d_MO_send_241 : decode prog_10_method_24_code 241 = .ok (.iload 5, 2) := by decide +kernel
theorem d_MO_send_243 : decode prog_10_method_24_code 243 = .ok (.bipush 7, 2) := by decide +kernel
theorem d_MO_send_245 : decode prog_10_method_24_code 245 = .ok (.isub, 1) := by decide +kernel
theorem d_MO_send_246 : decode prog_10_method_24_code 246 = .ok (.istore 6, 2) := by decide +kernel
theorem d_MO_send_248 : decode prog_10_method_24_code 248 = .ok (.iload 6, 2) := by decide +kernel
theorem d_MO_send_250 : decode prog_10_method_24_code 250 = .ok (.ifCond .lt 36, 3) := by decide +kernel
theorem d_MO_send_253 : decode prog_10_method_24_code 253 = .ok (.iload 6, 2) := by decide +kernel
theorem d_MO_send_255 : decode prog_10_method_24_code 255 = .ok (.bipush 8, 2) := by decide +kernel
theorem d_MO_send_257 : decode prog_10_method_24_code 257 = .ok (.aload_n 0, 1) := by decide +kernel
theorem d_MO_send_258 : decode prog_10_method_24_code 258 = .ok (.getfield 117, 3) := by decide +kernel
theorem d_MO_send_261 : decode prog_10_method_24_code 261 = .ok (.imul, 1) := by decide +kernel
theorem d_MO_send_262 : decode prog_10_method_24_code 262 = .ok (.if_icmp .ge 24, 3) := by decide +kernel
theorem d_MO_send_265 : decode prog_10_method_24_code 265 = .ok (.aload_n 0, 1) := by decide +kernel
theorem d_MO_send_266 : decode prog_10_method_24_code 266 = .ok (.getfield 7, 3) := by decide +kernel
theorem d_MO_send_269 : decode prog_10_method_24_code 269 = .ok (.iload 6, 2) := by decide +kernel
theorem d_MO_send_271 : decode prog_10_method_24_code 271 = .ok (.bipush 8, 2) := by decide +kernel
theorem d_MO_send_273 : decode prog_10_method_24_code 273 = .ok (.idiv, 1) := by decide +kernel
theorem d_MO_send_274 : decode prog_10_method_24_code 274 = .ok (.iaload, 1) := by decide +kernel
theorem d_MO_send_275 : decode prog_10_method_24_code 275 = .ok (.iload 6, 2) := by decide +kernel
theorem d_MO_send_277 : decode prog_10_method_24_code 277 = .ok (.bipush 8, 2) := by decide +kernel
theorem d_MO_send_279 : decode prog_10_method_24_code 279 = .ok (.irem, 1) := by decide +kernel
theorem d_MO_send_280 : decode prog_10_method_24_code 280 = .ok (.ishr, 1) := by decide +kernel
theorem d_MO_send_281 : decode prog_10_method_24_code 281 = .ok (.iconst 1, 1) := by decide +kernel
theorem d_MO_send_282 : decode prog_10_method_24_code 282 = .ok (.iand, 1) := by decide +kernel
theorem d_MO_send_283 : decode prog_10_method_24_code 283 = .ok (.goto 4, 3) := by decide +kernel
theorem d_MO_send_286 : decode prog_10_method_24_code 286 = .ok (.iconst 0, 1) := by decide +kernel
theorem d_MO_send_287 : decode prog_10_method_24_code 287 = .ok (.istore 7, 2) := by decide +kernel
theorem d_MO_send_289 : decode prog_10_method_24_code 289 = .ok (.aload_n 0, 1) := by decide +kernel
theorem d_MO_send_290 : decode prog_10_method_24_code 290 = .ok (.getfield 13, 3) := by decide +kernel
theorem d_MO_send_293 : decode prog_10_method_24_code 293 = .ok (.iload 5, 2) := by decide +kernel
theorem d_MO_send_295 : decode prog_10_method_24_code 295 = .ok (.iload 7, 2) := by decide +kernel
theorem d_MO_send_297 : decode prog_10_method_24_code 297 = .ok (.aload_n 0, 1) := by decide +kernel
theorem d_MO_send_298 : decode prog_10_method_24_code 298 = .ok (.invokevirtual 147, 3) := by decide +kernel
theorem d_MO_send_301 : decode prog_10_method_24_code 301 = .ok (.ixor, 1) := by decide +kernel
theorem d_MO_send_302 : decode prog_10_method_24_code 302 = .ok (.iastore, 1) := by decide +kernel
theorem d_MO_send_303 : decode prog_10_method_24_code 303 = .ok (.iinc 5 1, 3) := by decide +kernel
theorem d_MO_send_306 : decode prog_10_method_24_code 306 = .ok (.goto (-74), 3) := by decide +kernel
theorem d_MO_send_309 : decode prog_10_method_24_code 309 = .ok (.bipush 7, 2) := by decide +kernel
theorem d_MO_send_311 : decode prog_10_method_24_code 311 = .ok (.bipush 8, 2) := by decide +kernel
theorem d_MO_send_313 : decode prog_10_method_24_code 313 = .ok (.aload_n 0, 1) := by decide +kernel
theorem d_MO_send_314 : decode prog_10_method_24_code 314 = .ok (.getfield 117, 3) := by decide +kernel
theorem d_MO_send_317 : decode prog_10_method_24_code 317 = .ok (.imul, 1) := by decide +kernel
theorem d_MO_send_318 : decode prog_10_method_24_code 318 = .ok (.iadd, 1) := by decide +kernel
theorem d_MO_send_319 : decode prog_10_method_24_code 319 = .ok (.istore 5, 2) := by decide +kernel
theorem d_MO_send_321 : decode prog_10_method_24_code 321 = .ok (.iload 5, 2) := by decide +kernel
theorem d_MO_send_323 : decode prog_10_method_24_code 323 = .ok (.bipush 13, 2) := by decide +kernel
theorem d_MO_send_325 : decode prog_10_method_24_code 325 = .ok (.bipush 8, 2) := by decide +kernel
theorem d_MO_send_327 : decode prog_10_method_24_code 327 = .ok (.aload_n 0, 1) := by decide +kernel
theorem d_MO_send_328 : decode prog_10_method_24_code 328 = .ok (.getfield 117, 3) := by decide +kernel
theorem d_MO_send_331 : decode prog_10_method_24_code 331 = .ok (.imul, 1) := by decide +kernel
theorem d_MO_send_332 : decode prog_10_method_24_code 332 = .ok (.iadd, 1) := by decide +kernel
theorem d_MO_send_333 : decode prog_10_method_24_code 333 = .ok (.if_icmp .ge 17, 3) := by decide +kernel
theorem d_MO_send_336 : decode prog_10_method_24_code 336 = .ok (.aload_n 0, 1) := by decide +kernel
theorem d_MO_send_337 : decode prog_10_method_24_code 337 = .ok (.getfield 13, 3) := by decide +kernel
theorem d_MO_send_340 : decode prog_10_method_24_code 340 = .ok (.iload 5, 2) := by decide +kernel
theorem d_MO_send_342 : decode prog_10_method_24_code 342 = .ok (.iconst 0, 1) := by decide +kernel
theorem d_MO_send_343 : decode prog_10_method_24_code 343 = .ok (.iastore, 1) := by decide +kernel
theorem d_MO_send_344 : decode prog_10_method_24_code 344 = .ok (.iinc 5 1, 3) := by decide +kernel
theorem d_MO_send_347 : decode prog_10_method_24_code 347 = .ok (.goto (-26), 3) := by decide +kernel
theorem d_MO_send_350 : decode prog_10_method_24_code 350 = .ok (.aload_n 0, 1) := by decide +kernel
theorem d_MO_send_351 : decode prog_10_method_24_code 351 = .ok (.aload_n 0, 1) := by decide +kernel
theorem d_MO_send_352 : decode prog_10_method_24_code 352 = .ok (.aload_n 0, 1) := by decide +kernel
theorem d_MO_send_353 : decode prog_10_method_24_code 353 = .ok (.getfield 170, 3) := by decide +kernel
theorem d_MO_send_356 : decode prog_10_method_24_code 356 = .ok (.iload_n 1, 1) := by decide +kernel
theorem d_MO_send_357 : decode prog_10_method_24_code 357 = .ok (.iconst 1, 1) := by decide +kernel
theorem d_MO_send_358 : decode prog_10_method_24_code 358 = .ok (.if_icmp .le 7, 3) := by decide +kernel
theorem d_MO_send_361 : decode prog_10_method_24_code 361 = .ok (.iconst 1, 1) := by decide +kernel
theorem d_MO_send_362 : decode prog_10_method_24_code 362 = .ok (.goto 4, 3) := by decide +kernel
theorem d_MO_send_365 : decode prog_10_method_24_code 365 = .ok (.iconst 0, 1) := by decide +kernel
theorem d_MO_send_366 : decode prog_10_method_24_code 366 = .ok (.invokevirtual 157, 3) := by decide +kernel
theorem d_MO_send_369 : decode prog_10_method_24_code 369 = .ok (.putfield 161, 3) := by decide +kernel
theorem d_MO_send_372 : decode prog_10_method_24_code 372 = .ok (.aload_n 0, 1) := by decide +kernel
theorem d_MO_send_373 : decode prog_10_method_24_code 373 = .ok (.iload 4, 2) := by decide +kernel
theorem d_MO_send_375 : decode prog_10_method_24_code 375 = .ok (.iload_n 1, 1) := by decide +kernel
theorem d_MO_send_376 : decode prog_10_method_24_code 376 = .ok (.invokestatic 173, 3) := by decide +kernel
theorem d_MO_send_379 : decode prog_10_method_24_code 379 = .ok (.invokevirtual 164, 3) := by decide +kernel
theorem d_MO_send_382 : decode prog_10_method_24_code 382 = .ok (.aload_n 0, 1) := by decide +kernel
theorem d_MO_send_383 : decode prog_10_method_24_code 383 = .ok (.getfield 127, 3) := by decide +kernel
theorem d_MO_send_386 : decode prog_10_method_24_code 386 = .ok (.ireturn, 1) := by decide +kernel
def y_MO_sample22 : MethodName := ⟨"CarrierLinkModel", "sample", "(II)V"⟩
theorem hd_MO_sample22 : y_MO_sample22.cls ≠ "java/lang/invoke/MethodHandle" ∧ y_MO_sample22.cls ≠ "java/lang/invoke/VarHandle" ∧ (parseMethodDescriptor y_MO_sample22.desc).map (fun d => d.parameters.length) = some 2 := ⟨by decide +kernel, by decide +kernel, by decide +kernel⟩
theorem d_MO_sample22_0 : decode prog_10_method_22_code 0 = .ok (.aload_n 0, 1) := by decide +kernel
theorem d_MO_sample22_1 : decode prog_10_method_22_code 1 = .ok (.getfield 22, 3) := by decide +kernel
theorem d_MO_sample22_4 : decode prog_10_method_22_code 4 = .ok (.aload_n 0, 1) := by decide +kernel
theorem d_MO_sample22_5 : decode prog_10_method_22_code 5 = .ok (.getfield 127, 3) := by decide +kernel
theorem d_MO_sample22_8 : decode prog_10_method_22_code 8 = .ok (.iload_n 1, 1) := by decide +kernel
theorem d_MO_sample22_9 : decode prog_10_method_22_code 9 = .ok (.invokestatic 130, 3) := by decide +kernel
theorem d_MO_sample22_12 : decode prog_10_method_22_code 12 = .ok (.iastore, 1) := by decide +kernel
theorem d_MO_sample22_13 : decode prog_10_method_22_code 13 = .ok (.aload_n 0, 1) := by decide +kernel
theorem d_MO_sample22_14 : decode prog_10_method_22_code 14 = .ok (.getfield 25, 3) := by decide +kernel
theorem d_MO_sample22_17 : decode prog_10_method_22_code 17 = .ok (.aload_n 0, 1) := by decide +kernel
theorem d_MO_sample22_18 : decode prog_10_method_22_code 18 = .ok (.getfield 127, 3) := by decide +kernel
theorem d_MO_sample22_21 : decode prog_10_method_22_code 21 = .ok (.iload_n 2, 1) := by decide +kernel
theorem d_MO_sample22_22 : decode prog_10_method_22_code 22 = .ok (.invokestatic 130, 3) := by decide +kernel
theorem d_MO_sample22_25 : decode prog_10_method_22_code 25 = .ok (.iastore, 1) := by decide +kernel
theorem d_MO_sample22_26 : decode prog_10_method_22_code 26 = .ok (.aload_n 0, 1) := by decide +kernel
theorem d_MO_sample22_27 : decode prog_10_method_22_code 27 = .ok (.dup, 1) := by decide +kernel
theorem d_MO_sample22_28 : decode prog_10_method_22_code 28 = .ok (.getfield 127, 3) := by decide +kernel
theorem d_MO_sample22_31 : decode prog_10_method_22_code 31 = .ok (.iconst 1, 1) := by decide +kernel
theorem d_MO_sample22_32 : decode prog_10_method_22_code 32 = .ok (.iadd, 1) := by decide +kernel
theorem d_MO_sample22_33 : decode prog_10_method_22_code 33 = .ok (.putfield 127, 3) := by decide +kernel
theorem d_MO_sample22_36 : decode prog_10_method_22_code 36 = .ok (.return_, 1) := by decide +kernel
def y_MO_saturate : MethodName := ⟨"CarrierLinkModel", "saturate", "(I)I"⟩
theorem hd_MO_saturate : y_MO_saturate.cls ≠ "java/lang/invoke/MethodHandle" ∧ y_MO_saturate.cls ≠ "java/lang/invoke/VarHandle" ∧ (parseMethodDescriptor y_MO_saturate.desc).map (fun d => d.parameters.length) = some 1 := ⟨by decide +kernel, by decide +kernel, by decide +kernel⟩
theorem d_MO_saturate_0 : decode prog_10_method_4_code 0 = .ok (.iload_n 0, 1) := by decide +kernel
theorem d_MO_saturate_1 : decode prog_10_method_4_code 1 = .ok (.sipush (-32768), 3) := by decide +kernel
theorem d_MO_saturate_4 : decode prog_10_method_4_code 4 = .ok (.if_icmp .ge 9, 3) := by decide +kernel
theorem d_MO_saturate_7 : decode prog_10_method_4_code 7 = .ok (.sipush (-32768), 3) := by decide +kernel
theorem d_MO_saturate_10 : decode prog_10_method_4_code 10 = .ok (.goto 17, 3) := by decide +kernel
theorem d_MO_saturate_13 : decode prog_10_method_4_code 13 = .ok (.iload_n 0, 1) := by decide +kernel
theorem d_MO_saturate_14 : decode prog_10_method_4_code 14 = .ok (.sipush 32767, 3) := by decide +kernel
theorem d_MO_saturate_17 : decode prog_10_method_4_code 17 = .ok (.if_icmp .le 9, 3) := by decide +kernel
theorem d_MO_saturate_20 : decode prog_10_method_4_code 20 = .ok (.sipush 32767, 3) := by decide +kernel
theorem d_MO_saturate_23 : decode prog_10_method_4_code 23 = .ok (.goto 4, 3) := by decide +kernel
theorem d_MO_saturate_26 : decode prog_10_method_4_code 26 = .ok (.iload_n 0, 1) := by decide +kernel
theorem d_MO_saturate_27 : decode prog_10_method_4_code 27 = .ok (.ireturn, 1) := by decide +kernel
def y_MO_code : MethodName := ⟨"CarrierLinkModel", "code", "(IZ)I"⟩
theorem hd_MO_code : y_MO_code.cls ≠ "java/lang/invoke/MethodHandle" ∧ y_MO_code.cls ≠ "java/lang/invoke/VarHandle" ∧ (parseMethodDescriptor y_MO_code.desc).map (fun d => d.parameters.length) = some 2 := ⟨by decide +kernel, by decide +kernel, by decide +kernel⟩
theorem d_MO_code_0 : decode prog_10_method_19_code 0 = .ok (.iconst 0, 1) := by decide +kernel
theorem d_MO_code_1 : decode prog_10_method_19_code 1 = .ok (.istore_n 3, 1) := by decide +kernel
theorem d_MO_code_2 : decode prog_10_method_19_code 2 = .ok (.iconst 0, 1) := by decide +kernel
theorem d_MO_code_3 : decode prog_10_method_19_code 3 = .ok (.istore 4, 2) := by decide +kernel
theorem d_MO_code_5 : decode prog_10_method_19_code 5 = .ok (.iload 4, 2) := by decide +kernel
theorem d_MO_code_7 : decode prog_10_method_19_code 7 = .ok (.iload_n 1, 1) := by decide +kernel
theorem d_MO_code_8 : decode prog_10_method_19_code 8 = .ok (.if_icmp .ge 109, 3) := by decide +kernel
theorem d_MO_code_11 : decode prog_10_method_19_code 11 = .ok (.aload_n 0, 1) := by decide +kernel
theorem d_MO_code_12 : decode prog_10_method_19_code 12 = .ok (.iload 4, 2) := by decide +kernel
theorem d_MO_code_14 : decode prog_10_method_19_code 14 = .ok (.invokevirtual 120, 3) := by decide +kernel
theorem d_MO_code_17 : decode prog_10_method_19_code 17 = .ok (.aload_n 0, 1) := by decide +kernel
theorem d_MO_code_18 : decode prog_10_method_19_code 18 = .ok (.iload 4, 2) := by decide +kernel
theorem d_MO_code_20 : decode prog_10_method_19_code 20 = .ok (.iconst 2, 1) := by decide +kernel
theorem d_MO_code_21 : decode prog_10_method_19_code 21 = .ok (.isub, 1) := by decide +kernel
theorem d_MO_code_22 : decode prog_10_method_19_code 22 = .ok (.invokevirtual 120, 3) := by decide +kernel
theorem d_MO_code_25 : decode prog_10_method_19_code 25 = .ok (.ixor, 1) := by decide +kernel
theorem d_MO_code_26 : decode prog_10_method_19_code 26 = .ok (.aload_n 0, 1) := by decide +kernel
theorem d_MO_code_27 : decode prog_10_method_19_code 27 = .ok (.iload 4, 2) := by decide +kernel
theorem d_MO_code_29 : decode prog_10_method_19_code 29 = .ok (.iconst 3, 1) := by decide +kernel
theorem d_MO_code_30 : decode prog_10_method_19_code 30 = .ok (.isub, 1) := by decide +kernel
theorem d_MO_code_31 : decode prog_10_method_19_code 31 = .ok (.invokevirtual 120, 3) := by decide +kernel
theorem d_MO_code_34 : decode prog_10_method_19_code 34 = .ok (.ixor, 1) := by decide +kernel
theorem d_MO_code_35 : decode prog_10_method_19_code 35 = .ok (.aload_n 0, 1) := by decide +kernel
theorem d_MO_code_36 : decode prog_10_method_19_code 36 = .ok (.iload 4, 2) := by decide +kernel
theorem d_MO_code_38 : decode prog_10_method_19_code 38 = .ok (.bipush 6, 2) := by decide +kernel
theorem d_MO_code_40 : decode prog_10_method_19_code 40 = .ok (.isub, 1) := by decide +kernel
theorem d_MO_code_41 : decode prog_10_method_19_code 41 = .ok (.invokevirtual 120, 3) := by decide +kernel
theorem d_MO_code_44 : decode prog_10_method_19_code 44 = .ok (.ixor, 1) := by decide +kernel
theorem d_MO_code_45 : decode prog_10_method_19_code 45 = .ok (.istore 5, 2) := by decide +kernel
theorem d_MO_code_47 : decode prog_10_method_19_code 47 = .ok (.iload_n 2, 1) := by decide +kernel
theorem d_MO_code_48 : decode prog_10_method_19_code 48 = .ok (.ifCond .eq 11, 3) := by decide +kernel
theorem d_MO_code_51 : decode prog_10_method_19_code 51 = .ok (.iload 4, 2) := by decide +kernel
theorem d_MO_code_53 : decode prog_10_method_19_code 53 = .ok (.iconst 3, 1) := by decide +kernel
theorem d_MO_code_54 : decode prog_10_method_19_code 54 = .ok (.irem, 1) := by decide +kernel
theorem d_MO_code_55 : decode prog_10_method_19_code 55 = .ok (.iconst 2, 1) := by decide +kernel
theorem d_MO_code_56 : decode prog_10_method_19_code 56 = .ok (.if_icmp .eq 23, 3) := by decide +kernel
theorem d_MO_code_59 : decode prog_10_method_19_code 59 = .ok (.aload_n 0, 1) := by decide +kernel
theorem d_MO_code_60 : decode prog_10_method_19_code 60 = .ok (.getfield 16, 3) := by decide +kernel
theorem d_MO_code_63 : decode prog_10_method_19_code 63 = .ok (.iload_n 3, 1) := by decide +kernel
theorem d_MO_code_64 : decode prog_10_method_19_code 64 = .ok (.iload 5, 2) := by decide +kernel
theorem d_MO_code_66 : decode prog_10_method_19_code 66 = .ok (.aload_n 0, 1) := by decide +kernel
theorem d_MO_code_67 : decode prog_10_method_19_code 67 = .ok (.iload 4, 2) := by decide +kernel
theorem d_MO_code_69 : decode prog_10_method_19_code 69 = .ok (.iconst 5, 1) := by decide +kernel
theorem d_MO_code_70 : decode prog_10_method_19_code 70 = .ok (.isub, 1) := by decide +kernel
theorem d_MO_code_71 : decode prog_10_method_19_code 71 = .ok (.invokevirtual 120, 3) := by decide +kernel
theorem d_MO_code_74 : decode prog_10_method_19_code 74 = .ok (.ixor, 1) := by decide +kernel
theorem d_MO_code_75 : decode prog_10_method_19_code 75 = .ok (.iastore, 1) := by decide +kernel
theorem d_MO_code_76 : decode prog_10_method_19_code 76 = .ok (.iinc 3 1, 3) := by decide +kernel
theorem d_MO_code_79 : decode prog_10_method_19_code 79 = .ok (.iload_n 2, 1) := by decide +kernel
theorem d_MO_code_80 : decode prog_10_method_19_code 80 = .ok (.ifCond .eq 11, 3) := by decide +kernel
theorem d_MO_code_83 : decode prog_10_method_19_code 83 = .ok (.iload 4, 2) := by decide +kernel
theorem d_MO_code_85 : decode prog_10_method_19_code 85 = .ok (.iconst 3, 1) := by decide +kernel
theorem d_MO_code_86 : decode prog_10_method_19_code 86 = .ok (.irem, 1) := by decide +kernel
theorem d_MO_code_87 : decode prog_10_method_19_code 87 = .ok (.iconst 1, 1) := by decide +kernel
theorem d_MO_code_88 : decode prog_10_method_19_code 88 = .ok (.if_icmp .eq 23, 3) := by decide +kernel
theorem d_MO_code_91 : decode prog_10_method_19_code 91 = .ok (.aload_n 0, 1) := by decide +kernel
theorem d_MO_code_92 : decode prog_10_method_19_code 92 = .ok (.getfield 16, 3) := by decide +kernel
theorem d_MO_code_95 : decode prog_10_method_19_code 95 = .ok (.iload_n 3, 1) := by decide +kernel
theorem d_MO_code_96 : decode prog_10_method_19_code 96 = .ok (.iload 5, 2) := by decide +kernel
theorem d_MO_code_98 : decode prog_10_method_19_code 98 = .ok (.aload_n 0, 1) := by decide +kernel
theorem d_MO_code_99 : decode prog_10_method_19_code 99 = .ok (.iload 4, 2) := by decide +kernel
theorem d_MO_code_101 : decode prog_10_method_19_code 101 = .ok (.iconst 1, 1) := by decide +kernel
theorem d_MO_code_102 : decode prog_10_method_19_code 102 = .ok (.isub, 1) := by decide +kernel
theorem d_MO_code_103 : decode prog_10_method_19_code 103 = .ok (.invokevirtual 120, 3) := by decide +kernel
theorem d_MO_code_106 : decode prog_10_method_19_code 106 = .ok (.ixor, 1) := by decide +kernel
theorem d_MO_code_107 : decode prog_10_method_19_code 107 = .ok (.iastore, 1) := by decide +kernel
theorem d_MO_code_108 : decode prog_10_method_19_code 108 = .ok (.iinc 3 1, 3) := by decide +kernel
theorem d_MO_code_111 : decode prog_10_method_19_code 111 = .ok (.iinc 4 1, 3) := by decide +kernel
theorem d_MO_code_114 : decode prog_10_method_19_code 114 = .ok (.goto (-109), 3) := by decide +kernel
theorem d_MO_code_117 : decode prog_10_method_19_code 117 = .ok (.iload_n 3, 1) := by decide +kernel
theorem d_MO_code_118 : decode prog_10_method_19_code 118 = .ok (.ireturn, 1) := by decide +kernel
def y_MO_past : MethodName := ⟨"CarrierLinkModel", "past", "(I)I"⟩
theorem hd_MO_past : y_MO_past.cls ≠ "java/lang/invoke/MethodHandle" ∧ y_MO_past.cls ≠ "java/lang/invoke/VarHandle" ∧ (parseMethodDescriptor y_MO_past.desc).map (fun d => d.parameters.length) = some 1 := ⟨by decide +kernel, by decide +kernel, by decide +kernel⟩
theorem d_MO_past_0 : decode prog_10_method_18_code 0 = .ok (.iload_n 1, 1) := by decide +kernel
theorem d_MO_past_1 : decode prog_10_method_18_code 1 = .ok (.ifCond .ge 7, 3) := by decide +kernel
theorem d_MO_past_4 : decode prog_10_method_18_code 4 = .ok (.iconst 0, 1) := by decide +kernel
theorem d_MO_past_5 : decode prog_10_method_18_code 5 = .ok (.goto 9, 3) := by decide +kernel
theorem d_MO_past_8 : decode prog_10_method_18_code 8 = .ok (.aload_n 0, 1) := by decide +kernel
theorem d_MO_past_9 : decode prog_10_method_18_code 9 = .ok (.getfield 13, 3) := by decide +kernel
theorem d_MO_past_12 : decode prog_10_method_18_code 12 = .ok (.iload_n 1, 1) := by decide +kernel
theorem d_MO_past_13 : decode prog_10_method_18_code 13 = .ok (.iaload, 1) := by decide +kernel
theorem d_MO_past_14 : decode prog_10_method_18_code 14 = .ok (.ireturn, 1) := by decide +kernel
def y_MO_modulate : MethodName := ⟨"CarrierLinkModel", "modulate", "(II)V"⟩
theorem hd_MO_modulate : y_MO_modulate.cls ≠ "java/lang/invoke/MethodHandle" ∧ y_MO_modulate.cls ≠ "java/lang/invoke/VarHandle" ∧ (parseMethodDescriptor y_MO_modulate.desc).map (fun d => d.parameters.length) = some 2 := ⟨by decide +kernel, by decide +kernel, by decide +kernel⟩
theorem d_MO_modulate_0 : decode prog_10_method_23_code 0 = .ok (.bipush 12, 2) := by decide +kernel
theorem d_MO_modulate_2 : decode prog_10_method_23_code 2 = .ok (.iload_n 2, 1) := by decide +kernel
theorem d_MO_modulate_3 : decode prog_10_method_23_code 3 = .ok (.imul, 1) := by decide +kernel
theorem d_MO_modulate_4 : decode prog_10_method_23_code 4 = .ok (.istore_n 3, 1) := by decide +kernel
theorem d_MO_modulate_5 : decode prog_10_method_23_code 5 = .ok (.iconst 0, 1) := by decide +kernel
theorem d_MO_modulate_6 : decode prog_10_method_23_code 6 = .ok (.istore 4, 2) := by decide +kernel
theorem d_MO_modulate_8 : decode prog_10_method_23_code 8 = .ok (.iload 4, 2) := by decide +kernel
theorem d_MO_modulate_10 : decode prog_10_method_23_code 10 = .ok (.iload_n 1, 1) := by decide +kernel
theorem d_MO_modulate_11 : decode prog_10_method_23_code 11 = .ok (.if_icmp .ge 212, 3) := by decide +kernel
theorem d_MO_modulate_14 : decode prog_10_method_23_code 14 = .ok (.iconst 0, 1) := by decide +kernel
theorem d_MO_modulate_15 : decode prog_10_method_23_code 15 = .ok (.istore 5, 2) := by decide +kernel
theorem d_MO_modulate_17 : decode prog_10_method_23_code 17 = .ok (.iload 5, 2) := by decide +kernel
theorem d_MO_modulate_19 : decode prog_10_method_23_code 19 = .ok (.iload_n 3, 1) := by decide +kernel
theorem d_MO_modulate_20 : decode prog_10_method_23_code 20 = .ok (.if_icmp .ge 38, 3) := by decide +kernel
theorem d_MO_modulate_23 : decode prog_10_method_23_code 23 = .ok (.aload_n 0, 1) := by decide +kernel
theorem d_MO_modulate_24 : decode prog_10_method_23_code 24 = .ok (.getfield 19, 3) := by decide +kernel
theorem d_MO_modulate_27 : decode prog_10_method_23_code 27 = .ok (.iload_n 3, 1) := by decide +kernel
theorem d_MO_modulate_28 : decode prog_10_method_23_code 28 = .ok (.iload 4, 2) := by decide +kernel
theorem d_MO_modulate_30 : decode prog_10_method_23_code 30 = .ok (.imul, 1) := by decide +kernel
theorem d_MO_modulate_31 : decode prog_10_method_23_code 31 = .ok (.iload 5, 2) := by decide +kernel
theorem d_MO_modulate_33 : decode prog_10_method_23_code 33 = .ok (.iload_n 3, 1) := by decide +kernel
theorem d_MO_modulate_34 : decode prog_10_method_23_code 34 = .ok (.iload_n 2, 1) := by decide +kernel
theorem d_MO_modulate_35 : decode prog_10_method_23_code 35 = .ok (.invokestatic 133, 3) := by decide +kernel
theorem d_MO_modulate_38 : decode prog_10_method_23_code 38 = .ok (.iadd, 1) := by decide +kernel
theorem d_MO_modulate_39 : decode prog_10_method_23_code 39 = .ok (.aload_n 0, 1) := by decide +kernel
theorem d_MO_modulate_40 : decode prog_10_method_23_code 40 = .ok (.getfield 16, 3) := by decide +kernel
theorem d_MO_modulate_43 : decode prog_10_method_23_code 43 = .ok (.iload_n 3, 1) := by decide +kernel
theorem d_MO_modulate_44 : decode prog_10_method_23_code 44 = .ok (.iload 4, 2) := by decide +kernel
theorem d_MO_modulate_46 : decode prog_10_method_23_code 46 = .ok (.imul, 1) := by decide +kernel
theorem d_MO_modulate_47 : decode prog_10_method_23_code 47 = .ok (.iload 5, 2) := by decide +kernel
theorem d_MO_modulate_49 : decode prog_10_method_23_code 49 = .ok (.iadd, 1) := by decide +kernel
theorem d_MO_modulate_50 : decode prog_10_method_23_code 50 = .ok (.iaload, 1) := by decide +kernel
theorem d_MO_modulate_51 : decode prog_10_method_23_code 51 = .ok (.iastore, 1) := by decide +kernel
theorem d_MO_modulate_52 : decode prog_10_method_23_code 52 = .ok (.iinc 5 1, 3) := by decide +kernel
theorem d_MO_modulate_55 : decode prog_10_method_23_code 55 = .ok (.goto (-38), 3) := by decide +kernel
theorem d_MO_modulate_58 : decode prog_10_method_23_code 58 = .ok (.aload_n 0, 1) := by decide +kernel
theorem d_MO_modulate_59 : decode prog_10_method_23_code 59 = .ok (.invokevirtual 87, 3) := by decide +kernel
theorem d_MO_modulate_62 : decode prog_10_method_23_code 62 = .ok (.iconst 0, 1) := by decide +kernel
theorem d_MO_modulate_63 : decode prog_10_method_23_code 63 = .ok (.istore 5, 2) := by decide +kernel
theorem d_MO_modulate_65 : decode prog_10_method_23_code 65 = .ok (.iload 5, 2) := by decide +kernel
theorem d_MO_modulate_67 : decode prog_10_method_23_code 67 = .ok (.bipush 12, 2) := by decide +kernel
theorem d_MO_modulate_69 : decode prog_10_method_23_code 69 = .ok (.if_icmp .ge 28, 3) := by decide +kernel
theorem d_MO_modulate_72 : decode prog_10_method_23_code 72 = .ok (.aload_n 0, 1) := by decide +kernel
theorem d_MO_modulate_73 : decode prog_10_method_23_code 73 = .ok (.iload 5, 2) := by decide +kernel
theorem d_MO_modulate_75 : decode prog_10_method_23_code 75 = .ok (.invokestatic 137, 3) := by decide +kernel
theorem d_MO_modulate_78 : decode prog_10_method_23_code 78 = .ok (.iload_n 2, 1) := by decide +kernel
theorem d_MO_modulate_79 : decode prog_10_method_23_code 79 = .ok (.iload_n 3, 1) := by decide +kernel
theorem d_MO_modulate_80 : decode prog_10_method_23_code 80 = .ok (.iload 4, 2) := by decide +kernel
theorem d_MO_modulate_82 : decode prog_10_method_23_code 82 = .ok (.imul, 1) := by decide +kernel
theorem d_MO_modulate_83 : decode prog_10_method_23_code 83 = .ok (.iload_n 2, 1) := by decide +kernel
theorem d_MO_modulate_84 : decode prog_10_method_23_code 84 = .ok (.iload 5, 2) := by decide +kernel
theorem d_MO_modulate_86 : decode prog_10_method_23_code 86 = .ok (.imul, 1) := by decide +kernel
theorem d_MO_modulate_87 : decode prog_10_method_23_code 87 = .ok (.iadd, 1) := by decide +kernel
theorem d_MO_modulate_88 : decode prog_10_method_23_code 88 = .ok (.invokevirtual 140, 3) := by decide +kernel
theorem d_MO_modulate_91 : decode prog_10_method_23_code 91 = .ok (.iinc 5 1, 3) := by decide +kernel
theorem d_MO_modulate_94 : decode prog_10_method_23_code 94 = .ok (.goto (-29), 3) := by decide +kernel
theorem d_MO_modulate_97 : decode prog_10_method_23_code 97 = .ok (.aload_n 0, 1) := by decide +kernel
theorem d_MO_modulate_98 : decode prog_10_method_23_code 98 = .ok (.bipush 127, 2) := by decide +kernel
theorem d_MO_modulate_100 : decode prog_10_method_23_code 100 = .ok (.putfield 104, 3) := by decide +kernel
theorem d_MO_modulate_103 : decode prog_10_method_23_code 103 = .ok (.iconst 0, 1) := by decide +kernel
theorem d_MO_modulate_104 : decode prog_10_method_23_code 104 = .ok (.istore 5, 2) := by decide +kernel
theorem d_MO_modulate_106 : decode prog_10_method_23_code 106 = .ok (.iconst 0, 1) := by decide +kernel
theorem d_MO_modulate_107 : decode prog_10_method_23_code 107 = .ok (.istore 6, 2) := by decide +kernel
theorem d_MO_modulate_109 : decode prog_10_method_23_code 109 = .ok (.iload 6, 2) := by decide +kernel
theorem d_MO_modulate_111 : decode prog_10_method_23_code 111 = .ok (.aload_n 0, 1) := by decide +kernel
theorem d_MO_modulate_112 : decode prog_10_method_23_code 112 = .ok (.getfield 144, 3) := by decide +kernel
theorem d_MO_modulate_115 : decode prog_10_method_23_code 115 = .ok (.if_icmp .gt 28, 3) := by decide +kernel
theorem d_MO_modulate_118 : decode prog_10_method_23_code 118 = .ok (.aload_n 0, 1) := by decide +kernel
theorem d_MO_modulate_119 : decode prog_10_method_23_code 119 = .ok (.invokevirtual 147, 3) := by decide +kernel
theorem d_MO_modulate_122 : decode prog_10_method_23_code 122 = .ok (.iconst 1, 1) := by decide +kernel
theorem d_MO_modulate_123 : decode prog_10_method_23_code 123 = .ok (.if_icmp .ne 9, 3) := by decide +kernel
theorem d_MO_modulate_126 : decode prog_10_method_23_code 126 = .ok (.sipush (-1024), 3) := by decide +kernel
theorem d_MO_modulate_129 : decode prog_10_method_23_code 129 = .ok (.goto 6, 3) := by decide +kernel
theorem d_MO_modulate_132 : decode prog_10_method_23_code 132 = .ok (.sipush 1024, 3) := by decide +kernel
theorem d_MO_modulate_135 : decode prog_10_method_23_code 135 = .ok (.istore 5, 2) := by decide +kernel
theorem d_MO_modulate_137 : decode prog_10_method_23_code 137 = .ok (.iinc 6 1, 3) := by decide +kernel
theorem d_MO_modulate_140 : decode prog_10_method_23_code 140 = .ok (.goto (-31), 3) := by decide +kernel
theorem d_MO_modulate_143 : decode prog_10_method_23_code 143 = .ok (.aload_n 0, 1) := by decide +kernel
theorem d_MO_modulate_144 : decode prog_10_method_23_code 144 = .ok (.getfield 43, 3) := by decide +kernel
theorem d_MO_modulate_147 : decode prog_10_method_23_code 147 = .ok (.iconst 4, 1) := by decide +kernel
theorem d_MO_modulate_148 : decode prog_10_method_23_code 148 = .ok (.iload 5, 2) := by decide +kernel
theorem d_MO_modulate_150 : decode prog_10_method_23_code 150 = .ok (.iastore, 1) := by decide +kernel
theorem d_MO_modulate_151 : decode prog_10_method_23_code 151 = .ok (.aload_n 0, 1) := by decide +kernel
theorem d_MO_modulate_152 : decode prog_10_method_23_code 152 = .ok (.getfield 43, 3) := by decide +kernel
theorem d_MO_modulate_155 : decode prog_10_method_23_code 155 = .ok (.bipush 12, 2) := by decide +kernel
theorem d_MO_modulate_157 : decode prog_10_method_23_code 157 = .ok (.iload 5, 2) := by decide +kernel
theorem d_MO_modulate_159 : decode prog_10_method_23_code 159 = .ok (.ineg, 1) := by decide +kernel
theorem d_MO_modulate_160 : decode prog_10_method_23_code 160 = .ok (.iastore, 1) := by decide +kernel
theorem d_MO_modulate_161 : decode prog_10_method_23_code 161 = .ok (.aload_n 0, 1) := by decide +kernel
theorem d_MO_modulate_162 : decode prog_10_method_23_code 162 = .ok (.dup, 1) := by decide +kernel
theorem d_MO_modulate_163 : decode prog_10_method_23_code 163 = .ok (.getfield 144, 3) := by decide +kernel
theorem d_MO_modulate_166 : decode prog_10_method_23_code 166 = .ok (.iconst 1, 1) := by decide +kernel
theorem d_MO_modulate_167 : decode prog_10_method_23_code 167 = .ok (.iadd, 1) := by decide +kernel
theorem d_MO_modulate_168 : decode prog_10_method_23_code 168 = .ok (.putfield 144, 3) := by decide +kernel
theorem d_MO_modulate_171 : decode prog_10_method_23_code 171 = .ok (.aload_n 0, 1) := by decide +kernel
theorem d_MO_modulate_172 : decode prog_10_method_23_code 172 = .ok (.iconst 1, 1) := by decide +kernel
theorem d_MO_modulate_173 : decode prog_10_method_23_code 173 = .ok (.invokevirtual 93, 3) := by decide +kernel
theorem d_MO_modulate_176 : decode prog_10_method_23_code 176 = .ok (.bipush 12, 2) := by decide +kernel
theorem d_MO_modulate_178 : decode prog_10_method_23_code 178 = .ok (.istore 6, 2) := by decide +kernel
theorem d_MO_modulate_180 : decode prog_10_method_23_code 180 = .ok (.iload 6, 2) := by decide +kernel
theorem d_MO_modulate_182 : decode prog_10_method_23_code 182 = .ok (.bipush 32, 2) := by decide +kernel
theorem d_MO_modulate_184 : decode prog_10_method_23_code 184 = .ok (.if_icmp .ge 33, 3) := by decide +kernel
theorem d_MO_modulate_187 : decode prog_10_method_23_code 187 = .ok (.aload_n 0, 1) := by decide +kernel
theorem d_MO_modulate_188 : decode prog_10_method_23_code 188 = .ok (.aload_n 0, 1) := by decide +kernel
theorem d_MO_modulate_189 : decode prog_10_method_23_code 189 = .ok (.getfield 43, 3) := by decide +kernel
theorem d_MO_modulate_192 : decode prog_10_method_23_code 192 = .ok (.iload 6, 2) := by decide +kernel
theorem d_MO_modulate_194 : decode prog_10_method_23_code 194 = .ok (.bipush 16, 2) := by decide +kernel
theorem d_MO_modulate_196 : decode prog_10_method_23_code 196 = .ok (.irem, 1) := by decide +kernel
theorem d_MO_modulate_197 : decode prog_10_method_23_code 197 = .ok (.iaload, 1) := by decide +kernel
theorem d_MO_modulate_198 : decode prog_10_method_23_code 198 = .ok (.aload_n 0, 1) := by decide +kernel
theorem d_MO_modulate_199 : decode prog_10_method_23_code 199 = .ok (.getfield 46, 3) := by decide +kernel
theorem d_MO_modulate_202 : decode prog_10_method_23_code 202 = .ok (.iload 6, 2) := by decide +kernel
theorem d_MO_modulate_204 : decode prog_10_method_23_code 204 = .ok (.bipush 16, 2) := by decide +kernel
theorem d_MO_modulate_206 : decode prog_10_method_23_code 206 = .ok (.irem, 1) := by decide +kernel
theorem d_MO_modulate_207 : decode prog_10_method_23_code 207 = .ok (.iaload, 1) := by decide +kernel
theorem d_MO_modulate_208 : decode prog_10_method_23_code 208 = .ok (.invokevirtual 151, 3) := by decide +kernel
theorem d_MO_modulate_211 : decode prog_10_method_23_code 211 = .ok (.iinc 6 1, 3) := by decide +kernel
theorem d_MO_modulate_214 : decode prog_10_method_23_code 214 = .ok (.goto (-34), 3) := by decide +kernel
theorem d_MO_modulate_217 : decode prog_10_method_23_code 217 = .ok (.iinc 4 1, 3) := by decide +kernel
theorem d_MO_modulate_220 : decode prog_10_method_23_code 220 = .ok (.goto (-212), 3) := by decide +kernel
theorem d_MO_modulate_223 : decode prog_10_method_23_code 223 = .ok (.return_, 1) := by decide +kernel
