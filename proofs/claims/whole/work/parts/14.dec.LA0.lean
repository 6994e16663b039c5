def y_LA_send : MethodName := ⟨"CarrierLinkLaw", "send", "(LCarrierLink;II[J)I"⟩
theorem hd_LA_send : y_LA_send.cls ≠ "java/lang/invoke/MethodHandle" ∧ y_LA_send.cls ≠ "java/lang/invoke/VarHandle" ∧ (parseMethodDescriptor y_LA_send.desc).map (fun d => d.parameters.length) = some 4 := ⟨by decide +kernel, by decide +kernel, by decide +kernel⟩
theorem d_LA_send_0 : decode method_3_code 0 = .ok (.aload_n 3, 1) := by decide +kernel
theorem d_LA_send_1 : decode method_3_code 1 = .ok (.iconst 0, 1) := by decide +kernel
theorem d_LA_send_2 : decode method_3_code 2 = .ok (.aload_n 0, 1) := by decide +kernel
theorem d_LA_send_3 : decode method_3_code 3 = .ok (.iload_n 1, 1) := by decide +kernel
theorem d_LA_send_4 : decode method_3_code 4 = .ok (.iload_n 2, 1) := by decide +kernel
theorem d_LA_send_5 : decode method_3_code 5 = .ok (.invokevirtual 7, 3) := by decide +kernel
theorem d_LA_send_8 : decode method_3_code 8 = .ok (.i2l, 1) := by decide +kernel
theorem d_LA_send_9 : decode method_3_code 9 = .ok (.lastore, 1) := by decide +kernel
theorem d_LA_send_10 : decode method_3_code 10 = .ok (.goto 11, 3) := by decide +kernel
theorem d_LA_send_13 : decode method_3_code 13 = .ok (.astore 4, 2) := by decide +kernel
theorem d_LA_send_15 : decode method_3_code 15 = .ok (.iconst 1, 1) := by decide +kernel
theorem d_LA_send_16 : decode method_3_code 16 = .ok (.ireturn, 1) := by decide +kernel
theorem d_LA_send_17 : decode method_3_code 17 = .ok (.astore 4, 2) := by decide +kernel
theorem d_LA_send_19 : decode method_3_code 19 = .ok (.iconst 2, 1) := by decide +kernel
theorem d_LA_send_20 : decode method_3_code 20 = .ok (.ireturn, 1) := by decide +kernel
theorem d_LA_send_21 : decode method_3_code 21 = .ok (.iconst 0, 1) := by decide +kernel
theorem d_LA_send_22 : decode method_3_code 22 = .ok (.ireturn, 1) := by decide +kernel
def y_LA_sample : MethodName := ⟨"CarrierLinkLaw", "sample", "(LCarrierLink;ZIZ[J)I"⟩
theorem hd_LA_sample : y_LA_sample.cls ≠ "java/lang/invoke/MethodHandle" ∧ y_LA_sample.cls ≠ "java/lang/invoke/VarHandle" ∧ (parseMethodDescriptor y_LA_sample.desc).map (fun d => d.parameters.length) = some 5 := ⟨by decide +kernel, by decide +kernel, by decide +kernel⟩
theorem d_LA_sample_0 : decode method_4_code 0 = .ok (.aload 4, 2) := by decide +kernel
theorem d_LA_sample_2 : decode method_4_code 2 = .ok (.iconst 0, 1) := by decide +kernel
theorem d_LA_sample_3 : decode method_4_code 3 = .ok (.aload_n 0, 1) := by decide +kernel
theorem d_LA_sample_4 : decode method_4_code 4 = .ok (.iload_n 1, 1) := by decide +kernel
theorem d_LA_sample_5 : decode method_4_code 5 = .ok (.iload_n 2, 1) := by decide +kernel
theorem d_LA_sample_6 : decode method_4_code 6 = .ok (.iload_n 3, 1) := by decide +kernel
theorem d_LA_sample_7 : decode method_4_code 7 = .ok (.invokevirtual 17, 3) := by decide +kernel
theorem d_LA_sample_10 : decode method_4_code 10 = .ok (.i2l, 1) := by decide +kernel
theorem d_LA_sample_11 : decode method_4_code 11 = .ok (.lastore, 1) := by decide +kernel
theorem d_LA_sample_12 : decode method_4_code 12 = .ok (.goto 7, 3) := by decide +kernel
theorem d_LA_sample_15 : decode method_4_code 15 = .ok (.astore 5, 2) := by decide +kernel
theorem d_LA_sample_17 : decode method_4_code 17 = .ok (.iconst 1, 1) := by decide +kernel
theorem d_LA_sample_18 : decode method_4_code 18 = .ok (.ireturn, 1) := by decide +kernel
theorem d_LA_sample_19 : decode method_4_code 19 = .ok (.iconst 0, 1) := by decide +kernel
theorem d_LA_sample_20 : decode method_4_code 20 = .ok (.ireturn, 1) := by decide +kernel
def y_LA_air : MethodName := ⟨"CarrierLinkLaw", "air", "(LCarrierLink;III[J)I"⟩
theorem hd_LA_air : y_LA_air.cls ≠ "java/lang/invoke/MethodHandle" ∧ y_LA_air.cls ≠ "java/lang/invoke/VarHandle" ∧ (parseMethodDescriptor y_LA_air.desc).map (fun d => d.parameters.length) = some 5 := ⟨by decide +kernel, by decide +kernel, by decide +kernel⟩
theorem d_LA_air_0 : decode method_5_code 0 = .ok (.aload 4, 2) := by decide +kernel
theorem d_LA_air_2 : decode method_5_code 2 = .ok (.iconst 0, 1) := by decide +kernel
theorem d_LA_air_3 : decode method_5_code 3 = .ok (.aload_n 0, 1) := by decide +kernel
theorem d_LA_air_4 : decode method_5_code 4 = .ok (.iload_n 1, 1) := by decide +kernel
theorem d_LA_air_5 : decode method_5_code 5 = .ok (.iload_n 2, 1) := by decide +kernel
theorem d_LA_air_6 : decode method_5_code 6 = .ok (.iload_n 3, 1) := by decide +kernel
theorem d_LA_air_7 : decode method_5_code 7 = .ok (.invokevirtual 23, 3) := by decide +kernel
theorem d_LA_air_10 : decode method_5_code 10 = .ok (.i2l, 1) := by decide +kernel
theorem d_LA_air_11 : decode method_5_code 11 = .ok (.lastore, 1) := by decide +kernel
theorem d_LA_air_12 : decode method_5_code 12 = .ok (.goto 11, 3) := by decide +kernel
theorem d_LA_air_15 : decode method_5_code 15 = .ok (.astore 5, 2) := by decide +kernel
theorem d_LA_air_17 : decode method_5_code 17 = .ok (.iconst 1, 1) := by decide +kernel
theorem d_LA_air_18 : decode method_5_code 18 = .ok (.ireturn, 1) := by decide +kernel
theorem d_LA_air_19 : decode method_5_code 19 = .ok (.astore 5, 2) := by decide +kernel
theorem d_LA_air_21 : decode method_5_code 21 = .ok (.iconst 2, 1) := by decide +kernel
theorem d_LA_air_22 : decode method_5_code 22 = .ok (.ireturn, 1) := by decide +kernel
theorem d_LA_air_23 : decode method_5_code 23 = .ok (.iconst 0, 1) := by decide +kernel
theorem d_LA_air_24 : decode method_5_code 24 = .ok (.ireturn, 1) := by decide +kernel
def y_LA_receive : MethodName := ⟨"CarrierLinkLaw", "receive", "(LCarrierLink;[J)I"⟩
theorem hd_LA_receive : y_LA_receive.cls ≠ "java/lang/invoke/MethodHandle" ∧ y_LA_receive.cls ≠ "java/lang/invoke/VarHandle" ∧ (parseMethodDescriptor y_LA_receive.desc).map (fun d => d.parameters.length) = some 2 := ⟨by decide +kernel, by decide +kernel, by decide +kernel⟩
theorem d_LA_receive_0 : decode method_6_code 0 = .ok (.aload_n 1, 1) := by decide +kernel
theorem d_LA_receive_1 : decode method_6_code 1 = .ok (.iconst 0, 1) := by decide +kernel
theorem d_LA_receive_2 : decode method_6_code 2 = .ok (.aload_n 0, 1) := by decide +kernel
theorem d_LA_receive_3 : decode method_6_code 3 = .ok (.invokevirtual 27, 3) := by decide +kernel
theorem d_LA_receive_6 : decode method_6_code 6 = .ok (.i2l, 1) := by decide +kernel
theorem d_LA_receive_7 : decode method_6_code 7 = .ok (.lastore, 1) := by decide +kernel
theorem d_LA_receive_8 : decode method_6_code 8 = .ok (.goto 6, 3) := by decide +kernel
theorem d_LA_receive_11 : decode method_6_code 11 = .ok (.astore_n 2, 1) := by decide +kernel
theorem d_LA_receive_12 : decode method_6_code 12 = .ok (.iconst 1, 1) := by decide +kernel
theorem d_LA_receive_13 : decode method_6_code 13 = .ok (.ireturn, 1) := by decide +kernel
theorem d_LA_receive_14 : decode method_6_code 14 = .ok (.iconst 0, 1) := by decide +kernel
theorem d_LA_receive_15 : decode method_6_code 15 = .ok (.ireturn, 1) := by decide +kernel
def y_LA_law : MethodName := ⟨"CarrierLinkLaw", "law", "([I)Z"⟩
theorem hd_LA_law : y_LA_law.cls ≠ "java/lang/invoke/MethodHandle" ∧ y_LA_law.cls ≠ "java/lang/invoke/VarHandle" ∧ (parseMethodDescriptor y_LA_law.desc).map (fun d => d.parameters.length) = some 1 := ⟨by decide +kernel, by decide +kernel, by decide +kernel⟩
theorem d_LA_law_0 : decode code 0 = .ok (.new 8, 3) := by decide +kernel
theorem d_LA_law_3 : decode code 3 = .ok (.dup, 1) := by decide +kernel
theorem d_LA_law_4 : decode code 4 = .ok (.invokespecial 31, 3) := by decide +kernel
theorem d_LA_law_7 : decode code 7 = .ok (.astore_n 1, 1) := by decide +kernel
theorem d_LA_law_8 : decode code 8 = .ok (.new 32, 3) := by decide +kernel
theorem d_LA_law_11 : decode code 11 = .ok (.dup, 1) := by decide +kernel
theorem d_LA_law_12 : decode code 12 = .ok (.invokespecial 34, 3) := by decide +kernel
theorem d_LA_law_15 : decode code 15 = .ok (.astore_n 2, 1) := by decide +kernel
theorem d_LA_law_16 : decode code 16 = .ok (.iconst 1, 1) := by decide +kernel
theorem d_LA_law_17 : decode code 17 = .ok (.newarray .long, 2) := by decide +kernel
theorem d_LA_law_19 : decode code 19 = .ok (.astore_n 3, 1) := by decide +kernel
theorem d_LA_law_20 : decode code 20 = .ok (.iconst 0, 1) := by decide +kernel
theorem d_LA_law_21 : decode code 21 = .ok (.istore 4, 2) := by decide +kernel
theorem d_LA_law_23 : decode code 23 = .ok (.iload 4, 2) := by decide +kernel
theorem d_LA_law_25 : decode code 25 = .ok (.aload_n 0, 1) := by decide +kernel
theorem d_LA_law_26 : decode code 26 = .ok (.arraylength, 1) := by decide +kernel
theorem d_LA_law_27 : decode code 27 = .ok (.iconst 4, 1) := by decide +kernel
theorem d_LA_law_28 : decode code 28 = .ok (.isub, 1) := by decide +kernel
theorem d_LA_law_29 : decode code 29 = .ok (.if_icmp .gt 720, 3) := by decide +kernel
theorem d_LA_law_32 : decode code 32 = .ok (.aload_n 0, 1) := by decide +kernel
theorem d_LA_law_33 : decode code 33 = .ok (.iload 4, 2) := by decide +kernel
theorem d_LA_law_35 : decode code 35 = .ok (.iaload, 1) := by decide +kernel
theorem d_LA_law_36 : decode code 36 = .ok (.bipush 15, 2) := by decide +kernel
theorem d_LA_law_38 : decode code 38 = .ok (.iand, 1) := by decide +kernel
theorem d_LA_law_39 : decode code 39 = .ok (.tableswitch 704 0 12 #[65, 134, 145, 213, 250, 362, 442, 495, 532, 557, 601, 626, 651], 65) := by decide +kernel
theorem d_LA_law_104 : decode code 104 = .ok (.aload_n 1, 1) := by decide +kernel
theorem d_LA_law_105 : decode code 105 = .ok (.aload_n 0, 1) := by decide +kernel
theorem d_LA_law_106 : decode code 106 = .ok (.iload 4, 2) := by decide +kernel
theorem d_LA_law_108 : decode code 108 = .ok (.iconst 1, 1) := by decide +kernel
theorem d_LA_law_109 : decode code 109 = .ok (.iadd, 1) := by decide +kernel
theorem d_LA_law_110 : decode code 110 = .ok (.iaload, 1) := by decide +kernel
theorem d_LA_law_111 : decode code 111 = .ok (.aload_n 0, 1) := by decide +kernel
theorem d_LA_law_112 : decode code 112 = .ok (.iload 4, 2) := by decide +kernel
theorem d_LA_law_114 : decode code 114 = .ok (.iconst 2, 1) := by decide +kernel
theorem d_LA_law_115 : decode code 115 = .ok (.iadd, 1) := by decide +kernel
theorem d_LA_law_116 : decode code 116 = .ok (.iaload, 1) := by decide +kernel
theorem d_LA_law_117 : decode code 117 = .ok (.i2l, 1) := by decide +kernel
theorem d_LA_law_118 : decode code 118 = .ok (.bipush 32, 2) := by decide +kernel
theorem d_LA_law_120 : decode code 120 = .ok (.lshl, 1) := by decide +kernel
theorem d_LA_law_121 : decode code 121 = .ok (.aload_n 0, 1) := by decide +kernel
theorem d_LA_law_122 : decode code 122 = .ok (.iload 4, 2) := by decide +kernel
theorem d_LA_law_124 : decode code 124 = .ok (.iconst 3, 1) := by decide +kernel
theorem d_LA_law_125 : decode code 125 = .ok (.iadd, 1) := by decide +kernel
theorem d_LA_law_126 : decode code 126 = .ok (.iaload, 1) := by decide +kernel
theorem d_LA_law_127 : decode code 127 = .ok (.i2l, 1) := by decide +kernel
theorem d_LA_law_128 : decode code 128 = .ok (.ldc2_w 35, 3) := by decide +kernel
theorem d_LA_law_131 : decode code 131 = .ok (.land, 1) := by decide +kernel
theorem d_LA_law_132 : decode code 132 = .ok (.lor, 1) := by decide +kernel
theorem d_LA_law_133 : decode code 133 = .ok (.invokevirtual 37, 3) := by decide +kernel
theorem d_LA_law_136 : decode code 136 = .ok (.aload_n 2, 1) := by decide +kernel
theorem d_LA_law_137 : decode code 137 = .ok (.aload_n 0, 1) := by decide +kernel
theorem d_LA_law_138 : decode code 138 = .ok (.iload 4, 2) := by decide +kernel
theorem d_LA_law_140 : decode code 140 = .ok (.iconst 1, 1) := by decide +kernel
theorem d_LA_law_141 : decode code 141 = .ok (.iadd, 1) := by decide +kernel
theorem d_LA_law_142 : decode code 142 = .ok (.iaload, 1) := by decide +kernel
theorem d_LA_law_143 : decode code 143 = .ok (.aload_n 0, 1) := by decide +kernel
theorem d_LA_law_144 : decode code 144 = .ok (.iload 4, 2) := by decide +kernel
theorem d_LA_law_146 : decode code 146 = .ok (.iconst 2, 1) := by decide +kernel
theorem d_LA_law_147 : decode code 147 = .ok (.iadd, 1) := by decide +kernel
theorem d_LA_law_148 : decode code 148 = .ok (.iaload, 1) := by decide +kernel
theorem d_LA_law_149 : decode code 149 = .ok (.i2l, 1) := by decide +kernel
theorem d_LA_law_150 : decode code 150 = .ok (.bipush 32, 2) := by decide +kernel
theorem d_LA_law_152 : decode code 152 = .ok (.lshl, 1) := by decide +kernel
theorem d_LA_law_153 : decode code 153 = .ok (.aload_n 0, 1) := by decide +kernel
theorem d_LA_law_154 : decode code 154 = .ok (.iload 4, 2) := by decide +kernel
theorem d_LA_law_156 : decode code 156 = .ok (.iconst 3, 1) := by decide +kernel
theorem d_LA_law_157 : decode code 157 = .ok (.iadd, 1) := by decide +kernel
theorem d_LA_law_158 : decode code 158 = .ok (.iaload, 1) := by decide +kernel
theorem d_LA_law_159 : decode code 159 = .ok (.i2l, 1) := by decide +kernel
theorem d_LA_law_160 : decode code 160 = .ok (.ldc2_w 35, 3) := by decide +kernel
theorem d_LA_law_163 : decode code 163 = .ok (.land, 1) := by decide +kernel
theorem d_LA_law_164 : decode code 164 = .ok (.lor, 1) := by decide +kernel
theorem d_LA_law_165 : decode code 165 = .ok (.invokevirtual 41, 3) := by decide +kernel
theorem d_LA_law_168 : decode code 168 = .ok (.if_icmp .eq 575, 3) := by decide +kernel
theorem d_LA_law_171 : decode code 171 = .ok (.iconst 0, 1) := by decide +kernel
theorem d_LA_law_172 : decode code 172 = .ok (.ireturn, 1) := by decide +kernel
theorem d_LA_law_173 : decode code 173 = .ok (.aload_n 1, 1) := by decide +kernel
theorem d_LA_law_174 : decode code 174 = .ok (.invokevirtual 42, 3) := by decide +kernel
theorem d_LA_law_177 : decode code 177 = .ok (.aload_n 2, 1) := by decide +kernel
theorem d_LA_law_178 : decode code 178 = .ok (.invokevirtual 45, 3) := by decide +kernel
theorem d_LA_law_181 : decode code 181 = .ok (.goto 562, 3) := by decide +kernel
theorem d_LA_law_184 : decode code 184 = .ok (.aload_n 1, 1) := by decide +kernel
theorem d_LA_law_185 : decode code 185 = .ok (.aload_n 0, 1) := by decide +kernel
theorem d_LA_law_186 : decode code 186 = .ok (.iload 4, 2) := by decide +kernel
theorem d_LA_law_188 : decode code 188 = .ok (.iconst 1, 1) := by decide +kernel
theorem d_LA_law_189 : decode code 189 = .ok (.iadd, 1) := by decide +kernel
theorem d_LA_law_190 : decode code 190 = .ok (.iaload, 1) := by decide +kernel
theorem d_LA_law_191 : decode code 191 = .ok (.aload_n 0, 1) := by decide +kernel
theorem d_LA_law_192 : decode code 192 = .ok (.iload 4, 2) := by decide +kernel
theorem d_LA_law_194 : decode code 194 = .ok (.iconst 2, 1) := by decide +kernel
theorem d_LA_law_195 : decode code 195 = .ok (.iadd, 1) := by decide +kernel
theorem d_LA_law_196 : decode code 196 = .ok (.iaload, 1) := by decide +kernel
theorem d_LA_law_197 : decode code 197 = .ok (.aload_n 3, 1) := by decide +kernel
theorem d_LA_law_198 : decode code 198 = .ok (.invokestatic 46, 3) := by decide +kernel
theorem d_LA_law_201 : decode code 201 = .ok (.istore 5, 2) := by decide +kernel
theorem d_LA_law_203 : decode code 203 = .ok (.aload_n 2, 1) := by decide +kernel
theorem d_LA_law_204 : decode code 204 = .ok (.aload_n 0, 1) := by decide +kernel
theorem d_LA_law_205 : decode code 205 = .ok (.iload 4, 2) := by decide +kernel
theorem d_LA_law_207 : decode code 207 = .ok (.iconst 1, 1) := by decide +kernel
theorem d_LA_law_208 : decode code 208 = .ok (.iadd, 1) := by decide +kernel
theorem d_LA_law_209 : decode code 209 = .ok (.iaload, 1) := by decide +kernel
theorem d_LA_law_210 : decode code 210 = .ok (.aload_n 0, 1) := by decide +kernel
theorem d_LA_law_211 : decode code 211 = .ok (.iload 4, 2) := by decide +kernel
theorem d_LA_law_213 : decode code 213 = .ok (.iconst 2, 1) := by decide +kernel
theorem d_LA_law_214 : decode code 214 = .ok (.iadd, 1) := by decide +kernel
theorem d_LA_law_215 : decode code 215 = .ok (.iaload, 1) := by decide +kernel
theorem d_LA_law_216 : decode code 216 = .ok (.invokevirtual 51, 3) := by decide +kernel
theorem d_LA_law_219 : decode code 219 = .ok (.istore 6, 2) := by decide +kernel
theorem d_LA_law_221 : decode code 221 = .ok (.aload_n 2, 1) := by decide +kernel
theorem d_LA_law_222 : decode code 222 = .ok (.invokevirtual 52, 3) := by decide +kernel
theorem d_LA_law_225 : decode code 225 = .ok (.iload 5, 2) := by decide +kernel
theorem d_LA_law_227 : decode code 227 = .ok (.if_icmp .eq 5, 3) := by decide +kernel
theorem d_LA_law_230 : decode code 230 = .ok (.iconst 0, 1) := by decide +kernel
theorem d_LA_law_231 : decode code 231 = .ok (.ireturn, 1) := by decide +kernel
theorem d_LA_law_232 : decode code 232 = .ok (.iload 5, 2) := by decide +kernel
theorem d_LA_law_234 : decode code 234 = .ok (.ifCond .ne 15, 3) := by decide +kernel
theorem d_LA_law_237 : decode code 237 = .ok (.aload_n 3, 1) := by decide +kernel
theorem d_LA_law_238 : decode code 238 = .ok (.iconst 0, 1) := by decide +kernel
theorem d_LA_law_239 : decode code 239 = .ok (.laload, 1) := by decide +kernel
theorem d_LA_law_240 : decode code 240 = .ok (.iload 6, 2) := by decide +kernel
theorem d_LA_law_242 : decode code 242 = .ok (.i2l, 1) := by decide +kernel
theorem d_LA_law_243 : decode code 243 = .ok (.lcmp, 1) := by decide +kernel
theorem d_LA_law_244 : decode code 244 = .ok (.ifCond .eq 5, 3) := by decide +kernel
theorem d_LA_law_247 : decode code 247 = .ok (.iconst 0, 1) := by decide +kernel
theorem d_LA_law_248 : decode code 248 = .ok (.ireturn, 1) := by decide +kernel
theorem d_LA_law_249 : decode code 249 = .ok (.goto 494, 3) := by decide +kernel
theorem d_LA_law_252 : decode code 252 = .ok (.aload_n 1, 1) := by decide +kernel
theorem d_LA_law_253 : decode code 253 = .ok (.aload_n 0, 1) := by decide +kernel
theorem d_LA_law_254 : decode code 254 = .ok (.iload 4, 2) := by decide +kernel
theorem d_LA_law_256 : decode code 256 = .ok (.iconst 1, 1) := by decide +kernel
theorem d_LA_law_257 : decode code 257 = .ok (.iadd, 1) := by decide +kernel
theorem d_LA_law_258 : decode code 258 = .ok (.iaload, 1) := by decide +kernel
theorem d_LA_law_259 : decode code 259 = .ok (.aload_n 0, 1) := by decide +kernel
theorem d_LA_law_260 : decode code 260 = .ok (.iload 4, 2) := by decide +kernel
theorem d_LA_law_262 : decode code 262 = .ok (.iconst 2, 1) := by decide +kernel
theorem d_LA_law_263 : decode code 263 = .ok (.iadd, 1) := by decide +kernel
theorem d_LA_law_264 : decode code 264 = .ok (.iaload, 1) := by decide +kernel
theorem d_LA_law_265 : decode code 265 = .ok (.invokevirtual 55, 3) := by decide +kernel
theorem d_LA_law_268 : decode code 268 = .ok (.aload_n 2, 1) := by decide +kernel
theorem d_LA_law_269 : decode code 269 = .ok (.aload_n 0, 1) := by decide +kernel
theorem d_LA_law_270 : decode code 270 = .ok (.iload 4, 2) := by decide +kernel
theorem d_LA_law_272 : decode code 272 = .ok (.iconst 1, 1) := by decide +kernel
theorem d_LA_law_273 : decode code 273 = .ok (.iadd, 1) := by decide +kernel
theorem d_LA_law_274 : decode code 274 = .ok (.iaload, 1) := by decide +kernel
theorem d_LA_law_275 : decode code 275 = .ok (.aload_n 0, 1) := by decide +kernel
theorem d_LA_law_276 : decode code 276 = .ok (.iload 4, 2) := by decide +kernel
theorem d_LA_law_278 : decode code 278 = .ok (.iconst 2, 1) := by decide +kernel
theorem d_LA_law_279 : decode code 279 = .ok (.iadd, 1) := by decide +kernel
theorem d_LA_law_280 : decode code 280 = .ok (.iaload, 1) := by decide +kernel
theorem d_LA_law_281 : decode code 281 = .ok (.invokevirtual 58, 3) := by decide +kernel
theorem d_LA_law_284 : decode code 284 = .ok (.if_icmp .eq 459, 3) := by decide +kernel
theorem d_LA_law_287 : decode code 287 = .ok (.iconst 0, 1) := by decide +kernel
theorem d_LA_law_288 : decode code 288 = .ok (.ireturn, 1) := by decide +kernel
theorem d_LA_law_289 : decode code 289 = .ok (.aload_n 1, 1) := by decide +kernel
theorem d_LA_law_290 : decode code 290 = .ok (.aload_n 0, 1) := by decide +kernel
theorem d_LA_law_291 : decode code 291 = .ok (.iload 4, 2) := by decide +kernel
theorem d_LA_law_293 : decode code 293 = .ok (.iconst 1, 1) := by decide +kernel
theorem d_LA_law_294 : decode code 294 = .ok (.iadd, 1) := by decide +kernel
theorem d_LA_law_295 : decode code 295 = .ok (.iaload, 1) := by decide +kernel
theorem d_LA_law_296 : decode code 296 = .ok (.ifCond .eq 7, 3) := by decide +kernel
theorem d_LA_law_299 : decode code 299 = .ok (.iconst 1, 1) := by decide +kernel
theorem d_LA_law_300 : decode code 300 = .ok (.goto 4, 3) := by decide +kernel
theorem d_LA_law_303 : decode code 303 = .ok (.iconst 0, 1) := by decide +kernel
theorem d_LA_law_304 : decode code 304 = .ok (.aload_n 0, 1) := by decide +kernel
theorem d_LA_law_305 : decode code 305 = .ok (.iload 4, 2) := by decide +kernel
theorem d_LA_law_307 : decode code 307 = .ok (.iconst 2, 1) := by decide +kernel
theorem d_LA_law_308 : decode code 308 = .ok (.iadd, 1) := by decide +kernel
theorem d_LA_law_309 : decode code 309 = .ok (.iaload, 1) := by decide +kernel
theorem d_LA_law_310 : decode code 310 = .ok (.aload_n 0, 1) := by decide +kernel
theorem d_LA_law_311 : decode code 311 = .ok (.iload 4, 2) := by decide +kernel
theorem d_LA_law_313 : decode code 313 = .ok (.iconst 3, 1) := by decide +kernel
theorem d_LA_law_314 : decode code 314 = .ok (.iadd, 1) := by decide +kernel
theorem d_LA_law_315 : decode code 315 = .ok (.iaload, 1) := by decide +kernel
theorem d_LA_law_316 : decode code 316 = .ok (.ifCond .eq 7, 3) := by decide +kernel
theorem d_LA_law_319 : decode code 319 = .ok (.iconst 1, 1) := by decide +kernel
theorem d_LA_law_320 : decode code 320 = .ok (.goto 4, 3) := by decide +kernel
theorem d_LA_law_323 : decode code 323 = .ok (.iconst 0, 1) := by decide +kernel
theorem d_LA_law_324 : decode code 324 = .ok (.aload_n 3, 1) := by decide +kernel
theorem d_LA_law_325 : decode code 325 = .ok (.invokestatic 59, 3) := by decide +kernel
theorem d_LA_law_328 : decode code 328 = .ok (.istore 5, 2) := by decide +kernel
theorem d_LA_law_330 : decode code 330 = .ok (.aload_n 2, 1) := by decide +kernel
theorem d_LA_law_331 : decode code 331 = .ok (.aload_n 0, 1) := by decide +kernel
theorem d_LA_law_332 : decode code 332 = .ok (.iload 4, 2) := by decide +kernel
theorem d_LA_law_334 : decode code 334 = .ok (.iconst 1, 1) := by decide +kernel
theorem d_LA_law_335 : decode code 335 = .ok (.iadd, 1) := by decide +kernel
theorem d_LA_law_336 : decode code 336 = .ok (.iaload, 1) := by decide +kernel
theorem d_LA_law_337 : decode code 337 = .ok (.ifCond .eq 7, 3) := by decide +kernel
theorem d_LA_law_340 : decode code 340 = .ok (.iconst 1, 1) := by decide +kernel
theorem d_LA_law_341 : decode code 341 = .ok (.goto 4, 3) := by decide +kernel
theorem d_LA_law_344 : decode code 344 = .ok (.iconst 0, 1) := by decide +kernel
theorem d_LA_law_345 : decode code 345 = .ok (.aload_n 0, 1) := by decide +kernel
theorem d_LA_law_346 : decode code 346 = .ok (.iload 4, 2) := by decide +kernel
theorem d_LA_law_348 : decode code 348 = .ok (.iconst 2, 1) := by decide +kernel
theorem d_LA_law_349 : decode code 349 = .ok (.iadd, 1) := by decide +kernel
theorem d_LA_law_350 : decode code 350 = .ok (.iaload, 1) := by decide +kernel
theorem d_LA_law_351 : decode code 351 = .ok (.aload_n 0, 1) := by decide +kernel
theorem d_LA_law_352 : decode code 352 = .ok (.iload 4, 2) := by decide +kernel
theorem d_LA_law_354 : decode code 354 = .ok (.iconst 3, 1) := by decide +kernel
theorem d_LA_law_355 : decode code 355 = .ok (.iadd, 1) := by decide +kernel
theorem d_LA_law_356 : decode code 356 = .ok (.iaload, 1) := by decide +kernel
theorem d_LA_law_357 : decode code 357 = .ok (.ifCond .eq 7, 3) := by decide +kernel
theorem d_LA_law_360 : decode code 360 = .ok (.iconst 1, 1) := by decide +kernel
theorem d_LA_law_361 : decode code 361 = .ok (.goto 4, 3) := by decide +kernel
theorem d_LA_law_364 : decode code 364 = .ok (.iconst 0, 1) := by decide +kernel
theorem d_LA_law_365 : decode code 365 = .ok (.invokevirtual 62, 3) := by decide +kernel
theorem d_LA_law_368 : decode code 368 = .ok (.istore 6, 2) := by decide +kernel
theorem d_LA_law_370 : decode code 370 = .ok (.aload_n 2, 1) := by decide +kernel
theorem d_LA_law_371 : decode code 371 = .ok (.invokevirtual 52, 3) := by decide +kernel
theorem d_LA_law_374 : decode code 374 = .ok (.iload 5, 2) := by decide +kernel
theorem d_LA_law_376 : decode code 376 = .ok (.if_icmp .eq 5, 3) := by decide +kernel
theorem d_LA_law_379 : decode code 379 = .ok (.iconst 0, 1) := by decide +kernel
theorem d_LA_law_380 : decode code 380 = .ok (.ireturn, 1) := by decide +kernel
theorem d_LA_law_381 : decode code 381 = .ok (.iload 5, 2) := by decide +kernel
theorem d_LA_law_383 : decode code 383 = .ok (.ifCond .ne 15, 3) := by decide +kernel
theorem d_LA_law_386 : decode code 386 = .ok (.aload_n 3, 1) := by decide +kernel
theorem d_LA_law_387 : decode code 387 = .ok (.iconst 0, 1) := by decide +kernel
theorem d_LA_law_388 : decode code 388 = .ok (.laload, 1) := by decide +kernel
theorem d_LA_law_389 : decode code 389 = .ok (.iload 6, 2) := by decide +kernel
theorem d_LA_law_391 : decode code 391 = .ok (.i2l, 1) := by decide +kernel
theorem d_LA_law_392 : decode code 392 = .ok (.lcmp, 1) := by decide +kernel
theorem d_LA_law_393 : decode code 393 = .ok (.ifCond .eq 5, 3) := by decide +kernel
theorem d_LA_law_396 : decode code 396 = .ok (.iconst 0, 1) := by decide +kernel
theorem d_LA_law_397 : decode code 397 = .ok (.ireturn, 1) := by decide +kernel
theorem d_LA_law_398 : decode code 398 = .ok (.goto 345, 3) := by decide +kernel
theorem d_LA_law_401 : decode code 401 = .ok (.aload_n 1, 1) := by decide +kernel
theorem d_LA_law_402 : decode code 402 = .ok (.aload_n 0, 1) := by decide +kernel
theorem d_LA_law_403 : decode code 403 = .ok (.iload 4, 2) := by decide +kernel
theorem d_LA_law_405 : decode code 405 = .ok (.iconst 1, 1) := by decide +kernel
theorem d_LA_law_406 : decode code 406 = .ok (.iadd, 1) := by decide +kernel
theorem d_LA_law_407 : decode code 407 = .ok (.iaload, 1) := by decide +kernel
theorem d_LA_law_408 : decode code 408 = .ok (.aload_n 0, 1) := by decide +kernel
theorem d_LA_law_409 : decode code 409 = .ok (.iload 4, 2) := by decide +kernel
theorem d_LA_law_411 : decode code 411 = .ok (.iconst 2, 1) := by decide +kernel
theorem d_LA_law_412 : decode code 412 = .ok (.iadd, 1) := by decide +kernel
theorem d_LA_law_413 : decode code 413 = .ok (.iaload, 1) := by decide +kernel
theorem d_LA_law_414 : decode code 414 = .ok (.aload_n 0, 1) := by decide +kernel
theorem d_LA_law_415 : decode code 415 = .ok (.iload 4, 2) := by decide +kernel
theorem d_LA_law_417 : decode code 417 = .ok (.iconst 3, 1) := by decide +kernel
theorem d_LA_law_418 : decode code 418 = .ok (.iadd, 1) := by decide +kernel
theorem d_LA_law_419 : decode code 419 = .ok (.iaload, 1) := by decide +kernel
theorem d_LA_law_420 : decode code 420 = .ok (.aload_n 3, 1) := by decide +kernel
theorem d_LA_law_421 : decode code 421 = .ok (.invokestatic 63, 3) := by decide +kernel
theorem d_LA_law_424 : decode code 424 = .ok (.istore 5, 2) := by decide +kernel
theorem d_LA_law_426 : decode code 426 = .ok (.aload_n 2, 1) := by decide +kernel
theorem d_LA_law_427 : decode code 427 = .ok (.aload_n 0, 1) := by decide +kernel
theorem d_LA_law_428 : decode code 428 = .ok (.iload 4, 2) := by decide +kernel
theorem d_LA_law_430 : decode code 430 = .ok (.iconst 1, 1) := by decide +kernel
theorem d_LA_law_431 : decode code 431 = .ok (.iadd, 1) := by decide +kernel
theorem d_LA_law_432 : decode code 432 = .ok (.iaload, 1) := by decide +kernel
theorem d_LA_law_433 : decode code 433 = .ok (.aload_n 0, 1) := by decide +kernel
theorem d_LA_law_434 : decode code 434 = .ok (.iload 4, 2) := by decide +kernel
theorem d_LA_law_436 : decode code 436 = .ok (.iconst 2, 1) := by decide +kernel
theorem d_LA_law_437 : decode code 437 = .ok (.iadd, 1) := by decide +kernel
theorem d_LA_law_438 : decode code 438 = .ok (.iaload, 1) := by decide +kernel
theorem d_LA_law_439 : decode code 439 = .ok (.aload_n 0, 1) := by decide +kernel
theorem d_LA_law_440 : decode code 440 = .ok (.iload 4, 2) := by decide +kernel
theorem d_LA_law_442 : decode code 442 = .ok (.iconst 3, 1) := by decide +kernel
theorem d_LA_law_443 : decode code 443 = .ok (.iadd, 1) := by decide +kernel
theorem d_LA_law_444 : decode code 444 = .ok (.iaload, 1) := by decide +kernel
theorem d_LA_law_445 : decode code 445 = .ok (.invokevirtual 66, 3) := by decide +kernel
theorem d_LA_law_448 : decode code 448 = .ok (.istore 6, 2) := by decide +kernel
theorem d_LA_law_450 : decode code 450 = .ok (.aload_n 2, 1) := by decide +kernel
theorem d_LA_law_451 : decode code 451 = .ok (.invokevirtual 52, 3) := by decide +kernel
theorem d_LA_law_454 : decode code 454 = .ok (.iload 5, 2) := by decide +kernel
theorem d_LA_law_456 : decode code 456 = .ok (.if_icmp .eq 5, 3) := by decide +kernel
theorem d_LA_law_459 : decode code 459 = .ok (.iconst 0, 1) := by decide +kernel
theorem d_LA_law_460 : decode code 460 = .ok (.ireturn, 1) := by decide +kernel
theorem d_LA_law_461 : decode code 461 = .ok (.iload 5, 2) := by decide +kernel
theorem d_LA_law_463 : decode code 463 = .ok (.ifCond .ne 15, 3) := by decide +kernel
theorem d_LA_law_466 : decode code 466 = .ok (.aload_n 3, 1) := by decide +kernel
theorem d_LA_law_467 : decode code 467 = .ok (.iconst 0, 1) := by decide +kernel
theorem d_LA_law_468 : decode code 468 = .ok (.laload, 1) := by decide +kernel
theorem d_LA_law_469 : decode code 469 = .ok (.iload 6, 2) := by decide +kernel
theorem d_LA_law_471 : decode code 471 = .ok (.i2l, 1) := by decide +kernel
theorem d_LA_law_472 : decode code 472 = .ok (.lcmp, 1) := by decide +kernel
theorem d_LA_law_473 : decode code 473 = .ok (.ifCond .eq 5, 3) := by decide +kernel
theorem d_LA_law_476 : decode code 476 = .ok (.iconst 0, 1) := by decide +kernel
theorem d_LA_law_477 : decode code 477 = .ok (.ireturn, 1) := by decide +kernel
theorem d_LA_law_478 : decode code 478 = .ok (.goto 265, 3) := by decide +kernel
theorem d_LA_law_481 : decode code 481 = .ok (.aload_n 1, 1) := by decide +kernel
theorem d_LA_law_482 : decode code 482 = .ok (.aload_n 0, 1) := by decide +kernel
theorem d_LA_law_483 : decode code 483 = .ok (.iload 4, 2) := by decide +kernel
theorem d_LA_law_485 : decode code 485 = .ok (.iconst 1, 1) := by decide +kernel
theorem d_LA_law_486 : decode code 486 = .ok (.iadd, 1) := by decide +kernel
theorem d_LA_law_487 : decode code 487 = .ok (.iaload, 1) := by decide +kernel
theorem d_LA_law_488 : decode code 488 = .ok (.aload_n 0, 1) := by decide +kernel
theorem d_LA_law_489 : decode code 489 = .ok (.iload 4, 2) := by decide +kernel
theorem d_LA_law_491 : decode code 491 = .ok (.iconst 2, 1) := by decide +kernel
theorem d_LA_law_492 : decode code 492 = .ok (.iadd, 1) := by decide +kernel
theorem d_LA_law_493 : decode code 493 = .ok (.iaload, 1) := by decide +kernel
theorem d_LA_law_494 : decode code 494 = .ok (.i2s, 1) := by decide +kernel
theorem d_LA_law_495 : decode code 495 = .ok (.aload_n 0, 1) := by decide +kernel
theorem d_LA_law_496 : decode code 496 = .ok (.iload 4, 2) := by decide +kernel
theorem d_LA_law_498 : decode code 498 = .ok (.iconst 3, 1) := by decide +kernel
theorem d_LA_law_499 : decode code 499 = .ok (.iadd, 1) := by decide +kernel
theorem d_LA_law_500 : decode code 500 = .ok (.iaload, 1) := by decide +kernel
theorem d_LA_law_501 : decode code 501 = .ok (.i2s, 1) := by decide +kernel
theorem d_LA_law_502 : decode code 502 = .ok (.invokevirtual 67, 3) := by decide +kernel
theorem d_LA_law_505 : decode code 505 = .ok (.aload_n 2, 1) := by decide +kernel
theorem d_LA_law_506 : decode code 506 = .ok (.aload_n 0, 1) := by decide +kernel
theorem d_LA_law_507 : decode code 507 = .ok (.iload 4, 2) := by decide +kernel
theorem d_LA_law_509 : decode code 509 = .ok (.iconst 1, 1) := by decide +kernel
theorem d_LA_law_510 : decode code 510 = .ok (.iadd, 1) := by decide +kernel
theorem d_LA_law_511 : decode code 511 = .ok (.iaload, 1) := by decide +kernel
theorem d_LA_law_512 : decode code 512 = .ok (.aload_n 0, 1) := by decide +kernel
theorem d_LA_law_513 : decode code 513 = .ok (.iload 4, 2) := by decide +kernel
theorem d_LA_law_515 : decode code 515 = .ok (.iconst 2, 1) := by decide +kernel
theorem d_LA_law_516 : decode code 516 = .ok (.iadd, 1) := by decide +kernel
theorem d_LA_law_517 : decode code 517 = .ok (.iaload, 1) := by decide +kernel
theorem d_LA_law_518 : decode code 518 = .ok (.i2s, 1) := by decide +kernel
theorem d_LA_law_519 : decode code 519 = .ok (.aload_n 0, 1) := by decide +kernel
theorem d_LA_law_520 : decode code 520 = .ok (.iload 4, 2) := by decide +kernel
theorem d_LA_law_522 : decode code 522 = .ok (.iconst 3, 1) := by decide +kernel
theorem d_LA_law_523 : decode code 523 = .ok (.iadd, 1) := by decide +kernel
theorem d_LA_law_524 : decode code 524 = .ok (.iaload, 1) := by decide +kernel
theorem d_LA_law_525 : decode code 525 = .ok (.i2s, 1) := by decide +kernel
theorem d_LA_law_526 : decode code 526 = .ok (.invokevirtual 71, 3) := by decide +kernel
theorem d_LA_law_529 : decode code 529 = .ok (.if_icmp .eq 214, 3) := by decide +kernel
theorem d_LA_law_532 : decode code 532 = .ok (.iconst 0, 1) := by decide +kernel
theorem d_LA_law_533 : decode code 533 = .ok (.ireturn, 1) := by decide +kernel
theorem d_LA_law_534 : decode code 534 = .ok (.aload_n 1, 1) := by decide +kernel
theorem d_LA_law_535 : decode code 535 = .ok (.aload_n 0, 1) := by decide +kernel
theorem d_LA_law_536 : decode code 536 = .ok (.iload 4, 2) := by decide +kernel
theorem d_LA_law_538 : decode code 538 = .ok (.iconst 1, 1) := by decide +kernel
theorem d_LA_law_539 : decode code 539 = .ok (.iadd, 1) := by decide +kernel
theorem d_LA_law_540 : decode code 540 = .ok (.iaload, 1) := by decide +kernel
theorem d_LA_law_541 : decode code 541 = .ok (.aload_n 0, 1) := by decide +kernel
theorem d_LA_law_542 : decode code 542 = .ok (.iload 4, 2) := by decide +kernel
theorem d_LA_law_544 : decode code 544 = .ok (.iconst 2, 1) := by decide +kernel
theorem d_LA_law_545 : decode code 545 = .ok (.iadd, 1) := by decide +kernel
theorem d_LA_law_546 : decode code 546 = .ok (.iaload, 1) := by decide +kernel
theorem d_LA_law_547 : decode code 547 = .ok (.invokevirtual 72, 3) := by decide +kernel
theorem d_LA_law_550 : decode code 550 = .ok (.aload_n 2, 1) := by decide +kernel
theorem d_LA_law_551 : decode code 551 = .ok (.aload_n 0, 1) := by decide +kernel
theorem d_LA_law_552 : decode code 552 = .ok (.iload 4, 2) := by decide +kernel
theorem d_LA_law_554 : decode code 554 = .ok (.iconst 1, 1) := by decide +kernel
theorem d_LA_law_555 : decode code 555 = .ok (.iadd, 1) := by decide +kernel
theorem d_LA_law_556 : decode code 556 = .ok (.iaload, 1) := by decide +kernel
theorem d_LA_law_557 : decode code 557 = .ok (.aload_n 0, 1) := by decide +kernel
theorem d_LA_law_558 : decode code 558 = .ok (.iload 4, 2) := by decide +kernel
theorem d_LA_law_560 : decode code 560 = .ok (.iconst 2, 1) := by decide +kernel
theorem d_LA_law_561 : decode code 561 = .ok (.iadd, 1) := by decide +kernel
theorem d_LA_law_562 : decode code 562 = .ok (.iaload, 1) := by decide +kernel
theorem d_LA_law_563 : decode code 563 = .ok (.invokevirtual 76, 3) := by decide +kernel
theorem d_LA_law_566 : decode code 566 = .ok (.if_icmp .eq 177, 3) := by decide +kernel
theorem d_LA_law_569 : decode code 569 = .ok (.iconst 0, 1) := by decide +kernel
theorem d_LA_law_570 : decode code 570 = .ok (.ireturn, 1) := by decide +kernel
theorem d_LA_law_571 : decode code 571 = .ok (.aload_n 1, 1) := by decide +kernel
theorem d_LA_law_572 : decode code 572 = .ok (.aload_n 0, 1) := by decide +kernel
theorem d_LA_law_573 : decode code 573 = .ok (.iload 4, 2) := by decide +kernel
theorem d_LA_law_575 : decode code 575 = .ok (.iconst 1, 1) := by decide +kernel
theorem d_LA_law_576 : decode code 576 = .ok (.iadd, 1) := by decide +kernel
theorem d_LA_law_577 : decode code 577 = .ok (.iaload, 1) := by decide +kernel
theorem d_LA_law_578 : decode code 578 = .ok (.invokevirtual 77, 3) := by decide +kernel
theorem d_LA_law_581 : decode code 581 = .ok (.aload_n 2, 1) := by decide +kernel
theorem d_LA_law_582 : decode code 582 = .ok (.aload_n 0, 1) := by decide +kernel
theorem d_LA_law_583 : decode code 583 = .ok (.iload 4, 2) := by decide +kernel
theorem d_LA_law_585 : decode code 585 = .ok (.iconst 1, 1) := by decide +kernel
theorem d_LA_law_586 : decode code 586 = .ok (.iadd, 1) := by decide +kernel
theorem d_LA_law_587 : decode code 587 = .ok (.iaload, 1) := by decide +kernel
theorem d_LA_law_588 : decode code 588 = .ok (.invokevirtual 81, 3) := by decide +kernel
theorem d_LA_law_591 : decode code 591 = .ok (.if_icmp .eq 152, 3) := by decide +kernel
theorem d_LA_law_594 : decode code 594 = .ok (.iconst 0, 1) := by decide +kernel
theorem d_LA_law_595 : decode code 595 = .ok (.ireturn, 1) := by decide +kernel
theorem d_LA_law_596 : decode code 596 = .ok (.aload_n 1, 1) := by decide +kernel
theorem d_LA_law_597 : decode code 597 = .ok (.aload_n 3, 1) := by decide +kernel
theorem d_LA_law_598 : decode code 598 = .ok (.invokestatic 82, 3) := by decide +kernel
theorem d_LA_law_601 : decode code 601 = .ok (.istore 5, 2) := by decide +kernel
theorem d_LA_law_603 : decode code 603 = .ok (.aload_n 2, 1) := by decide +kernel
theorem d_LA_law_604 : decode code 604 = .ok (.invokevirtual 85, 3) := by decide +kernel
theorem d_LA_law_607 : decode code 607 = .ok (.istore 6, 2) := by decide +kernel
theorem d_LA_law_609 : decode code 609 = .ok (.aload_n 2, 1) := by decide +kernel
theorem d_LA_law_610 : decode code 610 = .ok (.invokevirtual 52, 3) := by decide +kernel
theorem d_LA_law_613 : decode code 613 = .ok (.iload 5, 2) := by decide +kernel
theorem d_LA_law_615 : decode code 615 = .ok (.if_icmp .eq 5, 3) := by decide +kernel
theorem d_LA_law_618 : decode code 618 = .ok (.iconst 0, 1) := by decide +kernel
theorem d_LA_law_619 : decode code 619 = .ok (.ireturn, 1) := by decide +kernel
theorem d_LA_law_620 : decode code 620 = .ok (.iload 5, 2) := by decide +kernel
theorem d_LA_law_622 : decode code 622 = .ok (.ifCond .ne 15, 3) := by decide +kernel
theorem d_LA_law_625 : decode code 625 = .ok (.aload_n 3, 1) := by decide +kernel
theorem d_LA_law_626 : decode code 626 = .ok (.iconst 0, 1) := by decide +kernel
theorem d_LA_law_627 : decode code 627 = .ok (.laload, 1) := by decide +kernel
theorem d_LA_law_628 : decode code 628 = .ok (.iload 6, 2) := by decide +kernel
theorem d_LA_law_630 : decode code 630 = .ok (.i2l, 1) := by decide +kernel
theorem d_LA_law_631 : decode code 631 = .ok (.lcmp, 1) := by decide +kernel
theorem d_LA_law_632 : decode code 632 = .ok (.ifCond .eq 5, 3) := by decide +kernel
theorem d_LA_law_635 : decode code 635 = .ok (.iconst 0, 1) := by decide +kernel
theorem d_LA_law_636 : decode code 636 = .ok (.ireturn, 1) := by decide +kernel
theorem d_LA_law_637 : decode code 637 = .ok (.goto 106, 3) := by decide +kernel
theorem d_LA_law_640 : decode code 640 = .ok (.aload_n 1, 1) := by decide +kernel
theorem d_LA_law_641 : decode code 641 = .ok (.aload_n 0, 1) := by decide +kernel
theorem d_LA_law_642 : decode code 642 = .ok (.iload 4, 2) := by decide +kernel
theorem d_LA_law_644 : decode code 644 = .ok (.iconst 1, 1) := by decide +kernel
theorem d_LA_law_645 : decode code 645 = .ok (.iadd, 1) := by decide +kernel
theorem d_LA_law_646 : decode code 646 = .ok (.iaload, 1) := by decide +kernel
theorem d_LA_law_647 : decode code 647 = .ok (.invokevirtual 86, 3) := by decide +kernel
theorem d_LA_law_650 : decode code 650 = .ok (.aload_n 2, 1) := by decide +kernel
theorem d_LA_law_651 : decode code 651 = .ok (.aload_n 0, 1) := by decide +kernel
theorem d_LA_law_652 : decode code 652 = .ok (.iload 4, 2) := by decide +kernel
theorem d_LA_law_654 : decode code 654 = .ok (.iconst 1, 1) := by decide +kernel
theorem d_LA_law_655 : decode code 655 = .ok (.iadd, 1) := by decide +kernel
theorem d_LA_law_656 : decode code 656 = .ok (.iaload, 1) := by decide +kernel
theorem d_LA_law_657 : decode code 657 = .ok (.invokevirtual 90, 3) := by decide +kernel
theorem d_LA_law_660 : decode code 660 = .ok (.if_icmp .eq 83, 3) := by decide +kernel
theorem d_LA_law_663 : decode code 663 = .ok (.iconst 0, 1) := by decide +kernel
theorem d_LA_law_664 : decode code 664 = .ok (.ireturn, 1) := by decide +kernel
theorem d_LA_law_665 : decode code 665 = .ok (.aload_n 1, 1) := by decide +kernel
theorem d_LA_law_666 : decode code 666 = .ok (.aload_n 0, 1) := by decide +kernel
theorem d_LA_law_667 : decode code 667 = .ok (.iload 4, 2) := by decide +kernel
theorem d_LA_law_669 : decode code 669 = .ok (.iconst 1, 1) := by decide +kernel
theorem d_LA_law_670 : decode code 670 = .ok (.iadd, 1) := by decide +kernel
theorem d_LA_law_671 : decode code 671 = .ok (.iaload, 1) := by decide +kernel
theorem d_LA_law_672 : decode code 672 = .ok (.invokevirtual 91, 3) := by decide +kernel
theorem d_LA_law_675 : decode code 675 = .ok (.aload_n 2, 1) := by decide +kernel
theorem d_LA_law_676 : decode code 676 = .ok (.aload_n 0, 1) := by decide +kernel
theorem d_LA_law_677 : decode code 677 = .ok (.iload 4, 2) := by decide +kernel
theorem d_LA_law_679 : decode code 679 = .ok (.iconst 1, 1) := by decide +kernel
theorem d_LA_law_680 : decode code 680 = .ok (.iadd, 1) := by decide +kernel
theorem d_LA_law_681 : decode code 681 = .ok (.iaload, 1) := by decide +kernel
theorem d_LA_law_682 : decode code 682 = .ok (.invokevirtual 94, 3) := by decide +kernel
theorem d_LA_law_685 : decode code 685 = .ok (.if_icmp .eq 58, 3) := by decide +kernel
theorem d_LA_law_688 : decode code 688 = .ok (.iconst 0, 1) := by decide +kernel
theorem d_LA_law_689 : decode code 689 = .ok (.ireturn, 1) := by decide +kernel
theorem d_LA_law_690 : decode code 690 = .ok (.aload_n 1, 1) := by decide +kernel
theorem d_LA_law_691 : decode code 691 = .ok (.aload_n 0, 1) := by decide +kernel
theorem d_LA_law_692 : decode code 692 = .ok (.iload 4, 2) := by decide +kernel
theorem d_LA_law_694 : decode code 694 = .ok (.iconst 1, 1) := by decide +kernel
theorem d_LA_law_695 : decode code 695 = .ok (.iadd, 1) := by decide +kernel
theorem d_LA_law_696 : decode code 696 = .ok (.iaload, 1) := by decide +kernel
theorem d_LA_law_697 : decode code 697 = .ok (.aload_n 0, 1) := by decide +kernel
theorem d_LA_law_698 : decode code 698 = .ok (.iload 4, 2) := by decide +kernel
theorem d_LA_law_700 : decode code 700 = .ok (.iconst 2, 1) := by decide +kernel
theorem d_LA_law_701 : decode code 701 = .ok (.iadd, 1) := by decide +kernel
theorem d_LA_law_702 : decode code 702 = .ok (.iaload, 1) := by decide +kernel
theorem d_LA_law_703 : decode code 703 = .ok (.ifCond .eq 7, 3) := by decide +kernel
theorem d_LA_law_706 : decode code 706 = .ok (.iconst 1, 1) := by decide +kernel
theorem d_LA_law_707 : decode code 707 = .ok (.goto 4, 3) := by decide +kernel
theorem d_LA_law_710 : decode code 710 = .ok (.iconst 0, 1) := by decide +kernel
theorem d_LA_law_711 : decode code 711 = .ok (.invokevirtual 95, 3) := by decide +kernel
theorem d_LA_law_714 : decode code 714 = .ok (.aload_n 2, 1) := by decide +kernel
theorem d_LA_law_715 : decode code 715 = .ok (.aload_n 0, 1) := by decide +kernel
theorem d_LA_law_716 : decode code 716 = .ok (.iload 4, 2) := by decide +kernel
theorem d_LA_law_718 : decode code 718 = .ok (.iconst 1, 1) := by decide +kernel
theorem d_LA_law_719 : decode code 719 = .ok (.iadd, 1) := by decide +kernel
theorem d_LA_law_720 : decode code 720 = .ok (.iaload, 1) := by decide +kernel
theorem d_LA_law_721 : decode code 721 = .ok (.aload_n 0, 1) := by decide +kernel
theorem d_LA_law_722 : decode code 722 = .ok (.iload 4, 2) := by decide +kernel
theorem d_LA_law_724 : decode code 724 = .ok (.iconst 2, 1) := by decide +kernel
theorem d_LA_law_725 : decode code 725 = .ok (.iadd, 1) := by decide +kernel
theorem d_LA_law_726 : decode code 726 = .ok (.iaload, 1) := by decide +kernel
theorem d_LA_law_727 : decode code 727 = .ok (.ifCond .eq 7, 3) := by decide +kernel
theorem d_LA_law_730 : decode code 730 = .ok (.iconst 1, 1) := by decide +kernel
theorem d_LA_law_731 : decode code 731 = .ok (.goto 4, 3) := by decide +kernel
theorem d_LA_law_734 : decode code 734 = .ok (.iconst 0, 1) := by decide +kernel
theorem d_LA_law_735 : decode code 735 = .ok (.invokevirtual 99, 3) := by decide +kernel
theorem d_LA_law_738 : decode code 738 = .ok (.if_icmp .eq 5, 3) := by decide +kernel
theorem d_LA_law_741 : decode code 741 = .ok (.iconst 0, 1) := by decide +kernel
theorem d_LA_law_742 : decode code 742 = .ok (.ireturn, 1) := by decide +kernel
theorem d_LA_law_743 : decode code 743 = .ok (.iinc 4 4, 3) := by decide +kernel
theorem d_LA_law_746 : decode code 746 = .ok (.goto (-723), 3) := by decide +kernel
theorem d_LA_law_749 : decode code 749 = .ok (.iconst 1, 1) := by decide +kernel
theorem d_LA_law_750 : decode code 750 = .ok (.ireturn, 1) := by decide +kernel
