def y_MO_init : MethodName := ⟨"CarrierLinkModel", "<init>", "()V"⟩
theorem hd_MO_init : y_MO_init.cls ≠ "java/lang/invoke/MethodHandle" ∧ y_MO_init.cls ≠ "java/lang/invoke/VarHandle" ∧ (parseMethodDescriptor y_MO_init.desc).map (fun d => d.parameters.length) = some 0 := ⟨by decide +kernel, by decide +kernel, by decide +kernel⟩
theorem d_MO_init_0 : decode prog_10_method_1_code 0 = .ok (.aload_n 0, 1) := by decide +kernel
theorem d_MO_init_1 : decode prog_10_method_1_code 1 = .ok (.invokespecial 1, 3) := by decide +kernel
theorem d_MO_init_4 : decode prog_10_method_1_code 4 = .ok (.aload_n 0, 1) := by decide +kernel
theorem d_MO_init_5 : decode prog_10_method_1_code 5 = .ok (.bipush 12, 2) := by decide +kernel
theorem d_MO_init_7 : decode prog_10_method_1_code 7 = .ok (.newarray .int, 2) := by decide +kernel
theorem d_MO_init_9 : decode prog_10_method_1_code 9 = .ok (.putfield 7, 3) := by decide +kernel
theorem d_MO_init_12 : decode prog_10_method_1_code 12 = .ok (.aload_n 0, 1) := by decide +kernel
theorem d_MO_init_13 : decode prog_10_method_1_code 13 = .ok (.sipush 160, 3) := by decide +kernel
theorem d_MO_init_16 : decode prog_10_method_1_code 16 = .ok (.newarray .int, 2) := by decide +kernel
theorem d_MO_init_18 : decode prog_10_method_1_code 18 = .ok (.putfield 13, 3) := by decide +kernel
theorem d_MO_init_21 : decode prog_10_method_1_code 21 = .ok (.aload_n 0, 1) := by decide +kernel
theorem d_MO_init_22 : decode prog_10_method_1_code 22 = .ok (.sipush 340, 3) := by decide +kernel
theorem d_MO_init_25 : decode prog_10_method_1_code 25 = .ok (.newarray .int, 2) := by decide +kernel
theorem d_MO_init_27 : decode prog_10_method_1_code 27 = .ok (.putfield 16, 3) := by decide +kernel
theorem d_MO_init_30 : decode prog_10_method_1_code 30 = .ok (.aload_n 0, 1) := by decide +kernel
theorem d_MO_init_31 : decode prog_10_method_1_code 31 = .ok (.sipush 340, 3) := by decide +kernel
theorem d_MO_init_34 : decode prog_10_method_1_code 34 = .ok (.newarray .int, 2) := by decide +kernel
theorem d_MO_init_36 : decode prog_10_method_1_code 36 = .ok (.putfield 19, 3) := by decide +kernel
theorem d_MO_init_39 : decode prog_10_method_1_code 39 = .ok (.aload_n 0, 1) := by decide +kernel
theorem d_MO_init_40 : decode prog_10_method_1_code 40 = .ok (.sipush 520, 3) := by decide +kernel
theorem d_MO_init_43 : decode prog_10_method_1_code 43 = .ok (.newarray .int, 2) := by decide +kernel
theorem d_MO_init_45 : decode prog_10_method_1_code 45 = .ok (.putfield 22, 3) := by decide +kernel
theorem d_MO_init_48 : decode prog_10_method_1_code 48 = .ok (.aload_n 0, 1) := by decide +kernel
theorem d_MO_init_49 : decode prog_10_method_1_code 49 = .ok (.sipush 520, 3) := by decide +kernel
theorem d_MO_init_52 : decode prog_10_method_1_code 52 = .ok (.newarray .int, 2) := by decide +kernel
theorem d_MO_init_54 : decode prog_10_method_1_code 54 = .ok (.putfield 25, 3) := by decide +kernel
theorem d_MO_init_57 : decode prog_10_method_1_code 57 = .ok (.aload_n 0, 1) := by decide +kernel
theorem d_MO_init_58 : decode prog_10_method_1_code 58 = .ok (.sipush 560, 3) := by decide +kernel
theorem d_MO_init_61 : decode prog_10_method_1_code 61 = .ok (.newarray .int, 2) := by decide +kernel
theorem d_MO_init_63 : decode prog_10_method_1_code 63 = .ok (.putfield 28, 3) := by decide +kernel
theorem d_MO_init_66 : decode prog_10_method_1_code 66 = .ok (.aload_n 0, 1) := by decide +kernel
theorem d_MO_init_67 : decode prog_10_method_1_code 67 = .ok (.sipush 560, 3) := by decide +kernel
theorem d_MO_init_70 : decode prog_10_method_1_code 70 = .ok (.newarray .int, 2) := by decide +kernel
theorem d_MO_init_72 : decode prog_10_method_1_code 72 = .ok (.putfield 31, 3) := by decide +kernel
theorem d_MO_init_75 : decode prog_10_method_1_code 75 = .ok (.aload_n 0, 1) := by decide +kernel
theorem d_MO_init_76 : decode prog_10_method_1_code 76 = .ok (.bipush 12, 2) := by decide +kernel
theorem d_MO_init_78 : decode prog_10_method_1_code 78 = .ok (.newarray .int, 2) := by decide +kernel
theorem d_MO_init_80 : decode prog_10_method_1_code 80 = .ok (.putfield 34, 3) := by decide +kernel
theorem d_MO_init_83 : decode prog_10_method_1_code 83 = .ok (.aload_n 0, 1) := by decide +kernel
theorem d_MO_init_84 : decode prog_10_method_1_code 84 = .ok (.bipush 16, 2) := by decide +kernel
theorem d_MO_init_86 : decode prog_10_method_1_code 86 = .ok (.newarray .int, 2) := by decide +kernel
theorem d_MO_init_88 : decode prog_10_method_1_code 88 = .ok (.putfield 37, 3) := by decide +kernel
theorem d_MO_init_91 : decode prog_10_method_1_code 91 = .ok (.aload_n 0, 1) := by decide +kernel
theorem d_MO_init_92 : decode prog_10_method_1_code 92 = .ok (.bipush 16, 2) := by decide +kernel
theorem d_MO_init_94 : decode prog_10_method_1_code 94 = .ok (.newarray .int, 2) := by decide +kernel
theorem d_MO_init_96 : decode prog_10_method_1_code 96 = .ok (.putfield 40, 3) := by decide +kernel
theorem d_MO_init_99 : decode prog_10_method_1_code 99 = .ok (.aload_n 0, 1) := by decide +kernel
theorem d_MO_init_100 : decode prog_10_method_1_code 100 = .ok (.bipush 16, 2) := by decide +kernel
theorem d_MO_init_102 : decode prog_10_method_1_code 102 = .ok (.newarray .int, 2) := by decide +kernel
theorem d_MO_init_104 : decode prog_10_method_1_code 104 = .ok (.putfield 43, 3) := by decide +kernel
theorem d_MO_init_107 : decode prog_10_method_1_code 107 = .ok (.aload_n 0, 1) := by decide +kernel
theorem d_MO_init_108 : decode prog_10_method_1_code 108 = .ok (.bipush 16, 2) := by decide +kernel
theorem d_MO_init_110 : decode prog_10_method_1_code 110 = .ok (.newarray .int, 2) := by decide +kernel
theorem d_MO_init_112 : decode prog_10_method_1_code 112 = .ok (.putfield 46, 3) := by decide +kernel
theorem d_MO_init_115 : decode prog_10_method_1_code 115 = .ok (.aload_n 0, 1) := by decide +kernel
theorem d_MO_init_116 : decode prog_10_method_1_code 116 = .ok (.bipush 16, 2) := by decide +kernel
theorem d_MO_init_118 : decode prog_10_method_1_code 118 = .ok (.newarray .int, 2) := by decide +kernel
theorem d_MO_init_120 : decode prog_10_method_1_code 120 = .ok (.putfield 49, 3) := by decide +kernel
theorem d_MO_init_123 : decode prog_10_method_1_code 123 = .ok (.aload_n 0, 1) := by decide +kernel
theorem d_MO_init_124 : decode prog_10_method_1_code 124 = .ok (.bipush 16, 2) := by decide +kernel
theorem d_MO_init_126 : decode prog_10_method_1_code 126 = .ok (.newarray .int, 2) := by decide +kernel
theorem d_MO_init_128 : decode prog_10_method_1_code 128 = .ok (.putfield 52, 3) := by decide +kernel
theorem d_MO_init_131 : decode prog_10_method_1_code 131 = .ok (.aload_n 0, 1) := by decide +kernel
theorem d_MO_init_132 : decode prog_10_method_1_code 132 = .ok (.bipush 16, 2) := by decide +kernel
theorem d_MO_init_134 : decode prog_10_method_1_code 134 = .ok (.newarray .int, 2) := by decide +kernel
theorem d_MO_init_136 : decode prog_10_method_1_code 136 = .ok (.putfield 55, 3) := by decide +kernel
theorem d_MO_init_139 : decode prog_10_method_1_code 139 = .ok (.aload_n 0, 1) := by decide +kernel
theorem d_MO_init_140 : decode prog_10_method_1_code 140 = .ok (.bipush 16, 2) := by decide +kernel
theorem d_MO_init_142 : decode prog_10_method_1_code 142 = .ok (.newarray .int, 2) := by decide +kernel
theorem d_MO_init_144 : decode prog_10_method_1_code 144 = .ok (.putfield 58, 3) := by decide +kernel
theorem d_MO_init_147 : decode prog_10_method_1_code 147 = .ok (.aload_n 0, 1) := by decide +kernel
theorem d_MO_init_148 : decode prog_10_method_1_code 148 = .ok (.sipush 160, 3) := by decide +kernel
theorem d_MO_init_151 : decode prog_10_method_1_code 151 = .ok (.newarray .int, 2) := by decide +kernel
theorem d_MO_init_153 : decode prog_10_method_1_code 153 = .ok (.putfield 61, 3) := by decide +kernel
theorem d_MO_init_156 : decode prog_10_method_1_code 156 = .ok (.aload_n 0, 1) := by decide +kernel
theorem d_MO_init_157 : decode prog_10_method_1_code 157 = .ok (.sipush 160, 3) := by decide +kernel
theorem d_MO_init_160 : decode prog_10_method_1_code 160 = .ok (.newarray .int, 2) := by decide +kernel
theorem d_MO_init_162 : decode prog_10_method_1_code 162 = .ok (.putfield 64, 3) := by decide +kernel
theorem d_MO_init_165 : decode prog_10_method_1_code 165 = .ok (.aload_n 0, 1) := by decide +kernel
theorem d_MO_init_166 : decode prog_10_method_1_code 166 = .ok (.bipush 48, 2) := by decide +kernel
theorem d_MO_init_168 : decode prog_10_method_1_code 168 = .ok (.newarray .int, 2) := by decide +kernel
theorem d_MO_init_170 : decode prog_10_method_1_code 170 = .ok (.putfield 67, 3) := by decide +kernel
theorem d_MO_init_173 : decode prog_10_method_1_code 173 = .ok (.aload_n 0, 1) := by decide +kernel
theorem d_MO_init_174 : decode prog_10_method_1_code 174 = .ok (.bipush 64, 2) := by decide +kernel
theorem d_MO_init_176 : decode prog_10_method_1_code 176 = .ok (.newarray .int, 2) := by decide +kernel
theorem d_MO_init_178 : decode prog_10_method_1_code 178 = .ok (.putfield 70, 3) := by decide +kernel
theorem d_MO_init_181 : decode prog_10_method_1_code 181 = .ok (.aload_n 0, 1) := by decide +kernel
theorem d_MO_init_182 : decode prog_10_method_1_code 182 = .ok (.bipush 64, 2) := by decide +kernel
theorem d_MO_init_184 : decode prog_10_method_1_code 184 = .ok (.newarray .int, 2) := by decide +kernel
theorem d_MO_init_186 : decode prog_10_method_1_code 186 = .ok (.putfield 73, 3) := by decide +kernel
theorem d_MO_init_189 : decode prog_10_method_1_code 189 = .ok (.aload_n 0, 1) := by decide +kernel
theorem d_MO_init_190 : decode prog_10_method_1_code 190 = .ok (.sipush 10240, 3) := by decide +kernel
theorem d_MO_init_193 : decode prog_10_method_1_code 193 = .ok (.newarray .boolean, 2) := by decide +kernel
theorem d_MO_init_195 : decode prog_10_method_1_code 195 = .ok (.putfield 76, 3) := by decide +kernel
theorem d_MO_init_198 : decode prog_10_method_1_code 198 = .ok (.aload_n 0, 1) := by decide +kernel
theorem d_MO_init_199 : decode prog_10_method_1_code 199 = .ok (.sipush 160, 3) := by decide +kernel
theorem d_MO_init_202 : decode prog_10_method_1_code 202 = .ok (.newarray .int, 2) := by decide +kernel
theorem d_MO_init_204 : decode prog_10_method_1_code 204 = .ok (.putfield 80, 3) := by decide +kernel
theorem d_MO_init_207 : decode prog_10_method_1_code 207 = .ok (.iconst 0, 1) := by decide +kernel
theorem d_MO_init_208 : decode prog_10_method_1_code 208 = .ok (.istore_n 1, 1) := by decide +kernel
theorem d_MO_init_209 : decode prog_10_method_1_code 209 = .ok (.iload_n 1, 1) := by decide +kernel
theorem d_MO_init_210 : decode prog_10_method_1_code 210 = .ok (.bipush 16, 2) := by decide +kernel
theorem d_MO_init_212 : decode prog_10_method_1_code 212 = .ok (.if_icmp .ge 65, 3) := by decide +kernel
theorem d_MO_init_215 : decode prog_10_method_1_code 215 = .ok (.aload_n 0, 1) := by decide +kernel
theorem d_MO_init_216 : decode prog_10_method_1_code 216 = .ok (.getfield 58, 3) := by decide +kernel
theorem d_MO_init_219 : decode prog_10_method_1_code 219 = .ok (.iload_n 1, 1) := by decide +kernel
theorem d_MO_init_220 : decode prog_10_method_1_code 220 = .ok (.iload_n 1, 1) := by decide +kernel
theorem d_MO_init_221 : decode prog_10_method_1_code 221 = .ok (.iconst 4, 1) := by decide +kernel
theorem d_MO_init_222 : decode prog_10_method_1_code 222 = .ok (.if_icmp .le 17, 3) := by decide +kernel
theorem d_MO_init_225 : decode prog_10_method_1_code 225 = .ok (.iload_n 1, 1) := by decide +kernel
theorem d_MO_init_226 : decode prog_10_method_1_code 226 = .ok (.bipush 12, 2) := by decide +kernel
theorem d_MO_init_228 : decode prog_10_method_1_code 228 = .ok (.if_icmp .ge 11, 3) := by decide +kernel
theorem d_MO_init_231 : decode prog_10_method_1_code 231 = .ok (.iload_n 1, 1) := by decide +kernel
theorem d_MO_init_232 : decode prog_10_method_1_code 232 = .ok (.invokestatic 83, 3) := by decide +kernel
theorem d_MO_init_235 : decode prog_10_method_1_code 235 = .ok (.ineg, 1) := by decide +kernel
theorem d_MO_init_236 : decode prog_10_method_1_code 236 = .ok (.goto 7, 3) := by decide +kernel
theorem d_MO_init_239 : decode prog_10_method_1_code 239 = .ok (.iload_n 1, 1) := by decide +kernel
theorem d_MO_init_240 : decode prog_10_method_1_code 240 = .ok (.invokestatic 83, 3) := by decide +kernel
theorem d_MO_init_243 : decode prog_10_method_1_code 243 = .ok (.iastore, 1) := by decide +kernel
theorem d_MO_init_244 : decode prog_10_method_1_code 244 = .ok (.aload_n 0, 1) := by decide +kernel
theorem d_MO_init_245 : decode prog_10_method_1_code 245 = .ok (.getfield 49, 3) := by decide +kernel
theorem d_MO_init_248 : decode prog_10_method_1_code 248 = .ok (.iload_n 1, 1) := by decide +kernel
theorem d_MO_init_249 : decode prog_10_method_1_code 249 = .ok (.iload_n 1, 1) := by decide +kernel
theorem d_MO_init_250 : decode prog_10_method_1_code 250 = .ok (.iconst 1, 1) := by decide +kernel
theorem d_MO_init_251 : decode prog_10_method_1_code 251 = .ok (.iand, 1) := by decide +kernel
theorem d_MO_init_252 : decode prog_10_method_1_code 252 = .ok (.iconst 3, 1) := by decide +kernel
theorem d_MO_init_253 : decode prog_10_method_1_code 253 = .ok (.ishl, 1) := by decide +kernel
theorem d_MO_init_254 : decode prog_10_method_1_code 254 = .ok (.iload_n 1, 1) := by decide +kernel
theorem d_MO_init_255 : decode prog_10_method_1_code 255 = .ok (.iconst 2, 1) := by decide +kernel
theorem d_MO_init_256 : decode prog_10_method_1_code 256 = .ok (.iand, 1) := by decide +kernel
theorem d_MO_init_257 : decode prog_10_method_1_code 257 = .ok (.iconst 1, 1) := by decide +kernel
theorem d_MO_init_258 : decode prog_10_method_1_code 258 = .ok (.ishl, 1) := by decide +kernel
theorem d_MO_init_259 : decode prog_10_method_1_code 259 = .ok (.ior, 1) := by decide +kernel
theorem d_MO_init_260 : decode prog_10_method_1_code 260 = .ok (.iload_n 1, 1) := by decide +kernel
theorem d_MO_init_261 : decode prog_10_method_1_code 261 = .ok (.iconst 1, 1) := by decide +kernel
theorem d_MO_init_262 : decode prog_10_method_1_code 262 = .ok (.ishr, 1) := by decide +kernel
theorem d_MO_init_263 : decode prog_10_method_1_code 263 = .ok (.iconst 2, 1) := by decide +kernel
theorem d_MO_init_264 : decode prog_10_method_1_code 264 = .ok (.iand, 1) := by decide +kernel
theorem d_MO_init_265 : decode prog_10_method_1_code 265 = .ok (.ior, 1) := by decide +kernel
theorem d_MO_init_266 : decode prog_10_method_1_code 266 = .ok (.iload_n 1, 1) := by decide +kernel
theorem d_MO_init_267 : decode prog_10_method_1_code 267 = .ok (.iconst 3, 1) := by decide +kernel
theorem d_MO_init_268 : decode prog_10_method_1_code 268 = .ok (.ishr, 1) := by decide +kernel
theorem d_MO_init_269 : decode prog_10_method_1_code 269 = .ok (.ior, 1) := by decide +kernel
theorem d_MO_init_270 : decode prog_10_method_1_code 270 = .ok (.iastore, 1) := by decide +kernel
theorem d_MO_init_271 : decode prog_10_method_1_code 271 = .ok (.iinc 1 1, 3) := by decide +kernel
theorem d_MO_init_274 : decode prog_10_method_1_code 274 = .ok (.goto (-65), 3) := by decide +kernel
theorem d_MO_init_277 : decode prog_10_method_1_code 277 = .ok (.aload_n 0, 1) := by decide +kernel
theorem d_MO_init_278 : decode prog_10_method_1_code 278 = .ok (.invokevirtual 87, 3) := by decide +kernel
theorem d_MO_init_281 : decode prog_10_method_1_code 281 = .ok (.iconst 0, 1) := by decide +kernel
theorem d_MO_init_282 : decode prog_10_method_1_code 282 = .ok (.istore_n 1, 1) := by decide +kernel
theorem d_MO_init_283 : decode prog_10_method_1_code 283 = .ok (.iload_n 1, 1) := by decide +kernel
theorem d_MO_init_284 : decode prog_10_method_1_code 284 = .ok (.bipush 16, 2) := by decide +kernel
theorem d_MO_init_286 : decode prog_10_method_1_code 286 = .ok (.if_icmp .ge 23, 3) := by decide +kernel
theorem d_MO_init_289 : decode prog_10_method_1_code 289 = .ok (.aload_n 0, 1) := by decide +kernel
theorem d_MO_init_290 : decode prog_10_method_1_code 290 = .ok (.getfield 43, 3) := by decide +kernel
theorem d_MO_init_293 : decode prog_10_method_1_code 293 = .ok (.iload_n 1, 1) := by decide +kernel
theorem d_MO_init_294 : decode prog_10_method_1_code 294 = .ok (.sipush 1024, 3) := by decide +kernel
theorem d_MO_init_297 : decode prog_10_method_1_code 297 = .ok (.iload_n 1, 1) := by decide +kernel
theorem d_MO_init_298 : decode prog_10_method_1_code 298 = .ok (.invokestatic 90, 3) := by decide +kernel
theorem d_MO_init_301 : decode prog_10_method_1_code 301 = .ok (.imul, 1) := by decide +kernel
theorem d_MO_init_302 : decode prog_10_method_1_code 302 = .ok (.iastore, 1) := by decide +kernel
theorem d_MO_init_303 : decode prog_10_method_1_code 303 = .ok (.iinc 1 1, 3) := by decide +kernel
theorem d_MO_init_306 : decode prog_10_method_1_code 306 = .ok (.goto (-23), 3) := by decide +kernel
theorem d_MO_init_309 : decode prog_10_method_1_code 309 = .ok (.aload_n 0, 1) := by decide +kernel
theorem d_MO_init_310 : decode prog_10_method_1_code 310 = .ok (.iconst 1, 1) := by decide +kernel
theorem d_MO_init_311 : decode prog_10_method_1_code 311 = .ok (.invokevirtual 93, 3) := by decide +kernel
theorem d_MO_init_314 : decode prog_10_method_1_code 314 = .ok (.iconst 0, 1) := by decide +kernel
theorem d_MO_init_315 : decode prog_10_method_1_code 315 = .ok (.istore_n 1, 1) := by decide +kernel
theorem d_MO_init_316 : decode prog_10_method_1_code 316 = .ok (.iload_n 1, 1) := by decide +kernel
theorem d_MO_init_317 : decode prog_10_method_1_code 317 = .ok (.bipush 16, 2) := by decide +kernel
theorem d_MO_init_319 : decode prog_10_method_1_code 319 = .ok (.if_icmp .ge 33, 3) := by decide +kernel
theorem d_MO_init_322 : decode prog_10_method_1_code 322 = .ok (.aload_n 0, 1) := by decide +kernel
theorem d_MO_init_323 : decode prog_10_method_1_code 323 = .ok (.getfield 52, 3) := by decide +kernel
theorem d_MO_init_326 : decode prog_10_method_1_code 326 = .ok (.iload_n 1, 1) := by decide +kernel
theorem d_MO_init_327 : decode prog_10_method_1_code 327 = .ok (.aload_n 0, 1) := by decide +kernel
theorem d_MO_init_328 : decode prog_10_method_1_code 328 = .ok (.getfield 43, 3) := by decide +kernel
theorem d_MO_init_331 : decode prog_10_method_1_code 331 = .ok (.iload_n 1, 1) := by decide +kernel
theorem d_MO_init_332 : decode prog_10_method_1_code 332 = .ok (.iaload, 1) := by decide +kernel
theorem d_MO_init_333 : decode prog_10_method_1_code 333 = .ok (.iastore, 1) := by decide +kernel
theorem d_MO_init_334 : decode prog_10_method_1_code 334 = .ok (.aload_n 0, 1) := by decide +kernel
theorem d_MO_init_335 : decode prog_10_method_1_code 335 = .ok (.getfield 55, 3) := by decide +kernel
theorem d_MO_init_338 : decode prog_10_method_1_code 338 = .ok (.iload_n 1, 1) := by decide +kernel
theorem d_MO_init_339 : decode prog_10_method_1_code 339 = .ok (.aload_n 0, 1) := by decide +kernel
theorem d_MO_init_340 : decode prog_10_method_1_code 340 = .ok (.getfield 46, 3) := by decide +kernel
theorem d_MO_init_343 : decode prog_10_method_1_code 343 = .ok (.iload_n 1, 1) := by decide +kernel
theorem d_MO_init_344 : decode prog_10_method_1_code 344 = .ok (.iaload, 1) := by decide +kernel
theorem d_MO_init_345 : decode prog_10_method_1_code 345 = .ok (.iastore, 1) := by decide +kernel
theorem d_MO_init_346 : decode prog_10_method_1_code 346 = .ok (.iinc 1 1, 3) := by decide +kernel
theorem d_MO_init_349 : decode prog_10_method_1_code 349 = .ok (.goto (-33), 3) := by decide +kernel
theorem d_MO_init_352 : decode prog_10_method_1_code 352 = .ok (.return_, 1) := by decide +kernel
def y_MO_size : MethodName := ⟨"CarrierLinkModel", "size", "(I)I"⟩
theorem hd_MO_size : y_MO_size.cls ≠ "java/lang/invoke/MethodHandle" ∧ y_MO_size.cls ≠ "java/lang/invoke/VarHandle" ∧ (parseMethodDescriptor y_MO_size.desc).map (fun d => d.parameters.length) = some 1 := ⟨by decide +kernel, by decide +kernel, by decide +kernel⟩
theorem d_MO_size_0 : decode prog_10_method_2_code 0 = .ok (.iload_n 0, 1) := by decide +kernel
theorem d_MO_size_1 : decode prog_10_method_2_code 1 = .ok (.bipush 8, 2) := by decide +kernel
theorem d_MO_size_3 : decode prog_10_method_2_code 3 = .ok (.if_icmp .ge 7, 3) := by decide +kernel
theorem d_MO_size_6 : decode prog_10_method_2_code 6 = .ok (.iload_n 0, 1) := by decide +kernel
theorem d_MO_size_7 : decode prog_10_method_2_code 7 = .ok (.goto 7, 3) := by decide +kernel
theorem d_MO_size_10 : decode prog_10_method_2_code 10 = .ok (.bipush 16, 2) := by decide +kernel
theorem d_MO_size_12 : decode prog_10_method_2_code 12 = .ok (.iload_n 0, 1) := by decide +kernel
theorem d_MO_size_13 : decode prog_10_method_2_code 13 = .ok (.isub, 1) := by decide +kernel
theorem d_MO_size_14 : decode prog_10_method_2_code 14 = .ok (.istore_n 1, 1) := by decide +kernel
theorem d_MO_size_15 : decode prog_10_method_2_code 15 = .ok (.iload_n 1, 1) := by decide +kernel
theorem d_MO_size_16 : decode prog_10_method_2_code 16 = .ok (.iconst 4, 1) := by decide +kernel
theorem d_MO_size_17 : decode prog_10_method_2_code 17 = .ok (.if_icmp .ge 7, 3) := by decide +kernel
theorem d_MO_size_20 : decode prog_10_method_2_code 20 = .ok (.iload_n 1, 1) := by decide +kernel
theorem d_MO_size_21 : decode prog_10_method_2_code 21 = .ok (.goto 7, 3) := by decide +kernel
theorem d_MO_size_24 : decode prog_10_method_2_code 24 = .ok (.bipush 8, 2) := by decide +kernel
theorem d_MO_size_26 : decode prog_10_method_2_code 26 = .ok (.iload_n 1, 1) := by decide +kernel
theorem d_MO_size_27 : decode prog_10_method_2_code 27 = .ok (.isub, 1) := by decide +kernel
theorem d_MO_size_28 : decode prog_10_method_2_code 28 = .ok (.istore_n 2, 1) := by decide +kernel
theorem d_MO_size_29 : decode prog_10_method_2_code 29 = .ok (.iload_n 2, 1) := by decide +kernel
theorem d_MO_size_30 : decode prog_10_method_2_code 30 = .ok (.ifCond .ne 9, 3) := by decide +kernel
theorem d_MO_size_33 : decode prog_10_method_2_code 33 = .ok (.sipush 16384, 3) := by decide +kernel
theorem d_MO_size_36 : decode prog_10_method_2_code 36 = .ok (.goto 37, 3) := by decide +kernel
theorem d_MO_size_39 : decode prog_10_method_2_code 39 = .ok (.iload_n 2, 1) := by decide +kernel
theorem d_MO_size_40 : decode prog_10_method_2_code 40 = .ok (.iconst 1, 1) := by decide +kernel
theorem d_MO_size_41 : decode prog_10_method_2_code 41 = .ok (.if_icmp .ne 9, 3) := by decide +kernel
theorem d_MO_size_44 : decode prog_10_method_2_code 44 = .ok (.sipush 15137, 3) := by decide +kernel
theorem d_MO_size_47 : decode prog_10_method_2_code 47 = .ok (.goto 26, 3) := by decide +kernel
theorem d_MO_size_50 : decode prog_10_method_2_code 50 = .ok (.iload_n 2, 1) := by decide +kernel
theorem d_MO_size_51 : decode prog_10_method_2_code 51 = .ok (.iconst 2, 1) := by decide +kernel
theorem d_MO_size_52 : decode prog_10_method_2_code 52 = .ok (.if_icmp .ne 9, 3) := by decide +kernel
theorem d_MO_size_55 : decode prog_10_method_2_code 55 = .ok (.sipush 11585, 3) := by decide +kernel
theorem d_MO_size_58 : decode prog_10_method_2_code 58 = .ok (.goto 15, 3) := by decide +kernel
theorem d_MO_size_61 : decode prog_10_method_2_code 61 = .ok (.iload_n 2, 1) := by decide +kernel
theorem d_MO_size_62 : decode prog_10_method_2_code 62 = .ok (.iconst 3, 1) := by decide +kernel
theorem d_MO_size_63 : decode prog_10_method_2_code 63 = .ok (.if_icmp .ne 9, 3) := by decide +kernel
theorem d_MO_size_66 : decode prog_10_method_2_code 66 = .ok (.sipush 6270, 3) := by decide +kernel
theorem d_MO_size_69 : decode prog_10_method_2_code 69 = .ok (.goto 4, 3) := by decide +kernel
theorem d_MO_size_72 : decode prog_10_method_2_code 72 = .ok (.iconst 0, 1) := by decide +kernel
theorem d_MO_size_73 : decode prog_10_method_2_code 73 = .ok (.ireturn, 1) := by decide +kernel
def y_MO_clear : MethodName := ⟨"CarrierLinkModel", "clear", "()V"⟩
theorem hd_MO_clear : y_MO_clear.cls ≠ "java/lang/invoke/MethodHandle" ∧ y_MO_clear.cls ≠ "java/lang/invoke/VarHandle" ∧ (parseMethodDescriptor y_MO_clear.desc).map (fun d => d.parameters.length) = some 0 := ⟨by decide +kernel, by decide +kernel, by decide +kernel⟩
theorem d_MO_clear_0 : decode prog_10_method_12_code 0 = .ok (.iconst 0, 1) := by decide +kernel
theorem d_MO_clear_1 : decode prog_10_method_12_code 1 = .ok (.istore_n 1, 1) := by decide +kernel
theorem d_MO_clear_2 : decode prog_10_method_12_code 2 = .ok (.iload_n 1, 1) := by decide +kernel
theorem d_MO_clear_3 : decode prog_10_method_12_code 3 = .ok (.bipush 16, 2) := by decide +kernel
theorem d_MO_clear_5 : decode prog_10_method_12_code 5 = .ok (.if_icmp .ge 23, 3) := by decide +kernel
theorem d_MO_clear_8 : decode prog_10_method_12_code 8 = .ok (.aload_n 0, 1) := by decide +kernel
theorem d_MO_clear_9 : decode prog_10_method_12_code 9 = .ok (.getfield 43, 3) := by decide +kernel
theorem d_MO_clear_12 : decode prog_10_method_12_code 12 = .ok (.iload_n 1, 1) := by decide +kernel
theorem d_MO_clear_13 : decode prog_10_method_12_code 13 = .ok (.iconst 0, 1) := by decide +kernel
theorem d_MO_clear_14 : decode prog_10_method_12_code 14 = .ok (.iastore, 1) := by decide +kernel
theorem d_MO_clear_15 : decode prog_10_method_12_code 15 = .ok (.aload_n 0, 1) := by decide +kernel
theorem d_MO_clear_16 : decode prog_10_method_12_code 16 = .ok (.getfield 46, 3) := by decide +kernel
theorem d_MO_clear_19 : decode prog_10_method_12_code 19 = .ok (.iload_n 1, 1) := by decide +kernel
theorem d_MO_clear_20 : decode prog_10_method_12_code 20 = .ok (.iconst 0, 1) := by decide +kernel
theorem d_MO_clear_21 : decode prog_10_method_12_code 21 = .ok (.iastore, 1) := by decide +kernel
theorem d_MO_clear_22 : decode prog_10_method_12_code 22 = .ok (.iinc 1 1, 3) := by decide +kernel
theorem d_MO_clear_25 : decode prog_10_method_12_code 25 = .ok (.goto (-23), 3) := by decide +kernel
theorem d_MO_clear_28 : decode prog_10_method_12_code 28 = .ok (.return_, 1) := by decide +kernel
def y_MO_trained : MethodName := ⟨"CarrierLinkModel", "trained", "(I)I"⟩
theorem hd_MO_trained : y_MO_trained.cls ≠ "java/lang/invoke/MethodHandle" ∧ y_MO_trained.cls ≠ "java/lang/invoke/VarHandle" ∧ (parseMethodDescriptor y_MO_trained.desc).map (fun d => d.parameters.length) = some 1 := ⟨by decide +kernel, by decide +kernel, by decide +kernel⟩
theorem d_MO_trained_0 : decode prog_10_method_8_code 0 = .ok (.iload_n 0, 1) := by decide +kernel
theorem d_MO_trained_1 : decode prog_10_method_8_code 1 = .ok (.ifCond .eq 9, 3) := by decide +kernel
theorem d_MO_trained_4 : decode prog_10_method_8_code 4 = .ok (.iload_n 0, 1) := by decide +kernel
theorem d_MO_trained_5 : decode prog_10_method_8_code 5 = .ok (.bipush 8, 2) := by decide +kernel
theorem d_MO_trained_7 : decode prog_10_method_8_code 7 = .ok (.if_icmp .ne 5, 3) := by decide +kernel
theorem d_MO_trained_10 : decode prog_10_method_8_code 10 = .ok (.iconst 0, 1) := by decide +kernel
theorem d_MO_trained_11 : decode prog_10_method_8_code 11 = .ok (.ireturn, 1) := by decide +kernel
theorem d_MO_trained_12 : decode prog_10_method_8_code 12 = .ok (.iload_n 0, 1) := by decide +kernel
theorem d_MO_trained_13 : decode prog_10_method_8_code 13 = .ok (.bipush 8, 2) := by decide +kernel
theorem d_MO_trained_15 : decode prog_10_method_8_code 15 = .ok (.if_icmp .ge 9, 3) := by decide +kernel
theorem d_MO_trained_18 : decode prog_10_method_8_code 18 = .ok (.iload_n 0, 1) := by decide +kernel
theorem d_MO_trained_19 : decode prog_10_method_8_code 19 = .ok (.iconst 1, 1) := by decide +kernel
theorem d_MO_trained_20 : decode prog_10_method_8_code 20 = .ok (.isub, 1) := by decide +kernel
theorem d_MO_trained_21 : decode prog_10_method_8_code 21 = .ok (.goto 6, 3) := by decide +kernel
theorem d_MO_trained_24 : decode prog_10_method_8_code 24 = .ok (.iload_n 0, 1) := by decide +kernel
theorem d_MO_trained_25 : decode prog_10_method_8_code 25 = .ok (.iconst 2, 1) := by decide +kernel
theorem d_MO_trained_26 : decode prog_10_method_8_code 26 = .ok (.isub, 1) := by decide +kernel
theorem d_MO_trained_27 : decode prog_10_method_8_code 27 = .ok (.istore_n 1, 1) := by decide +kernel
theorem d_MO_trained_28 : decode prog_10_method_8_code 28 = .ok (.iload_n 1, 1) := by decide +kernel
theorem d_MO_trained_29 : decode prog_10_method_8_code 29 = .ok (.iconst 1, 1) := by decide +kernel
theorem d_MO_trained_30 : decode prog_10_method_8_code 30 = .ok (.if_icmp .eq 25, 3) := by decide +kernel
theorem d_MO_trained_33 : decode prog_10_method_8_code 33 = .ok (.iload_n 1, 1) := by decide +kernel
theorem d_MO_trained_34 : decode prog_10_method_8_code 34 = .ok (.iconst 4, 1) := by decide +kernel
theorem d_MO_trained_35 : decode prog_10_method_8_code 35 = .ok (.if_icmp .eq 20, 3) := by decide +kernel
theorem d_MO_trained_38 : decode prog_10_method_8_code 38 = .ok (.iload_n 1, 1) := by decide +kernel
theorem d_MO_trained_39 : decode prog_10_method_8_code 39 = .ok (.iconst 5, 1) := by decide +kernel
theorem d_MO_trained_40 : decode prog_10_method_8_code 40 = .ok (.if_icmp .eq 15, 3) := by decide +kernel
theorem d_MO_trained_43 : decode prog_10_method_8_code 43 = .ok (.iload_n 1, 1) := by decide +kernel
theorem d_MO_trained_44 : decode prog_10_method_8_code 44 = .ok (.bipush 9, 2) := by decide +kernel
theorem d_MO_trained_46 : decode prog_10_method_8_code 46 = .ok (.if_icmp .eq 9, 3) := by decide +kernel
theorem d_MO_trained_49 : decode prog_10_method_8_code 49 = .ok (.iload_n 1, 1) := by decide +kernel
theorem d_MO_trained_50 : decode prog_10_method_8_code 50 = .ok (.bipush 11, 2) := by decide +kernel
theorem d_MO_trained_52 : decode prog_10_method_8_code 52 = .ok (.if_icmp .ne 7, 3) := by decide +kernel
theorem d_MO_trained_55 : decode prog_10_method_8_code 55 = .ok (.iconst (-1), 1) := by decide +kernel
theorem d_MO_trained_56 : decode prog_10_method_8_code 56 = .ok (.goto 4, 3) := by decide +kernel
theorem d_MO_trained_59 : decode prog_10_method_8_code 59 = .ok (.iconst 1, 1) := by decide +kernel
theorem d_MO_trained_60 : decode prog_10_method_8_code 60 = .ok (.ireturn, 1) := by decide +kernel
def y_MO_transform : MethodName := ⟨"CarrierLinkModel", "transform", "(I)V"⟩
theorem hd_MO_transform : y_MO_transform.cls ≠ "java/lang/invoke/MethodHandle" ∧ y_MO_transform.cls ≠ "java/lang/invoke/VarHandle" ∧ (parseMethodDescriptor y_MO_transform.desc).map (fun d => d.parameters.length) = some 1 := ⟨by decide +kernel, by decide +kernel, by decide +kernel⟩
theorem d_MO_transform_0 : decode prog_10_method_14_code 0 = .ok (.iconst 0, 1) := by decide +kernel
theorem d_MO_transform_1 : decode prog_10_method_14_code 1 = .ok (.istore_n 2, 1) := by decide +kernel
theorem d_MO_transform_2 : decode prog_10_method_14_code 2 = .ok (.iload_n 2, 1) := by decide +kernel
theorem d_MO_transform_3 : decode prog_10_method_14_code 3 = .ok (.bipush 16, 2) := by decide +kernel
theorem d_MO_transform_5 : decode prog_10_method_14_code 5 = .ok (.if_icmp .ge 30, 3) := by decide +kernel
theorem d_MO_transform_8 : decode prog_10_method_14_code 8 = .ok (.aload_n 0, 1) := by decide +kernel
theorem d_MO_transform_9 : decode prog_10_method_14_code 9 = .ok (.getfield 49, 3) := by decide +kernel
theorem d_MO_transform_12 : decode prog_10_method_14_code 12 = .ok (.iload_n 2, 1) := by decide +kernel
theorem d_MO_transform_13 : decode prog_10_method_14_code 13 = .ok (.iaload, 1) := by decide +kernel
theorem d_MO_transform_14 : decode prog_10_method_14_code 14 = .ok (.iload_n 2, 1) := by decide +kernel
theorem d_MO_transform_15 : decode prog_10_method_14_code 15 = .ok (.if_icmp .le 14, 3) := by decide +kernel
theorem d_MO_transform_18 : decode prog_10_method_14_code 18 = .ok (.aload_n 0, 1) := by decide +kernel
theorem d_MO_transform_19 : decode prog_10_method_14_code 19 = .ok (.iload_n 2, 1) := by decide +kernel
theorem d_MO_transform_20 : decode prog_10_method_14_code 20 = .ok (.aload_n 0, 1) := by decide +kernel
theorem d_MO_transform_21 : decode prog_10_method_14_code 21 = .ok (.getfield 49, 3) := by decide +kernel
theorem d_MO_transform_24 : decode prog_10_method_14_code 24 = .ok (.iload_n 2, 1) := by decide +kernel
theorem d_MO_transform_25 : decode prog_10_method_14_code 25 = .ok (.iaload, 1) := by decide +kernel
theorem d_MO_transform_26 : decode prog_10_method_14_code 26 = .ok (.invokevirtual 107, 3) := by decide +kernel
theorem d_MO_transform_29 : decode prog_10_method_14_code 29 = .ok (.iinc 2 1, 3) := by decide +kernel
theorem d_MO_transform_32 : decode prog_10_method_14_code 32 = .ok (.goto (-30), 3) := by decide +kernel
theorem d_MO_transform_35 : decode prog_10_method_14_code 35 = .ok (.iconst 2, 1) := by decide +kernel
theorem d_MO_transform_36 : decode prog_10_method_14_code 36 = .ok (.istore_n 2, 1) := by decide +kernel
theorem d_MO_transform_37 : decode prog_10_method_14_code 37 = .ok (.iload_n 2, 1) := by decide +kernel
theorem d_MO_transform_38 : decode prog_10_method_14_code 38 = .ok (.bipush 16, 2) := by decide +kernel
theorem d_MO_transform_40 : decode prog_10_method_14_code 40 = .ok (.if_icmp .gt 105, 3) := by decide +kernel
theorem d_MO_transform_43 : decode prog_10_method_14_code 43 = .ok (.iconst 0, 1) := by decide +kernel
theorem d_MO_transform_44 : decode prog_10_method_14_code 44 = .ok (.istore_n 3, 1) := by decide +kernel
theorem d_MO_transform_45 : decode prog_10_method_14_code 45 = .ok (.iload_n 3, 1) := by decide +kernel
theorem d_MO_transform_46 : decode prog_10_method_14_code 46 = .ok (.bipush 16, 2) := by decide +kernel
theorem d_MO_transform_48 : decode prog_10_method_14_code 48 = .ok (.if_icmp .ge 90, 3) := by decide +kernel
theorem d_MO_transform_51 : decode prog_10_method_14_code 51 = .ok (.iconst 0, 1) := by decide +kernel
theorem d_MO_transform_52 : decode prog_10_method_14_code 52 = .ok (.istore 4, 2) := by decide +kernel
theorem d_MO_transform_54 : decode prog_10_method_14_code 54 = .ok (.iload 4, 2) := by decide +kernel
theorem d_MO_transform_56 : decode prog_10_method_14_code 56 = .ok (.iload_n 2, 1) := by decide +kernel
theorem d_MO_transform_57 : decode prog_10_method_14_code 57 = .ok (.iconst 2, 1) := by decide +kernel
theorem d_MO_transform_58 : decode prog_10_method_14_code 58 = .ok (.idiv, 1) := by decide +kernel
theorem d_MO_transform_59 : decode prog_10_method_14_code 59 = .ok (.if_icmp .ge 72, 3) := by decide +kernel
theorem d_MO_transform_62 : decode prog_10_method_14_code 62 = .ok (.iload 4, 2) := by decide +kernel
theorem d_MO_transform_64 : decode prog_10_method_14_code 64 = .ok (.bipush 16, 2) := by decide +kernel
theorem d_MO_transform_66 : decode prog_10_method_14_code 66 = .ok (.imul, 1) := by decide +kernel
theorem d_MO_transform_67 : decode prog_10_method_14_code 67 = .ok (.iload_n 2, 1) := by decide +kernel
theorem d_MO_transform_68 : decode prog_10_method_14_code 68 = .ok (.idiv, 1) := by decide +kernel
theorem d_MO_transform_69 : decode prog_10_method_14_code 69 = .ok (.istore 5, 2) := by decide +kernel
theorem d_MO_transform_71 : decode prog_10_method_14_code 71 = .ok (.aload_n 0, 1) := by decide +kernel
theorem d_MO_transform_72 : decode prog_10_method_14_code 72 = .ok (.iload_n 3, 1) := by decide +kernel
theorem d_MO_transform_73 : decode prog_10_method_14_code 73 = .ok (.iload 4, 2) := by decide +kernel
theorem d_MO_transform_75 : decode prog_10_method_14_code 75 = .ok (.iadd, 1) := by decide +kernel
theorem d_MO_transform_76 : decode prog_10_method_14_code 76 = .ok (.iload_n 3, 1) := by decide +kernel
theorem d_MO_transform_77 : decode prog_10_method_14_code 77 = .ok (.iload 4, 2) := by decide +kernel
theorem d_MO_transform_79 : decode prog_10_method_14_code 79 = .ok (.iadd, 1) := by decide +kernel
theorem d_MO_transform_80 : decode prog_10_method_14_code 80 = .ok (.iload_n 2, 1) := by decide +kernel
theorem d_MO_transform_81 : decode prog_10_method_14_code 81 = .ok (.iconst 2, 1) := by decide +kernel
theorem d_MO_transform_82 : decode prog_10_method_14_code 82 = .ok (.idiv, 1) := by decide +kernel
theorem d_MO_transform_83 : decode prog_10_method_14_code 83 = .ok (.iadd, 1) := by decide +kernel
theorem d_MO_transform_84 : decode prog_10_method_14_code 84 = .ok (.aload_n 0, 1) := by decide +kernel
theorem d_MO_transform_85 : decode prog_10_method_14_code 85 = .ok (.getfield 58, 3) := by decide +kernel
theorem d_MO_transform_88 : decode prog_10_method_14_code 88 = .ok (.iload 5, 2) := by decide +kernel
theorem d_MO_transform_90 : decode prog_10_method_14_code 90 = .ok (.iaload, 1) := by decide +kernel
theorem d_MO_transform_91 : decode prog_10_method_14_code 91 = .ok (.iload_n 1, 1) := by decide +kernel
theorem d_MO_transform_92 : decode prog_10_method_14_code 92 = .ok (.aload_n 0, 1) := by decide +kernel
theorem d_MO_transform_93 : decode prog_10_method_14_code 93 = .ok (.getfield 58, 3) := by decide +kernel
theorem d_MO_transform_96 : decode prog_10_method_14_code 96 = .ok (.iload 5, 2) := by decide +kernel
theorem d_MO_transform_98 : decode prog_10_method_14_code 98 = .ok (.bipush 12, 2) := by decide +kernel
theorem d_MO_transform_100 : decode prog_10_method_14_code 100 = .ok (.iadd, 1) := by decide +kernel
theorem d_MO_transform_101 : decode prog_10_method_14_code 101 = .ok (.bipush 16, 2) := by decide +kernel
theorem d_MO_transform_103 : decode prog_10_method_14_code 103 = .ok (.irem, 1) := by decide +kernel
theorem d_MO_transform_104 : decode prog_10_method_14_code 104 = .ok (.iaload, 1) := by decide +kernel
theorem d_MO_transform_105 : decode prog_10_method_14_code 105 = .ok (.imul, 1) := by decide +kernel
theorem d_MO_transform_106 : decode prog_10_method_14_code 106 = .ok (.iload_n 2, 1) := by decide +kernel
theorem d_MO_transform_107 : decode prog_10_method_14_code 107 = .ok (.iconst 2, 1) := by decide +kernel
theorem d_MO_transform_108 : decode prog_10_method_14_code 108 = .ok (.if_icmp .eq 9, 3) := by decide +kernel
theorem d_MO_transform_111 : decode prog_10_method_14_code 111 = .ok (.iload_n 2, 1) := by decide +kernel
theorem d_MO_transform_112 : decode prog_10_method_14_code 112 = .ok (.bipush 8, 2) := by decide +kernel
theorem d_MO_transform_114 : decode prog_10_method_14_code 114 = .ok (.if_icmp .ne 7, 3) := by decide +kernel
theorem d_MO_transform_117 : decode prog_10_method_14_code 117 = .ok (.iconst 1, 1) := by decide +kernel
theorem d_MO_transform_118 : decode prog_10_method_14_code 118 = .ok (.goto 4, 3) := by decide +kernel
theorem d_MO_transform_121 : decode prog_10_method_14_code 121 = .ok (.iconst 0, 1) := by decide +kernel
theorem d_MO_transform_122 : decode prog_10_method_14_code 122 = .ok (.invokevirtual 111, 3) := by decide +kernel
theorem d_MO_transform_125 : decode prog_10_method_14_code 125 = .ok (.iinc 4 1, 3) := by decide +kernel
theorem d_MO_transform_128 : decode prog_10_method_14_code 128 = .ok (.goto (-74), 3) := by decide +kernel
theorem d_MO_transform_131 : decode prog_10_method_14_code 131 = .ok (.iload_n 3, 1) := by decide +kernel
theorem d_MO_transform_132 : decode prog_10_method_14_code 132 = .ok (.iload_n 2, 1) := by decide +kernel
theorem d_MO_transform_133 : decode prog_10_method_14_code 133 = .ok (.iadd, 1) := by decide +kernel
theorem d_MO_transform_134 : decode prog_10_method_14_code 134 = .ok (.istore_n 3, 1) := by decide +kernel
theorem d_MO_transform_135 : decode prog_10_method_14_code 135 = .ok (.goto (-90), 3) := by decide +kernel
theorem d_MO_transform_138 : decode prog_10_method_14_code 138 = .ok (.iload_n 2, 1) := by decide +kernel
theorem d_MO_transform_139 : decode prog_10_method_14_code 139 = .ok (.iconst 2, 1) := by decide +kernel
theorem d_MO_transform_140 : decode prog_10_method_14_code 140 = .ok (.imul, 1) := by decide +kernel
theorem d_MO_transform_141 : decode prog_10_method_14_code 141 = .ok (.istore_n 2, 1) := by decide +kernel
theorem d_MO_transform_142 : decode prog_10_method_14_code 142 = .ok (.goto (-105), 3) := by decide +kernel
theorem d_MO_transform_145 : decode prog_10_method_14_code 145 = .ok (.return_, 1) := by decide +kernel
def y_MO_exchange : MethodName := ⟨"CarrierLinkModel", "exchange", "(II)V"⟩
theorem hd_MO_exchange : y_MO_exchange.cls ≠ "java/lang/invoke/MethodHandle" ∧ y_MO_exchange.cls ≠ "java/lang/invoke/VarHandle" ∧ (parseMethodDescriptor y_MO_exchange.desc).map (fun d => d.parameters.length) = some 2 := ⟨by decide +kernel, by decide +kernel, by decide +kernel⟩
theorem d_MO_exchange_0 : decode prog_10_method_13_code 0 = .ok (.aload_n 0, 1) := by decide +kernel
theorem d_MO_exchange_1 : decode prog_10_method_13_code 1 = .ok (.getfield 43, 3) := by decide +kernel
theorem d_MO_exchange_4 : decode prog_10_method_13_code 4 = .ok (.iload_n 1, 1) := by decide +kernel
theorem d_MO_exchange_5 : decode prog_10_method_13_code 5 = .ok (.iaload, 1) := by decide +kernel
theorem d_MO_exchange_6 : decode prog_10_method_13_code 6 = .ok (.istore_n 3, 1) := by decide +kernel
theorem d_MO_exchange_7 : decode prog_10_method_13_code 7 = .ok (.aload_n 0, 1) := by decide +kernel
theorem d_MO_exchange_8 : decode prog_10_method_13_code 8 = .ok (.getfield 43, 3) := by decide +kernel
theorem d_MO_exchange_11 : decode prog_10_method_13_code 11 = .ok (.iload_n 1, 1) := by decide +kernel
theorem d_MO_exchange_12 : decode prog_10_method_13_code 12 = .ok (.aload_n 0, 1) := by decide +kernel
theorem d_MO_exchange_13 : decode prog_10_method_13_code 13 = .ok (.getfield 43, 3) := by decide +kernel
theorem d_MO_exchange_16 : decode prog_10_method_13_code 16 = .ok (.iload_n 2, 1) := by decide +kernel
theorem d_MO_exchange_17 : decode prog_10_method_13_code 17 = .ok (.iaload, 1) := by decide +kernel
theorem d_MO_exchange_18 : decode prog_10_method_13_code 18 = .ok (.iastore, 1) := by decide +kernel
theorem d_MO_exchange_19 : decode prog_10_method_13_code 19 = .ok (.aload_n 0, 1) := by decide +kernel
theorem d_MO_exchange_20 : decode prog_10_method_13_code 20 = .ok (.getfield 43, 3) := by decide +kernel
theorem d_MO_exchange_23 : decode prog_10_method_13_code 23 = .ok (.iload_n 2, 1) := by decide +kernel
theorem d_MO_exchange_24 : decode prog_10_method_13_code 24 = .ok (.iload_n 3, 1) := by decide +kernel
theorem d_MO_exchange_25 : decode prog_10_method_13_code 25 = .ok (.iastore, 1) := by decide +kernel
theorem d_MO_exchange_26 : decode prog_10_method_13_code 26 = .ok (.aload_n 0, 1) := by decide +kernel
theorem d_MO_exchange_27 : decode prog_10_method_13_code 27 = .ok (.getfield 46, 3) := by decide +kernel
theorem d_MO_exchange_30 : decode prog_10_method_13_code 30 = .ok (.iload_n 1, 1) := by decide +kernel
theorem d_MO_exchange_31 : decode prog_10_method_13_code 31 = .ok (.iaload, 1) := by decide +kernel
theorem d_MO_exchange_32 : decode prog_10_method_13_code 32 = .ok (.istore_n 3, 1) := by decide +kernel
theorem d_MO_exchange_33 : decode prog_10_method_13_code 33 = .ok (.aload_n 0, 1) := by decide +kernel
theorem d_MO_exchange_34 : decode prog_10_method_13_code 34 = .ok (.getfield 46, 3) := by decide +kernel
theorem d_MO_exchange_37 : decode prog_10_method_13_code 37 = .ok (.iload_n 1, 1) := by decide +kernel
theorem d_MO_exchange_38 : decode prog_10_method_13_code 38 = .ok (.aload_n 0, 1) := by decide +kernel
theorem d_MO_exchange_39 : decode prog_10_method_13_code 39 = .ok (.getfield 46, 3) := by decide +kernel
theorem d_MO_exchange_42 : decode prog_10_method_13_code 42 = .ok (.iload_n 2, 1) := by decide +kernel
theorem d_MO_exchange_43 : decode prog_10_method_13_code 43 = .ok (.iaload, 1) := by decide +kernel
theorem d_MO_exchange_44 : decode prog_10_method_13_code 44 = .ok (.iastore, 1) := by decide +kernel
theorem d_MO_exchange_45 : decode prog_10_method_13_code 45 = .ok (.aload_n 0, 1) := by decide +kernel
theorem d_MO_exchange_46 : decode prog_10_method_13_code 46 = .ok (.getfield 46, 3) := by decide +kernel
theorem d_MO_exchange_49 : decode prog_10_method_13_code 49 = .ok (.iload_n 2, 1) := by decide +kernel
theorem d_MO_exchange_50 : decode prog_10_method_13_code 50 = .ok (.iload_n 3, 1) := by decide +kernel
theorem d_MO_exchange_51 : decode prog_10_method_13_code 51 = .ok (.iastore, 1) := by decide +kernel
theorem d_MO_exchange_52 : decode prog_10_method_13_code 52 = .ok (.return_, 1) := by decide +kernel
def y_MO_cross : MethodName := ⟨"CarrierLinkModel", "cross", "(IIIII)V"⟩
theorem hd_MO_cross : y_MO_cross.cls ≠ "java/lang/invoke/MethodHandle" ∧ y_MO_cross.cls ≠ "java/lang/invoke/VarHandle" ∧ (parseMethodDescriptor y_MO_cross.desc).map (fun d => d.parameters.length) = some 5 := ⟨by decide +kernel, by decide +kernel, by decide +kernel⟩
theorem d_MO_cross_0 : decode prog_10_method_15_code 0 = .ok (.aload_n 0, 1) := by decide +kernel
theorem d_MO_cross_1 : decode prog_10_method_15_code 1 = .ok (.getfield 43, 3) := by decide +kernel
theorem d_MO_cross_4 : decode prog_10_method_15_code 4 = .ok (.iload_n 2, 1) := by decide +kernel
theorem d_MO_cross_5 : decode prog_10_method_15_code 5 = .ok (.iaload, 1) := by decide +kernel
theorem d_MO_cross_6 : decode prog_10_method_15_code 6 = .ok (.i2l, 1) := by decide +kernel
theorem d_MO_cross_7 : decode prog_10_method_15_code 7 = .ok (.iload_n 3, 1) := by decide +kernel
theorem d_MO_cross_8 : decode prog_10_method_15_code 8 = .ok (.i2l, 1) := by decide +kernel
theorem d_MO_cross_9 : decode prog_10_method_15_code 9 = .ok (.lmul, 1) := by decide +kernel
theorem d_MO_cross_10 : decode prog_10_method_15_code 10 = .ok (.aload_n 0, 1) := by decide +kernel
theorem d_MO_cross_11 : decode prog_10_method_15_code 11 = .ok (.getfield 46, 3) := by decide +kernel
theorem d_MO_cross_14 : decode prog_10_method_15_code 14 = .ok (.iload_n 2, 1) := by decide +kernel
theorem d_MO_cross_15 : decode prog_10_method_15_code 15 = .ok (.iaload, 1) := by decide +kernel
theorem d_MO_cross_16 : decode prog_10_method_15_code 16 = .ok (.i2l, 1) := by decide +kernel
theorem d_MO_cross_17 : decode prog_10_method_15_code 17 = .ok (.iload 4, 2) := by decide +kernel
theorem d_MO_cross_19 : decode prog_10_method_15_code 19 = .ok (.i2l, 1) := by decide +kernel
theorem d_MO_cross_20 : decode prog_10_method_15_code 20 = .ok (.lmul, 1) := by decide +kernel
theorem d_MO_cross_21 : decode prog_10_method_15_code 21 = .ok (.lsub, 1) := by decide +kernel
theorem d_MO_cross_22 : decode prog_10_method_15_code 22 = .ok (.ldc2_w 115, 3) := by decide +kernel
theorem d_MO_cross_25 : decode prog_10_method_15_code 25 = .ok (.ladd, 1) := by decide +kernel
theorem d_MO_cross_26 : decode prog_10_method_15_code 26 = .ok (.bipush 14, 2) := by decide +kernel
theorem d_MO_cross_28 : decode prog_10_method_15_code 28 = .ok (.lshr, 1) := by decide +kernel
theorem d_MO_cross_29 : decode prog_10_method_15_code 29 = .ok (.lstore 6, 2) := by decide +kernel
theorem d_MO_cross_31 : decode prog_10_method_15_code 31 = .ok (.aload_n 0, 1) := by decide +kernel
theorem d_MO_cross_32 : decode prog_10_method_15_code 32 = .ok (.getfield 46, 3) := by decide +kernel
theorem d_MO_cross_35 : decode prog_10_method_15_code 35 = .ok (.iload_n 2, 1) := by decide +kernel
theorem d_MO_cross_36 : decode prog_10_method_15_code 36 = .ok (.iaload, 1) := by decide +kernel
theorem d_MO_cross_37 : decode prog_10_method_15_code 37 = .ok (.i2l, 1) := by decide +kernel
theorem d_MO_cross_38 : decode prog_10_method_15_code 38 = .ok (.iload_n 3, 1) := by decide +kernel
theorem d_MO_cross_39 : decode prog_10_method_15_code 39 = .ok (.i2l, 1) := by decide +kernel
theorem d_MO_cross_40 : decode prog_10_method_15_code 40 = .ok (.lmul, 1) := by decide +kernel
theorem d_MO_cross_41 : decode prog_10_method_15_code 41 = .ok (.aload_n 0, 1) := by decide +kernel
theorem d_MO_cross_42 : decode prog_10_method_15_code 42 = .ok (.getfield 43, 3) := by decide +kernel
theorem d_MO_cross_45 : decode prog_10_method_15_code 45 = .ok (.iload_n 2, 1) := by decide +kernel
theorem d_MO_cross_46 : decode prog_10_method_15_code 46 = .ok (.iaload, 1) := by decide +kernel
theorem d_MO_cross_47 : decode prog_10_method_15_code 47 = .ok (.i2l, 1) := by decide +kernel
theorem d_MO_cross_48 : decode prog_10_method_15_code 48 = .ok (.iload 4, 2) := by decide +kernel
theorem d_MO_cross_50 : decode prog_10_method_15_code 50 = .ok (.i2l, 1) := by decide +kernel
theorem d_MO_cross_51 : decode prog_10_method_15_code 51 = .ok (.lmul, 1) := by decide +kernel
theorem d_MO_cross_52 : decode prog_10_method_15_code 52 = .ok (.ladd, 1) := by decide +kernel
theorem d_MO_cross_53 : decode prog_10_method_15_code 53 = .ok (.ldc2_w 115, 3) := by decide +kernel
theorem d_MO_cross_56 : decode prog_10_method_15_code 56 = .ok (.ladd, 1) := by decide +kernel
theorem d_MO_cross_57 : decode prog_10_method_15_code 57 = .ok (.bipush 14, 2) := by decide +kernel
theorem d_MO_cross_59 : decode prog_10_method_15_code 59 = .ok (.lshr, 1) := by decide +kernel
theorem d_MO_cross_60 : decode prog_10_method_15_code 60 = .ok (.lstore 8, 2) := by decide +kernel
theorem d_MO_cross_62 : decode prog_10_method_15_code 62 = .ok (.lload 6, 2) := by decide +kernel
theorem d_MO_cross_64 : decode prog_10_method_15_code 64 = .ok (.l2i, 1) := by decide +kernel
theorem d_MO_cross_65 : decode prog_10_method_15_code 65 = .ok (.istore 10, 2) := by decide +kernel
theorem d_MO_cross_67 : decode prog_10_method_15_code 67 = .ok (.lload 8, 2) := by decide +kernel
theorem d_MO_cross_69 : decode prog_10_method_15_code 69 = .ok (.l2i, 1) := by decide +kernel
theorem d_MO_cross_70 : decode prog_10_method_15_code 70 = .ok (.istore 11, 2) := by decide +kernel
theorem d_MO_cross_72 : decode prog_10_method_15_code 72 = .ok (.aload_n 0, 1) := by decide +kernel
theorem d_MO_cross_73 : decode prog_10_method_15_code 73 = .ok (.getfield 43, 3) := by decide +kernel
theorem d_MO_cross_76 : decode prog_10_method_15_code 76 = .ok (.iload_n 2, 1) := by decide +kernel
theorem d_MO_cross_77 : decode prog_10_method_15_code 77 = .ok (.aload_n 0, 1) := by decide +kernel
theorem d_MO_cross_78 : decode prog_10_method_15_code 78 = .ok (.getfield 43, 3) := by decide +kernel
theorem d_MO_cross_81 : decode prog_10_method_15_code 81 = .ok (.iload_n 1, 1) := by decide +kernel
theorem d_MO_cross_82 : decode prog_10_method_15_code 82 = .ok (.iaload, 1) := by decide +kernel
theorem d_MO_cross_83 : decode prog_10_method_15_code 83 = .ok (.iload 10, 2) := by decide +kernel
theorem d_MO_cross_85 : decode prog_10_method_15_code 85 = .ok (.isub, 1) := by decide +kernel
theorem d_MO_cross_86 : decode prog_10_method_15_code 86 = .ok (.iload 5, 2) := by decide +kernel
theorem d_MO_cross_88 : decode prog_10_method_15_code 88 = .ok (.ishr, 1) := by decide +kernel
theorem d_MO_cross_89 : decode prog_10_method_15_code 89 = .ok (.iastore, 1) := by decide +kernel
theorem d_MO_cross_90 : decode prog_10_method_15_code 90 = .ok (.aload_n 0, 1) := by decide +kernel
theorem d_MO_cross_91 : decode prog_10_method_15_code 91 = .ok (.getfield 46, 3) := by decide +kernel
theorem d_MO_cross_94 : decode prog_10_method_15_code 94 = .ok (.iload_n 2, 1) := by decide +kernel
theorem d_MO_cross_95 : decode prog_10_method_15_code 95 = .ok (.aload_n 0, 1) := by decide +kernel
theorem d_MO_cross_96 : decode prog_10_method_15_code 96 = .ok (.getfield 46, 3) := by decide +kernel
theorem d_MO_cross_99 : decode prog_10_method_15_code 99 = .ok (.iload_n 1, 1) := by decide +kernel
theorem d_MO_cross_100 : decode prog_10_method_15_code 100 = .ok (.iaload, 1) := by decide +kernel
theorem d_MO_cross_101 : decode prog_10_method_15_code 101 = .ok (.iload 11, 2) := by decide +kernel
theorem d_MO_cross_103 : decode prog_10_method_15_code 103 = .ok (.isub, 1) := by decide +kernel
theorem d_MO_cross_104 : decode prog_10_method_15_code 104 = .ok (.iload 5, 2) := by decide +kernel
theorem d_MO_cross_106 : decode prog_10_method_15_code 106 = .ok (.ishr, 1) := by decide +kernel
theorem d_MO_cross_107 : decode prog_10_method_15_code 107 = .ok (.iastore, 1) := by decide +kernel
theorem d_MO_cross_108 : decode prog_10_method_15_code 108 = .ok (.aload_n 0, 1) := by decide +kernel
theorem d_MO_cross_109 : decode prog_10_method_15_code 109 = .ok (.getfield 43, 3) := by decide +kernel
theorem d_MO_cross_112 : decode prog_10_method_15_code 112 = .ok (.iload_n 1, 1) := by decide +kernel
theorem d_MO_cross_113 : decode prog_10_method_15_code 113 = .ok (.aload_n 0, 1) := by decide +kernel
theorem d_MO_cross_114 : decode prog_10_method_15_code 114 = .ok (.getfield 43, 3) := by decide +kernel
theorem d_MO_cross_117 : decode prog_10_method_15_code 117 = .ok (.iload_n 1, 1) := by decide +kernel
theorem d_MO_cross_118 : decode prog_10_method_15_code 118 = .ok (.iaload, 1) := by decide +kernel
theorem d_MO_cross_119 : decode prog_10_method_15_code 119 = .ok (.iload 10, 2) := by decide +kernel
theorem d_MO_cross_121 : decode prog_10_method_15_code 121 = .ok (.iadd, 1) := by decide +kernel
theorem d_MO_cross_122 : decode prog_10_method_15_code 122 = .ok (.iload 5, 2) := by decide +kernel
theorem d_MO_cross_124 : decode prog_10_method_15_code 124 = .ok (.ishr, 1) := by decide +kernel
theorem d_MO_cross_125 : decode prog_10_method_15_code 125 = .ok (.iastore, 1) := by decide +kernel
theorem d_MO_cross_126 : decode prog_10_method_15_code 126 = .ok (.aload_n 0, 1) := by decide +kernel
theorem d_MO_cross_127 : decode prog_10_method_15_code 127 = .ok (.getfield 46, 3) := by decide +kernel
theorem d_MO_cross_130 : decode prog_10_method_15_code 130 = .ok (.iload_n 1, 1) := by decide +kernel
theorem d_MO_cross_131 : decode prog_10_method_15_code 131 = .ok (.aload_n 0, 1) := by decide +kernel
theorem d_MO_cross_132 : decode prog_10_method_15_code 132 = .ok (.getfield 46, 3) := by decide +kernel
theorem d_MO_cross_135 : decode prog_10_method_15_code 135 = .ok (.iload_n 1, 1) := by decide +kernel
theorem d_MO_cross_136 : decode prog_10_method_15_code 136 = .ok (.iaload, 1) := by decide +kernel
theorem d_MO_cross_137 : decode prog_10_method_15_code 137 = .ok (.iload 11, 2) := by decide +kernel
theorem d_MO_cross_139 : decode prog_10_method_15_code 139 = .ok (.iadd, 1) := by decide +kernel
theorem d_MO_cross_140 : decode prog_10_method_15_code 140 = .ok (.iload 5, 2) := by decide +kernel
theorem d_MO_cross_142 : decode prog_10_method_15_code 142 = .ok (.ishr, 1) := by decide +kernel
theorem d_MO_cross_143 : decode prog_10_method_15_code 143 = .ok (.iastore, 1) := by decide +kernel
theorem d_MO_cross_144 : decode prog_10_method_15_code 144 = .ok (.return_, 1) := by decide +kernel
