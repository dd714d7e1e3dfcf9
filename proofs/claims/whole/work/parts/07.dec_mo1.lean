abbrev m_Mo_init : MethodName × ByteArray × Nat × Option FieldType := (⟨"TestTextModel", "<init>", "()V"⟩, prog_11_method_1_code, 1, (Option.none : Option FieldType))
theorem d_Mo_init_0 : decode prog_11_method_1_code 0 = .ok (.aload_n 0, 1) := by decide +kernel
theorem d_Mo_init_1 : decode prog_11_method_1_code 1 = .ok (.invokespecial 1, 3) := by decide +kernel
theorem d_Mo_init_4 : decode prog_11_method_1_code 4 = .ok (.aload_n 0, 1) := by decide +kernel
theorem d_Mo_init_5 : decode prog_11_method_1_code 5 = .ok (.sipush 4000, 3) := by decide +kernel
theorem d_Mo_init_8 : decode prog_11_method_1_code 8 = .ok (.newarray .int, 2) := by decide +kernel
theorem d_Mo_init_10 : decode prog_11_method_1_code 10 = .ok (.putfield 7, 3) := by decide +kernel
theorem d_Mo_init_13 : decode prog_11_method_1_code 13 = .ok (.aload_n 0, 1) := by decide +kernel
theorem d_Mo_init_14 : decode prog_11_method_1_code 14 = .ok (.sipush 4000, 3) := by decide +kernel
theorem d_Mo_init_17 : decode prog_11_method_1_code 17 = .ok (.newarray .int, 2) := by decide +kernel
theorem d_Mo_init_19 : decode prog_11_method_1_code 19 = .ok (.putfield 13, 3) := by decide +kernel
theorem d_Mo_init_22 : decode prog_11_method_1_code 22 = .ok (.aload_n 0, 1) := by decide +kernel
theorem d_Mo_init_23 : decode prog_11_method_1_code 23 = .ok (.bipush 21, 2) := by decide +kernel
theorem d_Mo_init_25 : decode prog_11_method_1_code 25 = .ok (.newarray .int, 2) := by decide +kernel
theorem d_Mo_init_27 : decode prog_11_method_1_code 27 = .ok (.putfield 16, 3) := by decide +kernel
theorem d_Mo_init_30 : decode prog_11_method_1_code 30 = .ok (.aload_n 0, 1) := by decide +kernel
theorem d_Mo_init_31 : decode prog_11_method_1_code 31 = .ok (.bipush 21, 2) := by decide +kernel
theorem d_Mo_init_33 : decode prog_11_method_1_code 33 = .ok (.newarray .int, 2) := by decide +kernel
theorem d_Mo_init_35 : decode prog_11_method_1_code 35 = .ok (.putfield 19, 3) := by decide +kernel
theorem d_Mo_init_38 : decode prog_11_method_1_code 38 = .ok (.aload_n 0, 1) := by decide +kernel
theorem d_Mo_init_39 : decode prog_11_method_1_code 39 = .ok (.bipush 13, 2) := by decide +kernel
theorem d_Mo_init_41 : decode prog_11_method_1_code 41 = .ok (.newarray .int, 2) := by decide +kernel
theorem d_Mo_init_43 : decode prog_11_method_1_code 43 = .ok (.putfield 22, 3) := by decide +kernel
theorem d_Mo_init_46 : decode prog_11_method_1_code 46 = .ok (.aload_n 0, 1) := by decide +kernel
theorem d_Mo_init_47 : decode prog_11_method_1_code 47 = .ok (.bipush 13, 2) := by decide +kernel
theorem d_Mo_init_49 : decode prog_11_method_1_code 49 = .ok (.newarray .int, 2) := by decide +kernel
theorem d_Mo_init_51 : decode prog_11_method_1_code 51 = .ok (.putfield 25, 3) := by decide +kernel
theorem d_Mo_init_54 : decode prog_11_method_1_code 54 = .ok (.aload_n 0, 1) := by decide +kernel
theorem d_Mo_init_55 : decode prog_11_method_1_code 55 = .ok (.bipush 14, 2) := by decide +kernel
theorem d_Mo_init_57 : decode prog_11_method_1_code 57 = .ok (.newarray .int, 2) := by decide +kernel
theorem d_Mo_init_59 : decode prog_11_method_1_code 59 = .ok (.putfield 28, 3) := by decide +kernel
theorem d_Mo_init_62 : decode prog_11_method_1_code 62 = .ok (.aload_n 0, 1) := by decide +kernel
theorem d_Mo_init_63 : decode prog_11_method_1_code 63 = .ok (.bipush 13, 2) := by decide +kernel
theorem d_Mo_init_65 : decode prog_11_method_1_code 65 = .ok (.newarray .int, 2) := by decide +kernel
theorem d_Mo_init_67 : decode prog_11_method_1_code 67 = .ok (.putfield 31, 3) := by decide +kernel
theorem d_Mo_init_70 : decode prog_11_method_1_code 70 = .ok (.aload_n 0, 1) := by decide +kernel
theorem d_Mo_init_71 : decode prog_11_method_1_code 71 = .ok (.bipush 13, 2) := by decide +kernel
theorem d_Mo_init_73 : decode prog_11_method_1_code 73 = .ok (.newarray .int, 2) := by decide +kernel
theorem d_Mo_init_75 : decode prog_11_method_1_code 75 = .ok (.putfield 34, 3) := by decide +kernel
theorem d_Mo_init_78 : decode prog_11_method_1_code 78 = .ok (.aload_n 0, 1) := by decide +kernel
theorem d_Mo_init_79 : decode prog_11_method_1_code 79 = .ok (.bipush 13, 2) := by decide +kernel
theorem d_Mo_init_81 : decode prog_11_method_1_code 81 = .ok (.newarray .int, 2) := by decide +kernel
theorem d_Mo_init_83 : decode prog_11_method_1_code 83 = .ok (.putfield 37, 3) := by decide +kernel
theorem d_Mo_init_86 : decode prog_11_method_1_code 86 = .ok (.aload_n 0, 1) := by decide +kernel
theorem d_Mo_init_87 : decode prog_11_method_1_code 87 = .ok (.bipush 13, 2) := by decide +kernel
theorem d_Mo_init_89 : decode prog_11_method_1_code 89 = .ok (.newarray .int, 2) := by decide +kernel
theorem d_Mo_init_91 : decode prog_11_method_1_code 91 = .ok (.putfield 40, 3) := by decide +kernel
theorem d_Mo_init_94 : decode prog_11_method_1_code 94 = .ok (.aload_n 0, 1) := by decide +kernel
theorem d_Mo_init_95 : decode prog_11_method_1_code 95 = .ok (.bipush 13, 2) := by decide +kernel
theorem d_Mo_init_97 : decode prog_11_method_1_code 97 = .ok (.newarray .long, 2) := by decide +kernel
theorem d_Mo_init_99 : decode prog_11_method_1_code 99 = .ok (.putfield 43, 3) := by decide +kernel
theorem d_Mo_init_102 : decode prog_11_method_1_code 102 = .ok (.aload_n 0, 1) := by decide +kernel
theorem d_Mo_init_103 : decode prog_11_method_1_code 103 = .ok (.sipush 1200, 3) := by decide +kernel
theorem d_Mo_init_106 : decode prog_11_method_1_code 106 = .ok (.newarray .int, 2) := by decide +kernel
theorem d_Mo_init_108 : decode prog_11_method_1_code 108 = .ok (.putfield 47, 3) := by decide +kernel
theorem d_Mo_init_111 : decode prog_11_method_1_code 111 = .ok (.aload_n 0, 1) := by decide +kernel
theorem d_Mo_init_112 : decode prog_11_method_1_code 112 = .ok (.sipush 1200, 3) := by decide +kernel
theorem d_Mo_init_115 : decode prog_11_method_1_code 115 = .ok (.newarray .int, 2) := by decide +kernel
theorem d_Mo_init_117 : decode prog_11_method_1_code 117 = .ok (.putfield 50, 3) := by decide +kernel
theorem d_Mo_init_120 : decode prog_11_method_1_code 120 = .ok (.aload_n 0, 1) := by decide +kernel
theorem d_Mo_init_121 : decode prog_11_method_1_code 121 = .ok (.sipush 1200, 3) := by decide +kernel
theorem d_Mo_init_124 : decode prog_11_method_1_code 124 = .ok (.newarray .int, 2) := by decide +kernel
theorem d_Mo_init_126 : decode prog_11_method_1_code 126 = .ok (.putfield 53, 3) := by decide +kernel
theorem d_Mo_init_129 : decode prog_11_method_1_code 129 = .ok (.aload_n 0, 1) := by decide +kernel
theorem d_Mo_init_130 : decode prog_11_method_1_code 130 = .ok (.sipush 1200, 3) := by decide +kernel
theorem d_Mo_init_133 : decode prog_11_method_1_code 133 = .ok (.newarray .long, 2) := by decide +kernel
theorem d_Mo_init_135 : decode prog_11_method_1_code 135 = .ok (.putfield 56, 3) := by decide +kernel
theorem d_Mo_init_138 : decode prog_11_method_1_code 138 = .ok (.aload_n 0, 1) := by decide +kernel
theorem d_Mo_init_139 : decode prog_11_method_1_code 139 = .ok (.sipush 1200, 3) := by decide +kernel
theorem d_Mo_init_142 : decode prog_11_method_1_code 142 = .ok (.newarray .long, 2) := by decide +kernel
theorem d_Mo_init_144 : decode prog_11_method_1_code 144 = .ok (.putfield 59, 3) := by decide +kernel
theorem d_Mo_init_147 : decode prog_11_method_1_code 147 = .ok (.aload_n 0, 1) := by decide +kernel
theorem d_Mo_init_148 : decode prog_11_method_1_code 148 = .ok (.sipush 1200, 3) := by decide +kernel
theorem d_Mo_init_151 : decode prog_11_method_1_code 151 = .ok (.newarray .int, 2) := by decide +kernel
theorem d_Mo_init_153 : decode prog_11_method_1_code 153 = .ok (.putfield 62, 3) := by decide +kernel
theorem d_Mo_init_156 : decode prog_11_method_1_code 156 = .ok (.aload_n 0, 1) := by decide +kernel
theorem d_Mo_init_157 : decode prog_11_method_1_code 157 = .ok (.sipush 1200, 3) := by decide +kernel
theorem d_Mo_init_160 : decode prog_11_method_1_code 160 = .ok (.newarray .int, 2) := by decide +kernel
theorem d_Mo_init_162 : decode prog_11_method_1_code 162 = .ok (.putfield 65, 3) := by decide +kernel
theorem d_Mo_init_165 : decode prog_11_method_1_code 165 = .ok (.aload_n 0, 1) := by decide +kernel
theorem d_Mo_init_166 : decode prog_11_method_1_code 166 = .ok (.sipush 1200, 3) := by decide +kernel
theorem d_Mo_init_169 : decode prog_11_method_1_code 169 = .ok (.newarray .int, 2) := by decide +kernel
theorem d_Mo_init_171 : decode prog_11_method_1_code 171 = .ok (.putfield 68, 3) := by decide +kernel
theorem d_Mo_init_174 : decode prog_11_method_1_code 174 = .ok (.aload_n 0, 1) := by decide +kernel
theorem d_Mo_init_175 : decode prog_11_method_1_code 175 = .ok (.sipush 1200, 3) := by decide +kernel
theorem d_Mo_init_178 : decode prog_11_method_1_code 178 = .ok (.newarray .int, 2) := by decide +kernel
theorem d_Mo_init_180 : decode prog_11_method_1_code 180 = .ok (.putfield 71, 3) := by decide +kernel
theorem d_Mo_init_183 : decode prog_11_method_1_code 183 = .ok (.aload_n 0, 1) := by decide +kernel
theorem d_Mo_init_184 : decode prog_11_method_1_code 184 = .ok (.sipush 1200, 3) := by decide +kernel
theorem d_Mo_init_187 : decode prog_11_method_1_code 187 = .ok (.newarray .boolean, 2) := by decide +kernel
theorem d_Mo_init_189 : decode prog_11_method_1_code 189 = .ok (.putfield 74, 3) := by decide +kernel
theorem d_Mo_init_192 : decode prog_11_method_1_code 192 = .ok (.aload_n 0, 1) := by decide +kernel
theorem d_Mo_init_193 : decode prog_11_method_1_code 193 = .ok (.sipush 2000, 3) := by decide +kernel
theorem d_Mo_init_196 : decode prog_11_method_1_code 196 = .ok (.newarray .long, 2) := by decide +kernel
theorem d_Mo_init_198 : decode prog_11_method_1_code 198 = .ok (.putfield 78, 3) := by decide +kernel
theorem d_Mo_init_201 : decode prog_11_method_1_code 201 = .ok (.aload_n 0, 1) := by decide +kernel
theorem d_Mo_init_202 : decode prog_11_method_1_code 202 = .ok (.bipush 12, 2) := by decide +kernel
theorem d_Mo_init_204 : decode prog_11_method_1_code 204 = .ok (.newarray .int, 2) := by decide +kernel
theorem d_Mo_init_206 : decode prog_11_method_1_code 206 = .ok (.putfield 81, 3) := by decide +kernel
theorem d_Mo_init_209 : decode prog_11_method_1_code 209 = .ok (.aload_n 0, 1) := by decide +kernel
theorem d_Mo_init_210 : decode prog_11_method_1_code 210 = .ok (.sipush 200, 3) := by decide +kernel
theorem d_Mo_init_213 : decode prog_11_method_1_code 213 = .ok (.newarray .int, 2) := by decide +kernel
theorem d_Mo_init_215 : decode prog_11_method_1_code 215 = .ok (.putfield 84, 3) := by decide +kernel
theorem d_Mo_init_218 : decode prog_11_method_1_code 218 = .ok (.aload_n 0, 1) := by decide +kernel
theorem d_Mo_init_219 : decode prog_11_method_1_code 219 = .ok (.sipush 200, 3) := by decide +kernel
theorem d_Mo_init_222 : decode prog_11_method_1_code 222 = .ok (.newarray .long, 2) := by decide +kernel
theorem d_Mo_init_224 : decode prog_11_method_1_code 224 = .ok (.putfield 87, 3) := by decide +kernel
theorem d_Mo_init_227 : decode prog_11_method_1_code 227 = .ok (.aload_n 0, 1) := by decide +kernel
theorem d_Mo_init_228 : decode prog_11_method_1_code 228 = .ok (.sipush 200, 3) := by decide +kernel
theorem d_Mo_init_231 : decode prog_11_method_1_code 231 = .ok (.newarray .long, 2) := by decide +kernel
theorem d_Mo_init_233 : decode prog_11_method_1_code 233 = .ok (.putfield 90, 3) := by decide +kernel
theorem d_Mo_init_236 : decode prog_11_method_1_code 236 = .ok (.aload_n 0, 1) := by decide +kernel
theorem d_Mo_init_237 : decode prog_11_method_1_code 237 = .ok (.bipush 9, 2) := by decide +kernel
theorem d_Mo_init_239 : decode prog_11_method_1_code 239 = .ok (.newarray .boolean, 2) := by decide +kernel
theorem d_Mo_init_241 : decode prog_11_method_1_code 241 = .ok (.putfield 93, 3) := by decide +kernel
theorem d_Mo_init_244 : decode prog_11_method_1_code 244 = .ok (.aload_n 0, 1) := by decide +kernel
theorem d_Mo_init_245 : decode prog_11_method_1_code 245 = .ok (.lconst 1, 1) := by decide +kernel
theorem d_Mo_init_246 : decode prog_11_method_1_code 246 = .ok (.putfield 96, 3) := by decide +kernel
theorem d_Mo_init_249 : decode prog_11_method_1_code 249 = .ok (.aload_n 0, 1) := by decide +kernel
theorem d_Mo_init_250 : decode prog_11_method_1_code 250 = .ok (.bipush 8, 2) := by decide +kernel
theorem d_Mo_init_252 : decode prog_11_method_1_code 252 = .ok (.newarray .int, 2) := by decide +kernel
theorem d_Mo_init_254 : decode prog_11_method_1_code 254 = .ok (.putfield 100, 3) := by decide +kernel
theorem d_Mo_init_257 : decode prog_11_method_1_code 257 = .ok (.aload_n 0, 1) := by decide +kernel
theorem d_Mo_init_258 : decode prog_11_method_1_code 258 = .ok (.sipush 16000, 3) := by decide +kernel
theorem d_Mo_init_261 : decode prog_11_method_1_code 261 = .ok (.newarray .int, 2) := by decide +kernel
theorem d_Mo_init_263 : decode prog_11_method_1_code 263 = .ok (.putfield 103, 3) := by decide +kernel
theorem d_Mo_init_266 : decode prog_11_method_1_code 266 = .ok (.aload_n 0, 1) := by decide +kernel
theorem d_Mo_init_267 : decode prog_11_method_1_code 267 = .ok (.sipush 16000, 3) := by decide +kernel
theorem d_Mo_init_270 : decode prog_11_method_1_code 270 = .ok (.newarray .long, 2) := by decide +kernel
theorem d_Mo_init_272 : decode prog_11_method_1_code 272 = .ok (.putfield 106, 3) := by decide +kernel
theorem d_Mo_init_275 : decode prog_11_method_1_code 275 = .ok (.aload_n 0, 1) := by decide +kernel
theorem d_Mo_init_276 : decode prog_11_method_1_code 276 = .ok (.sipush 16000, 3) := by decide +kernel
theorem d_Mo_init_279 : decode prog_11_method_1_code 279 = .ok (.newarray .long, 2) := by decide +kernel
theorem d_Mo_init_281 : decode prog_11_method_1_code 281 = .ok (.putfield 109, 3) := by decide +kernel
theorem d_Mo_init_284 : decode prog_11_method_1_code 284 = .ok (.aload_n 0, 1) := by decide +kernel
theorem d_Mo_init_285 : decode prog_11_method_1_code 285 = .ok (.bipush 100, 2) := by decide +kernel
theorem d_Mo_init_287 : decode prog_11_method_1_code 287 = .ok (.newarray .int, 2) := by decide +kernel
theorem d_Mo_init_289 : decode prog_11_method_1_code 289 = .ok (.putfield 112, 3) := by decide +kernel
theorem d_Mo_init_292 : decode prog_11_method_1_code 292 = .ok (.aload_n 0, 1) := by decide +kernel
theorem d_Mo_init_293 : decode prog_11_method_1_code 293 = .ok (.bipush 9, 2) := by decide +kernel
theorem d_Mo_init_295 : decode prog_11_method_1_code 295 = .ok (.newarray .boolean, 2) := by decide +kernel
theorem d_Mo_init_297 : decode prog_11_method_1_code 297 = .ok (.putfield 115, 3) := by decide +kernel
theorem d_Mo_init_300 : decode prog_11_method_1_code 300 = .ok (.aload_n 0, 1) := by decide +kernel
theorem d_Mo_init_301 : decode prog_11_method_1_code 301 = .ok (.bipush 21, 2) := by decide +kernel
theorem d_Mo_init_303 : decode prog_11_method_1_code 303 = .ok (.newarray .long, 2) := by decide +kernel
theorem d_Mo_init_305 : decode prog_11_method_1_code 305 = .ok (.putfield 118, 3) := by decide +kernel
theorem d_Mo_init_308 : decode prog_11_method_1_code 308 = .ok (.aload_n 0, 1) := by decide +kernel
theorem d_Mo_init_309 : decode prog_11_method_1_code 309 = .ok (.bipush 21, 2) := by decide +kernel
theorem d_Mo_init_311 : decode prog_11_method_1_code 311 = .ok (.newarray .long, 2) := by decide +kernel
theorem d_Mo_init_313 : decode prog_11_method_1_code 313 = .ok (.putfield 121, 3) := by decide +kernel
theorem d_Mo_init_316 : decode prog_11_method_1_code 316 = .ok (.aload_n 0, 1) := by decide +kernel
theorem d_Mo_init_317 : decode prog_11_method_1_code 317 = .ok (.bipush 12, 2) := by decide +kernel
theorem d_Mo_init_319 : decode prog_11_method_1_code 319 = .ok (.newarray .int, 2) := by decide +kernel
theorem d_Mo_init_321 : decode prog_11_method_1_code 321 = .ok (.putfield 124, 3) := by decide +kernel
theorem d_Mo_init_324 : decode prog_11_method_1_code 324 = .ok (.return_, 1) := by decide +kernel
abbrev m_Mo_thrown : MethodName × ByteArray × Nat × Option FieldType := (⟨"TestTextModel", "thrown", "()I"⟩, prog_11_method_2_code, 1, (Option.some FieldType.int))
theorem d_Mo_thrown_0 : decode prog_11_method_2_code 0 = .ok (.aload_n 0, 1) := by decide +kernel
theorem d_Mo_thrown_1 : decode prog_11_method_2_code 1 = .ok (.getfield 127, 3) := by decide +kernel
theorem d_Mo_thrown_4 : decode prog_11_method_2_code 4 = .ok (.ireturn, 1) := by decide +kernel
abbrev m_Mo_sign : MethodName × ByteArray × Nat × Option FieldType := (⟨"TestTextModel", "sign", "(I)V"⟩, prog_11_method_3_code, 4, (Option.none : Option FieldType))
theorem d_Mo_sign_0 : decode prog_11_method_3_code 0 = .ok (.aload_n 0, 1) := by decide +kernel
theorem d_Mo_sign_1 : decode prog_11_method_3_code 1 = .ok (.iconst 0, 1) := by decide +kernel
theorem d_Mo_sign_2 : decode prog_11_method_3_code 2 = .ok (.putfield 127, 3) := by decide +kernel
theorem d_Mo_sign_5 : decode prog_11_method_3_code 5 = .ok (.iconst 0, 1) := by decide +kernel
theorem d_Mo_sign_6 : decode prog_11_method_3_code 6 = .ok (.istore_n 2, 1) := by decide +kernel
theorem d_Mo_sign_7 : decode prog_11_method_3_code 7 = .ok (.iload_n 2, 1) := by decide +kernel
theorem d_Mo_sign_8 : decode prog_11_method_3_code 8 = .ok (.iconst 4, 1) := by decide +kernel
theorem d_Mo_sign_9 : decode prog_11_method_3_code 9 = .ok (.if_icmp .ge 66, 3) := by decide +kernel
theorem d_Mo_sign_12 : decode prog_11_method_3_code 12 = .ok (.iload_n 1, 1) := by decide +kernel
theorem d_Mo_sign_13 : decode prog_11_method_3_code 13 = .ok (.bipush 24, 2) := by decide +kernel
theorem d_Mo_sign_15 : decode prog_11_method_3_code 15 = .ok (.bipush 8, 2) := by decide +kernel
theorem d_Mo_sign_17 : decode prog_11_method_3_code 17 = .ok (.iload_n 2, 1) := by decide +kernel
theorem d_Mo_sign_18 : decode prog_11_method_3_code 18 = .ok (.imul, 1) := by decide +kernel
theorem d_Mo_sign_19 : decode prog_11_method_3_code 19 = .ok (.isub, 1) := by decide +kernel
theorem d_Mo_sign_20 : decode prog_11_method_3_code 20 = .ok (.ishr, 1) := by decide +kernel
theorem d_Mo_sign_21 : decode prog_11_method_3_code 21 = .ok (.sipush 255, 3) := by decide +kernel
theorem d_Mo_sign_24 : decode prog_11_method_3_code 24 = .ok (.iand, 1) := by decide +kernel
theorem d_Mo_sign_25 : decode prog_11_method_3_code 25 = .ok (.istore_n 3, 1) := by decide +kernel
theorem d_Mo_sign_26 : decode prog_11_method_3_code 26 = .ok (.iload_n 3, 1) := by decide +kernel
theorem d_Mo_sign_27 : decode prog_11_method_3_code 27 = .ok (.ifCond .eq 42, 3) := by decide +kernel
theorem d_Mo_sign_30 : decode prog_11_method_3_code 30 = .ok (.iload_n 3, 1) := by decide +kernel
theorem d_Mo_sign_31 : decode prog_11_method_3_code 31 = .ok (.bipush 127, 2) := by decide +kernel
theorem d_Mo_sign_33 : decode prog_11_method_3_code 33 = .ok (.if_icmp .gt 36, 3) := by decide +kernel
theorem d_Mo_sign_36 : decode prog_11_method_3_code 36 = .ok (.aload_n 0, 1) := by decide +kernel
theorem d_Mo_sign_37 : decode prog_11_method_3_code 37 = .ok (.getfield 131, 3) := by decide +kernel
theorem d_Mo_sign_40 : decode prog_11_method_3_code 40 = .ok (.sipush 4000, 3) := by decide +kernel
theorem d_Mo_sign_43 : decode prog_11_method_3_code 43 = .ok (.if_icmp .ne 6, 3) := by decide +kernel
theorem d_Mo_sign_46 : decode prog_11_method_3_code 46 = .ok (.goto 23, 3) := by decide +kernel
theorem d_Mo_sign_49 : decode prog_11_method_3_code 49 = .ok (.aload_n 0, 1) := by decide +kernel
theorem d_Mo_sign_50 : decode prog_11_method_3_code 50 = .ok (.getfield 7, 3) := by decide +kernel
theorem d_Mo_sign_53 : decode prog_11_method_3_code 53 = .ok (.aload_n 0, 1) := by decide +kernel
theorem d_Mo_sign_54 : decode prog_11_method_3_code 54 = .ok (.getfield 131, 3) := by decide +kernel
theorem d_Mo_sign_57 : decode prog_11_method_3_code 57 = .ok (.iload_n 3, 1) := by decide +kernel
theorem d_Mo_sign_58 : decode prog_11_method_3_code 58 = .ok (.iastore, 1) := by decide +kernel
theorem d_Mo_sign_59 : decode prog_11_method_3_code 59 = .ok (.aload_n 0, 1) := by decide +kernel
theorem d_Mo_sign_60 : decode prog_11_method_3_code 60 = .ok (.dup, 1) := by decide +kernel
theorem d_Mo_sign_61 : decode prog_11_method_3_code 61 = .ok (.getfield 131, 3) := by decide +kernel
theorem d_Mo_sign_64 : decode prog_11_method_3_code 64 = .ok (.iconst 1, 1) := by decide +kernel
theorem d_Mo_sign_65 : decode prog_11_method_3_code 65 = .ok (.iadd, 1) := by decide +kernel
theorem d_Mo_sign_66 : decode prog_11_method_3_code 66 = .ok (.putfield 131, 3) := by decide +kernel
theorem d_Mo_sign_69 : decode prog_11_method_3_code 69 = .ok (.iinc 2 1, 3) := by decide +kernel
theorem d_Mo_sign_72 : decode prog_11_method_3_code 72 = .ok (.goto (-65), 3) := by decide +kernel
theorem d_Mo_sign_75 : decode prog_11_method_3_code 75 = .ok (.return_, 1) := by decide +kernel
abbrev m_Mo_read : MethodName × ByteArray × Nat × Option FieldType := (⟨"TestTextModel", "read", "()I"⟩, prog_11_method_19_code, 2, (Option.some FieldType.int))
theorem d_Mo_read_0 : decode prog_11_method_19_code 0 = .ok (.aload_n 0, 1) := by decide +kernel
theorem d_Mo_read_1 : decode prog_11_method_19_code 1 = .ok (.aload_n 0, 1) := by decide +kernel
theorem d_Mo_read_2 : decode prog_11_method_19_code 2 = .ok (.getfield 131, 3) := by decide +kernel
theorem d_Mo_read_5 : decode prog_11_method_19_code 5 = .ok (.putfield 223, 3) := by decide +kernel
theorem d_Mo_read_8 : decode prog_11_method_19_code 8 = .ok (.aload_n 0, 1) := by decide +kernel
theorem d_Mo_read_9 : decode prog_11_method_19_code 9 = .ok (.iconst 0, 1) := by decide +kernel
theorem d_Mo_read_10 : decode prog_11_method_19_code 10 = .ok (.putfield 131, 3) := by decide +kernel
theorem d_Mo_read_13 : decode prog_11_method_19_code 13 = .ok (.iconst 0, 1) := by decide +kernel
theorem d_Mo_read_14 : decode prog_11_method_19_code 14 = .ok (.istore_n 1, 1) := by decide +kernel
theorem d_Mo_read_15 : decode prog_11_method_19_code 15 = .ok (.iload_n 1, 1) := by decide +kernel
theorem d_Mo_read_16 : decode prog_11_method_19_code 16 = .ok (.aload_n 0, 1) := by decide +kernel
theorem d_Mo_read_17 : decode prog_11_method_19_code 17 = .ok (.getfield 223, 3) := by decide +kernel
theorem d_Mo_read_20 : decode prog_11_method_19_code 20 = .ok (.if_icmp .ge 21, 3) := by decide +kernel
theorem d_Mo_read_23 : decode prog_11_method_19_code 23 = .ok (.aload_n 0, 1) := by decide +kernel
theorem d_Mo_read_24 : decode prog_11_method_19_code 24 = .ok (.getfield 13, 3) := by decide +kernel
theorem d_Mo_read_27 : decode prog_11_method_19_code 27 = .ok (.iload_n 1, 1) := by decide +kernel
theorem d_Mo_read_28 : decode prog_11_method_19_code 28 = .ok (.aload_n 0, 1) := by decide +kernel
theorem d_Mo_read_29 : decode prog_11_method_19_code 29 = .ok (.getfield 7, 3) := by decide +kernel
theorem d_Mo_read_32 : decode prog_11_method_19_code 32 = .ok (.iload_n 1, 1) := by decide +kernel
theorem d_Mo_read_33 : decode prog_11_method_19_code 33 = .ok (.iaload, 1) := by decide +kernel
theorem d_Mo_read_34 : decode prog_11_method_19_code 34 = .ok (.iastore, 1) := by decide +kernel
theorem d_Mo_read_35 : decode prog_11_method_19_code 35 = .ok (.iinc 1 1, 3) := by decide +kernel
theorem d_Mo_read_38 : decode prog_11_method_19_code 38 = .ok (.goto (-23), 3) := by decide +kernel
theorem d_Mo_read_41 : decode prog_11_method_19_code 41 = .ok (.aload_n 0, 1) := by decide +kernel
theorem d_Mo_read_42 : decode prog_11_method_19_code 42 = .ok (.iconst 0, 1) := by decide +kernel
theorem d_Mo_read_43 : decode prog_11_method_19_code 43 = .ok (.putfield 157, 3) := by decide +kernel
theorem d_Mo_read_46 : decode prog_11_method_19_code 46 = .ok (.aload_n 0, 1) := by decide +kernel
theorem d_Mo_read_47 : decode prog_11_method_19_code 47 = .ok (.iconst 0, 1) := by decide +kernel
theorem d_Mo_read_48 : decode prog_11_method_19_code 48 = .ok (.putfield 171, 3) := by decide +kernel
theorem d_Mo_read_51 : decode prog_11_method_19_code 51 = .ok (.aload_n 0, 1) := by decide +kernel
theorem d_Mo_read_52 : decode prog_11_method_19_code 52 = .ok (.iconst 0, 1) := by decide +kernel
theorem d_Mo_read_53 : decode prog_11_method_19_code 53 = .ok (.putfield 174, 3) := by decide +kernel
theorem d_Mo_read_56 : decode prog_11_method_19_code 56 = .ok (.aload_n 0, 1) := by decide +kernel
theorem d_Mo_read_57 : decode prog_11_method_19_code 57 = .ok (.iconst 0, 1) := by decide +kernel
theorem d_Mo_read_58 : decode prog_11_method_19_code 58 = .ok (.putfield 220, 3) := by decide +kernel
theorem d_Mo_read_61 : decode prog_11_method_19_code 61 = .ok (.aload_n 0, 1) := by decide +kernel
theorem d_Mo_read_62 : decode prog_11_method_19_code 62 = .ok (.iconst 0, 1) := by decide +kernel
theorem d_Mo_read_63 : decode prog_11_method_19_code 63 = .ok (.putfield 190, 3) := by decide +kernel
theorem d_Mo_read_66 : decode prog_11_method_19_code 66 = .ok (.aload_n 0, 1) := by decide +kernel
theorem d_Mo_read_67 : decode prog_11_method_19_code 67 = .ok (.iconst 0, 1) := by decide +kernel
theorem d_Mo_read_68 : decode prog_11_method_19_code 68 = .ok (.putfield 229, 3) := by decide +kernel
theorem d_Mo_read_71 : decode prog_11_method_19_code 71 = .ok (.aload_n 0, 1) := by decide +kernel
theorem d_Mo_read_72 : decode prog_11_method_19_code 72 = .ok (.iconst 0, 1) := by decide +kernel
theorem d_Mo_read_73 : decode prog_11_method_19_code 73 = .ok (.putfield 232, 3) := by decide +kernel
theorem d_Mo_read_76 : decode prog_11_method_19_code 76 = .ok (.iconst 0, 1) := by decide +kernel
theorem d_Mo_read_77 : decode prog_11_method_19_code 77 = .ok (.istore_n 1, 1) := by decide +kernel
theorem d_Mo_read_78 : decode prog_11_method_19_code 78 = .ok (.iload_n 1, 1) := by decide +kernel
theorem d_Mo_read_79 : decode prog_11_method_19_code 79 = .ok (.bipush 9, 2) := by decide +kernel
theorem d_Mo_read_81 : decode prog_11_method_19_code 81 = .ok (.if_icmp .ge 16, 3) := by decide +kernel
theorem d_Mo_read_84 : decode prog_11_method_19_code 84 = .ok (.aload_n 0, 1) := by decide +kernel
theorem d_Mo_read_85 : decode prog_11_method_19_code 85 = .ok (.getfield 93, 3) := by decide +kernel
theorem d_Mo_read_88 : decode prog_11_method_19_code 88 = .ok (.iload_n 1, 1) := by decide +kernel
theorem d_Mo_read_89 : decode prog_11_method_19_code 89 = .ok (.iconst 0, 1) := by decide +kernel
theorem d_Mo_read_90 : decode prog_11_method_19_code 90 = .ok (.bastore, 1) := by decide +kernel
theorem d_Mo_read_91 : decode prog_11_method_19_code 91 = .ok (.iinc 1 1, 3) := by decide +kernel
theorem d_Mo_read_94 : decode prog_11_method_19_code 94 = .ok (.goto (-16), 3) := by decide +kernel
theorem d_Mo_read_97 : decode prog_11_method_19_code 97 = .ok (.aload_n 0, 1) := by decide +kernel
theorem d_Mo_read_98 : decode prog_11_method_19_code 98 = .ok (.aload_n 0, 1) := by decide +kernel
theorem d_Mo_read_99 : decode prog_11_method_19_code 99 = .ok (.invokevirtual 235, 3) := by decide +kernel
theorem d_Mo_read_102 : decode prog_11_method_19_code 102 = .ok (.putfield 238, 3) := by decide +kernel
theorem d_Mo_read_105 : decode prog_11_method_19_code 105 = .ok (.aload_n 0, 1) := by decide +kernel
theorem d_Mo_read_106 : decode prog_11_method_19_code 106 = .ok (.aload_n 0, 1) := by decide +kernel
theorem d_Mo_read_107 : decode prog_11_method_19_code 107 = .ok (.getfield 238, 3) := by decide +kernel
theorem d_Mo_read_110 : decode prog_11_method_19_code 110 = .ok (.ifCond .le 7, 3) := by decide +kernel
theorem d_Mo_read_113 : decode prog_11_method_19_code 113 = .ok (.iconst 1, 1) := by decide +kernel
theorem d_Mo_read_114 : decode prog_11_method_19_code 114 = .ok (.goto 4, 3) := by decide +kernel
theorem d_Mo_read_117 : decode prog_11_method_19_code 117 = .ok (.iconst 0, 1) := by decide +kernel
theorem d_Mo_read_118 : decode prog_11_method_19_code 118 = .ok (.putfield 127, 3) := by decide +kernel
theorem d_Mo_read_121 : decode prog_11_method_19_code 121 = .ok (.aload_n 0, 1) := by decide +kernel
theorem d_Mo_read_122 : decode prog_11_method_19_code 122 = .ok (.getfield 127, 3) := by decide +kernel
theorem d_Mo_read_125 : decode prog_11_method_19_code 125 = .ok (.ifCond .ne 55, 3) := by decide +kernel
theorem d_Mo_read_128 : decode prog_11_method_19_code 128 = .ok (.iconst 1, 1) := by decide +kernel
theorem d_Mo_read_129 : decode prog_11_method_19_code 129 = .ok (.istore_n 1, 1) := by decide +kernel
theorem d_Mo_read_130 : decode prog_11_method_19_code 130 = .ok (.iload_n 1, 1) := by decide +kernel
theorem d_Mo_read_131 : decode prog_11_method_19_code 131 = .ok (.aload_n 0, 1) := by decide +kernel
theorem d_Mo_read_132 : decode prog_11_method_19_code 132 = .ok (.getfield 171, 3) := by decide +kernel
theorem d_Mo_read_135 : decode prog_11_method_19_code 135 = .ok (.if_icmp .gt 40, 3) := by decide +kernel
theorem d_Mo_read_138 : decode prog_11_method_19_code 138 = .ok (.aload_n 0, 1) := by decide +kernel
theorem d_Mo_read_139 : decode prog_11_method_19_code 139 = .ok (.getfield 28, 3) := by decide +kernel
theorem d_Mo_read_142 : decode prog_11_method_19_code 142 = .ok (.iload_n 1, 1) := by decide +kernel
theorem d_Mo_read_143 : decode prog_11_method_19_code 143 = .ok (.iconst 1, 1) := by decide +kernel
theorem d_Mo_read_144 : decode prog_11_method_19_code 144 = .ok (.iadd, 1) := by decide +kernel
theorem d_Mo_read_145 : decode prog_11_method_19_code 145 = .ok (.iload_n 1, 1) := by decide +kernel
theorem d_Mo_read_146 : decode prog_11_method_19_code 146 = .ok (.aload_n 0, 1) := by decide +kernel
theorem d_Mo_read_147 : decode prog_11_method_19_code 147 = .ok (.getfield 171, 3) := by decide +kernel
theorem d_Mo_read_150 : decode prog_11_method_19_code 150 = .ok (.if_icmp .ne 10, 3) := by decide +kernel
theorem d_Mo_read_153 : decode prog_11_method_19_code 153 = .ok (.aload_n 0, 1) := by decide +kernel
theorem d_Mo_read_154 : decode prog_11_method_19_code 154 = .ok (.getfield 174, 3) := by decide +kernel
theorem d_Mo_read_157 : decode prog_11_method_19_code 157 = .ok (.goto 11, 3) := by decide +kernel
theorem d_Mo_read_160 : decode prog_11_method_19_code 160 = .ok (.aload_n 0, 1) := by decide +kernel
theorem d_Mo_read_161 : decode prog_11_method_19_code 161 = .ok (.getfield 28, 3) := by decide +kernel
theorem d_Mo_read_164 : decode prog_11_method_19_code 164 = .ok (.iload_n 1, 1) := by decide +kernel
theorem d_Mo_read_165 : decode prog_11_method_19_code 165 = .ok (.iconst 1, 1) := by decide +kernel
theorem d_Mo_read_166 : decode prog_11_method_19_code 166 = .ok (.iadd, 1) := by decide +kernel
theorem d_Mo_read_167 : decode prog_11_method_19_code 167 = .ok (.iaload, 1) := by decide +kernel
theorem d_Mo_read_168 : decode prog_11_method_19_code 168 = .ok (.iastore, 1) := by decide +kernel
theorem d_Mo_read_169 : decode prog_11_method_19_code 169 = .ok (.iinc 1 1, 3) := by decide +kernel
theorem d_Mo_read_172 : decode prog_11_method_19_code 172 = .ok (.goto (-42), 3) := by decide +kernel
theorem d_Mo_read_175 : decode prog_11_method_19_code 175 = .ok (.aload_n 0, 1) := by decide +kernel
theorem d_Mo_read_176 : decode prog_11_method_19_code 176 = .ok (.getfield 174, 3) := by decide +kernel
theorem d_Mo_read_179 : decode prog_11_method_19_code 179 = .ok (.ireturn, 1) := by decide +kernel
theorem d_Mo_read_180 : decode prog_11_method_19_code 180 = .ok (.aload_n 0, 1) := by decide +kernel
theorem d_Mo_read_181 : decode prog_11_method_19_code 181 = .ok (.iconst 0, 1) := by decide +kernel
theorem d_Mo_read_182 : decode prog_11_method_19_code 182 = .ok (.putfield 157, 3) := by decide +kernel
theorem d_Mo_read_185 : decode prog_11_method_19_code 185 = .ok (.aload_n 0, 1) := by decide +kernel
theorem d_Mo_read_186 : decode prog_11_method_19_code 186 = .ok (.iconst 0, 1) := by decide +kernel
theorem d_Mo_read_187 : decode prog_11_method_19_code 187 = .ok (.putfield 171, 3) := by decide +kernel
theorem d_Mo_read_190 : decode prog_11_method_19_code 190 = .ok (.aload_n 0, 1) := by decide +kernel
theorem d_Mo_read_191 : decode prog_11_method_19_code 191 = .ok (.iconst 0, 1) := by decide +kernel
theorem d_Mo_read_192 : decode prog_11_method_19_code 192 = .ok (.putfield 174, 3) := by decide +kernel
theorem d_Mo_read_195 : decode prog_11_method_19_code 195 = .ok (.iconst 0, 1) := by decide +kernel
theorem d_Mo_read_196 : decode prog_11_method_19_code 196 = .ok (.ireturn, 1) := by decide +kernel
abbrev m_Mo_read0 : MethodName × ByteArray × Nat × Option FieldType := (⟨"TestTextModel", "read0", "()I"⟩, prog_11_method_18_code, 3, (Option.some FieldType.int))
theorem d_Mo_read0_0 : decode prog_11_method_18_code 0 = .ok (.iconst 1, 1) := by decide +kernel
theorem d_Mo_read0_1 : decode prog_11_method_18_code 1 = .ok (.istore_n 1, 1) := by decide +kernel
theorem d_Mo_read0_2 : decode prog_11_method_18_code 2 = .ok (.iconst 0, 1) := by decide +kernel
theorem d_Mo_read0_3 : decode prog_11_method_18_code 3 = .ok (.istore_n 2, 1) := by decide +kernel
theorem d_Mo_read0_4 : decode prog_11_method_18_code 4 = .ok (.iload_n 2, 1) := by decide +kernel
theorem d_Mo_read0_5 : decode prog_11_method_18_code 5 = .ok (.aload_n 0, 1) := by decide +kernel
theorem d_Mo_read0_6 : decode prog_11_method_18_code 6 = .ok (.getfield 223, 3) := by decide +kernel
theorem d_Mo_read0_9 : decode prog_11_method_18_code 9 = .ok (.if_icmp .ge 81, 3) := by decide +kernel
theorem d_Mo_read0_12 : decode prog_11_method_18_code 12 = .ok (.aload_n 0, 1) := by decide +kernel
theorem d_Mo_read0_13 : decode prog_11_method_18_code 13 = .ok (.iload_n 2, 1) := by decide +kernel
theorem d_Mo_read0_14 : decode prog_11_method_18_code 14 = .ok (.putfield 137, 3) := by decide +kernel
theorem d_Mo_read0_17 : decode prog_11_method_18_code 17 = .ok (.aload_n 0, 1) := by decide +kernel
theorem d_Mo_read0_18 : decode prog_11_method_18_code 18 = .ok (.getfield 137, 3) := by decide +kernel
theorem d_Mo_read0_21 : decode prog_11_method_18_code 21 = .ok (.aload_n 0, 1) := by decide +kernel
theorem d_Mo_read0_22 : decode prog_11_method_18_code 22 = .ok (.getfield 223, 3) := by decide +kernel
theorem d_Mo_read0_25 : decode prog_11_method_18_code 25 = .ok (.if_icmp .ge 30, 3) := by decide +kernel
theorem d_Mo_read0_28 : decode prog_11_method_18_code 28 = .ok (.aload_n 0, 1) := by decide +kernel
theorem d_Mo_read0_29 : decode prog_11_method_18_code 29 = .ok (.getfield 13, 3) := by decide +kernel
theorem d_Mo_read0_32 : decode prog_11_method_18_code 32 = .ok (.aload_n 0, 1) := by decide +kernel
theorem d_Mo_read0_33 : decode prog_11_method_18_code 33 = .ok (.getfield 137, 3) := by decide +kernel
theorem d_Mo_read0_36 : decode prog_11_method_18_code 36 = .ok (.iaload, 1) := by decide +kernel
theorem d_Mo_read0_37 : decode prog_11_method_18_code 37 = .ok (.bipush 10, 2) := by decide +kernel
theorem d_Mo_read0_39 : decode prog_11_method_18_code 39 = .ok (.if_icmp .eq 16, 3) := by decide +kernel
theorem d_Mo_read0_42 : decode prog_11_method_18_code 42 = .ok (.aload_n 0, 1) := by decide +kernel
theorem d_Mo_read0_43 : decode prog_11_method_18_code 43 = .ok (.dup, 1) := by decide +kernel
theorem d_Mo_read0_44 : decode prog_11_method_18_code 44 = .ok (.getfield 137, 3) := by decide +kernel
theorem d_Mo_read0_47 : decode prog_11_method_18_code 47 = .ok (.iconst 1, 1) := by decide +kernel
theorem d_Mo_read0_48 : decode prog_11_method_18_code 48 = .ok (.iadd, 1) := by decide +kernel
theorem d_Mo_read0_49 : decode prog_11_method_18_code 49 = .ok (.putfield 137, 3) := by decide +kernel
theorem d_Mo_read0_52 : decode prog_11_method_18_code 52 = .ok (.goto (-35), 3) := by decide +kernel
theorem d_Mo_read0_55 : decode prog_11_method_18_code 55 = .ok (.aload_n 0, 1) := by decide +kernel
theorem d_Mo_read0_56 : decode prog_11_method_18_code 56 = .ok (.iload_n 2, 1) := by decide +kernel
theorem d_Mo_read0_57 : decode prog_11_method_18_code 57 = .ok (.putfield 134, 3) := by decide +kernel
theorem d_Mo_read0_60 : decode prog_11_method_18_code 60 = .ok (.aload_n 0, 1) := by decide +kernel
theorem d_Mo_read0_61 : decode prog_11_method_18_code 61 = .ok (.invokevirtual 146, 3) := by decide +kernel
theorem d_Mo_read0_64 : decode prog_11_method_18_code 64 = .ok (.ifCond .eq 13, 3) := by decide +kernel
theorem d_Mo_read0_67 : decode prog_11_method_18_code 67 = .ok (.aload_n 0, 1) := by decide +kernel
theorem d_Mo_read0_68 : decode prog_11_method_18_code 68 = .ok (.iload_n 1, 1) := by decide +kernel
theorem d_Mo_read0_69 : decode prog_11_method_18_code 69 = .ok (.invokevirtual 226, 3) := by decide +kernel
theorem d_Mo_read0_72 : decode prog_11_method_18_code 72 = .ok (.ifCond .ne 5, 3) := by decide +kernel
theorem d_Mo_read0_75 : decode prog_11_method_18_code 75 = .ok (.iload_n 1, 1) := by decide +kernel
theorem d_Mo_read0_76 : decode prog_11_method_18_code 76 = .ok (.ireturn, 1) := by decide +kernel
theorem d_Mo_read0_77 : decode prog_11_method_18_code 77 = .ok (.iinc 1 1, 3) := by decide +kernel
theorem d_Mo_read0_80 : decode prog_11_method_18_code 80 = .ok (.aload_n 0, 1) := by decide +kernel
theorem d_Mo_read0_81 : decode prog_11_method_18_code 81 = .ok (.getfield 137, 3) := by decide +kernel
theorem d_Mo_read0_84 : decode prog_11_method_18_code 84 = .ok (.iconst 1, 1) := by decide +kernel
theorem d_Mo_read0_85 : decode prog_11_method_18_code 85 = .ok (.iadd, 1) := by decide +kernel
theorem d_Mo_read0_86 : decode prog_11_method_18_code 86 = .ok (.istore_n 2, 1) := by decide +kernel
theorem d_Mo_read0_87 : decode prog_11_method_18_code 87 = .ok (.goto (-83), 3) := by decide +kernel
theorem d_Mo_read0_90 : decode prog_11_method_18_code 90 = .ok (.aload_n 0, 1) := by decide +kernel
theorem d_Mo_read0_91 : decode prog_11_method_18_code 91 = .ok (.getfield 28, 3) := by decide +kernel
theorem d_Mo_read0_94 : decode prog_11_method_18_code 94 = .ok (.aload_n 0, 1) := by decide +kernel
theorem d_Mo_read0_95 : decode prog_11_method_18_code 95 = .ok (.getfield 171, 3) := by decide +kernel
theorem d_Mo_read0_98 : decode prog_11_method_18_code 98 = .ok (.iconst 1, 1) := by decide +kernel
theorem d_Mo_read0_99 : decode prog_11_method_18_code 99 = .ok (.iadd, 1) := by decide +kernel
theorem d_Mo_read0_100 : decode prog_11_method_18_code 100 = .ok (.aload_n 0, 1) := by decide +kernel
theorem d_Mo_read0_101 : decode prog_11_method_18_code 101 = .ok (.getfield 174, 3) := by decide +kernel
theorem d_Mo_read0_104 : decode prog_11_method_18_code 104 = .ok (.iastore, 1) := by decide +kernel
theorem d_Mo_read0_105 : decode prog_11_method_18_code 105 = .ok (.aload_n 0, 1) := by decide +kernel
theorem d_Mo_read0_106 : decode prog_11_method_18_code 106 = .ok (.getfield 190, 3) := by decide +kernel
theorem d_Mo_read0_109 : decode prog_11_method_18_code 109 = .ok (.ifCond .le 7, 3) := by decide +kernel
theorem d_Mo_read0_112 : decode prog_11_method_18_code 112 = .ok (.iload_n 1, 1) := by decide +kernel
theorem d_Mo_read0_113 : decode prog_11_method_18_code 113 = .ok (.goto 4, 3) := by decide +kernel
theorem d_Mo_read0_116 : decode prog_11_method_18_code 116 = .ok (.iconst 0, 1) := by decide +kernel
theorem d_Mo_read0_117 : decode prog_11_method_18_code 117 = .ok (.ireturn, 1) := by decide +kernel
abbrev m_Mo_next : MethodName × ByteArray × Nat × Option FieldType := (⟨"TestTextModel", "next", "()Z"⟩, prog_11_method_4_code, 1, (Option.some FieldType.boolean))
theorem d_Mo_next_0 : decode prog_11_method_4_code 0 = .ok (.aload_n 0, 1) := by decide +kernel
theorem d_Mo_next_1 : decode prog_11_method_4_code 1 = .ok (.getfield 134, 3) := by decide +kernel
theorem d_Mo_next_4 : decode prog_11_method_4_code 4 = .ok (.aload_n 0, 1) := by decide +kernel
theorem d_Mo_next_5 : decode prog_11_method_4_code 5 = .ok (.getfield 137, 3) := by decide +kernel
theorem d_Mo_next_8 : decode prog_11_method_4_code 8 = .ok (.if_icmp .ge 30, 3) := by decide +kernel
theorem d_Mo_next_11 : decode prog_11_method_4_code 11 = .ok (.aload_n 0, 1) := by decide +kernel
theorem d_Mo_next_12 : decode prog_11_method_4_code 12 = .ok (.getfield 13, 3) := by decide +kernel
theorem d_Mo_next_15 : decode prog_11_method_4_code 15 = .ok (.aload_n 0, 1) := by decide +kernel
theorem d_Mo_next_16 : decode prog_11_method_4_code 16 = .ok (.getfield 134, 3) := by decide +kernel
theorem d_Mo_next_19 : decode prog_11_method_4_code 19 = .ok (.iaload, 1) := by decide +kernel
theorem d_Mo_next_20 : decode prog_11_method_4_code 20 = .ok (.bipush 32, 2) := by decide +kernel
theorem d_Mo_next_22 : decode prog_11_method_4_code 22 = .ok (.if_icmp .ne 16, 3) := by decide +kernel
theorem d_Mo_next_25 : decode prog_11_method_4_code 25 = .ok (.aload_n 0, 1) := by decide +kernel
theorem d_Mo_next_26 : decode prog_11_method_4_code 26 = .ok (.dup, 1) := by decide +kernel
theorem d_Mo_next_27 : decode prog_11_method_4_code 27 = .ok (.getfield 134, 3) := by decide +kernel
theorem d_Mo_next_30 : decode prog_11_method_4_code 30 = .ok (.iconst 1, 1) := by decide +kernel
theorem d_Mo_next_31 : decode prog_11_method_4_code 31 = .ok (.iadd, 1) := by decide +kernel
theorem d_Mo_next_32 : decode prog_11_method_4_code 32 = .ok (.putfield 134, 3) := by decide +kernel
theorem d_Mo_next_35 : decode prog_11_method_4_code 35 = .ok (.goto (-35), 3) := by decide +kernel
theorem d_Mo_next_38 : decode prog_11_method_4_code 38 = .ok (.aload_n 0, 1) := by decide +kernel
theorem d_Mo_next_39 : decode prog_11_method_4_code 39 = .ok (.aload_n 0, 1) := by decide +kernel
theorem d_Mo_next_40 : decode prog_11_method_4_code 40 = .ok (.getfield 134, 3) := by decide +kernel
theorem d_Mo_next_43 : decode prog_11_method_4_code 43 = .ok (.putfield 140, 3) := by decide +kernel
theorem d_Mo_next_46 : decode prog_11_method_4_code 46 = .ok (.aload_n 0, 1) := by decide +kernel
theorem d_Mo_next_47 : decode prog_11_method_4_code 47 = .ok (.getfield 134, 3) := by decide +kernel
theorem d_Mo_next_50 : decode prog_11_method_4_code 50 = .ok (.aload_n 0, 1) := by decide +kernel
theorem d_Mo_next_51 : decode prog_11_method_4_code 51 = .ok (.getfield 137, 3) := by decide +kernel
theorem d_Mo_next_54 : decode prog_11_method_4_code 54 = .ok (.if_icmp .ge 30, 3) := by decide +kernel
theorem d_Mo_next_57 : decode prog_11_method_4_code 57 = .ok (.aload_n 0, 1) := by decide +kernel
theorem d_Mo_next_58 : decode prog_11_method_4_code 58 = .ok (.getfield 13, 3) := by decide +kernel
theorem d_Mo_next_61 : decode prog_11_method_4_code 61 = .ok (.aload_n 0, 1) := by decide +kernel
theorem d_Mo_next_62 : decode prog_11_method_4_code 62 = .ok (.getfield 134, 3) := by decide +kernel
theorem d_Mo_next_65 : decode prog_11_method_4_code 65 = .ok (.iaload, 1) := by decide +kernel
theorem d_Mo_next_66 : decode prog_11_method_4_code 66 = .ok (.bipush 32, 2) := by decide +kernel
theorem d_Mo_next_68 : decode prog_11_method_4_code 68 = .ok (.if_icmp .eq 16, 3) := by decide +kernel
theorem d_Mo_next_71 : decode prog_11_method_4_code 71 = .ok (.aload_n 0, 1) := by decide +kernel
theorem d_Mo_next_72 : decode prog_11_method_4_code 72 = .ok (.dup, 1) := by decide +kernel
theorem d_Mo_next_73 : decode prog_11_method_4_code 73 = .ok (.getfield 134, 3) := by decide +kernel
theorem d_Mo_next_76 : decode prog_11_method_4_code 76 = .ok (.iconst 1, 1) := by decide +kernel
theorem d_Mo_next_77 : decode prog_11_method_4_code 77 = .ok (.iadd, 1) := by decide +kernel
theorem d_Mo_next_78 : decode prog_11_method_4_code 78 = .ok (.putfield 134, 3) := by decide +kernel
theorem d_Mo_next_81 : decode prog_11_method_4_code 81 = .ok (.goto (-35), 3) := by decide +kernel
theorem d_Mo_next_84 : decode prog_11_method_4_code 84 = .ok (.aload_n 0, 1) := by decide +kernel
theorem d_Mo_next_85 : decode prog_11_method_4_code 85 = .ok (.aload_n 0, 1) := by decide +kernel
theorem d_Mo_next_86 : decode prog_11_method_4_code 86 = .ok (.getfield 134, 3) := by decide +kernel
theorem d_Mo_next_89 : decode prog_11_method_4_code 89 = .ok (.putfield 143, 3) := by decide +kernel
theorem d_Mo_next_92 : decode prog_11_method_4_code 92 = .ok (.aload_n 0, 1) := by decide +kernel
theorem d_Mo_next_93 : decode prog_11_method_4_code 93 = .ok (.getfield 143, 3) := by decide +kernel
theorem d_Mo_next_96 : decode prog_11_method_4_code 96 = .ok (.aload_n 0, 1) := by decide +kernel
theorem d_Mo_next_97 : decode prog_11_method_4_code 97 = .ok (.getfield 140, 3) := by decide +kernel
theorem d_Mo_next_100 : decode prog_11_method_4_code 100 = .ok (.if_icmp .le 7, 3) := by decide +kernel
theorem d_Mo_next_103 : decode prog_11_method_4_code 103 = .ok (.iconst 1, 1) := by decide +kernel
theorem d_Mo_next_104 : decode prog_11_method_4_code 104 = .ok (.goto 4, 3) := by decide +kernel
theorem d_Mo_next_107 : decode prog_11_method_4_code 107 = .ok (.iconst 0, 1) := by decide +kernel
theorem d_Mo_next_108 : decode prog_11_method_4_code 108 = .ok (.ireturn, 1) := by decide +kernel
abbrev m_Mo_line : MethodName × ByteArray × Nat × Option FieldType := (⟨"TestTextModel", "line", "(I)Z"⟩, prog_11_method_14_code, 2, (Option.some FieldType.boolean))
theorem d_Mo_line_0 : decode prog_11_method_14_code 0 = .ok (.aload_n 0, 1) := by decide +kernel
theorem d_Mo_line_1 : decode prog_11_method_14_code 1 = .ok (.bipush 110, 2) := by decide +kernel
theorem d_Mo_line_3 : decode prog_11_method_14_code 3 = .ok (.bipush 97, 2) := by decide +kernel
theorem d_Mo_line_5 : decode prog_11_method_14_code 5 = .ok (.bipush 109, 2) := by decide +kernel
theorem d_Mo_line_7 : decode prog_11_method_14_code 7 = .ok (.bipush 101, 2) := by decide +kernel
theorem d_Mo_line_9 : decode prog_11_method_14_code 9 = .ok (.iconst 0, 1) := by decide +kernel
theorem d_Mo_line_10 : decode prog_11_method_14_code 10 = .ok (.iconst 0, 1) := by decide +kernel
theorem d_Mo_line_11 : decode prog_11_method_14_code 11 = .ok (.invokevirtual 177, 3) := by decide +kernel
theorem d_Mo_line_14 : decode prog_11_method_14_code 14 = .ok (.ifCond .eq 62, 3) := by decide +kernel
theorem d_Mo_line_17 : decode prog_11_method_14_code 17 = .ok (.aload_n 0, 1) := by decide +kernel
theorem d_Mo_line_18 : decode prog_11_method_14_code 18 = .ok (.invokevirtual 181, 3) := by decide +kernel
theorem d_Mo_line_21 : decode prog_11_method_14_code 21 = .ok (.ifCond .eq 12, 3) := by decide +kernel
theorem d_Mo_line_24 : decode prog_11_method_14_code 24 = .ok (.aload_n 0, 1) := by decide +kernel
theorem d_Mo_line_25 : decode prog_11_method_14_code 25 = .ok (.getfield 157, 3) := by decide +kernel
theorem d_Mo_line_28 : decode prog_11_method_14_code 28 = .ok (.bipush 20, 2) := by decide +kernel
theorem d_Mo_line_30 : decode prog_11_method_14_code 30 = .ok (.if_icmp .ne 5, 3) := by decide +kernel
theorem d_Mo_line_33 : decode prog_11_method_14_code 33 = .ok (.iconst 0, 1) := by decide +kernel
theorem d_Mo_line_34 : decode prog_11_method_14_code 34 = .ok (.ireturn, 1) := by decide +kernel
theorem d_Mo_line_35 : decode prog_11_method_14_code 35 = .ok (.aload_n 0, 1) := by decide +kernel
theorem d_Mo_line_36 : decode prog_11_method_14_code 36 = .ok (.dup, 1) := by decide +kernel
theorem d_Mo_line_37 : decode prog_11_method_14_code 37 = .ok (.getfield 157, 3) := by decide +kernel
theorem d_Mo_line_40 : decode prog_11_method_14_code 40 = .ok (.iconst 1, 1) := by decide +kernel
theorem d_Mo_line_41 : decode prog_11_method_14_code 41 = .ok (.iadd, 1) := by decide +kernel
theorem d_Mo_line_42 : decode prog_11_method_14_code 42 = .ok (.putfield 157, 3) := by decide +kernel
theorem d_Mo_line_45 : decode prog_11_method_14_code 45 = .ok (.aload_n 0, 1) := by decide +kernel
theorem d_Mo_line_46 : decode prog_11_method_14_code 46 = .ok (.getfield 16, 3) := by decide +kernel
theorem d_Mo_line_49 : decode prog_11_method_14_code 49 = .ok (.aload_n 0, 1) := by decide +kernel
theorem d_Mo_line_50 : decode prog_11_method_14_code 50 = .ok (.getfield 157, 3) := by decide +kernel
theorem d_Mo_line_53 : decode prog_11_method_14_code 53 = .ok (.aload_n 0, 1) := by decide +kernel
theorem d_Mo_line_54 : decode prog_11_method_14_code 54 = .ok (.getfield 140, 3) := by decide +kernel
theorem d_Mo_line_57 : decode prog_11_method_14_code 57 = .ok (.iastore, 1) := by decide +kernel
theorem d_Mo_line_58 : decode prog_11_method_14_code 58 = .ok (.aload_n 0, 1) := by decide +kernel
theorem d_Mo_line_59 : decode prog_11_method_14_code 59 = .ok (.getfield 19, 3) := by decide +kernel
theorem d_Mo_line_62 : decode prog_11_method_14_code 62 = .ok (.aload_n 0, 1) := by decide +kernel
theorem d_Mo_line_63 : decode prog_11_method_14_code 63 = .ok (.getfield 157, 3) := by decide +kernel
theorem d_Mo_line_66 : decode prog_11_method_14_code 66 = .ok (.aload_n 0, 1) := by decide +kernel
theorem d_Mo_line_67 : decode prog_11_method_14_code 67 = .ok (.getfield 143, 3) := by decide +kernel
theorem d_Mo_line_70 : decode prog_11_method_14_code 70 = .ok (.iastore, 1) := by decide +kernel
theorem d_Mo_line_71 : decode prog_11_method_14_code 71 = .ok (.aload_n 0, 1) := by decide +kernel
theorem d_Mo_line_72 : decode prog_11_method_14_code 72 = .ok (.invokevirtual 184, 3) := by decide +kernel
theorem d_Mo_line_75 : decode prog_11_method_14_code 75 = .ok (.ireturn, 1) := by decide +kernel
theorem d_Mo_line_76 : decode prog_11_method_14_code 76 = .ok (.aload_n 0, 1) := by decide +kernel
theorem d_Mo_line_77 : decode prog_11_method_14_code 77 = .ok (.bipush 116, 2) := by decide +kernel
theorem d_Mo_line_79 : decode prog_11_method_14_code 79 = .ok (.bipush 101, 2) := by decide +kernel
theorem d_Mo_line_81 : decode prog_11_method_14_code 81 = .ok (.bipush 115, 2) := by decide +kernel
theorem d_Mo_line_83 : decode prog_11_method_14_code 83 = .ok (.bipush 116, 2) := by decide +kernel
theorem d_Mo_line_85 : decode prog_11_method_14_code 85 = .ok (.iconst 0, 1) := by decide +kernel
theorem d_Mo_line_86 : decode prog_11_method_14_code 86 = .ok (.iconst 0, 1) := by decide +kernel
theorem d_Mo_line_87 : decode prog_11_method_14_code 87 = .ok (.invokevirtual 177, 3) := by decide +kernel
theorem d_Mo_line_90 : decode prog_11_method_14_code 90 = .ok (.ifCond .eq 8, 3) := by decide +kernel
theorem d_Mo_line_93 : decode prog_11_method_14_code 93 = .ok (.aload_n 0, 1) := by decide +kernel
theorem d_Mo_line_94 : decode prog_11_method_14_code 94 = .ok (.invokevirtual 187, 3) := by decide +kernel
theorem d_Mo_line_97 : decode prog_11_method_14_code 97 = .ok (.ireturn, 1) := by decide +kernel
theorem d_Mo_line_98 : decode prog_11_method_14_code 98 = .ok (.aload_n 0, 1) := by decide +kernel
theorem d_Mo_line_99 : decode prog_11_method_14_code 99 = .ok (.getfield 171, 3) := by decide +kernel
theorem d_Mo_line_102 : decode prog_11_method_14_code 102 = .ok (.ifCond .ne 5, 3) := by decide +kernel
theorem d_Mo_line_105 : decode prog_11_method_14_code 105 = .ok (.iconst 0, 1) := by decide +kernel
theorem d_Mo_line_106 : decode prog_11_method_14_code 106 = .ok (.ireturn, 1) := by decide +kernel
theorem d_Mo_line_107 : decode prog_11_method_14_code 107 = .ok (.aload_n 0, 1) := by decide +kernel
theorem d_Mo_line_108 : decode prog_11_method_14_code 108 = .ok (.bipush 101, 2) := by decide +kernel
theorem d_Mo_line_110 : decode prog_11_method_14_code 110 = .ok (.bipush 110, 2) := by decide +kernel
theorem d_Mo_line_112 : decode prog_11_method_14_code 112 = .ok (.bipush 100, 2) := by decide +kernel
theorem d_Mo_line_114 : decode prog_11_method_14_code 114 = .ok (.iconst 0, 1) := by decide +kernel
theorem d_Mo_line_115 : decode prog_11_method_14_code 115 = .ok (.iconst 0, 1) := by decide +kernel
theorem d_Mo_line_116 : decode prog_11_method_14_code 116 = .ok (.iconst 0, 1) := by decide +kernel
theorem d_Mo_line_117 : decode prog_11_method_14_code 117 = .ok (.invokevirtual 177, 3) := by decide +kernel
theorem d_Mo_line_120 : decode prog_11_method_14_code 120 = .ok (.ifCond .eq 49, 3) := by decide +kernel
theorem d_Mo_line_123 : decode prog_11_method_14_code 123 = .ok (.aload_n 0, 1) := by decide +kernel
theorem d_Mo_line_124 : decode prog_11_method_14_code 124 = .ok (.getfield 190, 3) := by decide +kernel
theorem d_Mo_line_127 : decode prog_11_method_14_code 127 = .ok (.ifCond .eq 10, 3) := by decide +kernel
theorem d_Mo_line_130 : decode prog_11_method_14_code 130 = .ok (.aload_n 0, 1) := by decide +kernel
theorem d_Mo_line_131 : decode prog_11_method_14_code 131 = .ok (.invokevirtual 184, 3) := by decide +kernel
theorem d_Mo_line_134 : decode prog_11_method_14_code 134 = .ok (.ifCond .ne 5, 3) := by decide +kernel
theorem d_Mo_line_137 : decode prog_11_method_14_code 137 = .ok (.iconst 0, 1) := by decide +kernel
theorem d_Mo_line_138 : decode prog_11_method_14_code 138 = .ok (.ireturn, 1) := by decide +kernel
theorem d_Mo_line_139 : decode prog_11_method_14_code 139 = .ok (.aload_n 0, 1) := by decide +kernel
theorem d_Mo_line_140 : decode prog_11_method_14_code 140 = .ok (.dup, 1) := by decide +kernel
theorem d_Mo_line_141 : decode prog_11_method_14_code 141 = .ok (.getfield 190, 3) := by decide +kernel
theorem d_Mo_line_144 : decode prog_11_method_14_code 144 = .ok (.iconst 1, 1) := by decide +kernel
theorem d_Mo_line_145 : decode prog_11_method_14_code 145 = .ok (.isub, 1) := by decide +kernel
theorem d_Mo_line_146 : decode prog_11_method_14_code 146 = .ok (.putfield 190, 3) := by decide +kernel
theorem d_Mo_line_149 : decode prog_11_method_14_code 149 = .ok (.aload_n 0, 1) := by decide +kernel
theorem d_Mo_line_150 : decode prog_11_method_14_code 150 = .ok (.getfield 68, 3) := by decide +kernel
theorem d_Mo_line_153 : decode prog_11_method_14_code 153 = .ok (.aload_n 0, 1) := by decide +kernel
theorem d_Mo_line_154 : decode prog_11_method_14_code 154 = .ok (.getfield 81, 3) := by decide +kernel
theorem d_Mo_line_157 : decode prog_11_method_14_code 157 = .ok (.aload_n 0, 1) := by decide +kernel
theorem d_Mo_line_158 : decode prog_11_method_14_code 158 = .ok (.getfield 190, 3) := by decide +kernel
theorem d_Mo_line_161 : decode prog_11_method_14_code 161 = .ok (.iaload, 1) := by decide +kernel
theorem d_Mo_line_162 : decode prog_11_method_14_code 162 = .ok (.aload_n 0, 1) := by decide +kernel
theorem d_Mo_line_163 : decode prog_11_method_14_code 163 = .ok (.getfield 174, 3) := by decide +kernel
theorem d_Mo_line_166 : decode prog_11_method_14_code 166 = .ok (.iastore, 1) := by decide +kernel
theorem d_Mo_line_167 : decode prog_11_method_14_code 167 = .ok (.iconst 1, 1) := by decide +kernel
theorem d_Mo_line_168 : decode prog_11_method_14_code 168 = .ok (.ireturn, 1) := by decide +kernel
theorem d_Mo_line_169 : decode prog_11_method_14_code 169 = .ok (.aload_n 0, 1) := by decide +kernel
theorem d_Mo_line_170 : decode prog_11_method_14_code 170 = .ok (.getfield 174, 3) := by decide +kernel
theorem d_Mo_line_173 : decode prog_11_method_14_code 173 = .ok (.aload_n 0, 1) := by decide +kernel
theorem d_Mo_line_174 : decode prog_11_method_14_code 174 = .ok (.getfield 28, 3) := by decide +kernel
theorem d_Mo_line_177 : decode prog_11_method_14_code 177 = .ok (.aload_n 0, 1) := by decide +kernel
theorem d_Mo_line_178 : decode prog_11_method_14_code 178 = .ok (.getfield 171, 3) := by decide +kernel
theorem d_Mo_line_181 : decode prog_11_method_14_code 181 = .ok (.iaload, 1) := by decide +kernel
theorem d_Mo_line_182 : decode prog_11_method_14_code 182 = .ok (.isub, 1) := by decide +kernel
theorem d_Mo_line_183 : decode prog_11_method_14_code 183 = .ok (.bipush 100, 2) := by decide +kernel
theorem d_Mo_line_185 : decode prog_11_method_14_code 185 = .ok (.if_icmp .ne 5, 3) := by decide +kernel
theorem d_Mo_line_188 : decode prog_11_method_14_code 188 = .ok (.iconst 0, 1) := by decide +kernel
theorem d_Mo_line_189 : decode prog_11_method_14_code 189 = .ok (.ireturn, 1) := by decide +kernel
theorem d_Mo_line_190 : decode prog_11_method_14_code 190 = .ok (.aload_n 0, 1) := by decide +kernel
theorem d_Mo_line_191 : decode prog_11_method_14_code 191 = .ok (.getfield 50, 3) := by decide +kernel
theorem d_Mo_line_194 : decode prog_11_method_14_code 194 = .ok (.aload_n 0, 1) := by decide +kernel
theorem d_Mo_line_195 : decode prog_11_method_14_code 195 = .ok (.getfield 174, 3) := by decide +kernel
theorem d_Mo_line_198 : decode prog_11_method_14_code 198 = .ok (.iload_n 1, 1) := by decide +kernel
theorem d_Mo_line_199 : decode prog_11_method_14_code 199 = .ok (.iastore, 1) := by decide +kernel
theorem d_Mo_line_200 : decode prog_11_method_14_code 200 = .ok (.aload_n 0, 1) := by decide +kernel
theorem d_Mo_line_201 : decode prog_11_method_14_code 201 = .ok (.getfield 53, 3) := by decide +kernel
theorem d_Mo_line_204 : decode prog_11_method_14_code 204 = .ok (.aload_n 0, 1) := by decide +kernel
theorem d_Mo_line_205 : decode prog_11_method_14_code 205 = .ok (.getfield 174, 3) := by decide +kernel
theorem d_Mo_line_208 : decode prog_11_method_14_code 208 = .ok (.iconst 0, 1) := by decide +kernel
theorem d_Mo_line_209 : decode prog_11_method_14_code 209 = .ok (.iastore, 1) := by decide +kernel
theorem d_Mo_line_210 : decode prog_11_method_14_code 210 = .ok (.aload_n 0, 1) := by decide +kernel
theorem d_Mo_line_211 : decode prog_11_method_14_code 211 = .ok (.getfield 74, 3) := by decide +kernel
theorem d_Mo_line_214 : decode prog_11_method_14_code 214 = .ok (.aload_n 0, 1) := by decide +kernel
theorem d_Mo_line_215 : decode prog_11_method_14_code 215 = .ok (.getfield 174, 3) := by decide +kernel
theorem d_Mo_line_218 : decode prog_11_method_14_code 218 = .ok (.iconst 0, 1) := by decide +kernel
theorem d_Mo_line_219 : decode prog_11_method_14_code 219 = .ok (.bastore, 1) := by decide +kernel
theorem d_Mo_line_220 : decode prog_11_method_14_code 220 = .ok (.aload_n 0, 1) := by decide +kernel
theorem d_Mo_line_221 : decode prog_11_method_14_code 221 = .ok (.getfield 68, 3) := by decide +kernel
theorem d_Mo_line_224 : decode prog_11_method_14_code 224 = .ok (.aload_n 0, 1) := by decide +kernel
theorem d_Mo_line_225 : decode prog_11_method_14_code 225 = .ok (.getfield 174, 3) := by decide +kernel
theorem d_Mo_line_228 : decode prog_11_method_14_code 228 = .ok (.iconst 0, 1) := by decide +kernel
theorem d_Mo_line_229 : decode prog_11_method_14_code 229 = .ok (.iastore, 1) := by decide +kernel
theorem d_Mo_line_230 : decode prog_11_method_14_code 230 = .ok (.aload_n 0, 1) := by decide +kernel
theorem d_Mo_line_231 : decode prog_11_method_14_code 231 = .ok (.getfield 65, 3) := by decide +kernel
theorem d_Mo_line_234 : decode prog_11_method_14_code 234 = .ok (.aload_n 0, 1) := by decide +kernel
theorem d_Mo_line_235 : decode prog_11_method_14_code 235 = .ok (.getfield 174, 3) := by decide +kernel
theorem d_Mo_line_238 : decode prog_11_method_14_code 238 = .ok (.iconst 1, 1) := by decide +kernel
theorem d_Mo_line_239 : decode prog_11_method_14_code 239 = .ok (.iastore, 1) := by decide +kernel
theorem d_Mo_line_240 : decode prog_11_method_14_code 240 = .ok (.aload_n 0, 1) := by decide +kernel
theorem d_Mo_line_241 : decode prog_11_method_14_code 241 = .ok (.invokevirtual 193, 3) := by decide +kernel
theorem d_Mo_line_244 : decode prog_11_method_14_code 244 = .ok (.ifCond .ne 5, 3) := by decide +kernel
theorem d_Mo_line_247 : decode prog_11_method_14_code 247 = .ok (.iconst 0, 1) := by decide +kernel
theorem d_Mo_line_248 : decode prog_11_method_14_code 248 = .ok (.ireturn, 1) := by decide +kernel
theorem d_Mo_line_249 : decode prog_11_method_14_code 249 = .ok (.aload_n 0, 1) := by decide +kernel
theorem d_Mo_line_250 : decode prog_11_method_14_code 250 = .ok (.getfield 47, 3) := by decide +kernel
theorem d_Mo_line_253 : decode prog_11_method_14_code 253 = .ok (.aload_n 0, 1) := by decide +kernel
theorem d_Mo_line_254 : decode prog_11_method_14_code 254 = .ok (.getfield 174, 3) := by decide +kernel
theorem d_Mo_line_257 : decode prog_11_method_14_code 257 = .ok (.iaload, 1) := by decide +kernel
theorem d_Mo_line_258 : decode prog_11_method_14_code 258 = .ok (.iconst 5, 1) := by decide +kernel
theorem d_Mo_line_259 : decode prog_11_method_14_code 259 = .ok (.if_icmp .lt 37, 3) := by decide +kernel
theorem d_Mo_line_262 : decode prog_11_method_14_code 262 = .ok (.aload_n 0, 1) := by decide +kernel
theorem d_Mo_line_263 : decode prog_11_method_14_code 263 = .ok (.getfield 190, 3) := by decide +kernel
theorem d_Mo_line_266 : decode prog_11_method_14_code 266 = .ok (.bipush 8, 2) := by decide +kernel
theorem d_Mo_line_268 : decode prog_11_method_14_code 268 = .ok (.if_icmp .lt 5, 3) := by decide +kernel
theorem d_Mo_line_271 : decode prog_11_method_14_code 271 = .ok (.iconst 0, 1) := by decide +kernel
theorem d_Mo_line_272 : decode prog_11_method_14_code 272 = .ok (.ireturn, 1) := by decide +kernel
theorem d_Mo_line_273 : decode prog_11_method_14_code 273 = .ok (.aload_n 0, 1) := by decide +kernel
theorem d_Mo_line_274 : decode prog_11_method_14_code 274 = .ok (.getfield 81, 3) := by decide +kernel
theorem d_Mo_line_277 : decode prog_11_method_14_code 277 = .ok (.aload_n 0, 1) := by decide +kernel
theorem d_Mo_line_278 : decode prog_11_method_14_code 278 = .ok (.getfield 190, 3) := by decide +kernel
theorem d_Mo_line_281 : decode prog_11_method_14_code 281 = .ok (.aload_n 0, 1) := by decide +kernel
theorem d_Mo_line_282 : decode prog_11_method_14_code 282 = .ok (.getfield 174, 3) := by decide +kernel
theorem d_Mo_line_285 : decode prog_11_method_14_code 285 = .ok (.iastore, 1) := by decide +kernel
theorem d_Mo_line_286 : decode prog_11_method_14_code 286 = .ok (.aload_n 0, 1) := by decide +kernel
theorem d_Mo_line_287 : decode prog_11_method_14_code 287 = .ok (.dup, 1) := by decide +kernel
theorem d_Mo_line_288 : decode prog_11_method_14_code 288 = .ok (.getfield 190, 3) := by decide +kernel
theorem d_Mo_line_291 : decode prog_11_method_14_code 291 = .ok (.iconst 1, 1) := by decide +kernel
theorem d_Mo_line_292 : decode prog_11_method_14_code 292 = .ok (.iadd, 1) := by decide +kernel
theorem d_Mo_line_293 : decode prog_11_method_14_code 293 = .ok (.putfield 190, 3) := by decide +kernel
theorem d_Mo_line_296 : decode prog_11_method_14_code 296 = .ok (.aload_n 0, 1) := by decide +kernel
theorem d_Mo_line_297 : decode prog_11_method_14_code 297 = .ok (.dup, 1) := by decide +kernel
theorem d_Mo_line_298 : decode prog_11_method_14_code 298 = .ok (.getfield 174, 3) := by decide +kernel
theorem d_Mo_line_301 : decode prog_11_method_14_code 301 = .ok (.iconst 1, 1) := by decide +kernel
theorem d_Mo_line_302 : decode prog_11_method_14_code 302 = .ok (.iadd, 1) := by decide +kernel
theorem d_Mo_line_303 : decode prog_11_method_14_code 303 = .ok (.putfield 174, 3) := by decide +kernel
theorem d_Mo_line_306 : decode prog_11_method_14_code 306 = .ok (.iconst 1, 1) := by decide +kernel
theorem d_Mo_line_307 : decode prog_11_method_14_code 307 = .ok (.ireturn, 1) := by decide +kernel
abbrev m_Mo_is : MethodName × ByteArray × Nat × Option FieldType := (⟨"TestTextModel", "is", "(IIIIII)Z"⟩, prog_11_method_9_code, 10, (Option.some FieldType.boolean))
theorem d_Mo_is_0 : decode prog_11_method_9_code 0 = .ok (.iload_n 2, 1) := by decide +kernel
theorem d_Mo_is_1 : decode prog_11_method_9_code 1 = .ok (.ifCond .ne 7, 3) := by decide +kernel
theorem d_Mo_is_4 : decode prog_11_method_9_code 4 = .ok (.iconst 1, 1) := by decide +kernel
theorem d_Mo_is_5 : decode prog_11_method_9_code 5 = .ok (.goto 40, 3) := by decide +kernel
theorem d_Mo_is_8 : decode prog_11_method_9_code 8 = .ok (.iload_n 3, 1) := by decide +kernel
theorem d_Mo_is_9 : decode prog_11_method_9_code 9 = .ok (.ifCond .ne 7, 3) := by decide +kernel
theorem d_Mo_is_12 : decode prog_11_method_9_code 12 = .ok (.iconst 2, 1) := by decide +kernel
theorem d_Mo_is_13 : decode prog_11_method_9_code 13 = .ok (.goto 32, 3) := by decide +kernel
theorem d_Mo_is_16 : decode prog_11_method_9_code 16 = .ok (.iload 4, 2) := by decide +kernel
theorem d_Mo_is_18 : decode prog_11_method_9_code 18 = .ok (.ifCond .ne 7, 3) := by decide +kernel
theorem d_Mo_is_21 : decode prog_11_method_9_code 21 = .ok (.iconst 3, 1) := by decide +kernel
theorem d_Mo_is_22 : decode prog_11_method_9_code 22 = .ok (.goto 23, 3) := by decide +kernel
theorem d_Mo_is_25 : decode prog_11_method_9_code 25 = .ok (.iload 5, 2) := by decide +kernel
theorem d_Mo_is_27 : decode prog_11_method_9_code 27 = .ok (.ifCond .ne 7, 3) := by decide +kernel
theorem d_Mo_is_30 : decode prog_11_method_9_code 30 = .ok (.iconst 4, 1) := by decide +kernel
theorem d_Mo_is_31 : decode prog_11_method_9_code 31 = .ok (.goto 14, 3) := by decide +kernel
theorem d_Mo_is_34 : decode prog_11_method_9_code 34 = .ok (.iload 6, 2) := by decide +kernel
theorem d_Mo_is_36 : decode prog_11_method_9_code 36 = .ok (.ifCond .ne 7, 3) := by decide +kernel
theorem d_Mo_is_39 : decode prog_11_method_9_code 39 = .ok (.iconst 5, 1) := by decide +kernel
theorem d_Mo_is_40 : decode prog_11_method_9_code 40 = .ok (.goto 5, 3) := by decide +kernel
theorem d_Mo_is_43 : decode prog_11_method_9_code 43 = .ok (.bipush 6, 2) := by decide +kernel
theorem d_Mo_is_45 : decode prog_11_method_9_code 45 = .ok (.istore 7, 2) := by decide +kernel
theorem d_Mo_is_47 : decode prog_11_method_9_code 47 = .ok (.aload_n 0, 1) := by decide +kernel
theorem d_Mo_is_48 : decode prog_11_method_9_code 48 = .ok (.getfield 143, 3) := by decide +kernel
theorem d_Mo_is_51 : decode prog_11_method_9_code 51 = .ok (.aload_n 0, 1) := by decide +kernel
theorem d_Mo_is_52 : decode prog_11_method_9_code 52 = .ok (.getfield 140, 3) := by decide +kernel
theorem d_Mo_is_55 : decode prog_11_method_9_code 55 = .ok (.isub, 1) := by decide +kernel
theorem d_Mo_is_56 : decode prog_11_method_9_code 56 = .ok (.iload 7, 2) := by decide +kernel
theorem d_Mo_is_58 : decode prog_11_method_9_code 58 = .ok (.if_icmp .ne 7, 3) := by decide +kernel
theorem d_Mo_is_61 : decode prog_11_method_9_code 61 = .ok (.iconst 1, 1) := by decide +kernel
theorem d_Mo_is_62 : decode prog_11_method_9_code 62 = .ok (.goto 4, 3) := by decide +kernel
theorem d_Mo_is_65 : decode prog_11_method_9_code 65 = .ok (.iconst 0, 1) := by decide +kernel
theorem d_Mo_is_66 : decode prog_11_method_9_code 66 = .ok (.istore 8, 2) := by decide +kernel
theorem d_Mo_is_68 : decode prog_11_method_9_code 68 = .ok (.iconst 0, 1) := by decide +kernel
theorem d_Mo_is_69 : decode prog_11_method_9_code 69 = .ok (.istore 9, 2) := by decide +kernel
theorem d_Mo_is_71 : decode prog_11_method_9_code 71 = .ok (.iload 9, 2) := by decide +kernel
theorem d_Mo_is_73 : decode prog_11_method_9_code 73 = .ok (.iload 7, 2) := by decide +kernel
theorem d_Mo_is_75 : decode prog_11_method_9_code 75 = .ok (.if_icmp .ge 89, 3) := by decide +kernel
theorem d_Mo_is_78 : decode prog_11_method_9_code 78 = .ok (.iload 8, 2) := by decide +kernel
theorem d_Mo_is_80 : decode prog_11_method_9_code 80 = .ok (.ifCond .eq 84, 3) := by decide +kernel
theorem d_Mo_is_83 : decode prog_11_method_9_code 83 = .ok (.aload_n 0, 1) := by decide +kernel
theorem d_Mo_is_84 : decode prog_11_method_9_code 84 = .ok (.getfield 13, 3) := by decide +kernel
theorem d_Mo_is_87 : decode prog_11_method_9_code 87 = .ok (.aload_n 0, 1) := by decide +kernel
theorem d_Mo_is_88 : decode prog_11_method_9_code 88 = .ok (.getfield 140, 3) := by decide +kernel
theorem d_Mo_is_91 : decode prog_11_method_9_code 91 = .ok (.iload 9, 2) := by decide +kernel
theorem d_Mo_is_93 : decode prog_11_method_9_code 93 = .ok (.iadd, 1) := by decide +kernel
theorem d_Mo_is_94 : decode prog_11_method_9_code 94 = .ok (.iaload, 1) := by decide +kernel
theorem d_Mo_is_95 : decode prog_11_method_9_code 95 = .ok (.iload 9, 2) := by decide +kernel
theorem d_Mo_is_97 : decode prog_11_method_9_code 97 = .ok (.ifCond .ne 7, 3) := by decide +kernel
theorem d_Mo_is_100 : decode prog_11_method_9_code 100 = .ok (.iload_n 1, 1) := by decide +kernel
theorem d_Mo_is_101 : decode prog_11_method_9_code 101 = .ok (.goto 47, 3) := by decide +kernel
theorem d_Mo_is_104 : decode prog_11_method_9_code 104 = .ok (.iload 9, 2) := by decide +kernel
theorem d_Mo_is_106 : decode prog_11_method_9_code 106 = .ok (.iconst 1, 1) := by decide +kernel
theorem d_Mo_is_107 : decode prog_11_method_9_code 107 = .ok (.if_icmp .ne 7, 3) := by decide +kernel
theorem d_Mo_is_110 : decode prog_11_method_9_code 110 = .ok (.iload_n 2, 1) := by decide +kernel
theorem d_Mo_is_111 : decode prog_11_method_9_code 111 = .ok (.goto 37, 3) := by decide +kernel
theorem d_Mo_is_114 : decode prog_11_method_9_code 114 = .ok (.iload 9, 2) := by decide +kernel
theorem d_Mo_is_116 : decode prog_11_method_9_code 116 = .ok (.iconst 2, 1) := by decide +kernel
theorem d_Mo_is_117 : decode prog_11_method_9_code 117 = .ok (.if_icmp .ne 7, 3) := by decide +kernel
theorem d_Mo_is_120 : decode prog_11_method_9_code 120 = .ok (.iload_n 3, 1) := by decide +kernel
theorem d_Mo_is_121 : decode prog_11_method_9_code 121 = .ok (.goto 27, 3) := by decide +kernel
theorem d_Mo_is_124 : decode prog_11_method_9_code 124 = .ok (.iload 9, 2) := by decide +kernel
theorem d_Mo_is_126 : decode prog_11_method_9_code 126 = .ok (.iconst 3, 1) := by decide +kernel
theorem d_Mo_is_127 : decode prog_11_method_9_code 127 = .ok (.if_icmp .ne 8, 3) := by decide +kernel
theorem d_Mo_is_130 : decode prog_11_method_9_code 130 = .ok (.iload 4, 2) := by decide +kernel
theorem d_Mo_is_132 : decode prog_11_method_9_code 132 = .ok (.goto 16, 3) := by decide +kernel
theorem d_Mo_is_135 : decode prog_11_method_9_code 135 = .ok (.iload 9, 2) := by decide +kernel
theorem d_Mo_is_137 : decode prog_11_method_9_code 137 = .ok (.iconst 4, 1) := by decide +kernel
theorem d_Mo_is_138 : decode prog_11_method_9_code 138 = .ok (.if_icmp .ne 8, 3) := by decide +kernel
theorem d_Mo_is_141 : decode prog_11_method_9_code 141 = .ok (.iload 5, 2) := by decide +kernel
theorem d_Mo_is_143 : decode prog_11_method_9_code 143 = .ok (.goto 5, 3) := by decide +kernel
theorem d_Mo_is_146 : decode prog_11_method_9_code 146 = .ok (.iload 6, 2) := by decide +kernel
theorem d_Mo_is_148 : decode prog_11_method_9_code 148 = .ok (.if_icmp .ne 7, 3) := by decide +kernel
theorem d_Mo_is_151 : decode prog_11_method_9_code 151 = .ok (.iconst 1, 1) := by decide +kernel
theorem d_Mo_is_152 : decode prog_11_method_9_code 152 = .ok (.goto 4, 3) := by decide +kernel
theorem d_Mo_is_155 : decode prog_11_method_9_code 155 = .ok (.iconst 0, 1) := by decide +kernel
theorem d_Mo_is_156 : decode prog_11_method_9_code 156 = .ok (.istore 8, 2) := by decide +kernel
theorem d_Mo_is_158 : decode prog_11_method_9_code 158 = .ok (.iinc 9 1, 3) := by decide +kernel
theorem d_Mo_is_161 : decode prog_11_method_9_code 161 = .ok (.goto (-90), 3) := by decide +kernel
theorem d_Mo_is_164 : decode prog_11_method_9_code 164 = .ok (.iload 8, 2) := by decide +kernel
theorem d_Mo_is_166 : decode prog_11_method_9_code 166 = .ok (.ireturn, 1) := by decide +kernel
abbrev m_Mo_newName : MethodName × ByteArray × Nat × Option FieldType := (⟨"TestTextModel", "newName", "()Z"⟩, prog_11_method_11_code, 2, (Option.some FieldType.boolean))
theorem d_Mo_newName_0 : decode prog_11_method_11_code 0 = .ok (.aload_n 0, 1) := by decide +kernel
theorem d_Mo_newName_1 : decode prog_11_method_11_code 1 = .ok (.invokevirtual 146, 3) := by decide +kernel
theorem d_Mo_newName_4 : decode prog_11_method_11_code 4 = .ok (.ifCond .eq 17, 3) := by decide +kernel
theorem d_Mo_newName_7 : decode prog_11_method_11_code 7 = .ok (.aload_n 0, 1) := by decide +kernel
theorem d_Mo_newName_8 : decode prog_11_method_11_code 8 = .ok (.invokevirtual 164, 3) := by decide +kernel
theorem d_Mo_newName_11 : decode prog_11_method_11_code 11 = .ok (.ifCond .eq 10, 3) := by decide +kernel
theorem d_Mo_newName_14 : decode prog_11_method_11_code 14 = .ok (.aload_n 0, 1) := by decide +kernel
theorem d_Mo_newName_15 : decode prog_11_method_11_code 15 = .ok (.invokevirtual 167, 3) := by decide +kernel
theorem d_Mo_newName_18 : decode prog_11_method_11_code 18 = .ok (.ifCond .le 5, 3) := by decide +kernel
theorem d_Mo_newName_21 : decode prog_11_method_11_code 21 = .ok (.iconst 0, 1) := by decide +kernel
theorem d_Mo_newName_22 : decode prog_11_method_11_code 22 = .ok (.ireturn, 1) := by decide +kernel
theorem d_Mo_newName_23 : decode prog_11_method_11_code 23 = .ok (.iconst 1, 1) := by decide +kernel
theorem d_Mo_newName_24 : decode prog_11_method_11_code 24 = .ok (.istore_n 1, 1) := by decide +kernel
theorem d_Mo_newName_25 : decode prog_11_method_11_code 25 = .ok (.iload_n 1, 1) := by decide +kernel
theorem d_Mo_newName_26 : decode prog_11_method_11_code 26 = .ok (.aload_n 0, 1) := by decide +kernel
theorem d_Mo_newName_27 : decode prog_11_method_11_code 27 = .ok (.getfield 171, 3) := by decide +kernel
theorem d_Mo_newName_30 : decode prog_11_method_11_code 30 = .ok (.if_icmp .gt 30, 3) := by decide +kernel
theorem d_Mo_newName_33 : decode prog_11_method_11_code 33 = .ok (.aload_n 0, 1) := by decide +kernel
theorem d_Mo_newName_34 : decode prog_11_method_11_code 34 = .ok (.aload_n 0, 1) := by decide +kernel
theorem d_Mo_newName_35 : decode prog_11_method_11_code 35 = .ok (.getfield 22, 3) := by decide +kernel
theorem d_Mo_newName_38 : decode prog_11_method_11_code 38 = .ok (.iload_n 1, 1) := by decide +kernel
theorem d_Mo_newName_39 : decode prog_11_method_11_code 39 = .ok (.iaload, 1) := by decide +kernel
theorem d_Mo_newName_40 : decode prog_11_method_11_code 40 = .ok (.aload_n 0, 1) := by decide +kernel
theorem d_Mo_newName_41 : decode prog_11_method_11_code 41 = .ok (.getfield 25, 3) := by decide +kernel
theorem d_Mo_newName_44 : decode prog_11_method_11_code 44 = .ok (.iload_n 1, 1) := by decide +kernel
theorem d_Mo_newName_45 : decode prog_11_method_11_code 45 = .ok (.iaload, 1) := by decide +kernel
theorem d_Mo_newName_46 : decode prog_11_method_11_code 46 = .ok (.invokevirtual 160, 3) := by decide +kernel
theorem d_Mo_newName_49 : decode prog_11_method_11_code 49 = .ok (.ifCond .eq 5, 3) := by decide +kernel
theorem d_Mo_newName_52 : decode prog_11_method_11_code 52 = .ok (.iconst 0, 1) := by decide +kernel
theorem d_Mo_newName_53 : decode prog_11_method_11_code 53 = .ok (.ireturn, 1) := by decide +kernel
theorem d_Mo_newName_54 : decode prog_11_method_11_code 54 = .ok (.iinc 1 1, 3) := by decide +kernel
theorem d_Mo_newName_57 : decode prog_11_method_11_code 57 = .ok (.goto (-32), 3) := by decide +kernel
theorem d_Mo_newName_60 : decode prog_11_method_11_code 60 = .ok (.iconst 1, 1) := by decide +kernel
theorem d_Mo_newName_61 : decode prog_11_method_11_code 61 = .ok (.ireturn, 1) := by decide +kernel
abbrev m_Mo_isName : MethodName × ByteArray × Nat × Option FieldType := (⟨"TestTextModel", "isName", "()Z"⟩, prog_11_method_6_code, 3, (Option.some FieldType.boolean))
theorem d_Mo_isName_0 : decode prog_11_method_6_code 0 = .ok (.aload_n 0, 1) := by decide +kernel
theorem d_Mo_isName_1 : decode prog_11_method_6_code 1 = .ok (.getfield 143, 3) := by decide +kernel
theorem d_Mo_isName_4 : decode prog_11_method_6_code 4 = .ok (.aload_n 0, 1) := by decide +kernel
theorem d_Mo_isName_5 : decode prog_11_method_6_code 5 = .ok (.getfield 140, 3) := by decide +kernel
theorem d_Mo_isName_8 : decode prog_11_method_6_code 8 = .ok (.if_icmp .le 21, 3) := by decide +kernel
theorem d_Mo_isName_11 : decode prog_11_method_6_code 11 = .ok (.aload_n 0, 1) := by decide +kernel
theorem d_Mo_isName_12 : decode prog_11_method_6_code 12 = .ok (.getfield 143, 3) := by decide +kernel
theorem d_Mo_isName_15 : decode prog_11_method_6_code 15 = .ok (.aload_n 0, 1) := by decide +kernel
theorem d_Mo_isName_16 : decode prog_11_method_6_code 16 = .ok (.getfield 140, 3) := by decide +kernel
theorem d_Mo_isName_19 : decode prog_11_method_6_code 19 = .ok (.isub, 1) := by decide +kernel
theorem d_Mo_isName_20 : decode prog_11_method_6_code 20 = .ok (.bipush 8, 2) := by decide +kernel
theorem d_Mo_isName_22 : decode prog_11_method_6_code 22 = .ok (.if_icmp .gt 7, 3) := by decide +kernel
theorem d_Mo_isName_25 : decode prog_11_method_6_code 25 = .ok (.iconst 1, 1) := by decide +kernel
theorem d_Mo_isName_26 : decode prog_11_method_6_code 26 = .ok (.goto 4, 3) := by decide +kernel
theorem d_Mo_isName_29 : decode prog_11_method_6_code 29 = .ok (.iconst 0, 1) := by decide +kernel
theorem d_Mo_isName_30 : decode prog_11_method_6_code 30 = .ok (.istore_n 1, 1) := by decide +kernel
theorem d_Mo_isName_31 : decode prog_11_method_6_code 31 = .ok (.aload_n 0, 1) := by decide +kernel
theorem d_Mo_isName_32 : decode prog_11_method_6_code 32 = .ok (.getfield 140, 3) := by decide +kernel
theorem d_Mo_isName_35 : decode prog_11_method_6_code 35 = .ok (.istore_n 2, 1) := by decide +kernel
theorem d_Mo_isName_36 : decode prog_11_method_6_code 36 = .ok (.iload_n 2, 1) := by decide +kernel
theorem d_Mo_isName_37 : decode prog_11_method_6_code 37 = .ok (.aload_n 0, 1) := by decide +kernel
theorem d_Mo_isName_38 : decode prog_11_method_6_code 38 = .ok (.getfield 143, 3) := by decide +kernel
theorem d_Mo_isName_41 : decode prog_11_method_6_code 41 = .ok (.if_icmp .ge 41, 3) := by decide +kernel
theorem d_Mo_isName_44 : decode prog_11_method_6_code 44 = .ok (.iload_n 1, 1) := by decide +kernel
theorem d_Mo_isName_45 : decode prog_11_method_6_code 45 = .ok (.ifCond .eq 29, 3) := by decide +kernel
theorem d_Mo_isName_48 : decode prog_11_method_6_code 48 = .ok (.aload_n 0, 1) := by decide +kernel
theorem d_Mo_isName_49 : decode prog_11_method_6_code 49 = .ok (.getfield 13, 3) := by decide +kernel
theorem d_Mo_isName_52 : decode prog_11_method_6_code 52 = .ok (.iload_n 2, 1) := by decide +kernel
theorem d_Mo_isName_53 : decode prog_11_method_6_code 53 = .ok (.iaload, 1) := by decide +kernel
theorem d_Mo_isName_54 : decode prog_11_method_6_code 54 = .ok (.bipush 97, 2) := by decide +kernel
theorem d_Mo_isName_56 : decode prog_11_method_6_code 56 = .ok (.if_icmp .lt 18, 3) := by decide +kernel
theorem d_Mo_isName_59 : decode prog_11_method_6_code 59 = .ok (.aload_n 0, 1) := by decide +kernel
theorem d_Mo_isName_60 : decode prog_11_method_6_code 60 = .ok (.getfield 13, 3) := by decide +kernel
theorem d_Mo_isName_63 : decode prog_11_method_6_code 63 = .ok (.iload_n 2, 1) := by decide +kernel
theorem d_Mo_isName_64 : decode prog_11_method_6_code 64 = .ok (.iaload, 1) := by decide +kernel
theorem d_Mo_isName_65 : decode prog_11_method_6_code 65 = .ok (.bipush 122, 2) := by decide +kernel
theorem d_Mo_isName_67 : decode prog_11_method_6_code 67 = .ok (.if_icmp .gt 7, 3) := by decide +kernel
theorem d_Mo_isName_70 : decode prog_11_method_6_code 70 = .ok (.iconst 1, 1) := by decide +kernel
theorem d_Mo_isName_71 : decode prog_11_method_6_code 71 = .ok (.goto 4, 3) := by decide +kernel
theorem d_Mo_isName_74 : decode prog_11_method_6_code 74 = .ok (.iconst 0, 1) := by decide +kernel
theorem d_Mo_isName_75 : decode prog_11_method_6_code 75 = .ok (.istore_n 1, 1) := by decide +kernel
theorem d_Mo_isName_76 : decode prog_11_method_6_code 76 = .ok (.iinc 2 1, 3) := by decide +kernel
theorem d_Mo_isName_79 : decode prog_11_method_6_code 79 = .ok (.goto (-43), 3) := by decide +kernel
theorem d_Mo_isName_82 : decode prog_11_method_6_code 82 = .ok (.iload_n 1, 1) := by decide +kernel
theorem d_Mo_isName_83 : decode prog_11_method_6_code 83 = .ok (.ireturn, 1) := by decide +kernel
abbrev m_Mo_findName : MethodName × ByteArray × Nat × Option FieldType := (⟨"TestTextModel", "findName", "()I"⟩, prog_11_method_10_code, 2, (Option.some FieldType.int))
theorem d_Mo_findName_0 : decode prog_11_method_10_code 0 = .ok (.iconst 1, 1) := by decide +kernel
theorem d_Mo_findName_1 : decode prog_11_method_10_code 1 = .ok (.istore_n 1, 1) := by decide +kernel
theorem d_Mo_findName_2 : decode prog_11_method_10_code 2 = .ok (.iload_n 1, 1) := by decide +kernel
theorem d_Mo_findName_3 : decode prog_11_method_10_code 3 = .ok (.aload_n 0, 1) := by decide +kernel
theorem d_Mo_findName_4 : decode prog_11_method_10_code 4 = .ok (.getfield 157, 3) := by decide +kernel
theorem d_Mo_findName_7 : decode prog_11_method_10_code 7 = .ok (.if_icmp .gt 30, 3) := by decide +kernel
theorem d_Mo_findName_10 : decode prog_11_method_10_code 10 = .ok (.aload_n 0, 1) := by decide +kernel
theorem d_Mo_findName_11 : decode prog_11_method_10_code 11 = .ok (.aload_n 0, 1) := by decide +kernel
theorem d_Mo_findName_12 : decode prog_11_method_10_code 12 = .ok (.getfield 16, 3) := by decide +kernel
theorem d_Mo_findName_15 : decode prog_11_method_10_code 15 = .ok (.iload_n 1, 1) := by decide +kernel
theorem d_Mo_findName_16 : decode prog_11_method_10_code 16 = .ok (.iaload, 1) := by decide +kernel
theorem d_Mo_findName_17 : decode prog_11_method_10_code 17 = .ok (.aload_n 0, 1) := by decide +kernel
theorem d_Mo_findName_18 : decode prog_11_method_10_code 18 = .ok (.getfield 19, 3) := by decide +kernel
theorem d_Mo_findName_21 : decode prog_11_method_10_code 21 = .ok (.iload_n 1, 1) := by decide +kernel
theorem d_Mo_findName_22 : decode prog_11_method_10_code 22 = .ok (.iaload, 1) := by decide +kernel
theorem d_Mo_findName_23 : decode prog_11_method_10_code 23 = .ok (.invokevirtual 160, 3) := by decide +kernel
theorem d_Mo_findName_26 : decode prog_11_method_10_code 26 = .ok (.ifCond .eq 5, 3) := by decide +kernel
theorem d_Mo_findName_29 : decode prog_11_method_10_code 29 = .ok (.iload_n 1, 1) := by decide +kernel
theorem d_Mo_findName_30 : decode prog_11_method_10_code 30 = .ok (.ireturn, 1) := by decide +kernel
theorem d_Mo_findName_31 : decode prog_11_method_10_code 31 = .ok (.iinc 1 1, 3) := by decide +kernel
theorem d_Mo_findName_34 : decode prog_11_method_10_code 34 = .ok (.goto (-32), 3) := by decide +kernel
theorem d_Mo_findName_37 : decode prog_11_method_10_code 37 = .ok (.iconst 0, 1) := by decide +kernel
theorem d_Mo_findName_38 : decode prog_11_method_10_code 38 = .ok (.ireturn, 1) := by decide +kernel
abbrev m_Mo_same : MethodName × ByteArray × Nat × Option FieldType := (⟨"TestTextModel", "same", "(II)Z"⟩, prog_11_method_8_code, 5, (Option.some FieldType.boolean))
theorem d_Mo_same_0 : decode prog_11_method_8_code 0 = .ok (.iload_n 2, 1) := by decide +kernel
theorem d_Mo_same_1 : decode prog_11_method_8_code 1 = .ok (.iload_n 1, 1) := by decide +kernel
theorem d_Mo_same_2 : decode prog_11_method_8_code 2 = .ok (.isub, 1) := by decide +kernel
theorem d_Mo_same_3 : decode prog_11_method_8_code 3 = .ok (.aload_n 0, 1) := by decide +kernel
theorem d_Mo_same_4 : decode prog_11_method_8_code 4 = .ok (.getfield 143, 3) := by decide +kernel
theorem d_Mo_same_7 : decode prog_11_method_8_code 7 = .ok (.aload_n 0, 1) := by decide +kernel
theorem d_Mo_same_8 : decode prog_11_method_8_code 8 = .ok (.getfield 140, 3) := by decide +kernel
theorem d_Mo_same_11 : decode prog_11_method_8_code 11 = .ok (.isub, 1) := by decide +kernel
theorem d_Mo_same_12 : decode prog_11_method_8_code 12 = .ok (.if_icmp .ne 7, 3) := by decide +kernel
theorem d_Mo_same_15 : decode prog_11_method_8_code 15 = .ok (.iconst 1, 1) := by decide +kernel
theorem d_Mo_same_16 : decode prog_11_method_8_code 16 = .ok (.goto 4, 3) := by decide +kernel
theorem d_Mo_same_19 : decode prog_11_method_8_code 19 = .ok (.iconst 0, 1) := by decide +kernel
theorem d_Mo_same_20 : decode prog_11_method_8_code 20 = .ok (.istore_n 3, 1) := by decide +kernel
theorem d_Mo_same_21 : decode prog_11_method_8_code 21 = .ok (.iconst 0, 1) := by decide +kernel
theorem d_Mo_same_22 : decode prog_11_method_8_code 22 = .ok (.istore 4, 2) := by decide +kernel
theorem d_Mo_same_24 : decode prog_11_method_8_code 24 = .ok (.iload 4, 2) := by decide +kernel
theorem d_Mo_same_26 : decode prog_11_method_8_code 26 = .ok (.aload_n 0, 1) := by decide +kernel
theorem d_Mo_same_27 : decode prog_11_method_8_code 27 = .ok (.getfield 143, 3) := by decide +kernel
theorem d_Mo_same_30 : decode prog_11_method_8_code 30 = .ok (.aload_n 0, 1) := by decide +kernel
theorem d_Mo_same_31 : decode prog_11_method_8_code 31 = .ok (.getfield 140, 3) := by decide +kernel
theorem d_Mo_same_34 : decode prog_11_method_8_code 34 = .ok (.isub, 1) := by decide +kernel
theorem d_Mo_same_35 : decode prog_11_method_8_code 35 = .ok (.if_icmp .ge 43, 3) := by decide +kernel
theorem d_Mo_same_38 : decode prog_11_method_8_code 38 = .ok (.iload_n 3, 1) := by decide +kernel
theorem d_Mo_same_39 : decode prog_11_method_8_code 39 = .ok (.ifCond .eq 39, 3) := by decide +kernel
theorem d_Mo_same_42 : decode prog_11_method_8_code 42 = .ok (.aload_n 0, 1) := by decide +kernel
theorem d_Mo_same_43 : decode prog_11_method_8_code 43 = .ok (.getfield 13, 3) := by decide +kernel
theorem d_Mo_same_46 : decode prog_11_method_8_code 46 = .ok (.iload_n 1, 1) := by decide +kernel
theorem d_Mo_same_47 : decode prog_11_method_8_code 47 = .ok (.iload 4, 2) := by decide +kernel
theorem d_Mo_same_49 : decode prog_11_method_8_code 49 = .ok (.iadd, 1) := by decide +kernel
theorem d_Mo_same_50 : decode prog_11_method_8_code 50 = .ok (.iaload, 1) := by decide +kernel
theorem d_Mo_same_51 : decode prog_11_method_8_code 51 = .ok (.aload_n 0, 1) := by decide +kernel
theorem d_Mo_same_52 : decode prog_11_method_8_code 52 = .ok (.getfield 13, 3) := by decide +kernel
theorem d_Mo_same_55 : decode prog_11_method_8_code 55 = .ok (.aload_n 0, 1) := by decide +kernel
theorem d_Mo_same_56 : decode prog_11_method_8_code 56 = .ok (.getfield 140, 3) := by decide +kernel
theorem d_Mo_same_59 : decode prog_11_method_8_code 59 = .ok (.iload 4, 2) := by decide +kernel
theorem d_Mo_same_61 : decode prog_11_method_8_code 61 = .ok (.iadd, 1) := by decide +kernel
theorem d_Mo_same_62 : decode prog_11_method_8_code 62 = .ok (.iaload, 1) := by decide +kernel
theorem d_Mo_same_63 : decode prog_11_method_8_code 63 = .ok (.if_icmp .ne 7, 3) := by decide +kernel
theorem d_Mo_same_66 : decode prog_11_method_8_code 66 = .ok (.iconst 1, 1) := by decide +kernel
theorem d_Mo_same_67 : decode prog_11_method_8_code 67 = .ok (.goto 4, 3) := by decide +kernel
theorem d_Mo_same_70 : decode prog_11_method_8_code 70 = .ok (.iconst 0, 1) := by decide +kernel
theorem d_Mo_same_71 : decode prog_11_method_8_code 71 = .ok (.istore_n 3, 1) := by decide +kernel
theorem d_Mo_same_72 : decode prog_11_method_8_code 72 = .ok (.iinc 4 1, 3) := by decide +kernel
theorem d_Mo_same_75 : decode prog_11_method_8_code 75 = .ok (.goto (-51), 3) := by decide +kernel
theorem d_Mo_same_78 : decode prog_11_method_8_code 78 = .ok (.iload_n 3, 1) := by decide +kernel
theorem d_Mo_same_79 : decode prog_11_method_8_code 79 = .ok (.ireturn, 1) := by decide +kernel
abbrev m_Mo_through : MethodName × ByteArray × Nat × Option FieldType := (⟨"TestTextModel", "through", "()Z"⟩, prog_11_method_5_code, 1, (Option.some FieldType.boolean))
theorem d_Mo_through_0 : decode prog_11_method_5_code 0 = .ok (.aload_n 0, 1) := by decide +kernel
theorem d_Mo_through_1 : decode prog_11_method_5_code 1 = .ok (.invokevirtual 146, 3) := by decide +kernel
theorem d_Mo_through_4 : decode prog_11_method_5_code 4 = .ok (.ifCond .ne 7, 3) := by decide +kernel
theorem d_Mo_through_7 : decode prog_11_method_5_code 7 = .ok (.iconst 1, 1) := by decide +kernel
theorem d_Mo_through_8 : decode prog_11_method_5_code 8 = .ok (.goto 4, 3) := by decide +kernel
theorem d_Mo_through_11 : decode prog_11_method_5_code 11 = .ok (.iconst 0, 1) := by decide +kernel
theorem d_Mo_through_12 : decode prog_11_method_5_code 12 = .ok (.ireturn, 1) := by decide +kernel
abbrev m_Mo_addTest : MethodName × ByteArray × Nat × Option FieldType := (⟨"TestTextModel", "addTest", "()Z"⟩, prog_11_method_15_code, 1, (Option.some FieldType.boolean))
theorem d_Mo_addTest_0 : decode prog_11_method_15_code 0 = .ok (.aload_n 0, 1) := by decide +kernel
theorem d_Mo_addTest_1 : decode prog_11_method_15_code 1 = .ok (.invokevirtual 181, 3) := by decide +kernel
theorem d_Mo_addTest_4 : decode prog_11_method_15_code 4 = .ok (.ifCond .eq 19, 3) := by decide +kernel
theorem d_Mo_addTest_7 : decode prog_11_method_15_code 7 = .ok (.aload_n 0, 1) := by decide +kernel
theorem d_Mo_addTest_8 : decode prog_11_method_15_code 8 = .ok (.getfield 190, 3) := by decide +kernel
theorem d_Mo_addTest_11 : decode prog_11_method_15_code 11 = .ok (.ifCond .gt 12, 3) := by decide +kernel
theorem d_Mo_addTest_14 : decode prog_11_method_15_code 14 = .ok (.aload_n 0, 1) := by decide +kernel
theorem d_Mo_addTest_15 : decode prog_11_method_15_code 15 = .ok (.getfield 171, 3) := by decide +kernel
theorem d_Mo_addTest_18 : decode prog_11_method_15_code 18 = .ok (.bipush 12, 2) := by decide +kernel
theorem d_Mo_addTest_20 : decode prog_11_method_15_code 20 = .ok (.if_icmp .ne 5, 3) := by decide +kernel
theorem d_Mo_addTest_23 : decode prog_11_method_15_code 23 = .ok (.iconst 0, 1) := by decide +kernel
theorem d_Mo_addTest_24 : decode prog_11_method_15_code 24 = .ok (.ireturn, 1) := by decide +kernel
theorem d_Mo_addTest_25 : decode prog_11_method_15_code 25 = .ok (.aload_n 0, 1) := by decide +kernel
theorem d_Mo_addTest_26 : decode prog_11_method_15_code 26 = .ok (.dup, 1) := by decide +kernel
theorem d_Mo_addTest_27 : decode prog_11_method_15_code 27 = .ok (.getfield 171, 3) := by decide +kernel
theorem d_Mo_addTest_30 : decode prog_11_method_15_code 30 = .ok (.iconst 1, 1) := by decide +kernel
theorem d_Mo_addTest_31 : decode prog_11_method_15_code 31 = .ok (.iadd, 1) := by decide +kernel
theorem d_Mo_addTest_32 : decode prog_11_method_15_code 32 = .ok (.putfield 171, 3) := by decide +kernel
theorem d_Mo_addTest_35 : decode prog_11_method_15_code 35 = .ok (.aload_n 0, 1) := by decide +kernel
theorem d_Mo_addTest_36 : decode prog_11_method_15_code 36 = .ok (.getfield 22, 3) := by decide +kernel
theorem d_Mo_addTest_39 : decode prog_11_method_15_code 39 = .ok (.aload_n 0, 1) := by decide +kernel
theorem d_Mo_addTest_40 : decode prog_11_method_15_code 40 = .ok (.getfield 171, 3) := by decide +kernel
theorem d_Mo_addTest_43 : decode prog_11_method_15_code 43 = .ok (.aload_n 0, 1) := by decide +kernel
theorem d_Mo_addTest_44 : decode prog_11_method_15_code 44 = .ok (.getfield 140, 3) := by decide +kernel
theorem d_Mo_addTest_47 : decode prog_11_method_15_code 47 = .ok (.iastore, 1) := by decide +kernel
theorem d_Mo_addTest_48 : decode prog_11_method_15_code 48 = .ok (.aload_n 0, 1) := by decide +kernel
theorem d_Mo_addTest_49 : decode prog_11_method_15_code 49 = .ok (.getfield 25, 3) := by decide +kernel
theorem d_Mo_addTest_52 : decode prog_11_method_15_code 52 = .ok (.aload_n 0, 1) := by decide +kernel
theorem d_Mo_addTest_53 : decode prog_11_method_15_code 53 = .ok (.getfield 171, 3) := by decide +kernel
theorem d_Mo_addTest_56 : decode prog_11_method_15_code 56 = .ok (.aload_n 0, 1) := by decide +kernel
theorem d_Mo_addTest_57 : decode prog_11_method_15_code 57 = .ok (.getfield 143, 3) := by decide +kernel
theorem d_Mo_addTest_60 : decode prog_11_method_15_code 60 = .ok (.iastore, 1) := by decide +kernel
theorem d_Mo_addTest_61 : decode prog_11_method_15_code 61 = .ok (.aload_n 0, 1) := by decide +kernel
theorem d_Mo_addTest_62 : decode prog_11_method_15_code 62 = .ok (.getfield 28, 3) := by decide +kernel
theorem d_Mo_addTest_65 : decode prog_11_method_15_code 65 = .ok (.aload_n 0, 1) := by decide +kernel
theorem d_Mo_addTest_66 : decode prog_11_method_15_code 66 = .ok (.getfield 171, 3) := by decide +kernel
theorem d_Mo_addTest_69 : decode prog_11_method_15_code 69 = .ok (.aload_n 0, 1) := by decide +kernel
theorem d_Mo_addTest_70 : decode prog_11_method_15_code 70 = .ok (.getfield 174, 3) := by decide +kernel
theorem d_Mo_addTest_73 : decode prog_11_method_15_code 73 = .ok (.iastore, 1) := by decide +kernel
theorem d_Mo_addTest_74 : decode prog_11_method_15_code 74 = .ok (.aload_n 0, 1) := by decide +kernel
theorem d_Mo_addTest_75 : decode prog_11_method_15_code 75 = .ok (.getfield 31, 3) := by decide +kernel
theorem d_Mo_addTest_78 : decode prog_11_method_15_code 78 = .ok (.aload_n 0, 1) := by decide +kernel
theorem d_Mo_addTest_79 : decode prog_11_method_15_code 79 = .ok (.getfield 171, 3) := by decide +kernel
theorem d_Mo_addTest_82 : decode prog_11_method_15_code 82 = .ok (.iconst (-1), 1) := by decide +kernel
theorem d_Mo_addTest_83 : decode prog_11_method_15_code 83 = .ok (.iastore, 1) := by decide +kernel
theorem d_Mo_addTest_84 : decode prog_11_method_15_code 84 = .ok (.aload_n 0, 1) := by decide +kernel
theorem d_Mo_addTest_85 : decode prog_11_method_15_code 85 = .ok (.getfield 34, 3) := by decide +kernel
theorem d_Mo_addTest_88 : decode prog_11_method_15_code 88 = .ok (.aload_n 0, 1) := by decide +kernel
theorem d_Mo_addTest_89 : decode prog_11_method_15_code 89 = .ok (.getfield 171, 3) := by decide +kernel
theorem d_Mo_addTest_92 : decode prog_11_method_15_code 92 = .ok (.iconst 0, 1) := by decide +kernel
theorem d_Mo_addTest_93 : decode prog_11_method_15_code 93 = .ok (.iastore, 1) := by decide +kernel
theorem d_Mo_addTest_94 : decode prog_11_method_15_code 94 = .ok (.aload_n 0, 1) := by decide +kernel
theorem d_Mo_addTest_95 : decode prog_11_method_15_code 95 = .ok (.invokevirtual 184, 3) := by decide +kernel
theorem d_Mo_addTest_98 : decode prog_11_method_15_code 98 = .ok (.ireturn, 1) := by decide +kernel
