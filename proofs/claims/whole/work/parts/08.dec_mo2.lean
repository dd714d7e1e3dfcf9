abbrev m_Mo_step : MethodName × ByteArray × Nat × Option FieldType := (⟨"TestTextModel", "step", "()Z"⟩, prog_11_method_16_code, 2, (Option.some FieldType.boolean))
theorem d_Mo_step_0 : decode prog_11_method_16_code 0 = .ok (.aload_n 0, 1) := by decide +kernel
theorem d_Mo_step_1 : decode prog_11_method_16_code 1 = .ok (.bipush 115, 2) := by decide +kernel
theorem d_Mo_step_3 : decode prog_11_method_16_code 3 = .ok (.bipush 101, 2) := by decide +kernel
theorem d_Mo_step_5 : decode prog_11_method_16_code 5 = .ok (.bipush 116, 2) := by decide +kernel
theorem d_Mo_step_7 : decode prog_11_method_16_code 7 = .ok (.iconst 0, 1) := by decide +kernel
theorem d_Mo_step_8 : decode prog_11_method_16_code 8 = .ok (.iconst 0, 1) := by decide +kernel
theorem d_Mo_step_9 : decode prog_11_method_16_code 9 = .ok (.iconst 0, 1) := by decide +kernel
theorem d_Mo_step_10 : decode prog_11_method_16_code 10 = .ok (.invokevirtual 177, 3) := by decide +kernel
theorem d_Mo_step_13 : decode prog_11_method_16_code 13 = .ok (.ifCond .eq 53, 3) := by decide +kernel
theorem d_Mo_step_16 : decode prog_11_method_16_code 16 = .ok (.aload_n 0, 1) := by decide +kernel
theorem d_Mo_step_17 : decode prog_11_method_16_code 17 = .ok (.getfield 47, 3) := by decide +kernel
theorem d_Mo_step_20 : decode prog_11_method_16_code 20 = .ok (.aload_n 0, 1) := by decide +kernel
theorem d_Mo_step_21 : decode prog_11_method_16_code 21 = .ok (.getfield 174, 3) := by decide +kernel
theorem d_Mo_step_24 : decode prog_11_method_16_code 24 = .ok (.iconst 0, 1) := by decide +kernel
theorem d_Mo_step_25 : decode prog_11_method_16_code 25 = .ok (.iastore, 1) := by decide +kernel
theorem d_Mo_step_26 : decode prog_11_method_16_code 26 = .ok (.aload_n 0, 1) := by decide +kernel
theorem d_Mo_step_27 : decode prog_11_method_16_code 27 = .ok (.invokevirtual 196, 3) := by decide +kernel
theorem d_Mo_step_30 : decode prog_11_method_16_code 30 = .ok (.ifCond .eq 16, 3) := by decide +kernel
theorem d_Mo_step_33 : decode prog_11_method_16_code 33 = .ok (.aload_n 0, 1) := by decide +kernel
theorem d_Mo_step_34 : decode prog_11_method_16_code 34 = .ok (.ldc2_w 199, 3) := by decide +kernel
theorem d_Mo_step_37 : decode prog_11_method_16_code 37 = .ok (.ldc2_w 201, 3) := by decide +kernel
theorem d_Mo_step_40 : decode prog_11_method_16_code 40 = .ok (.invokevirtual 203, 3) := by decide +kernel
theorem d_Mo_step_43 : decode prog_11_method_16_code 43 = .ok (.ifCond .ne 5, 3) := by decide +kernel
theorem d_Mo_step_46 : decode prog_11_method_16_code 46 = .ok (.iconst 0, 1) := by decide +kernel
theorem d_Mo_step_47 : decode prog_11_method_16_code 47 = .ok (.ireturn, 1) := by decide +kernel
theorem d_Mo_step_48 : decode prog_11_method_16_code 48 = .ok (.aload_n 0, 1) := by decide +kernel
theorem d_Mo_step_49 : decode prog_11_method_16_code 49 = .ok (.getfield 56, 3) := by decide +kernel
theorem d_Mo_step_52 : decode prog_11_method_16_code 52 = .ok (.aload_n 0, 1) := by decide +kernel
theorem d_Mo_step_53 : decode prog_11_method_16_code 53 = .ok (.getfield 174, 3) := by decide +kernel
theorem d_Mo_step_56 : decode prog_11_method_16_code 56 = .ok (.aload_n 0, 1) := by decide +kernel
theorem d_Mo_step_57 : decode prog_11_method_16_code 57 = .ok (.getfield 150, 3) := by decide +kernel
theorem d_Mo_step_60 : decode prog_11_method_16_code 60 = .ok (.lastore, 1) := by decide +kernel
theorem d_Mo_step_61 : decode prog_11_method_16_code 61 = .ok (.aload_n 0, 1) := by decide +kernel
theorem d_Mo_step_62 : decode prog_11_method_16_code 62 = .ok (.invokevirtual 184, 3) := by decide +kernel
theorem d_Mo_step_65 : decode prog_11_method_16_code 65 = .ok (.ireturn, 1) := by decide +kernel
theorem d_Mo_step_66 : decode prog_11_method_16_code 66 = .ok (.aload_n 0, 1) := by decide +kernel
theorem d_Mo_step_67 : decode prog_11_method_16_code 67 = .ok (.bipush 100, 2) := by decide +kernel
theorem d_Mo_step_69 : decode prog_11_method_16_code 69 = .ok (.bipush 114, 2) := by decide +kernel
theorem d_Mo_step_71 : decode prog_11_method_16_code 71 = .ok (.bipush 97, 2) := by decide +kernel
theorem d_Mo_step_73 : decode prog_11_method_16_code 73 = .ok (.bipush 119, 2) := by decide +kernel
theorem d_Mo_step_75 : decode prog_11_method_16_code 75 = .ok (.iconst 0, 1) := by decide +kernel
theorem d_Mo_step_76 : decode prog_11_method_16_code 76 = .ok (.iconst 0, 1) := by decide +kernel
theorem d_Mo_step_77 : decode prog_11_method_16_code 77 = .ok (.invokevirtual 177, 3) := by decide +kernel
theorem d_Mo_step_80 : decode prog_11_method_16_code 80 = .ok (.ifCond .eq 87, 3) := by decide +kernel
theorem d_Mo_step_83 : decode prog_11_method_16_code 83 = .ok (.aload_n 0, 1) := by decide +kernel
theorem d_Mo_step_84 : decode prog_11_method_16_code 84 = .ok (.getfield 47, 3) := by decide +kernel
theorem d_Mo_step_87 : decode prog_11_method_16_code 87 = .ok (.aload_n 0, 1) := by decide +kernel
theorem d_Mo_step_88 : decode prog_11_method_16_code 88 = .ok (.getfield 174, 3) := by decide +kernel
theorem d_Mo_step_91 : decode prog_11_method_16_code 91 = .ok (.iconst 1, 1) := by decide +kernel
theorem d_Mo_step_92 : decode prog_11_method_16_code 92 = .ok (.iastore, 1) := by decide +kernel
theorem d_Mo_step_93 : decode prog_11_method_16_code 93 = .ok (.aload_n 0, 1) := by decide +kernel
theorem d_Mo_step_94 : decode prog_11_method_16_code 94 = .ok (.invokevirtual 196, 3) := by decide +kernel
theorem d_Mo_step_97 : decode prog_11_method_16_code 97 = .ok (.ifCond .eq 16, 3) := by decide +kernel
theorem d_Mo_step_100 : decode prog_11_method_16_code 100 = .ok (.aload_n 0, 1) := by decide +kernel
theorem d_Mo_step_101 : decode prog_11_method_16_code 101 = .ok (.ldc2_w 199, 3) := by decide +kernel
theorem d_Mo_step_104 : decode prog_11_method_16_code 104 = .ok (.ldc2_w 201, 3) := by decide +kernel
theorem d_Mo_step_107 : decode prog_11_method_16_code 107 = .ok (.invokevirtual 203, 3) := by decide +kernel
theorem d_Mo_step_110 : decode prog_11_method_16_code 110 = .ok (.ifCond .ne 5, 3) := by decide +kernel
theorem d_Mo_step_113 : decode prog_11_method_16_code 113 = .ok (.iconst 0, 1) := by decide +kernel
theorem d_Mo_step_114 : decode prog_11_method_16_code 114 = .ok (.ireturn, 1) := by decide +kernel
theorem d_Mo_step_115 : decode prog_11_method_16_code 115 = .ok (.aload_n 0, 1) := by decide +kernel
theorem d_Mo_step_116 : decode prog_11_method_16_code 116 = .ok (.getfield 56, 3) := by decide +kernel
theorem d_Mo_step_119 : decode prog_11_method_16_code 119 = .ok (.aload_n 0, 1) := by decide +kernel
theorem d_Mo_step_120 : decode prog_11_method_16_code 120 = .ok (.getfield 174, 3) := by decide +kernel
theorem d_Mo_step_123 : decode prog_11_method_16_code 123 = .ok (.aload_n 0, 1) := by decide +kernel
theorem d_Mo_step_124 : decode prog_11_method_16_code 124 = .ok (.getfield 150, 3) := by decide +kernel
theorem d_Mo_step_127 : decode prog_11_method_16_code 127 = .ok (.lastore, 1) := by decide +kernel
theorem d_Mo_step_128 : decode prog_11_method_16_code 128 = .ok (.aload_n 0, 1) := by decide +kernel
theorem d_Mo_step_129 : decode prog_11_method_16_code 129 = .ok (.aload_n 0, 1) := by decide +kernel
theorem d_Mo_step_130 : decode prog_11_method_16_code 130 = .ok (.getfield 56, 3) := by decide +kernel
theorem d_Mo_step_133 : decode prog_11_method_16_code 133 = .ok (.aload_n 0, 1) := by decide +kernel
theorem d_Mo_step_134 : decode prog_11_method_16_code 134 = .ok (.getfield 174, 3) := by decide +kernel
theorem d_Mo_step_137 : decode prog_11_method_16_code 137 = .ok (.laload, 1) := by decide +kernel
theorem d_Mo_step_138 : decode prog_11_method_16_code 138 = .ok (.ldc2_w 201, 3) := by decide +kernel
theorem d_Mo_step_141 : decode prog_11_method_16_code 141 = .ok (.invokevirtual 203, 3) := by decide +kernel
theorem d_Mo_step_144 : decode prog_11_method_16_code 144 = .ok (.ifCond .ne 5, 3) := by decide +kernel
theorem d_Mo_step_147 : decode prog_11_method_16_code 147 = .ok (.iconst 0, 1) := by decide +kernel
theorem d_Mo_step_148 : decode prog_11_method_16_code 148 = .ok (.ireturn, 1) := by decide +kernel
theorem d_Mo_step_149 : decode prog_11_method_16_code 149 = .ok (.aload_n 0, 1) := by decide +kernel
theorem d_Mo_step_150 : decode prog_11_method_16_code 150 = .ok (.getfield 59, 3) := by decide +kernel
theorem d_Mo_step_153 : decode prog_11_method_16_code 153 = .ok (.aload_n 0, 1) := by decide +kernel
theorem d_Mo_step_154 : decode prog_11_method_16_code 154 = .ok (.getfield 174, 3) := by decide +kernel
theorem d_Mo_step_157 : decode prog_11_method_16_code 157 = .ok (.aload_n 0, 1) := by decide +kernel
theorem d_Mo_step_158 : decode prog_11_method_16_code 158 = .ok (.getfield 150, 3) := by decide +kernel
theorem d_Mo_step_161 : decode prog_11_method_16_code 161 = .ok (.lastore, 1) := by decide +kernel
theorem d_Mo_step_162 : decode prog_11_method_16_code 162 = .ok (.aload_n 0, 1) := by decide +kernel
theorem d_Mo_step_163 : decode prog_11_method_16_code 163 = .ok (.invokevirtual 184, 3) := by decide +kernel
theorem d_Mo_step_166 : decode prog_11_method_16_code 166 = .ok (.ireturn, 1) := by decide +kernel
theorem d_Mo_step_167 : decode prog_11_method_16_code 167 = .ok (.aload_n 0, 1) := by decide +kernel
theorem d_Mo_step_168 : decode prog_11_method_16_code 168 = .ok (.bipush 119, 2) := by decide +kernel
theorem d_Mo_step_170 : decode prog_11_method_16_code 170 = .ok (.bipush 97, 2) := by decide +kernel
theorem d_Mo_step_172 : decode prog_11_method_16_code 172 = .ok (.bipush 105, 2) := by decide +kernel
theorem d_Mo_step_174 : decode prog_11_method_16_code 174 = .ok (.bipush 116, 2) := by decide +kernel
theorem d_Mo_step_176 : decode prog_11_method_16_code 176 = .ok (.iconst 0, 1) := by decide +kernel
theorem d_Mo_step_177 : decode prog_11_method_16_code 177 = .ok (.iconst 0, 1) := by decide +kernel
theorem d_Mo_step_178 : decode prog_11_method_16_code 178 = .ok (.invokevirtual 177, 3) := by decide +kernel
theorem d_Mo_step_181 : decode prog_11_method_16_code 181 = .ok (.istore_n 1, 1) := by decide +kernel
theorem d_Mo_step_182 : decode prog_11_method_16_code 182 = .ok (.iload_n 1, 1) := by decide +kernel
theorem d_Mo_step_183 : decode prog_11_method_16_code 183 = .ok (.ifCond .ne 21, 3) := by decide +kernel
theorem d_Mo_step_186 : decode prog_11_method_16_code 186 = .ok (.aload_n 0, 1) := by decide +kernel
theorem d_Mo_step_187 : decode prog_11_method_16_code 187 = .ok (.bipush 99, 2) := by decide +kernel
theorem d_Mo_step_189 : decode prog_11_method_16_code 189 = .ok (.bipush 104, 2) := by decide +kernel
theorem d_Mo_step_191 : decode prog_11_method_16_code 191 = .ok (.bipush 101, 2) := by decide +kernel
theorem d_Mo_step_193 : decode prog_11_method_16_code 193 = .ok (.bipush 99, 2) := by decide +kernel
theorem d_Mo_step_195 : decode prog_11_method_16_code 195 = .ok (.bipush 107, 2) := by decide +kernel
theorem d_Mo_step_197 : decode prog_11_method_16_code 197 = .ok (.iconst 0, 1) := by decide +kernel
theorem d_Mo_step_198 : decode prog_11_method_16_code 198 = .ok (.invokevirtual 177, 3) := by decide +kernel
theorem d_Mo_step_201 : decode prog_11_method_16_code 201 = .ok (.ifCond .eq 98, 3) := by decide +kernel
theorem d_Mo_step_204 : decode prog_11_method_16_code 204 = .ok (.aload_n 0, 1) := by decide +kernel
theorem d_Mo_step_205 : decode prog_11_method_16_code 205 = .ok (.getfield 47, 3) := by decide +kernel
theorem d_Mo_step_208 : decode prog_11_method_16_code 208 = .ok (.aload_n 0, 1) := by decide +kernel
theorem d_Mo_step_209 : decode prog_11_method_16_code 209 = .ok (.getfield 174, 3) := by decide +kernel
theorem d_Mo_step_212 : decode prog_11_method_16_code 212 = .ok (.iload_n 1, 1) := by decide +kernel
theorem d_Mo_step_213 : decode prog_11_method_16_code 213 = .ok (.ifCond .eq 7, 3) := by decide +kernel
theorem d_Mo_step_216 : decode prog_11_method_16_code 216 = .ok (.iconst 3, 1) := by decide +kernel
theorem d_Mo_step_217 : decode prog_11_method_16_code 217 = .ok (.goto 4, 3) := by decide +kernel
theorem d_Mo_step_220 : decode prog_11_method_16_code 220 = .ok (.iconst 2, 1) := by decide +kernel
theorem d_Mo_step_221 : decode prog_11_method_16_code 221 = .ok (.iastore, 1) := by decide +kernel
theorem d_Mo_step_222 : decode prog_11_method_16_code 222 = .ok (.aload_n 0, 1) := by decide +kernel
theorem d_Mo_step_223 : decode prog_11_method_16_code 223 = .ok (.invokevirtual 196, 3) := by decide +kernel
theorem d_Mo_step_226 : decode prog_11_method_16_code 226 = .ok (.ifCond .eq 23, 3) := by decide +kernel
theorem d_Mo_step_229 : decode prog_11_method_16_code 229 = .ok (.aload_n 0, 1) := by decide +kernel
theorem d_Mo_step_230 : decode prog_11_method_16_code 230 = .ok (.invokevirtual 206, 3) := by decide +kernel
theorem d_Mo_step_233 : decode prog_11_method_16_code 233 = .ok (.ifCond .eq 16, 3) := by decide +kernel
theorem d_Mo_step_236 : decode prog_11_method_16_code 236 = .ok (.aload_n 0, 1) := by decide +kernel
theorem d_Mo_step_237 : decode prog_11_method_16_code 237 = .ok (.ldc2_w 199, 3) := by decide +kernel
theorem d_Mo_step_240 : decode prog_11_method_16_code 240 = .ok (.ldc2_w 201, 3) := by decide +kernel
theorem d_Mo_step_243 : decode prog_11_method_16_code 243 = .ok (.invokevirtual 203, 3) := by decide +kernel
theorem d_Mo_step_246 : decode prog_11_method_16_code 246 = .ok (.ifCond .ne 5, 3) := by decide +kernel
theorem d_Mo_step_249 : decode prog_11_method_16_code 249 = .ok (.iconst 0, 1) := by decide +kernel
theorem d_Mo_step_250 : decode prog_11_method_16_code 250 = .ok (.ireturn, 1) := by decide +kernel
theorem d_Mo_step_251 : decode prog_11_method_16_code 251 = .ok (.aload_n 0, 1) := by decide +kernel
theorem d_Mo_step_252 : decode prog_11_method_16_code 252 = .ok (.getfield 56, 3) := by decide +kernel
theorem d_Mo_step_255 : decode prog_11_method_16_code 255 = .ok (.aload_n 0, 1) := by decide +kernel
theorem d_Mo_step_256 : decode prog_11_method_16_code 256 = .ok (.getfield 174, 3) := by decide +kernel
theorem d_Mo_step_259 : decode prog_11_method_16_code 259 = .ok (.aload_n 0, 1) := by decide +kernel
theorem d_Mo_step_260 : decode prog_11_method_16_code 260 = .ok (.getfield 150, 3) := by decide +kernel
theorem d_Mo_step_263 : decode prog_11_method_16_code 263 = .ok (.lastore, 1) := by decide +kernel
theorem d_Mo_step_264 : decode prog_11_method_16_code 264 = .ok (.iload_n 1, 1) := by decide +kernel
theorem d_Mo_step_265 : decode prog_11_method_16_code 265 = .ok (.ifCond .eq 16, 3) := by decide +kernel
theorem d_Mo_step_268 : decode prog_11_method_16_code 268 = .ok (.aload_n 0, 1) := by decide +kernel
theorem d_Mo_step_269 : decode prog_11_method_16_code 269 = .ok (.lconst 0, 1) := by decide +kernel
theorem d_Mo_step_270 : decode prog_11_method_16_code 270 = .ok (.ldc2_w 209, 3) := by decide +kernel
theorem d_Mo_step_273 : decode prog_11_method_16_code 273 = .ok (.invokevirtual 203, 3) := by decide +kernel
theorem d_Mo_step_276 : decode prog_11_method_16_code 276 = .ok (.ifCond .ne 5, 3) := by decide +kernel
theorem d_Mo_step_279 : decode prog_11_method_16_code 279 = .ok (.iconst 0, 1) := by decide +kernel
theorem d_Mo_step_280 : decode prog_11_method_16_code 280 = .ok (.ireturn, 1) := by decide +kernel
theorem d_Mo_step_281 : decode prog_11_method_16_code 281 = .ok (.aload_n 0, 1) := by decide +kernel
theorem d_Mo_step_282 : decode prog_11_method_16_code 282 = .ok (.getfield 59, 3) := by decide +kernel
theorem d_Mo_step_285 : decode prog_11_method_16_code 285 = .ok (.aload_n 0, 1) := by decide +kernel
theorem d_Mo_step_286 : decode prog_11_method_16_code 286 = .ok (.getfield 174, 3) := by decide +kernel
theorem d_Mo_step_289 : decode prog_11_method_16_code 289 = .ok (.aload_n 0, 1) := by decide +kernel
theorem d_Mo_step_290 : decode prog_11_method_16_code 290 = .ok (.getfield 150, 3) := by decide +kernel
theorem d_Mo_step_293 : decode prog_11_method_16_code 293 = .ok (.lastore, 1) := by decide +kernel
theorem d_Mo_step_294 : decode prog_11_method_16_code 294 = .ok (.aload_n 0, 1) := by decide +kernel
theorem d_Mo_step_295 : decode prog_11_method_16_code 295 = .ok (.invokevirtual 184, 3) := by decide +kernel
theorem d_Mo_step_298 : decode prog_11_method_16_code 298 = .ok (.ireturn, 1) := by decide +kernel
theorem d_Mo_step_299 : decode prog_11_method_16_code 299 = .ok (.aload_n 0, 1) := by decide +kernel
theorem d_Mo_step_300 : decode prog_11_method_16_code 300 = .ok (.bipush 102, 2) := by decide +kernel
theorem d_Mo_step_302 : decode prog_11_method_16_code 302 = .ok (.bipush 97, 2) := by decide +kernel
theorem d_Mo_step_304 : decode prog_11_method_16_code 304 = .ok (.bipush 117, 2) := by decide +kernel
theorem d_Mo_step_306 : decode prog_11_method_16_code 306 = .ok (.bipush 108, 2) := by decide +kernel
theorem d_Mo_step_308 : decode prog_11_method_16_code 308 = .ok (.bipush 116, 2) := by decide +kernel
theorem d_Mo_step_310 : decode prog_11_method_16_code 310 = .ok (.iconst 0, 1) := by decide +kernel
theorem d_Mo_step_311 : decode prog_11_method_16_code 311 = .ok (.invokevirtual 177, 3) := by decide +kernel
theorem d_Mo_step_314 : decode prog_11_method_16_code 314 = .ok (.ifCond .eq 126, 3) := by decide +kernel
theorem d_Mo_step_317 : decode prog_11_method_16_code 317 = .ok (.aload_n 0, 1) := by decide +kernel
theorem d_Mo_step_318 : decode prog_11_method_16_code 318 = .ok (.getfield 47, 3) := by decide +kernel
theorem d_Mo_step_321 : decode prog_11_method_16_code 321 = .ok (.aload_n 0, 1) := by decide +kernel
theorem d_Mo_step_322 : decode prog_11_method_16_code 322 = .ok (.getfield 174, 3) := by decide +kernel
theorem d_Mo_step_325 : decode prog_11_method_16_code 325 = .ok (.iconst 4, 1) := by decide +kernel
theorem d_Mo_step_326 : decode prog_11_method_16_code 326 = .ok (.iastore, 1) := by decide +kernel
theorem d_Mo_step_327 : decode prog_11_method_16_code 327 = .ok (.aload_n 0, 1) := by decide +kernel
theorem d_Mo_step_328 : decode prog_11_method_16_code 328 = .ok (.lconst 1, 1) := by decide +kernel
theorem d_Mo_step_329 : decode prog_11_method_16_code 329 = .ok (.ldc2_w 211, 3) := by decide +kernel
theorem d_Mo_step_332 : decode prog_11_method_16_code 332 = .ok (.invokevirtual 203, 3) := by decide +kernel
theorem d_Mo_step_335 : decode prog_11_method_16_code 335 = .ok (.ifCond .ne 5, 3) := by decide +kernel
theorem d_Mo_step_338 : decode prog_11_method_16_code 338 = .ok (.iconst 0, 1) := by decide +kernel
theorem d_Mo_step_339 : decode prog_11_method_16_code 339 = .ok (.ireturn, 1) := by decide +kernel
theorem d_Mo_step_340 : decode prog_11_method_16_code 340 = .ok (.aload_n 0, 1) := by decide +kernel
theorem d_Mo_step_341 : decode prog_11_method_16_code 341 = .ok (.getfield 56, 3) := by decide +kernel
theorem d_Mo_step_344 : decode prog_11_method_16_code 344 = .ok (.aload_n 0, 1) := by decide +kernel
theorem d_Mo_step_345 : decode prog_11_method_16_code 345 = .ok (.getfield 174, 3) := by decide +kernel
theorem d_Mo_step_348 : decode prog_11_method_16_code 348 = .ok (.aload_n 0, 1) := by decide +kernel
theorem d_Mo_step_349 : decode prog_11_method_16_code 349 = .ok (.getfield 150, 3) := by decide +kernel
theorem d_Mo_step_352 : decode prog_11_method_16_code 352 = .ok (.lastore, 1) := by decide +kernel
theorem d_Mo_step_353 : decode prog_11_method_16_code 353 = .ok (.aload_n 0, 1) := by decide +kernel
theorem d_Mo_step_354 : decode prog_11_method_16_code 354 = .ok (.invokevirtual 146, 3) := by decide +kernel
theorem d_Mo_step_357 : decode prog_11_method_16_code 357 = .ok (.ifCond .ne 5, 3) := by decide +kernel
theorem d_Mo_step_360 : decode prog_11_method_16_code 360 = .ok (.iconst 0, 1) := by decide +kernel
theorem d_Mo_step_361 : decode prog_11_method_16_code 361 = .ok (.ireturn, 1) := by decide +kernel
theorem d_Mo_step_362 : decode prog_11_method_16_code 362 = .ok (.aload_n 0, 1) := by decide +kernel
theorem d_Mo_step_363 : decode prog_11_method_16_code 363 = .ok (.getfield 59, 3) := by decide +kernel
theorem d_Mo_step_366 : decode prog_11_method_16_code 366 = .ok (.aload_n 0, 1) := by decide +kernel
theorem d_Mo_step_367 : decode prog_11_method_16_code 367 = .ok (.getfield 174, 3) := by decide +kernel
theorem d_Mo_step_370 : decode prog_11_method_16_code 370 = .ok (.aload_n 0, 1) := by decide +kernel
theorem d_Mo_step_371 : decode prog_11_method_16_code 371 = .ok (.bipush 111, 2) := by decide +kernel
theorem d_Mo_step_373 : decode prog_11_method_16_code 373 = .ok (.bipush 110, 2) := by decide +kernel
theorem d_Mo_step_375 : decode prog_11_method_16_code 375 = .ok (.iconst 0, 1) := by decide +kernel
theorem d_Mo_step_376 : decode prog_11_method_16_code 376 = .ok (.iconst 0, 1) := by decide +kernel
theorem d_Mo_step_377 : decode prog_11_method_16_code 377 = .ok (.iconst 0, 1) := by decide +kernel
theorem d_Mo_step_378 : decode prog_11_method_16_code 378 = .ok (.iconst 0, 1) := by decide +kernel
theorem d_Mo_step_379 : decode prog_11_method_16_code 379 = .ok (.invokevirtual 177, 3) := by decide +kernel
theorem d_Mo_step_382 : decode prog_11_method_16_code 382 = .ok (.ifCond .eq 7, 3) := by decide +kernel
theorem d_Mo_step_385 : decode prog_11_method_16_code 385 = .ok (.lconst 1, 1) := by decide +kernel
theorem d_Mo_step_386 : decode prog_11_method_16_code 386 = .ok (.goto 26, 3) := by decide +kernel
theorem d_Mo_step_389 : decode prog_11_method_16_code 389 = .ok (.aload_n 0, 1) := by decide +kernel
theorem d_Mo_step_390 : decode prog_11_method_16_code 390 = .ok (.bipush 111, 2) := by decide +kernel
theorem d_Mo_step_392 : decode prog_11_method_16_code 392 = .ok (.bipush 102, 2) := by decide +kernel
theorem d_Mo_step_394 : decode prog_11_method_16_code 394 = .ok (.bipush 102, 2) := by decide +kernel
theorem d_Mo_step_396 : decode prog_11_method_16_code 396 = .ok (.iconst 0, 1) := by decide +kernel
theorem d_Mo_step_397 : decode prog_11_method_16_code 397 = .ok (.iconst 0, 1) := by decide +kernel
theorem d_Mo_step_398 : decode prog_11_method_16_code 398 = .ok (.iconst 0, 1) := by decide +kernel
theorem d_Mo_step_399 : decode prog_11_method_16_code 399 = .ok (.invokevirtual 177, 3) := by decide +kernel
theorem d_Mo_step_402 : decode prog_11_method_16_code 402 = .ok (.ifCond .eq 7, 3) := by decide +kernel
theorem d_Mo_step_405 : decode prog_11_method_16_code 405 = .ok (.lconst 0, 1) := by decide +kernel
theorem d_Mo_step_406 : decode prog_11_method_16_code 406 = .ok (.goto 6, 3) := by decide +kernel
theorem d_Mo_step_409 : decode prog_11_method_16_code 409 = .ok (.ldc2_w 213, 3) := by decide +kernel
theorem d_Mo_step_412 : decode prog_11_method_16_code 412 = .ok (.lastore, 1) := by decide +kernel
theorem d_Mo_step_413 : decode prog_11_method_16_code 413 = .ok (.aload_n 0, 1) := by decide +kernel
theorem d_Mo_step_414 : decode prog_11_method_16_code 414 = .ok (.getfield 59, 3) := by decide +kernel
theorem d_Mo_step_417 : decode prog_11_method_16_code 417 = .ok (.aload_n 0, 1) := by decide +kernel
theorem d_Mo_step_418 : decode prog_11_method_16_code 418 = .ok (.getfield 174, 3) := by decide +kernel
theorem d_Mo_step_421 : decode prog_11_method_16_code 421 = .ok (.laload, 1) := by decide +kernel
theorem d_Mo_step_422 : decode prog_11_method_16_code 422 = .ok (.lconst 0, 1) := by decide +kernel
theorem d_Mo_step_423 : decode prog_11_method_16_code 423 = .ok (.lcmp, 1) := by decide +kernel
theorem d_Mo_step_424 : decode prog_11_method_16_code 424 = .ok (.ifCond .lt 14, 3) := by decide +kernel
theorem d_Mo_step_427 : decode prog_11_method_16_code 427 = .ok (.aload_n 0, 1) := by decide +kernel
theorem d_Mo_step_428 : decode prog_11_method_16_code 428 = .ok (.invokevirtual 184, 3) := by decide +kernel
theorem d_Mo_step_431 : decode prog_11_method_16_code 431 = .ok (.ifCond .eq 7, 3) := by decide +kernel
theorem d_Mo_step_434 : decode prog_11_method_16_code 434 = .ok (.iconst 1, 1) := by decide +kernel
theorem d_Mo_step_435 : decode prog_11_method_16_code 435 = .ok (.goto 4, 3) := by decide +kernel
theorem d_Mo_step_438 : decode prog_11_method_16_code 438 = .ok (.iconst 0, 1) := by decide +kernel
theorem d_Mo_step_439 : decode prog_11_method_16_code 439 = .ok (.ireturn, 1) := by decide +kernel
theorem d_Mo_step_440 : decode prog_11_method_16_code 440 = .ok (.aload_n 0, 1) := by decide +kernel
theorem d_Mo_step_441 : decode prog_11_method_16_code 441 = .ok (.invokevirtual 215, 3) := by decide +kernel
theorem d_Mo_step_444 : decode prog_11_method_16_code 444 = .ok (.ireturn, 1) := by decide +kernel
abbrev m_Mo_named : MethodName × ByteArray × Nat × Option FieldType := (⟨"TestTextModel", "named", "()Z"⟩, prog_11_method_12_code, 1, (Option.some FieldType.boolean))
theorem d_Mo_named_0 : decode prog_11_method_12_code 0 = .ok (.aload_n 0, 1) := by decide +kernel
theorem d_Mo_named_1 : decode prog_11_method_12_code 1 = .ok (.invokevirtual 146, 3) := by decide +kernel
theorem d_Mo_named_4 : decode prog_11_method_12_code 4 = .ok (.ifCond .eq 10, 3) := by decide +kernel
theorem d_Mo_named_7 : decode prog_11_method_12_code 7 = .ok (.aload_n 0, 1) := by decide +kernel
theorem d_Mo_named_8 : decode prog_11_method_12_code 8 = .ok (.invokevirtual 164, 3) := by decide +kernel
theorem d_Mo_named_11 : decode prog_11_method_12_code 11 = .ok (.ifCond .ne 5, 3) := by decide +kernel
theorem d_Mo_named_14 : decode prog_11_method_12_code 14 = .ok (.iconst 0, 1) := by decide +kernel
theorem d_Mo_named_15 : decode prog_11_method_12_code 15 = .ok (.ireturn, 1) := by decide +kernel
theorem d_Mo_named_16 : decode prog_11_method_12_code 16 = .ok (.aload_n 0, 1) := by decide +kernel
theorem d_Mo_named_17 : decode prog_11_method_12_code 17 = .ok (.getfield 53, 3) := by decide +kernel
theorem d_Mo_named_20 : decode prog_11_method_12_code 20 = .ok (.aload_n 0, 1) := by decide +kernel
theorem d_Mo_named_21 : decode prog_11_method_12_code 21 = .ok (.getfield 174, 3) := by decide +kernel
theorem d_Mo_named_24 : decode prog_11_method_12_code 24 = .ok (.aload_n 0, 1) := by decide +kernel
theorem d_Mo_named_25 : decode prog_11_method_12_code 25 = .ok (.invokevirtual 167, 3) := by decide +kernel
theorem d_Mo_named_28 : decode prog_11_method_12_code 28 = .ok (.iastore, 1) := by decide +kernel
theorem d_Mo_named_29 : decode prog_11_method_12_code 29 = .ok (.aload_n 0, 1) := by decide +kernel
theorem d_Mo_named_30 : decode prog_11_method_12_code 30 = .ok (.getfield 53, 3) := by decide +kernel
theorem d_Mo_named_33 : decode prog_11_method_12_code 33 = .ok (.aload_n 0, 1) := by decide +kernel
theorem d_Mo_named_34 : decode prog_11_method_12_code 34 = .ok (.getfield 174, 3) := by decide +kernel
theorem d_Mo_named_37 : decode prog_11_method_12_code 37 = .ok (.iaload, 1) := by decide +kernel
theorem d_Mo_named_38 : decode prog_11_method_12_code 38 = .ok (.ifCond .le 7, 3) := by decide +kernel
theorem d_Mo_named_41 : decode prog_11_method_12_code 41 = .ok (.iconst 1, 1) := by decide +kernel
theorem d_Mo_named_42 : decode prog_11_method_12_code 42 = .ok (.goto 4, 3) := by decide +kernel
theorem d_Mo_named_45 : decode prog_11_method_12_code 45 = .ok (.iconst 0, 1) := by decide +kernel
theorem d_Mo_named_46 : decode prog_11_method_12_code 46 = .ok (.ireturn, 1) := by decide +kernel
abbrev m_Mo_number : MethodName × ByteArray × Nat × Option FieldType := (⟨"TestTextModel", "number", "(JJ)Z"⟩, prog_11_method_7_code, 8, (Option.some FieldType.boolean))
theorem d_Mo_number_0 : decode prog_11_method_7_code 0 = .ok (.aload_n 0, 1) := by decide +kernel
theorem d_Mo_number_1 : decode prog_11_method_7_code 1 = .ok (.invokevirtual 146, 3) := by decide +kernel
theorem d_Mo_number_4 : decode prog_11_method_7_code 4 = .ok (.ifCond .ne 5, 3) := by decide +kernel
theorem d_Mo_number_7 : decode prog_11_method_7_code 7 = .ok (.iconst 0, 1) := by decide +kernel
theorem d_Mo_number_8 : decode prog_11_method_7_code 8 = .ok (.ireturn, 1) := by decide +kernel
theorem d_Mo_number_9 : decode prog_11_method_7_code 9 = .ok (.aload_n 0, 1) := by decide +kernel
theorem d_Mo_number_10 : decode prog_11_method_7_code 10 = .ok (.getfield 13, 3) := by decide +kernel
theorem d_Mo_number_13 : decode prog_11_method_7_code 13 = .ok (.aload_n 0, 1) := by decide +kernel
theorem d_Mo_number_14 : decode prog_11_method_7_code 14 = .ok (.getfield 140, 3) := by decide +kernel
theorem d_Mo_number_17 : decode prog_11_method_7_code 17 = .ok (.iaload, 1) := by decide +kernel
theorem d_Mo_number_18 : decode prog_11_method_7_code 18 = .ok (.bipush 45, 2) := by decide +kernel
theorem d_Mo_number_20 : decode prog_11_method_7_code 20 = .ok (.if_icmp .ne 12, 3) := by decide +kernel
theorem d_Mo_number_23 : decode prog_11_method_7_code 23 = .ok (.aload_n 0, 1) := by decide +kernel
theorem d_Mo_number_24 : decode prog_11_method_7_code 24 = .ok (.getfield 140, 3) := by decide +kernel
theorem d_Mo_number_27 : decode prog_11_method_7_code 27 = .ok (.iconst 1, 1) := by decide +kernel
theorem d_Mo_number_28 : decode prog_11_method_7_code 28 = .ok (.iadd, 1) := by decide +kernel
theorem d_Mo_number_29 : decode prog_11_method_7_code 29 = .ok (.goto 7, 3) := by decide +kernel
theorem d_Mo_number_32 : decode prog_11_method_7_code 32 = .ok (.aload_n 0, 1) := by decide +kernel
theorem d_Mo_number_33 : decode prog_11_method_7_code 33 = .ok (.getfield 140, 3) := by decide +kernel
theorem d_Mo_number_36 : decode prog_11_method_7_code 36 = .ok (.istore 5, 2) := by decide +kernel
theorem d_Mo_number_38 : decode prog_11_method_7_code 38 = .ok (.aload_n 0, 1) := by decide +kernel
theorem d_Mo_number_39 : decode prog_11_method_7_code 39 = .ok (.getfield 143, 3) := by decide +kernel
theorem d_Mo_number_42 : decode prog_11_method_7_code 42 = .ok (.iload 5, 2) := by decide +kernel
theorem d_Mo_number_44 : decode prog_11_method_7_code 44 = .ok (.if_icmp .le 19, 3) := by decide +kernel
theorem d_Mo_number_47 : decode prog_11_method_7_code 47 = .ok (.aload_n 0, 1) := by decide +kernel
theorem d_Mo_number_48 : decode prog_11_method_7_code 48 = .ok (.getfield 143, 3) := by decide +kernel
theorem d_Mo_number_51 : decode prog_11_method_7_code 51 = .ok (.iload 5, 2) := by decide +kernel
theorem d_Mo_number_53 : decode prog_11_method_7_code 53 = .ok (.isub, 1) := by decide +kernel
theorem d_Mo_number_54 : decode prog_11_method_7_code 54 = .ok (.bipush 7, 2) := by decide +kernel
theorem d_Mo_number_56 : decode prog_11_method_7_code 56 = .ok (.if_icmp .ge 7, 3) := by decide +kernel
theorem d_Mo_number_59 : decode prog_11_method_7_code 59 = .ok (.iconst 1, 1) := by decide +kernel
theorem d_Mo_number_60 : decode prog_11_method_7_code 60 = .ok (.goto 4, 3) := by decide +kernel
theorem d_Mo_number_63 : decode prog_11_method_7_code 63 = .ok (.iconst 0, 1) := by decide +kernel
theorem d_Mo_number_64 : decode prog_11_method_7_code 64 = .ok (.istore 6, 2) := by decide +kernel
theorem d_Mo_number_66 : decode prog_11_method_7_code 66 = .ok (.aload_n 0, 1) := by decide +kernel
theorem d_Mo_number_67 : decode prog_11_method_7_code 67 = .ok (.lconst 0, 1) := by decide +kernel
theorem d_Mo_number_68 : decode prog_11_method_7_code 68 = .ok (.putfield 150, 3) := by decide +kernel
theorem d_Mo_number_71 : decode prog_11_method_7_code 71 = .ok (.iload 5, 2) := by decide +kernel
theorem d_Mo_number_73 : decode prog_11_method_7_code 73 = .ok (.istore 7, 2) := by decide +kernel
theorem d_Mo_number_75 : decode prog_11_method_7_code 75 = .ok (.iload 7, 2) := by decide +kernel
theorem d_Mo_number_77 : decode prog_11_method_7_code 77 = .ok (.aload_n 0, 1) := by decide +kernel
theorem d_Mo_number_78 : decode prog_11_method_7_code 78 = .ok (.getfield 143, 3) := by decide +kernel
theorem d_Mo_number_81 : decode prog_11_method_7_code 81 = .ok (.if_icmp .ge 70, 3) := by decide +kernel
theorem d_Mo_number_84 : decode prog_11_method_7_code 84 = .ok (.iload 6, 2) := by decide +kernel
theorem d_Mo_number_86 : decode prog_11_method_7_code 86 = .ok (.ifCond .eq 65, 3) := by decide +kernel
theorem d_Mo_number_89 : decode prog_11_method_7_code 89 = .ok (.aload_n 0, 1) := by decide +kernel
theorem d_Mo_number_90 : decode prog_11_method_7_code 90 = .ok (.getfield 13, 3) := by decide +kernel
theorem d_Mo_number_93 : decode prog_11_method_7_code 93 = .ok (.iload 7, 2) := by decide +kernel
theorem d_Mo_number_95 : decode prog_11_method_7_code 95 = .ok (.iaload, 1) := by decide +kernel
theorem d_Mo_number_96 : decode prog_11_method_7_code 96 = .ok (.bipush 48, 2) := by decide +kernel
theorem d_Mo_number_98 : decode prog_11_method_7_code 98 = .ok (.if_icmp .lt 19, 3) := by decide +kernel
theorem d_Mo_number_101 : decode prog_11_method_7_code 101 = .ok (.aload_n 0, 1) := by decide +kernel
theorem d_Mo_number_102 : decode prog_11_method_7_code 102 = .ok (.getfield 13, 3) := by decide +kernel
theorem d_Mo_number_105 : decode prog_11_method_7_code 105 = .ok (.iload 7, 2) := by decide +kernel
theorem d_Mo_number_107 : decode prog_11_method_7_code 107 = .ok (.iaload, 1) := by decide +kernel
theorem d_Mo_number_108 : decode prog_11_method_7_code 108 = .ok (.bipush 57, 2) := by decide +kernel
theorem d_Mo_number_110 : decode prog_11_method_7_code 110 = .ok (.if_icmp .gt 7, 3) := by decide +kernel
theorem d_Mo_number_113 : decode prog_11_method_7_code 113 = .ok (.iconst 1, 1) := by decide +kernel
theorem d_Mo_number_114 : decode prog_11_method_7_code 114 = .ok (.goto 4, 3) := by decide +kernel
theorem d_Mo_number_117 : decode prog_11_method_7_code 117 = .ok (.iconst 0, 1) := by decide +kernel
theorem d_Mo_number_118 : decode prog_11_method_7_code 118 = .ok (.istore 6, 2) := by decide +kernel
theorem d_Mo_number_120 : decode prog_11_method_7_code 120 = .ok (.aload_n 0, 1) := by decide +kernel
theorem d_Mo_number_121 : decode prog_11_method_7_code 121 = .ok (.aload_n 0, 1) := by decide +kernel
theorem d_Mo_number_122 : decode prog_11_method_7_code 122 = .ok (.getfield 150, 3) := by decide +kernel
theorem d_Mo_number_125 : decode prog_11_method_7_code 125 = .ok (.ldc2_w 153, 3) := by decide +kernel
theorem d_Mo_number_128 : decode prog_11_method_7_code 128 = .ok (.lmul, 1) := by decide +kernel
theorem d_Mo_number_129 : decode prog_11_method_7_code 129 = .ok (.aload_n 0, 1) := by decide +kernel
theorem d_Mo_number_130 : decode prog_11_method_7_code 130 = .ok (.getfield 13, 3) := by decide +kernel
theorem d_Mo_number_133 : decode prog_11_method_7_code 133 = .ok (.iload 7, 2) := by decide +kernel
theorem d_Mo_number_135 : decode prog_11_method_7_code 135 = .ok (.iaload, 1) := by decide +kernel
theorem d_Mo_number_136 : decode prog_11_method_7_code 136 = .ok (.i2l, 1) := by decide +kernel
theorem d_Mo_number_137 : decode prog_11_method_7_code 137 = .ok (.ladd, 1) := by decide +kernel
theorem d_Mo_number_138 : decode prog_11_method_7_code 138 = .ok (.ldc2_w 155, 3) := by decide +kernel
theorem d_Mo_number_141 : decode prog_11_method_7_code 141 = .ok (.lsub, 1) := by decide +kernel
theorem d_Mo_number_142 : decode prog_11_method_7_code 142 = .ok (.putfield 150, 3) := by decide +kernel
theorem d_Mo_number_145 : decode prog_11_method_7_code 145 = .ok (.iinc 7 1, 3) := by decide +kernel
theorem d_Mo_number_148 : decode prog_11_method_7_code 148 = .ok (.goto (-73), 3) := by decide +kernel
theorem d_Mo_number_151 : decode prog_11_method_7_code 151 = .ok (.aload_n 0, 1) := by decide +kernel
theorem d_Mo_number_152 : decode prog_11_method_7_code 152 = .ok (.iload 5, 2) := by decide +kernel
theorem d_Mo_number_154 : decode prog_11_method_7_code 154 = .ok (.aload_n 0, 1) := by decide +kernel
theorem d_Mo_number_155 : decode prog_11_method_7_code 155 = .ok (.getfield 140, 3) := by decide +kernel
theorem d_Mo_number_158 : decode prog_11_method_7_code 158 = .ok (.if_icmp .le 11, 3) := by decide +kernel
theorem d_Mo_number_161 : decode prog_11_method_7_code 161 = .ok (.aload_n 0, 1) := by decide +kernel
theorem d_Mo_number_162 : decode prog_11_method_7_code 162 = .ok (.getfield 150, 3) := by decide +kernel
theorem d_Mo_number_165 : decode prog_11_method_7_code 165 = .ok (.lneg, 1) := by decide +kernel
theorem d_Mo_number_166 : decode prog_11_method_7_code 166 = .ok (.goto 7, 3) := by decide +kernel
theorem d_Mo_number_169 : decode prog_11_method_7_code 169 = .ok (.aload_n 0, 1) := by decide +kernel
theorem d_Mo_number_170 : decode prog_11_method_7_code 170 = .ok (.getfield 150, 3) := by decide +kernel
theorem d_Mo_number_173 : decode prog_11_method_7_code 173 = .ok (.putfield 150, 3) := by decide +kernel
theorem d_Mo_number_176 : decode prog_11_method_7_code 176 = .ok (.iload 6, 2) := by decide +kernel
theorem d_Mo_number_178 : decode prog_11_method_7_code 178 = .ok (.ifCond .eq 25, 3) := by decide +kernel
theorem d_Mo_number_181 : decode prog_11_method_7_code 181 = .ok (.aload_n 0, 1) := by decide +kernel
theorem d_Mo_number_182 : decode prog_11_method_7_code 182 = .ok (.getfield 150, 3) := by decide +kernel
theorem d_Mo_number_185 : decode prog_11_method_7_code 185 = .ok (.lload_n 1, 1) := by decide +kernel
theorem d_Mo_number_186 : decode prog_11_method_7_code 186 = .ok (.lcmp, 1) := by decide +kernel
theorem d_Mo_number_187 : decode prog_11_method_7_code 187 = .ok (.ifCond .lt 16, 3) := by decide +kernel
theorem d_Mo_number_190 : decode prog_11_method_7_code 190 = .ok (.aload_n 0, 1) := by decide +kernel
theorem d_Mo_number_191 : decode prog_11_method_7_code 191 = .ok (.getfield 150, 3) := by decide +kernel
theorem d_Mo_number_194 : decode prog_11_method_7_code 194 = .ok (.lload_n 3, 1) := by decide +kernel
theorem d_Mo_number_195 : decode prog_11_method_7_code 195 = .ok (.lcmp, 1) := by decide +kernel
theorem d_Mo_number_196 : decode prog_11_method_7_code 196 = .ok (.ifCond .gt 7, 3) := by decide +kernel
theorem d_Mo_number_199 : decode prog_11_method_7_code 199 = .ok (.iconst 1, 1) := by decide +kernel
theorem d_Mo_number_200 : decode prog_11_method_7_code 200 = .ok (.goto 4, 3) := by decide +kernel
theorem d_Mo_number_203 : decode prog_11_method_7_code 203 = .ok (.iconst 0, 1) := by decide +kernel
theorem d_Mo_number_204 : decode prog_11_method_7_code 204 = .ok (.ireturn, 1) := by decide +kernel
abbrev m_Mo_operator : MethodName × ByteArray × Nat × Option FieldType := (⟨"TestTextModel", "operator", "()Z"⟩, prog_11_method_13_code, 1, (Option.some FieldType.boolean))
theorem d_Mo_operator_0 : decode prog_11_method_13_code 0 = .ok (.aload_n 0, 1) := by decide +kernel
theorem d_Mo_operator_1 : decode prog_11_method_13_code 1 = .ok (.invokevirtual 146, 3) := by decide +kernel
theorem d_Mo_operator_4 : decode prog_11_method_13_code 4 = .ok (.ifCond .eq 16, 3) := by decide +kernel
theorem d_Mo_operator_7 : decode prog_11_method_13_code 7 = .ok (.aload_n 0, 1) := by decide +kernel
theorem d_Mo_operator_8 : decode prog_11_method_13_code 8 = .ok (.getfield 143, 3) := by decide +kernel
theorem d_Mo_operator_11 : decode prog_11_method_13_code 11 = .ok (.aload_n 0, 1) := by decide +kernel
theorem d_Mo_operator_12 : decode prog_11_method_13_code 12 = .ok (.getfield 140, 3) := by decide +kernel
theorem d_Mo_operator_15 : decode prog_11_method_13_code 15 = .ok (.isub, 1) := by decide +kernel
theorem d_Mo_operator_16 : decode prog_11_method_13_code 16 = .ok (.iconst 1, 1) := by decide +kernel
theorem d_Mo_operator_17 : decode prog_11_method_13_code 17 = .ok (.if_icmp .eq 5, 3) := by decide +kernel
theorem d_Mo_operator_20 : decode prog_11_method_13_code 20 = .ok (.iconst 0, 1) := by decide +kernel
theorem d_Mo_operator_21 : decode prog_11_method_13_code 21 = .ok (.ireturn, 1) := by decide +kernel
theorem d_Mo_operator_22 : decode prog_11_method_13_code 22 = .ok (.aload_n 0, 1) := by decide +kernel
theorem d_Mo_operator_23 : decode prog_11_method_13_code 23 = .ok (.getfield 62, 3) := by decide +kernel
theorem d_Mo_operator_26 : decode prog_11_method_13_code 26 = .ok (.aload_n 0, 1) := by decide +kernel
theorem d_Mo_operator_27 : decode prog_11_method_13_code 27 = .ok (.getfield 174, 3) := by decide +kernel
theorem d_Mo_operator_30 : decode prog_11_method_13_code 30 = .ok (.aload_n 0, 1) := by decide +kernel
theorem d_Mo_operator_31 : decode prog_11_method_13_code 31 = .ok (.getfield 13, 3) := by decide +kernel
theorem d_Mo_operator_34 : decode prog_11_method_13_code 34 = .ok (.aload_n 0, 1) := by decide +kernel
theorem d_Mo_operator_35 : decode prog_11_method_13_code 35 = .ok (.getfield 140, 3) := by decide +kernel
theorem d_Mo_operator_38 : decode prog_11_method_13_code 38 = .ok (.iaload, 1) := by decide +kernel
theorem d_Mo_operator_39 : decode prog_11_method_13_code 39 = .ok (.iastore, 1) := by decide +kernel
theorem d_Mo_operator_40 : decode prog_11_method_13_code 40 = .ok (.aload_n 0, 1) := by decide +kernel
theorem d_Mo_operator_41 : decode prog_11_method_13_code 41 = .ok (.getfield 62, 3) := by decide +kernel
theorem d_Mo_operator_44 : decode prog_11_method_13_code 44 = .ok (.aload_n 0, 1) := by decide +kernel
theorem d_Mo_operator_45 : decode prog_11_method_13_code 45 = .ok (.getfield 174, 3) := by decide +kernel
theorem d_Mo_operator_48 : decode prog_11_method_13_code 48 = .ok (.iaload, 1) := by decide +kernel
theorem d_Mo_operator_49 : decode prog_11_method_13_code 49 = .ok (.bipush 61, 2) := by decide +kernel
theorem d_Mo_operator_51 : decode prog_11_method_13_code 51 = .ok (.if_icmp .eq 45, 3) := by decide +kernel
theorem d_Mo_operator_54 : decode prog_11_method_13_code 54 = .ok (.aload_n 0, 1) := by decide +kernel
theorem d_Mo_operator_55 : decode prog_11_method_13_code 55 = .ok (.getfield 62, 3) := by decide +kernel
theorem d_Mo_operator_58 : decode prog_11_method_13_code 58 = .ok (.aload_n 0, 1) := by decide +kernel
theorem d_Mo_operator_59 : decode prog_11_method_13_code 59 = .ok (.getfield 174, 3) := by decide +kernel
theorem d_Mo_operator_62 : decode prog_11_method_13_code 62 = .ok (.iaload, 1) := by decide +kernel
theorem d_Mo_operator_63 : decode prog_11_method_13_code 63 = .ok (.bipush 60, 2) := by decide +kernel
theorem d_Mo_operator_65 : decode prog_11_method_13_code 65 = .ok (.if_icmp .eq 31, 3) := by decide +kernel
theorem d_Mo_operator_68 : decode prog_11_method_13_code 68 = .ok (.aload_n 0, 1) := by decide +kernel
theorem d_Mo_operator_69 : decode prog_11_method_13_code 69 = .ok (.getfield 62, 3) := by decide +kernel
theorem d_Mo_operator_72 : decode prog_11_method_13_code 72 = .ok (.aload_n 0, 1) := by decide +kernel
theorem d_Mo_operator_73 : decode prog_11_method_13_code 73 = .ok (.getfield 174, 3) := by decide +kernel
theorem d_Mo_operator_76 : decode prog_11_method_13_code 76 = .ok (.iaload, 1) := by decide +kernel
theorem d_Mo_operator_77 : decode prog_11_method_13_code 77 = .ok (.bipush 62, 2) := by decide +kernel
theorem d_Mo_operator_79 : decode prog_11_method_13_code 79 = .ok (.if_icmp .eq 17, 3) := by decide +kernel
theorem d_Mo_operator_82 : decode prog_11_method_13_code 82 = .ok (.aload_n 0, 1) := by decide +kernel
theorem d_Mo_operator_83 : decode prog_11_method_13_code 83 = .ok (.getfield 62, 3) := by decide +kernel
theorem d_Mo_operator_86 : decode prog_11_method_13_code 86 = .ok (.aload_n 0, 1) := by decide +kernel
theorem d_Mo_operator_87 : decode prog_11_method_13_code 87 = .ok (.getfield 174, 3) := by decide +kernel
theorem d_Mo_operator_90 : decode prog_11_method_13_code 90 = .ok (.iaload, 1) := by decide +kernel
theorem d_Mo_operator_91 : decode prog_11_method_13_code 91 = .ok (.bipush 33, 2) := by decide +kernel
theorem d_Mo_operator_93 : decode prog_11_method_13_code 93 = .ok (.if_icmp .ne 7, 3) := by decide +kernel
theorem d_Mo_operator_96 : decode prog_11_method_13_code 96 = .ok (.iconst 1, 1) := by decide +kernel
theorem d_Mo_operator_97 : decode prog_11_method_13_code 97 = .ok (.goto 4, 3) := by decide +kernel
theorem d_Mo_operator_100 : decode prog_11_method_13_code 100 = .ok (.iconst 0, 1) := by decide +kernel
theorem d_Mo_operator_101 : decode prog_11_method_13_code 101 = .ok (.ireturn, 1) := by decide +kernel
abbrev m_Mo_block : MethodName × ByteArray × Nat × Option FieldType := (⟨"TestTextModel", "block", "()Z"⟩, prog_11_method_17_code, 2, (Option.some FieldType.boolean))
theorem d_Mo_block_0 : decode prog_11_method_17_code 0 = .ok (.aload_n 0, 1) := by decide +kernel
theorem d_Mo_block_1 : decode prog_11_method_17_code 1 = .ok (.bipush 108, 2) := by decide +kernel
theorem d_Mo_block_3 : decode prog_11_method_17_code 3 = .ok (.bipush 111, 2) := by decide +kernel
theorem d_Mo_block_5 : decode prog_11_method_17_code 5 = .ok (.bipush 111, 2) := by decide +kernel
theorem d_Mo_block_7 : decode prog_11_method_17_code 7 = .ok (.bipush 112, 2) := by decide +kernel
theorem d_Mo_block_9 : decode prog_11_method_17_code 9 = .ok (.iconst 0, 1) := by decide +kernel
theorem d_Mo_block_10 : decode prog_11_method_17_code 10 = .ok (.iconst 0, 1) := by decide +kernel
theorem d_Mo_block_11 : decode prog_11_method_17_code 11 = .ok (.invokevirtual 177, 3) := by decide +kernel
theorem d_Mo_block_14 : decode prog_11_method_17_code 14 = .ok (.ifCond .eq 45, 3) := by decide +kernel
theorem d_Mo_block_17 : decode prog_11_method_17_code 17 = .ok (.aload_n 0, 1) := by decide +kernel
theorem d_Mo_block_18 : decode prog_11_method_17_code 18 = .ok (.getfield 47, 3) := by decide +kernel
theorem d_Mo_block_21 : decode prog_11_method_17_code 21 = .ok (.aload_n 0, 1) := by decide +kernel
theorem d_Mo_block_22 : decode prog_11_method_17_code 22 = .ok (.getfield 174, 3) := by decide +kernel
theorem d_Mo_block_25 : decode prog_11_method_17_code 25 = .ok (.iconst 5, 1) := by decide +kernel
theorem d_Mo_block_26 : decode prog_11_method_17_code 26 = .ok (.iastore, 1) := by decide +kernel
theorem d_Mo_block_27 : decode prog_11_method_17_code 27 = .ok (.aload_n 0, 1) := by decide +kernel
theorem d_Mo_block_28 : decode prog_11_method_17_code 28 = .ok (.lconst 1, 1) := by decide +kernel
theorem d_Mo_block_29 : decode prog_11_method_17_code 29 = .ok (.ldc2_w 218, 3) := by decide +kernel
theorem d_Mo_block_32 : decode prog_11_method_17_code 32 = .ok (.invokevirtual 203, 3) := by decide +kernel
theorem d_Mo_block_35 : decode prog_11_method_17_code 35 = .ok (.ifCond .ne 5, 3) := by decide +kernel
theorem d_Mo_block_38 : decode prog_11_method_17_code 38 = .ok (.iconst 0, 1) := by decide +kernel
theorem d_Mo_block_39 : decode prog_11_method_17_code 39 = .ok (.ireturn, 1) := by decide +kernel
theorem d_Mo_block_40 : decode prog_11_method_17_code 40 = .ok (.aload_n 0, 1) := by decide +kernel
theorem d_Mo_block_41 : decode prog_11_method_17_code 41 = .ok (.getfield 65, 3) := by decide +kernel
theorem d_Mo_block_44 : decode prog_11_method_17_code 44 = .ok (.aload_n 0, 1) := by decide +kernel
theorem d_Mo_block_45 : decode prog_11_method_17_code 45 = .ok (.getfield 174, 3) := by decide +kernel
theorem d_Mo_block_48 : decode prog_11_method_17_code 48 = .ok (.aload_n 0, 1) := by decide +kernel
theorem d_Mo_block_49 : decode prog_11_method_17_code 49 = .ok (.getfield 150, 3) := by decide +kernel
theorem d_Mo_block_52 : decode prog_11_method_17_code 52 = .ok (.l2i, 1) := by decide +kernel
theorem d_Mo_block_53 : decode prog_11_method_17_code 53 = .ok (.iastore, 1) := by decide +kernel
theorem d_Mo_block_54 : decode prog_11_method_17_code 54 = .ok (.aload_n 0, 1) := by decide +kernel
theorem d_Mo_block_55 : decode prog_11_method_17_code 55 = .ok (.invokevirtual 184, 3) := by decide +kernel
theorem d_Mo_block_58 : decode prog_11_method_17_code 58 = .ok (.ireturn, 1) := by decide +kernel
theorem d_Mo_block_59 : decode prog_11_method_17_code 59 = .ok (.aload_n 0, 1) := by decide +kernel
theorem d_Mo_block_60 : decode prog_11_method_17_code 60 = .ok (.bipush 97, 2) := by decide +kernel
theorem d_Mo_block_62 : decode prog_11_method_17_code 62 = .ok (.bipush 108, 2) := by decide +kernel
theorem d_Mo_block_64 : decode prog_11_method_17_code 64 = .ok (.bipush 119, 2) := by decide +kernel
theorem d_Mo_block_66 : decode prog_11_method_17_code 66 = .ok (.bipush 97, 2) := by decide +kernel
theorem d_Mo_block_68 : decode prog_11_method_17_code 68 = .ok (.bipush 121, 2) := by decide +kernel
theorem d_Mo_block_70 : decode prog_11_method_17_code 70 = .ok (.bipush 115, 2) := by decide +kernel
theorem d_Mo_block_72 : decode prog_11_method_17_code 72 = .ok (.invokevirtual 177, 3) := by decide +kernel
theorem d_Mo_block_75 : decode prog_11_method_17_code 75 = .ok (.ifCond .eq 53, 3) := by decide +kernel
theorem d_Mo_block_78 : decode prog_11_method_17_code 78 = .ok (.aload_n 0, 1) := by decide +kernel
theorem d_Mo_block_79 : decode prog_11_method_17_code 79 = .ok (.getfield 47, 3) := by decide +kernel
theorem d_Mo_block_82 : decode prog_11_method_17_code 82 = .ok (.aload_n 0, 1) := by decide +kernel
theorem d_Mo_block_83 : decode prog_11_method_17_code 83 = .ok (.getfield 174, 3) := by decide +kernel
theorem d_Mo_block_86 : decode prog_11_method_17_code 86 = .ok (.bipush 7, 2) := by decide +kernel
theorem d_Mo_block_88 : decode prog_11_method_17_code 88 = .ok (.iastore, 1) := by decide +kernel
theorem d_Mo_block_89 : decode prog_11_method_17_code 89 = .ok (.aload_n 0, 1) := by decide +kernel
theorem d_Mo_block_90 : decode prog_11_method_17_code 90 = .ok (.getfield 190, 3) := by decide +kernel
theorem d_Mo_block_93 : decode prog_11_method_17_code 93 = .ok (.ifCond .gt 15, 3) := by decide +kernel
theorem d_Mo_block_96 : decode prog_11_method_17_code 96 = .ok (.aload_n 0, 1) := by decide +kernel
theorem d_Mo_block_97 : decode prog_11_method_17_code 97 = .ok (.getfield 31, 3) := by decide +kernel
theorem d_Mo_block_100 : decode prog_11_method_17_code 100 = .ok (.aload_n 0, 1) := by decide +kernel
theorem d_Mo_block_101 : decode prog_11_method_17_code 101 = .ok (.getfield 171, 3) := by decide +kernel
theorem d_Mo_block_104 : decode prog_11_method_17_code 104 = .ok (.iaload, 1) := by decide +kernel
theorem d_Mo_block_105 : decode prog_11_method_17_code 105 = .ok (.ifCond .lt 5, 3) := by decide +kernel
theorem d_Mo_block_108 : decode prog_11_method_17_code 108 = .ok (.iconst 0, 1) := by decide +kernel
theorem d_Mo_block_109 : decode prog_11_method_17_code 109 = .ok (.ireturn, 1) := by decide +kernel
theorem d_Mo_block_110 : decode prog_11_method_17_code 110 = .ok (.aload_n 0, 1) := by decide +kernel
theorem d_Mo_block_111 : decode prog_11_method_17_code 111 = .ok (.getfield 31, 3) := by decide +kernel
theorem d_Mo_block_114 : decode prog_11_method_17_code 114 = .ok (.aload_n 0, 1) := by decide +kernel
theorem d_Mo_block_115 : decode prog_11_method_17_code 115 = .ok (.getfield 171, 3) := by decide +kernel
theorem d_Mo_block_118 : decode prog_11_method_17_code 118 = .ok (.aload_n 0, 1) := by decide +kernel
theorem d_Mo_block_119 : decode prog_11_method_17_code 119 = .ok (.getfield 174, 3) := by decide +kernel
theorem d_Mo_block_122 : decode prog_11_method_17_code 122 = .ok (.iastore, 1) := by decide +kernel
theorem d_Mo_block_123 : decode prog_11_method_17_code 123 = .ok (.aload_n 0, 1) := by decide +kernel
theorem d_Mo_block_124 : decode prog_11_method_17_code 124 = .ok (.invokevirtual 184, 3) := by decide +kernel
theorem d_Mo_block_127 : decode prog_11_method_17_code 127 = .ok (.ireturn, 1) := by decide +kernel
theorem d_Mo_block_128 : decode prog_11_method_17_code 128 = .ok (.aload_n 0, 1) := by decide +kernel
theorem d_Mo_block_129 : decode prog_11_method_17_code 129 = .ok (.bipush 99, 2) := by decide +kernel
theorem d_Mo_block_131 : decode prog_11_method_17_code 131 = .ok (.bipush 97, 2) := by decide +kernel
theorem d_Mo_block_133 : decode prog_11_method_17_code 133 = .ok (.bipush 115, 2) := by decide +kernel
theorem d_Mo_block_135 : decode prog_11_method_17_code 135 = .ok (.bipush 101, 2) := by decide +kernel
theorem d_Mo_block_137 : decode prog_11_method_17_code 137 = .ok (.bipush 115, 2) := by decide +kernel
theorem d_Mo_block_139 : decode prog_11_method_17_code 139 = .ok (.iconst 0, 1) := by decide +kernel
theorem d_Mo_block_140 : decode prog_11_method_17_code 140 = .ok (.invokevirtual 177, 3) := by decide +kernel
theorem d_Mo_block_143 : decode prog_11_method_17_code 143 = .ok (.ifCond .ne 5, 3) := by decide +kernel
theorem d_Mo_block_146 : decode prog_11_method_17_code 146 = .ok (.iconst 0, 1) := by decide +kernel
theorem d_Mo_block_147 : decode prog_11_method_17_code 147 = .ok (.ireturn, 1) := by decide +kernel
theorem d_Mo_block_148 : decode prog_11_method_17_code 148 = .ok (.aload_n 0, 1) := by decide +kernel
theorem d_Mo_block_149 : decode prog_11_method_17_code 149 = .ok (.getfield 47, 3) := by decide +kernel
theorem d_Mo_block_152 : decode prog_11_method_17_code 152 = .ok (.aload_n 0, 1) := by decide +kernel
theorem d_Mo_block_153 : decode prog_11_method_17_code 153 = .ok (.getfield 174, 3) := by decide +kernel
theorem d_Mo_block_156 : decode prog_11_method_17_code 156 = .ok (.bipush 6, 2) := by decide +kernel
theorem d_Mo_block_158 : decode prog_11_method_17_code 158 = .ok (.iastore, 1) := by decide +kernel
theorem d_Mo_block_159 : decode prog_11_method_17_code 159 = .ok (.aload_n 0, 1) := by decide +kernel
theorem d_Mo_block_160 : decode prog_11_method_17_code 160 = .ok (.invokevirtual 196, 3) := by decide +kernel
theorem d_Mo_block_163 : decode prog_11_method_17_code 163 = .ok (.ifCond .ne 5, 3) := by decide +kernel
theorem d_Mo_block_166 : decode prog_11_method_17_code 166 = .ok (.iconst 0, 1) := by decide +kernel
theorem d_Mo_block_167 : decode prog_11_method_17_code 167 = .ok (.ireturn, 1) := by decide +kernel
theorem d_Mo_block_168 : decode prog_11_method_17_code 168 = .ok (.aload_n 0, 1) := by decide +kernel
theorem d_Mo_block_169 : decode prog_11_method_17_code 169 = .ok (.getfield 71, 3) := by decide +kernel
theorem d_Mo_block_172 : decode prog_11_method_17_code 172 = .ok (.aload_n 0, 1) := by decide +kernel
theorem d_Mo_block_173 : decode prog_11_method_17_code 173 = .ok (.getfield 174, 3) := by decide +kernel
theorem d_Mo_block_176 : decode prog_11_method_17_code 176 = .ok (.aload_n 0, 1) := by decide +kernel
theorem d_Mo_block_177 : decode prog_11_method_17_code 177 = .ok (.getfield 220, 3) := by decide +kernel
theorem d_Mo_block_180 : decode prog_11_method_17_code 180 = .ok (.iastore, 1) := by decide +kernel
theorem d_Mo_block_181 : decode prog_11_method_17_code 181 = .ok (.aload_n 0, 1) := by decide +kernel
theorem d_Mo_block_182 : decode prog_11_method_17_code 182 = .ok (.getfield 65, 3) := by decide +kernel
theorem d_Mo_block_185 : decode prog_11_method_17_code 185 = .ok (.aload_n 0, 1) := by decide +kernel
theorem d_Mo_block_186 : decode prog_11_method_17_code 186 = .ok (.getfield 174, 3) := by decide +kernel
theorem d_Mo_block_189 : decode prog_11_method_17_code 189 = .ok (.iconst 0, 1) := by decide +kernel
theorem d_Mo_block_190 : decode prog_11_method_17_code 190 = .ok (.iastore, 1) := by decide +kernel
theorem d_Mo_block_191 : decode prog_11_method_17_code 191 = .ok (.aload_n 0, 1) := by decide +kernel
theorem d_Mo_block_192 : decode prog_11_method_17_code 192 = .ok (.getfield 65, 3) := by decide +kernel
theorem d_Mo_block_195 : decode prog_11_method_17_code 195 = .ok (.aload_n 0, 1) := by decide +kernel
theorem d_Mo_block_196 : decode prog_11_method_17_code 196 = .ok (.getfield 174, 3) := by decide +kernel
theorem d_Mo_block_199 : decode prog_11_method_17_code 199 = .ok (.iaload, 1) := by decide +kernel
theorem d_Mo_block_200 : decode prog_11_method_17_code 200 = .ok (.bipush 10, 2) := by decide +kernel
theorem d_Mo_block_202 : decode prog_11_method_17_code 202 = .ok (.if_icmp .ge 55, 3) := by decide +kernel
theorem d_Mo_block_205 : decode prog_11_method_17_code 205 = .ok (.aload_n 0, 1) := by decide +kernel
theorem d_Mo_block_206 : decode prog_11_method_17_code 206 = .ok (.ldc2_w 199, 3) := by decide +kernel
theorem d_Mo_block_209 : decode prog_11_method_17_code 209 = .ok (.ldc2_w 201, 3) := by decide +kernel
theorem d_Mo_block_212 : decode prog_11_method_17_code 212 = .ok (.invokevirtual 203, 3) := by decide +kernel
theorem d_Mo_block_215 : decode prog_11_method_17_code 215 = .ok (.ifCond .eq 42, 3) := by decide +kernel
theorem d_Mo_block_218 : decode prog_11_method_17_code 218 = .ok (.aload_n 0, 1) := by decide +kernel
theorem d_Mo_block_219 : decode prog_11_method_17_code 219 = .ok (.getfield 78, 3) := by decide +kernel
theorem d_Mo_block_222 : decode prog_11_method_17_code 222 = .ok (.aload_n 0, 1) := by decide +kernel
theorem d_Mo_block_223 : decode prog_11_method_17_code 223 = .ok (.getfield 220, 3) := by decide +kernel
theorem d_Mo_block_226 : decode prog_11_method_17_code 226 = .ok (.aload_n 0, 1) := by decide +kernel
theorem d_Mo_block_227 : decode prog_11_method_17_code 227 = .ok (.getfield 150, 3) := by decide +kernel
theorem d_Mo_block_230 : decode prog_11_method_17_code 230 = .ok (.lastore, 1) := by decide +kernel
theorem d_Mo_block_231 : decode prog_11_method_17_code 231 = .ok (.aload_n 0, 1) := by decide +kernel
theorem d_Mo_block_232 : decode prog_11_method_17_code 232 = .ok (.dup, 1) := by decide +kernel
theorem d_Mo_block_233 : decode prog_11_method_17_code 233 = .ok (.getfield 220, 3) := by decide +kernel
theorem d_Mo_block_236 : decode prog_11_method_17_code 236 = .ok (.iconst 1, 1) := by decide +kernel
theorem d_Mo_block_237 : decode prog_11_method_17_code 237 = .ok (.iadd, 1) := by decide +kernel
theorem d_Mo_block_238 : decode prog_11_method_17_code 238 = .ok (.putfield 220, 3) := by decide +kernel
theorem d_Mo_block_241 : decode prog_11_method_17_code 241 = .ok (.aload_n 0, 1) := by decide +kernel
theorem d_Mo_block_242 : decode prog_11_method_17_code 242 = .ok (.getfield 65, 3) := by decide +kernel
theorem d_Mo_block_245 : decode prog_11_method_17_code 245 = .ok (.aload_n 0, 1) := by decide +kernel
theorem d_Mo_block_246 : decode prog_11_method_17_code 246 = .ok (.getfield 174, 3) := by decide +kernel
theorem d_Mo_block_249 : decode prog_11_method_17_code 249 = .ok (.dup2, 1) := by decide +kernel
theorem d_Mo_block_250 : decode prog_11_method_17_code 250 = .ok (.iaload, 1) := by decide +kernel
theorem d_Mo_block_251 : decode prog_11_method_17_code 251 = .ok (.iconst 1, 1) := by decide +kernel
theorem d_Mo_block_252 : decode prog_11_method_17_code 252 = .ok (.iadd, 1) := by decide +kernel
theorem d_Mo_block_253 : decode prog_11_method_17_code 253 = .ok (.iastore, 1) := by decide +kernel
theorem d_Mo_block_254 : decode prog_11_method_17_code 254 = .ok (.goto (-63), 3) := by decide +kernel
theorem d_Mo_block_257 : decode prog_11_method_17_code 257 = .ok (.aload_n 0, 1) := by decide +kernel
theorem d_Mo_block_258 : decode prog_11_method_17_code 258 = .ok (.getfield 65, 3) := by decide +kernel
theorem d_Mo_block_261 : decode prog_11_method_17_code 261 = .ok (.aload_n 0, 1) := by decide +kernel
theorem d_Mo_block_262 : decode prog_11_method_17_code 262 = .ok (.getfield 174, 3) := by decide +kernel
theorem d_Mo_block_265 : decode prog_11_method_17_code 265 = .ok (.iaload, 1) := by decide +kernel
theorem d_Mo_block_266 : decode prog_11_method_17_code 266 = .ok (.bipush 10, 2) := by decide +kernel
theorem d_Mo_block_268 : decode prog_11_method_17_code 268 = .ok (.if_icmp .ne 10, 3) := by decide +kernel
theorem d_Mo_block_271 : decode prog_11_method_17_code 271 = .ok (.aload_n 0, 1) := by decide +kernel
theorem d_Mo_block_272 : decode prog_11_method_17_code 272 = .ok (.invokevirtual 184, 3) := by decide +kernel
theorem d_Mo_block_275 : decode prog_11_method_17_code 275 = .ok (.goto 19, 3) := by decide +kernel
theorem d_Mo_block_278 : decode prog_11_method_17_code 278 = .ok (.aload_n 0, 1) := by decide +kernel
theorem d_Mo_block_279 : decode prog_11_method_17_code 279 = .ok (.getfield 143, 3) := by decide +kernel
theorem d_Mo_block_282 : decode prog_11_method_17_code 282 = .ok (.aload_n 0, 1) := by decide +kernel
theorem d_Mo_block_283 : decode prog_11_method_17_code 283 = .ok (.getfield 140, 3) := by decide +kernel
theorem d_Mo_block_286 : decode prog_11_method_17_code 286 = .ok (.if_icmp .ne 7, 3) := by decide +kernel
theorem d_Mo_block_289 : decode prog_11_method_17_code 289 = .ok (.iconst 1, 1) := by decide +kernel
theorem d_Mo_block_290 : decode prog_11_method_17_code 290 = .ok (.goto 4, 3) := by decide +kernel
theorem d_Mo_block_293 : decode prog_11_method_17_code 293 = .ok (.iconst 0, 1) := by decide +kernel
theorem d_Mo_block_294 : decode prog_11_method_17_code 294 = .ok (.istore_n 1, 1) := by decide +kernel
theorem d_Mo_block_295 : decode prog_11_method_17_code 295 = .ok (.iload_n 1, 1) := by decide +kernel
theorem d_Mo_block_296 : decode prog_11_method_17_code 296 = .ok (.ifCond .eq 19, 3) := by decide +kernel
theorem d_Mo_block_299 : decode prog_11_method_17_code 299 = .ok (.aload_n 0, 1) := by decide +kernel
theorem d_Mo_block_300 : decode prog_11_method_17_code 300 = .ok (.getfield 65, 3) := by decide +kernel
theorem d_Mo_block_303 : decode prog_11_method_17_code 303 = .ok (.aload_n 0, 1) := by decide +kernel
theorem d_Mo_block_304 : decode prog_11_method_17_code 304 = .ok (.getfield 174, 3) := by decide +kernel
theorem d_Mo_block_307 : decode prog_11_method_17_code 307 = .ok (.iaload, 1) := by decide +kernel
theorem d_Mo_block_308 : decode prog_11_method_17_code 308 = .ok (.ifCond .le 7, 3) := by decide +kernel
theorem d_Mo_block_311 : decode prog_11_method_17_code 311 = .ok (.iconst 1, 1) := by decide +kernel
theorem d_Mo_block_312 : decode prog_11_method_17_code 312 = .ok (.goto 4, 3) := by decide +kernel
theorem d_Mo_block_315 : decode prog_11_method_17_code 315 = .ok (.iconst 0, 1) := by decide +kernel
theorem d_Mo_block_316 : decode prog_11_method_17_code 316 = .ok (.ireturn, 1) := by decide +kernel
abbrev m_Mo_wrong : MethodName × ByteArray × Nat × Option FieldType := (⟨"TestTextModel", "wrong", "()I"⟩, prog_11_method_20_code, 1, (Option.some FieldType.int))
theorem d_Mo_wrong_0 : decode prog_11_method_20_code 0 = .ok (.aload_n 0, 1) := by decide +kernel
theorem d_Mo_wrong_1 : decode prog_11_method_20_code 1 = .ok (.iconst 0, 1) := by decide +kernel
theorem d_Mo_wrong_2 : decode prog_11_method_20_code 2 = .ok (.putfield 127, 3) := by decide +kernel
theorem d_Mo_wrong_5 : decode prog_11_method_20_code 5 = .ok (.aload_n 0, 1) := by decide +kernel
theorem d_Mo_wrong_6 : decode prog_11_method_20_code 6 = .ok (.getfield 238, 3) := by decide +kernel
theorem d_Mo_wrong_9 : decode prog_11_method_20_code 9 = .ok (.ireturn, 1) := by decide +kernel
abbrev m_Mo_answer : MethodName × ByteArray × Nat × Option FieldType := (⟨"TestTextModel", "answer", "(IJJ)I"⟩, prog_11_method_21_code, 6, (Option.some FieldType.int))
theorem d_Mo_answer_0 : decode prog_11_method_21_code 0 = .ok (.aload_n 0, 1) := by decide +kernel
theorem d_Mo_answer_1 : decode prog_11_method_21_code 1 = .ok (.iconst 0, 1) := by decide +kernel
theorem d_Mo_answer_2 : decode prog_11_method_21_code 2 = .ok (.putfield 127, 3) := by decide +kernel
theorem d_Mo_answer_5 : decode prog_11_method_21_code 5 = .ok (.iload_n 1, 1) := by decide +kernel
theorem d_Mo_answer_6 : decode prog_11_method_21_code 6 = .ok (.iconst 1, 1) := by decide +kernel
theorem d_Mo_answer_7 : decode prog_11_method_21_code 7 = .ok (.if_icmp .lt 11, 3) := by decide +kernel
theorem d_Mo_answer_10 : decode prog_11_method_21_code 10 = .ok (.iload_n 1, 1) := by decide +kernel
theorem d_Mo_answer_11 : decode prog_11_method_21_code 11 = .ok (.aload_n 0, 1) := by decide +kernel
theorem d_Mo_answer_12 : decode prog_11_method_21_code 12 = .ok (.getfield 157, 3) := by decide +kernel
theorem d_Mo_answer_15 : decode prog_11_method_21_code 15 = .ok (.if_icmp .le 5, 3) := by decide +kernel
theorem d_Mo_answer_18 : decode prog_11_method_21_code 18 = .ok (.iconst (-1), 1) := by decide +kernel
theorem d_Mo_answer_19 : decode prog_11_method_21_code 19 = .ok (.ireturn, 1) := by decide +kernel
theorem d_Mo_answer_20 : decode prog_11_method_21_code 20 = .ok (.lload_n 2, 1) := by decide +kernel
theorem d_Mo_answer_21 : decode prog_11_method_21_code 21 = .ok (.ldc2_w 199, 3) := by decide +kernel
theorem d_Mo_answer_24 : decode prog_11_method_21_code 24 = .ok (.lcmp, 1) := by decide +kernel
theorem d_Mo_answer_25 : decode prog_11_method_21_code 25 = .ok (.ifCond .lt 27, 3) := by decide +kernel
theorem d_Mo_answer_28 : decode prog_11_method_21_code 28 = .ok (.lload_n 2, 1) := by decide +kernel
theorem d_Mo_answer_29 : decode prog_11_method_21_code 29 = .ok (.ldc2_w 201, 3) := by decide +kernel
theorem d_Mo_answer_32 : decode prog_11_method_21_code 32 = .ok (.lcmp, 1) := by decide +kernel
theorem d_Mo_answer_33 : decode prog_11_method_21_code 33 = .ok (.ifCond .gt 19, 3) := by decide +kernel
theorem d_Mo_answer_36 : decode prog_11_method_21_code 36 = .ok (.lload 4, 2) := by decide +kernel
theorem d_Mo_answer_38 : decode prog_11_method_21_code 38 = .ok (.lconst 0, 1) := by decide +kernel
theorem d_Mo_answer_39 : decode prog_11_method_21_code 39 = .ok (.lcmp, 1) := by decide +kernel
theorem d_Mo_answer_40 : decode prog_11_method_21_code 40 = .ok (.ifCond .lt 12, 3) := by decide +kernel
theorem d_Mo_answer_43 : decode prog_11_method_21_code 43 = .ok (.lload 4, 2) := by decide +kernel
theorem d_Mo_answer_45 : decode prog_11_method_21_code 45 = .ok (.ldc2_w 241, 3) := by decide +kernel
theorem d_Mo_answer_48 : decode prog_11_method_21_code 48 = .ok (.lcmp, 1) := by decide +kernel
theorem d_Mo_answer_49 : decode prog_11_method_21_code 49 = .ok (.ifCond .le 6, 3) := by decide +kernel
theorem d_Mo_answer_52 : decode prog_11_method_21_code 52 = .ok (.bipush (-2), 2) := by decide +kernel
theorem d_Mo_answer_54 : decode prog_11_method_21_code 54 = .ok (.ireturn, 1) := by decide +kernel
theorem d_Mo_answer_55 : decode prog_11_method_21_code 55 = .ok (.aload_n 0, 1) := by decide +kernel
theorem d_Mo_answer_56 : decode prog_11_method_21_code 56 = .ok (.getfield 229, 3) := by decide +kernel
theorem d_Mo_answer_59 : decode prog_11_method_21_code 59 = .ok (.sipush 200, 3) := by decide +kernel
theorem d_Mo_answer_62 : decode prog_11_method_21_code 62 = .ok (.if_icmp .ne 6, 3) := by decide +kernel
theorem d_Mo_answer_65 : decode prog_11_method_21_code 65 = .ok (.bipush (-4), 2) := by decide +kernel
theorem d_Mo_answer_67 : decode prog_11_method_21_code 67 = .ok (.ireturn, 1) := by decide +kernel
theorem d_Mo_answer_68 : decode prog_11_method_21_code 68 = .ok (.aload_n 0, 1) := by decide +kernel
theorem d_Mo_answer_69 : decode prog_11_method_21_code 69 = .ok (.getfield 84, 3) := by decide +kernel
theorem d_Mo_answer_72 : decode prog_11_method_21_code 72 = .ok (.aload_n 0, 1) := by decide +kernel
theorem d_Mo_answer_73 : decode prog_11_method_21_code 73 = .ok (.getfield 229, 3) := by decide +kernel
theorem d_Mo_answer_76 : decode prog_11_method_21_code 76 = .ok (.iload_n 1, 1) := by decide +kernel
theorem d_Mo_answer_77 : decode prog_11_method_21_code 77 = .ok (.iastore, 1) := by decide +kernel
theorem d_Mo_answer_78 : decode prog_11_method_21_code 78 = .ok (.aload_n 0, 1) := by decide +kernel
theorem d_Mo_answer_79 : decode prog_11_method_21_code 79 = .ok (.getfield 87, 3) := by decide +kernel
theorem d_Mo_answer_82 : decode prog_11_method_21_code 82 = .ok (.aload_n 0, 1) := by decide +kernel
theorem d_Mo_answer_83 : decode prog_11_method_21_code 83 = .ok (.getfield 229, 3) := by decide +kernel
theorem d_Mo_answer_86 : decode prog_11_method_21_code 86 = .ok (.lload_n 2, 1) := by decide +kernel
theorem d_Mo_answer_87 : decode prog_11_method_21_code 87 = .ok (.lastore, 1) := by decide +kernel
theorem d_Mo_answer_88 : decode prog_11_method_21_code 88 = .ok (.aload_n 0, 1) := by decide +kernel
theorem d_Mo_answer_89 : decode prog_11_method_21_code 89 = .ok (.getfield 90, 3) := by decide +kernel
theorem d_Mo_answer_92 : decode prog_11_method_21_code 92 = .ok (.aload_n 0, 1) := by decide +kernel
theorem d_Mo_answer_93 : decode prog_11_method_21_code 93 = .ok (.getfield 229, 3) := by decide +kernel
theorem d_Mo_answer_96 : decode prog_11_method_21_code 96 = .ok (.lload 4, 2) := by decide +kernel
theorem d_Mo_answer_98 : decode prog_11_method_21_code 98 = .ok (.lastore, 1) := by decide +kernel
theorem d_Mo_answer_99 : decode prog_11_method_21_code 99 = .ok (.aload_n 0, 1) := by decide +kernel
theorem d_Mo_answer_100 : decode prog_11_method_21_code 100 = .ok (.dup, 1) := by decide +kernel
theorem d_Mo_answer_101 : decode prog_11_method_21_code 101 = .ok (.getfield 229, 3) := by decide +kernel
theorem d_Mo_answer_104 : decode prog_11_method_21_code 104 = .ok (.iconst 1, 1) := by decide +kernel
theorem d_Mo_answer_105 : decode prog_11_method_21_code 105 = .ok (.iadd, 1) := by decide +kernel
theorem d_Mo_answer_106 : decode prog_11_method_21_code 106 = .ok (.putfield 229, 3) := by decide +kernel
theorem d_Mo_answer_109 : decode prog_11_method_21_code 109 = .ok (.aload_n 0, 1) := by decide +kernel
theorem d_Mo_answer_110 : decode prog_11_method_21_code 110 = .ok (.getfield 229, 3) := by decide +kernel
theorem d_Mo_answer_113 : decode prog_11_method_21_code 113 = .ok (.ireturn, 1) := by decide +kernel
abbrev m_Mo_run : MethodName × ByteArray × Nat × Option FieldType := (⟨"TestTextModel", "run", "()I"⟩, prog_11_method_32_code, 3, (Option.some FieldType.int))
theorem d_Mo_run_0 : decode prog_11_method_32_code 0 = .ok (.aload_n 0, 1) := by decide +kernel
theorem d_Mo_run_1 : decode prog_11_method_32_code 1 = .ok (.iconst 0, 1) := by decide +kernel
theorem d_Mo_run_2 : decode prog_11_method_32_code 2 = .ok (.putfield 127, 3) := by decide +kernel
theorem d_Mo_run_5 : decode prog_11_method_32_code 5 = .ok (.aload_n 0, 1) := by decide +kernel
theorem d_Mo_run_6 : decode prog_11_method_32_code 6 = .ok (.getfield 171, 3) := by decide +kernel
theorem d_Mo_run_9 : decode prog_11_method_32_code 9 = .ok (.ifCond .ne 6, 3) := by decide +kernel
theorem d_Mo_run_12 : decode prog_11_method_32_code 12 = .ok (.bipush (-3), 2) := by decide +kernel
theorem d_Mo_run_14 : decode prog_11_method_32_code 14 = .ok (.ireturn, 1) := by decide +kernel
theorem d_Mo_run_15 : decode prog_11_method_32_code 15 = .ok (.aload_n 0, 1) := by decide +kernel
theorem d_Mo_run_16 : decode prog_11_method_32_code 16 = .ok (.getfield 232, 3) := by decide +kernel
theorem d_Mo_run_19 : decode prog_11_method_32_code 19 = .ok (.bipush 8, 2) := by decide +kernel
theorem d_Mo_run_21 : decode prog_11_method_32_code 21 = .ok (.if_icmp .ne 6, 3) := by decide +kernel
theorem d_Mo_run_24 : decode prog_11_method_32_code 24 = .ok (.bipush (-4), 2) := by decide +kernel
theorem d_Mo_run_26 : decode prog_11_method_32_code 26 = .ok (.ireturn, 1) := by decide +kernel
theorem d_Mo_run_27 : decode prog_11_method_32_code 27 = .ok (.aload_n 0, 1) := by decide +kernel
theorem d_Mo_run_28 : decode prog_11_method_32_code 28 = .ok (.getfield 100, 3) := by decide +kernel
theorem d_Mo_run_31 : decode prog_11_method_32_code 31 = .ok (.aload_n 0, 1) := by decide +kernel
theorem d_Mo_run_32 : decode prog_11_method_32_code 32 = .ok (.getfield 232, 3) := by decide +kernel
theorem d_Mo_run_35 : decode prog_11_method_32_code 35 = .ok (.iconst 0, 1) := by decide +kernel
theorem d_Mo_run_36 : decode prog_11_method_32_code 36 = .ok (.iastore, 1) := by decide +kernel
theorem d_Mo_run_37 : decode prog_11_method_32_code 37 = .ok (.aload_n 0, 1) := by decide +kernel
theorem d_Mo_run_38 : decode prog_11_method_32_code 38 = .ok (.dup, 1) := by decide +kernel
theorem d_Mo_run_39 : decode prog_11_method_32_code 39 = .ok (.getfield 232, 3) := by decide +kernel
theorem d_Mo_run_42 : decode prog_11_method_32_code 42 = .ok (.iconst 1, 1) := by decide +kernel
theorem d_Mo_run_43 : decode prog_11_method_32_code 43 = .ok (.iadd, 1) := by decide +kernel
theorem d_Mo_run_44 : decode prog_11_method_32_code 44 = .ok (.putfield 232, 3) := by decide +kernel
theorem d_Mo_run_47 : decode prog_11_method_32_code 47 = .ok (.aload_n 0, 1) := by decide +kernel
theorem d_Mo_run_48 : decode prog_11_method_32_code 48 = .ok (.iconst 0, 1) := by decide +kernel
theorem d_Mo_run_49 : decode prog_11_method_32_code 49 = .ok (.putfield 298, 3) := by decide +kernel
theorem d_Mo_run_52 : decode prog_11_method_32_code 52 = .ok (.aload_n 0, 1) := by decide +kernel
theorem d_Mo_run_53 : decode prog_11_method_32_code 53 = .ok (.iconst (-1), 1) := by decide +kernel
theorem d_Mo_run_54 : decode prog_11_method_32_code 54 = .ok (.putfield 266, 3) := by decide +kernel
theorem d_Mo_run_57 : decode prog_11_method_32_code 57 = .ok (.aload_n 0, 1) := by decide +kernel
theorem d_Mo_run_58 : decode prog_11_method_32_code 58 = .ok (.aload_n 0, 1) := by decide +kernel
theorem d_Mo_run_59 : decode prog_11_method_32_code 59 = .ok (.getfield 96, 3) := by decide +kernel
theorem d_Mo_run_62 : decode prog_11_method_32_code 62 = .ok (.putfield 272, 3) := by decide +kernel
theorem d_Mo_run_65 : decode prog_11_method_32_code 65 = .ok (.iconst 0, 1) := by decide +kernel
theorem d_Mo_run_66 : decode prog_11_method_32_code 66 = .ok (.istore_n 1, 1) := by decide +kernel
theorem d_Mo_run_67 : decode prog_11_method_32_code 67 = .ok (.iconst 1, 1) := by decide +kernel
theorem d_Mo_run_68 : decode prog_11_method_32_code 68 = .ok (.istore_n 2, 1) := by decide +kernel
theorem d_Mo_run_69 : decode prog_11_method_32_code 69 = .ok (.iload_n 2, 1) := by decide +kernel
theorem d_Mo_run_70 : decode prog_11_method_32_code 70 = .ok (.aload_n 0, 1) := by decide +kernel
theorem d_Mo_run_71 : decode prog_11_method_32_code 71 = .ok (.getfield 171, 3) := by decide +kernel
theorem d_Mo_run_74 : decode prog_11_method_32_code 74 = .ok (.if_icmp .gt 35, 3) := by decide +kernel
theorem d_Mo_run_77 : decode prog_11_method_32_code 77 = .ok (.aload_n 0, 1) := by decide +kernel
theorem d_Mo_run_78 : decode prog_11_method_32_code 78 = .ok (.iload_n 2, 1) := by decide +kernel
theorem d_Mo_run_79 : decode prog_11_method_32_code 79 = .ok (.invokevirtual 301, 3) := by decide +kernel
theorem d_Mo_run_82 : decode prog_11_method_32_code 82 = .ok (.aload_n 0, 1) := by decide +kernel
theorem d_Mo_run_83 : decode prog_11_method_32_code 83 = .ok (.getfield 37, 3) := by decide +kernel
theorem d_Mo_run_86 : decode prog_11_method_32_code 86 = .ok (.iload_n 2, 1) := by decide +kernel
theorem d_Mo_run_87 : decode prog_11_method_32_code 87 = .ok (.iaload, 1) := by decide +kernel
theorem d_Mo_run_88 : decode prog_11_method_32_code 88 = .ok (.iload_n 1, 1) := by decide +kernel
theorem d_Mo_run_89 : decode prog_11_method_32_code 89 = .ok (.if_icmp .le 12, 3) := by decide +kernel
theorem d_Mo_run_92 : decode prog_11_method_32_code 92 = .ok (.aload_n 0, 1) := by decide +kernel
theorem d_Mo_run_93 : decode prog_11_method_32_code 93 = .ok (.getfield 37, 3) := by decide +kernel
theorem d_Mo_run_96 : decode prog_11_method_32_code 96 = .ok (.iload_n 2, 1) := by decide +kernel
theorem d_Mo_run_97 : decode prog_11_method_32_code 97 = .ok (.iaload, 1) := by decide +kernel
theorem d_Mo_run_98 : decode prog_11_method_32_code 98 = .ok (.goto 4, 3) := by decide +kernel
theorem d_Mo_run_101 : decode prog_11_method_32_code 101 = .ok (.iload_n 1, 1) := by decide +kernel
theorem d_Mo_run_102 : decode prog_11_method_32_code 102 = .ok (.istore_n 1, 1) := by decide +kernel
theorem d_Mo_run_103 : decode prog_11_method_32_code 103 = .ok (.iinc 2 1, 3) := by decide +kernel
theorem d_Mo_run_106 : decode prog_11_method_32_code 106 = .ok (.goto (-37), 3) := by decide +kernel
theorem d_Mo_run_109 : decode prog_11_method_32_code 109 = .ok (.iload_n 1, 1) := by decide +kernel
theorem d_Mo_run_110 : decode prog_11_method_32_code 110 = .ok (.ireturn, 1) := by decide +kernel
abbrev m_Mo_test : MethodName × ByteArray × Nat × Option FieldType := (⟨"TestTextModel", "test", "(I)V"⟩, prog_11_method_31_code, 3, (Option.none : Option FieldType))
theorem d_Mo_test_0 : decode prog_11_method_31_code 0 = .ok (.aload_n 0, 1) := by decide +kernel
theorem d_Mo_test_1 : decode prog_11_method_31_code 1 = .ok (.lconst 0, 1) := by decide +kernel
theorem d_Mo_test_2 : decode prog_11_method_31_code 2 = .ok (.putfield 243, 3) := by decide +kernel
theorem d_Mo_test_5 : decode prog_11_method_31_code 5 = .ok (.aload_n 0, 1) := by decide +kernel
theorem d_Mo_test_6 : decode prog_11_method_31_code 6 = .ok (.getfield 37, 3) := by decide +kernel
theorem d_Mo_test_9 : decode prog_11_method_31_code 9 = .ok (.iload_n 1, 1) := by decide +kernel
theorem d_Mo_test_10 : decode prog_11_method_31_code 10 = .ok (.iconst 0, 1) := by decide +kernel
theorem d_Mo_test_11 : decode prog_11_method_31_code 11 = .ok (.iastore, 1) := by decide +kernel
theorem d_Mo_test_12 : decode prog_11_method_31_code 12 = .ok (.aload_n 0, 1) := by decide +kernel
theorem d_Mo_test_13 : decode prog_11_method_31_code 13 = .ok (.getfield 40, 3) := by decide +kernel
theorem d_Mo_test_16 : decode prog_11_method_31_code 16 = .ok (.iload_n 1, 1) := by decide +kernel
theorem d_Mo_test_17 : decode prog_11_method_31_code 17 = .ok (.iconst 0, 1) := by decide +kernel
theorem d_Mo_test_18 : decode prog_11_method_31_code 18 = .ok (.iastore, 1) := by decide +kernel
theorem d_Mo_test_19 : decode prog_11_method_31_code 19 = .ok (.iconst 0, 1) := by decide +kernel
theorem d_Mo_test_20 : decode prog_11_method_31_code 20 = .ok (.istore_n 2, 1) := by decide +kernel
theorem d_Mo_test_21 : decode prog_11_method_31_code 21 = .ok (.iload_n 2, 1) := by decide +kernel
theorem d_Mo_test_22 : decode prog_11_method_31_code 22 = .ok (.bipush 21, 2) := by decide +kernel
theorem d_Mo_test_24 : decode prog_11_method_31_code 24 = .ok (.if_icmp .ge 18, 3) := by decide +kernel
theorem d_Mo_test_27 : decode prog_11_method_31_code 27 = .ok (.aload_n 0, 1) := by decide +kernel
theorem d_Mo_test_28 : decode prog_11_method_31_code 28 = .ok (.getfield 121, 3) := by decide +kernel
theorem d_Mo_test_31 : decode prog_11_method_31_code 31 = .ok (.iload_n 2, 1) := by decide +kernel
theorem d_Mo_test_32 : decode prog_11_method_31_code 32 = .ok (.ldc2_w 213, 3) := by decide +kernel
theorem d_Mo_test_35 : decode prog_11_method_31_code 35 = .ok (.lastore, 1) := by decide +kernel
theorem d_Mo_test_36 : decode prog_11_method_31_code 36 = .ok (.iinc 2 1, 3) := by decide +kernel
theorem d_Mo_test_39 : decode prog_11_method_31_code 39 = .ok (.goto (-18), 3) := by decide +kernel
theorem d_Mo_test_42 : decode prog_11_method_31_code 42 = .ok (.iconst 1, 1) := by decide +kernel
theorem d_Mo_test_43 : decode prog_11_method_31_code 43 = .ok (.istore_n 2, 1) := by decide +kernel
theorem d_Mo_test_44 : decode prog_11_method_31_code 44 = .ok (.iload_n 2, 1) := by decide +kernel
theorem d_Mo_test_45 : decode prog_11_method_31_code 45 = .ok (.bipush 9, 2) := by decide +kernel
theorem d_Mo_test_47 : decode prog_11_method_31_code 47 = .ok (.if_icmp .ge 21, 3) := by decide +kernel
theorem d_Mo_test_50 : decode prog_11_method_31_code 50 = .ok (.aload_n 0, 1) := by decide +kernel
theorem d_Mo_test_51 : decode prog_11_method_31_code 51 = .ok (.getfield 115, 3) := by decide +kernel
theorem d_Mo_test_54 : decode prog_11_method_31_code 54 = .ok (.iload_n 2, 1) := by decide +kernel
theorem d_Mo_test_55 : decode prog_11_method_31_code 55 = .ok (.aload_n 0, 1) := by decide +kernel
theorem d_Mo_test_56 : decode prog_11_method_31_code 56 = .ok (.getfield 93, 3) := by decide +kernel
theorem d_Mo_test_59 : decode prog_11_method_31_code 59 = .ok (.iload_n 2, 1) := by decide +kernel
theorem d_Mo_test_60 : decode prog_11_method_31_code 60 = .ok (.baload, 1) := by decide +kernel
theorem d_Mo_test_61 : decode prog_11_method_31_code 61 = .ok (.bastore, 1) := by decide +kernel
theorem d_Mo_test_62 : decode prog_11_method_31_code 62 = .ok (.iinc 2 1, 3) := by decide +kernel
theorem d_Mo_test_65 : decode prog_11_method_31_code 65 = .ok (.goto (-21), 3) := by decide +kernel
theorem d_Mo_test_68 : decode prog_11_method_31_code 68 = .ok (.aload_n 0, 1) := by decide +kernel
theorem d_Mo_test_69 : decode prog_11_method_31_code 69 = .ok (.aload_n 0, 1) := by decide +kernel
theorem d_Mo_test_70 : decode prog_11_method_31_code 70 = .ok (.getfield 28, 3) := by decide +kernel
theorem d_Mo_test_73 : decode prog_11_method_31_code 73 = .ok (.iload_n 1, 1) := by decide +kernel
theorem d_Mo_test_74 : decode prog_11_method_31_code 74 = .ok (.iaload, 1) := by decide +kernel
theorem d_Mo_test_75 : decode prog_11_method_31_code 75 = .ok (.aload_n 0, 1) := by decide +kernel
theorem d_Mo_test_76 : decode prog_11_method_31_code 76 = .ok (.getfield 28, 3) := by decide +kernel
theorem d_Mo_test_79 : decode prog_11_method_31_code 79 = .ok (.iload_n 1, 1) := by decide +kernel
theorem d_Mo_test_80 : decode prog_11_method_31_code 80 = .ok (.iconst 1, 1) := by decide +kernel
theorem d_Mo_test_81 : decode prog_11_method_31_code 81 = .ok (.iadd, 1) := by decide +kernel
theorem d_Mo_test_82 : decode prog_11_method_31_code 82 = .ok (.iaload, 1) := by decide +kernel
theorem d_Mo_test_83 : decode prog_11_method_31_code 83 = .ok (.iload_n 1, 1) := by decide +kernel
theorem d_Mo_test_84 : decode prog_11_method_31_code 84 = .ok (.invokevirtual 294, 3) := by decide +kernel
theorem d_Mo_test_87 : decode prog_11_method_31_code 87 = .ok (.aload_n 0, 1) := by decide +kernel
theorem d_Mo_test_88 : decode prog_11_method_31_code 88 = .ok (.getfield 253, 3) := by decide +kernel
theorem d_Mo_test_91 : decode prog_11_method_31_code 91 = .ok (.iconst 2, 1) := by decide +kernel
theorem d_Mo_test_92 : decode prog_11_method_31_code 92 = .ok (.if_icmp .eq 46, 3) := by decide +kernel
theorem d_Mo_test_95 : decode prog_11_method_31_code 95 = .ok (.aload_n 0, 1) := by decide +kernel
theorem d_Mo_test_96 : decode prog_11_method_31_code 96 = .ok (.getfield 31, 3) := by decide +kernel
theorem d_Mo_test_99 : decode prog_11_method_31_code 99 = .ok (.iload_n 1, 1) := by decide +kernel
theorem d_Mo_test_100 : decode prog_11_method_31_code 100 = .ok (.iaload, 1) := by decide +kernel
theorem d_Mo_test_101 : decode prog_11_method_31_code 101 = .ok (.ifCond .lt 37, 3) := by decide +kernel
theorem d_Mo_test_104 : decode prog_11_method_31_code 104 = .ok (.aload_n 0, 1) := by decide +kernel
theorem d_Mo_test_105 : decode prog_11_method_31_code 105 = .ok (.getfield 34, 3) := by decide +kernel
theorem d_Mo_test_108 : decode prog_11_method_31_code 108 = .ok (.iload_n 1, 1) := by decide +kernel
theorem d_Mo_test_109 : decode prog_11_method_31_code 109 = .ok (.dup2, 1) := by decide +kernel
theorem d_Mo_test_110 : decode prog_11_method_31_code 110 = .ok (.iaload, 1) := by decide +kernel
theorem d_Mo_test_111 : decode prog_11_method_31_code 111 = .ok (.iconst 1, 1) := by decide +kernel
theorem d_Mo_test_112 : decode prog_11_method_31_code 112 = .ok (.iadd, 1) := by decide +kernel
theorem d_Mo_test_113 : decode prog_11_method_31_code 113 = .ok (.iastore, 1) := by decide +kernel
theorem d_Mo_test_114 : decode prog_11_method_31_code 114 = .ok (.aload_n 0, 1) := by decide +kernel
theorem d_Mo_test_115 : decode prog_11_method_31_code 115 = .ok (.aload_n 0, 1) := by decide +kernel
theorem d_Mo_test_116 : decode prog_11_method_31_code 116 = .ok (.getfield 31, 3) := by decide +kernel
theorem d_Mo_test_119 : decode prog_11_method_31_code 119 = .ok (.iload_n 1, 1) := by decide +kernel
theorem d_Mo_test_120 : decode prog_11_method_31_code 120 = .ok (.iaload, 1) := by decide +kernel
theorem d_Mo_test_121 : decode prog_11_method_31_code 121 = .ok (.iconst 1, 1) := by decide +kernel
theorem d_Mo_test_122 : decode prog_11_method_31_code 122 = .ok (.iadd, 1) := by decide +kernel
theorem d_Mo_test_123 : decode prog_11_method_31_code 123 = .ok (.aload_n 0, 1) := by decide +kernel
theorem d_Mo_test_124 : decode prog_11_method_31_code 124 = .ok (.getfield 68, 3) := by decide +kernel
theorem d_Mo_test_127 : decode prog_11_method_31_code 127 = .ok (.aload_n 0, 1) := by decide +kernel
theorem d_Mo_test_128 : decode prog_11_method_31_code 128 = .ok (.getfield 31, 3) := by decide +kernel
theorem d_Mo_test_131 : decode prog_11_method_31_code 131 = .ok (.iload_n 1, 1) := by decide +kernel
theorem d_Mo_test_132 : decode prog_11_method_31_code 132 = .ok (.iaload, 1) := by decide +kernel
theorem d_Mo_test_133 : decode prog_11_method_31_code 133 = .ok (.iaload, 1) := by decide +kernel
theorem d_Mo_test_134 : decode prog_11_method_31_code 134 = .ok (.iload_n 1, 1) := by decide +kernel
theorem d_Mo_test_135 : decode prog_11_method_31_code 135 = .ok (.invokevirtual 294, 3) := by decide +kernel
theorem d_Mo_test_138 : decode prog_11_method_31_code 138 = .ok (.aload_n 0, 1) := by decide +kernel
theorem d_Mo_test_139 : decode prog_11_method_31_code 139 = .ok (.getfield 253, 3) := by decide +kernel
theorem d_Mo_test_142 : decode prog_11_method_31_code 142 = .ok (.iconst 2, 1) := by decide +kernel
theorem d_Mo_test_143 : decode prog_11_method_31_code 143 = .ok (.if_icmp .ne 51, 3) := by decide +kernel
theorem d_Mo_test_146 : decode prog_11_method_31_code 146 = .ok (.aload_n 0, 1) := by decide +kernel
theorem d_Mo_test_147 : decode prog_11_method_31_code 147 = .ok (.getfield 37, 3) := by decide +kernel
theorem d_Mo_test_150 : decode prog_11_method_31_code 150 = .ok (.iload_n 1, 1) := by decide +kernel
theorem d_Mo_test_151 : decode prog_11_method_31_code 151 = .ok (.iaload, 1) := by decide +kernel
theorem d_Mo_test_152 : decode prog_11_method_31_code 152 = .ok (.ifCond .ne 42, 3) := by decide +kernel
theorem d_Mo_test_155 : decode prog_11_method_31_code 155 = .ok (.aload_n 0, 1) := by decide +kernel
theorem d_Mo_test_156 : decode prog_11_method_31_code 156 = .ok (.getfield 37, 3) := by decide +kernel
theorem d_Mo_test_159 : decode prog_11_method_31_code 159 = .ok (.iload_n 1, 1) := by decide +kernel
theorem d_Mo_test_160 : decode prog_11_method_31_code 160 = .ok (.iconst 2, 1) := by decide +kernel
theorem d_Mo_test_161 : decode prog_11_method_31_code 161 = .ok (.iastore, 1) := by decide +kernel
theorem d_Mo_test_162 : decode prog_11_method_31_code 162 = .ok (.aload_n 0, 1) := by decide +kernel
theorem d_Mo_test_163 : decode prog_11_method_31_code 163 = .ok (.getfield 43, 3) := by decide +kernel
theorem d_Mo_test_166 : decode prog_11_method_31_code 166 = .ok (.iload_n 1, 1) := by decide +kernel
theorem d_Mo_test_167 : decode prog_11_method_31_code 167 = .ok (.aload_n 0, 1) := by decide +kernel
theorem d_Mo_test_168 : decode prog_11_method_31_code 168 = .ok (.getfield 243, 3) := by decide +kernel
theorem d_Mo_test_171 : decode prog_11_method_31_code 171 = .ok (.lastore, 1) := by decide +kernel
theorem d_Mo_test_172 : decode prog_11_method_31_code 172 = .ok (.aload_n 0, 1) := by decide +kernel
theorem d_Mo_test_173 : decode prog_11_method_31_code 173 = .ok (.getfield 266, 3) := by decide +kernel
theorem d_Mo_test_176 : decode prog_11_method_31_code 176 = .ok (.ifCond .ge 18, 3) := by decide +kernel
theorem d_Mo_test_179 : decode prog_11_method_31_code 179 = .ok (.aload_n 0, 1) := by decide +kernel
theorem d_Mo_test_180 : decode prog_11_method_31_code 180 = .ok (.aload_n 0, 1) := by decide +kernel
theorem d_Mo_test_181 : decode prog_11_method_31_code 181 = .ok (.getfield 100, 3) := by decide +kernel
theorem d_Mo_test_184 : decode prog_11_method_31_code 184 = .ok (.aload_n 0, 1) := by decide +kernel
theorem d_Mo_test_185 : decode prog_11_method_31_code 185 = .ok (.getfield 232, 3) := by decide +kernel
theorem d_Mo_test_188 : decode prog_11_method_31_code 188 = .ok (.iconst 1, 1) := by decide +kernel
theorem d_Mo_test_189 : decode prog_11_method_31_code 189 = .ok (.isub, 1) := by decide +kernel
theorem d_Mo_test_190 : decode prog_11_method_31_code 190 = .ok (.iaload, 1) := by decide +kernel
theorem d_Mo_test_191 : decode prog_11_method_31_code 191 = .ok (.putfield 266, 3) := by decide +kernel
theorem d_Mo_test_194 : decode prog_11_method_31_code 194 = .ok (.aload_n 0, 1) := by decide +kernel
theorem d_Mo_test_195 : decode prog_11_method_31_code 195 = .ok (.getfield 37, 3) := by decide +kernel
theorem d_Mo_test_198 : decode prog_11_method_31_code 198 = .ok (.iload_n 1, 1) := by decide +kernel
theorem d_Mo_test_199 : decode prog_11_method_31_code 199 = .ok (.iaload, 1) := by decide +kernel
theorem d_Mo_test_200 : decode prog_11_method_31_code 200 = .ok (.ifCond .ne 13, 3) := by decide +kernel
theorem d_Mo_test_203 : decode prog_11_method_31_code 203 = .ok (.aload_n 0, 1) := by decide +kernel
theorem d_Mo_test_204 : decode prog_11_method_31_code 204 = .ok (.getfield 43, 3) := by decide +kernel
theorem d_Mo_test_207 : decode prog_11_method_31_code 207 = .ok (.iload_n 1, 1) := by decide +kernel
theorem d_Mo_test_208 : decode prog_11_method_31_code 208 = .ok (.aload_n 0, 1) := by decide +kernel
theorem d_Mo_test_209 : decode prog_11_method_31_code 209 = .ok (.getfield 243, 3) := by decide +kernel
theorem d_Mo_test_212 : decode prog_11_method_31_code 212 = .ok (.lastore, 1) := by decide +kernel
theorem d_Mo_test_213 : decode prog_11_method_31_code 213 = .ok (.iconst 1, 1) := by decide +kernel
theorem d_Mo_test_214 : decode prog_11_method_31_code 214 = .ok (.istore_n 2, 1) := by decide +kernel
theorem d_Mo_test_215 : decode prog_11_method_31_code 215 = .ok (.iload_n 2, 1) := by decide +kernel
theorem d_Mo_test_216 : decode prog_11_method_31_code 216 = .ok (.bipush 9, 2) := by decide +kernel
theorem d_Mo_test_218 : decode prog_11_method_31_code 218 = .ok (.if_icmp .ge 56, 3) := by decide +kernel
theorem d_Mo_test_221 : decode prog_11_method_31_code 221 = .ok (.aload_n 0, 1) := by decide +kernel
theorem d_Mo_test_222 : decode prog_11_method_31_code 222 = .ok (.getfield 115, 3) := by decide +kernel
theorem d_Mo_test_225 : decode prog_11_method_31_code 225 = .ok (.iload_n 2, 1) := by decide +kernel
theorem d_Mo_test_226 : decode prog_11_method_31_code 226 = .ok (.baload, 1) := by decide +kernel
theorem d_Mo_test_227 : decode prog_11_method_31_code 227 = .ok (.ifCond .eq 41, 3) := by decide +kernel
theorem d_Mo_test_230 : decode prog_11_method_31_code 230 = .ok (.aload_n 0, 1) := by decide +kernel
theorem d_Mo_test_231 : decode prog_11_method_31_code 231 = .ok (.getfield 93, 3) := by decide +kernel
theorem d_Mo_test_234 : decode prog_11_method_31_code 234 = .ok (.iload_n 2, 1) := by decide +kernel
theorem d_Mo_test_235 : decode prog_11_method_31_code 235 = .ok (.baload, 1) := by decide +kernel
theorem d_Mo_test_236 : decode prog_11_method_31_code 236 = .ok (.ifCond .ne 32, 3) := by decide +kernel
theorem d_Mo_test_239 : decode prog_11_method_31_code 239 = .ok (.aload_n 0, 1) := by decide +kernel
theorem d_Mo_test_240 : decode prog_11_method_31_code 240 = .ok (.getfield 298, 3) := by decide +kernel
theorem d_Mo_test_243 : decode prog_11_method_31_code 243 = .ok (.bipush 100, 2) := by decide +kernel
theorem d_Mo_test_245 : decode prog_11_method_31_code 245 = .ok (.if_icmp .ge 23, 3) := by decide +kernel
theorem d_Mo_test_248 : decode prog_11_method_31_code 248 = .ok (.aload_n 0, 1) := by decide +kernel
theorem d_Mo_test_249 : decode prog_11_method_31_code 249 = .ok (.getfield 112, 3) := by decide +kernel
theorem d_Mo_test_252 : decode prog_11_method_31_code 252 = .ok (.aload_n 0, 1) := by decide +kernel
theorem d_Mo_test_253 : decode prog_11_method_31_code 253 = .ok (.getfield 298, 3) := by decide +kernel
theorem d_Mo_test_256 : decode prog_11_method_31_code 256 = .ok (.iload_n 2, 1) := by decide +kernel
theorem d_Mo_test_257 : decode prog_11_method_31_code 257 = .ok (.iastore, 1) := by decide +kernel
theorem d_Mo_test_258 : decode prog_11_method_31_code 258 = .ok (.aload_n 0, 1) := by decide +kernel
theorem d_Mo_test_259 : decode prog_11_method_31_code 259 = .ok (.dup, 1) := by decide +kernel
theorem d_Mo_test_260 : decode prog_11_method_31_code 260 = .ok (.getfield 298, 3) := by decide +kernel
theorem d_Mo_test_263 : decode prog_11_method_31_code 263 = .ok (.iconst 1, 1) := by decide +kernel
theorem d_Mo_test_264 : decode prog_11_method_31_code 264 = .ok (.iadd, 1) := by decide +kernel
theorem d_Mo_test_265 : decode prog_11_method_31_code 265 = .ok (.putfield 298, 3) := by decide +kernel
theorem d_Mo_test_268 : decode prog_11_method_31_code 268 = .ok (.iinc 2 1, 3) := by decide +kernel
theorem d_Mo_test_271 : decode prog_11_method_31_code 271 = .ok (.goto (-56), 3) := by decide +kernel
theorem d_Mo_test_274 : decode prog_11_method_31_code 274 = .ok (.return_, 1) := by decide +kernel
abbrev m_Mo_go : MethodName × ByteArray × Nat × Option FieldType := (⟨"TestTextModel", "go", "(III)V"⟩, prog_11_method_30_code, 7, (Option.none : Option FieldType))
theorem d_Mo_go_0 : decode prog_11_method_30_code 0 = .ok (.iconst 0, 1) := by decide +kernel
theorem d_Mo_go_1 : decode prog_11_method_30_code 1 = .ok (.istore 4, 2) := by decide +kernel
theorem d_Mo_go_3 : decode prog_11_method_30_code 3 = .ok (.iload_n 1, 1) := by decide +kernel
theorem d_Mo_go_4 : decode prog_11_method_30_code 4 = .ok (.istore 5, 2) := by decide +kernel
theorem d_Mo_go_6 : decode prog_11_method_30_code 6 = .ok (.aload_n 0, 1) := by decide +kernel
theorem d_Mo_go_7 : decode prog_11_method_30_code 7 = .ok (.iconst 0, 1) := by decide +kernel
theorem d_Mo_go_8 : decode prog_11_method_30_code 8 = .ok (.putfield 253, 3) := by decide +kernel
theorem d_Mo_go_11 : decode prog_11_method_30_code 11 = .ok (.aload_n 0, 1) := by decide +kernel
theorem d_Mo_go_12 : decode prog_11_method_30_code 12 = .ok (.getfield 253, 3) := by decide +kernel
theorem d_Mo_go_15 : decode prog_11_method_30_code 15 = .ok (.ifCond .ne 339, 3) := by decide +kernel
theorem d_Mo_go_18 : decode prog_11_method_30_code 18 = .ok (.iload 4, 2) := by decide +kernel
theorem d_Mo_go_20 : decode prog_11_method_30_code 20 = .ok (.ifCond .gt 9, 3) := by decide +kernel
theorem d_Mo_go_23 : decode prog_11_method_30_code 23 = .ok (.iload 5, 2) := by decide +kernel
theorem d_Mo_go_25 : decode prog_11_method_30_code 25 = .ok (.iload_n 2, 1) := by decide +kernel
theorem d_Mo_go_26 : decode prog_11_method_30_code 26 = .ok (.if_icmp .ge 328, 3) := by decide +kernel
theorem d_Mo_go_29 : decode prog_11_method_30_code 29 = .ok (.iload 4, 2) := by decide +kernel
theorem d_Mo_go_31 : decode prog_11_method_30_code 31 = .ok (.ifCond .le 144, 3) := by decide +kernel
theorem d_Mo_go_34 : decode prog_11_method_30_code 34 = .ok (.iload 5, 2) := by decide +kernel
theorem d_Mo_go_36 : decode prog_11_method_30_code 36 = .ok (.aload_n 0, 1) := by decide +kernel
theorem d_Mo_go_37 : decode prog_11_method_30_code 37 = .ok (.getfield 68, 3) := by decide +kernel
theorem d_Mo_go_40 : decode prog_11_method_30_code 40 = .ok (.aload_n 0, 1) := by decide +kernel
theorem d_Mo_go_41 : decode prog_11_method_30_code 41 = .ok (.getfield 81, 3) := by decide +kernel
theorem d_Mo_go_44 : decode prog_11_method_30_code 44 = .ok (.iload 4, 2) := by decide +kernel
theorem d_Mo_go_46 : decode prog_11_method_30_code 46 = .ok (.iconst 1, 1) := by decide +kernel
theorem d_Mo_go_47 : decode prog_11_method_30_code 47 = .ok (.isub, 1) := by decide +kernel
theorem d_Mo_go_48 : decode prog_11_method_30_code 48 = .ok (.iaload, 1) := by decide +kernel
theorem d_Mo_go_49 : decode prog_11_method_30_code 49 = .ok (.iaload, 1) := by decide +kernel
theorem d_Mo_go_50 : decode prog_11_method_30_code 50 = .ok (.if_icmp .ne 125, 3) := by decide +kernel
theorem d_Mo_go_53 : decode prog_11_method_30_code 53 = .ok (.aload_n 0, 1) := by decide +kernel
theorem d_Mo_go_54 : decode prog_11_method_30_code 54 = .ok (.getfield 81, 3) := by decide +kernel
theorem d_Mo_go_57 : decode prog_11_method_30_code 57 = .ok (.iload 4, 2) := by decide +kernel
theorem d_Mo_go_59 : decode prog_11_method_30_code 59 = .ok (.iconst 1, 1) := by decide +kernel
theorem d_Mo_go_60 : decode prog_11_method_30_code 60 = .ok (.isub, 1) := by decide +kernel
theorem d_Mo_go_61 : decode prog_11_method_30_code 61 = .ok (.iaload, 1) := by decide +kernel
theorem d_Mo_go_62 : decode prog_11_method_30_code 62 = .ok (.istore 6, 2) := by decide +kernel
theorem d_Mo_go_64 : decode prog_11_method_30_code 64 = .ok (.aload_n 0, 1) := by decide +kernel
theorem d_Mo_go_65 : decode prog_11_method_30_code 65 = .ok (.getfield 124, 3) := by decide +kernel
theorem d_Mo_go_68 : decode prog_11_method_30_code 68 = .ok (.iload 4, 2) := by decide +kernel
theorem d_Mo_go_70 : decode prog_11_method_30_code 70 = .ok (.iconst 1, 1) := by decide +kernel
theorem d_Mo_go_71 : decode prog_11_method_30_code 71 = .ok (.isub, 1) := by decide +kernel
theorem d_Mo_go_72 : decode prog_11_method_30_code 72 = .ok (.dup2, 1) := by decide +kernel
theorem d_Mo_go_73 : decode prog_11_method_30_code 73 = .ok (.iaload, 1) := by decide +kernel
theorem d_Mo_go_74 : decode prog_11_method_30_code 74 = .ok (.iconst 1, 1) := by decide +kernel
theorem d_Mo_go_75 : decode prog_11_method_30_code 75 = .ok (.iadd, 1) := by decide +kernel
theorem d_Mo_go_76 : decode prog_11_method_30_code 76 = .ok (.iastore, 1) := by decide +kernel
theorem d_Mo_go_77 : decode prog_11_method_30_code 77 = .ok (.aload_n 0, 1) := by decide +kernel
theorem d_Mo_go_78 : decode prog_11_method_30_code 78 = .ok (.getfield 124, 3) := by decide +kernel
theorem d_Mo_go_81 : decode prog_11_method_30_code 81 = .ok (.iload 4, 2) := by decide +kernel
theorem d_Mo_go_83 : decode prog_11_method_30_code 83 = .ok (.iconst 1, 1) := by decide +kernel
theorem d_Mo_go_84 : decode prog_11_method_30_code 84 = .ok (.isub, 1) := by decide +kernel
theorem d_Mo_go_85 : decode prog_11_method_30_code 85 = .ok (.iaload, 1) := by decide +kernel
theorem d_Mo_go_86 : decode prog_11_method_30_code 86 = .ok (.aload_n 0, 1) := by decide +kernel
theorem d_Mo_go_87 : decode prog_11_method_30_code 87 = .ok (.getfield 65, 3) := by decide +kernel
theorem d_Mo_go_90 : decode prog_11_method_30_code 90 = .ok (.iload 6, 2) := by decide +kernel
theorem d_Mo_go_92 : decode prog_11_method_30_code 92 = .ok (.iaload, 1) := by decide +kernel
theorem d_Mo_go_93 : decode prog_11_method_30_code 93 = .ok (.if_icmp .ne 9, 3) := by decide +kernel
theorem d_Mo_go_96 : decode prog_11_method_30_code 96 = .ok (.iinc 4 (-1), 3) := by decide +kernel
theorem d_Mo_go_99 : decode prog_11_method_30_code 99 = .ok (.goto (-88), 3) := by decide +kernel
theorem d_Mo_go_102 : decode prog_11_method_30_code 102 = .ok (.aload_n 0, 1) := by decide +kernel
theorem d_Mo_go_103 : decode prog_11_method_30_code 103 = .ok (.getfield 47, 3) := by decide +kernel
theorem d_Mo_go_106 : decode prog_11_method_30_code 106 = .ok (.iload 6, 2) := by decide +kernel
theorem d_Mo_go_108 : decode prog_11_method_30_code 108 = .ok (.iaload, 1) := by decide +kernel
theorem d_Mo_go_109 : decode prog_11_method_30_code 109 = .ok (.bipush 6, 2) := by decide +kernel
theorem d_Mo_go_111 : decode prog_11_method_30_code 111 = .ok (.if_icmp .ne 55, 3) := by decide +kernel
theorem d_Mo_go_114 : decode prog_11_method_30_code 114 = .ok (.aload_n 0, 1) := by decide +kernel
theorem d_Mo_go_115 : decode prog_11_method_30_code 115 = .ok (.iload 6, 2) := by decide +kernel
theorem d_Mo_go_117 : decode prog_11_method_30_code 117 = .ok (.aload_n 0, 1) := by decide +kernel
theorem d_Mo_go_118 : decode prog_11_method_30_code 118 = .ok (.getfield 78, 3) := by decide +kernel
theorem d_Mo_go_121 : decode prog_11_method_30_code 121 = .ok (.aload_n 0, 1) := by decide +kernel
theorem d_Mo_go_122 : decode prog_11_method_30_code 122 = .ok (.getfield 71, 3) := by decide +kernel
theorem d_Mo_go_125 : decode prog_11_method_30_code 125 = .ok (.iload 6, 2) := by decide +kernel
theorem d_Mo_go_127 : decode prog_11_method_30_code 127 = .ok (.iaload, 1) := by decide +kernel
theorem d_Mo_go_128 : decode prog_11_method_30_code 128 = .ok (.aload_n 0, 1) := by decide +kernel
theorem d_Mo_go_129 : decode prog_11_method_30_code 129 = .ok (.getfield 124, 3) := by decide +kernel
theorem d_Mo_go_132 : decode prog_11_method_30_code 132 = .ok (.iload 4, 2) := by decide +kernel
theorem d_Mo_go_134 : decode prog_11_method_30_code 134 = .ok (.iconst 1, 1) := by decide +kernel
theorem d_Mo_go_135 : decode prog_11_method_30_code 135 = .ok (.isub, 1) := by decide +kernel
theorem d_Mo_go_136 : decode prog_11_method_30_code 136 = .ok (.iaload, 1) := by decide +kernel
theorem d_Mo_go_137 : decode prog_11_method_30_code 137 = .ok (.iadd, 1) := by decide +kernel
theorem d_Mo_go_138 : decode prog_11_method_30_code 138 = .ok (.laload, 1) := by decide +kernel
theorem d_Mo_go_139 : decode prog_11_method_30_code 139 = .ok (.invokevirtual 269, 3) := by decide +kernel
theorem d_Mo_go_142 : decode prog_11_method_30_code 142 = .ok (.aload_n 0, 1) := by decide +kernel
theorem d_Mo_go_143 : decode prog_11_method_30_code 143 = .ok (.aload_n 0, 1) := by decide +kernel
theorem d_Mo_go_144 : decode prog_11_method_30_code 144 = .ok (.getfield 253, 3) := by decide +kernel
theorem d_Mo_go_147 : decode prog_11_method_30_code 147 = .ok (.ifCond .ne 12, 3) := by decide +kernel
theorem d_Mo_go_150 : decode prog_11_method_30_code 150 = .ok (.aload_n 0, 1) := by decide +kernel
theorem d_Mo_go_151 : decode prog_11_method_30_code 151 = .ok (.getfield 243, 3) := by decide +kernel
theorem d_Mo_go_154 : decode prog_11_method_30_code 154 = .ok (.lconst 1, 1) := by decide +kernel
theorem d_Mo_go_155 : decode prog_11_method_30_code 155 = .ok (.ladd, 1) := by decide +kernel
theorem d_Mo_go_156 : decode prog_11_method_30_code 156 = .ok (.goto 7, 3) := by decide +kernel
theorem d_Mo_go_159 : decode prog_11_method_30_code 159 = .ok (.aload_n 0, 1) := by decide +kernel
theorem d_Mo_go_160 : decode prog_11_method_30_code 160 = .ok (.getfield 243, 3) := by decide +kernel
theorem d_Mo_go_163 : decode prog_11_method_30_code 163 = .ok (.putfield 243, 3) := by decide +kernel
theorem d_Mo_go_166 : decode prog_11_method_30_code 166 = .ok (.iload 6, 2) := by decide +kernel
theorem d_Mo_go_168 : decode prog_11_method_30_code 168 = .ok (.iconst 1, 1) := by decide +kernel
theorem d_Mo_go_169 : decode prog_11_method_30_code 169 = .ok (.iadd, 1) := by decide +kernel
theorem d_Mo_go_170 : decode prog_11_method_30_code 170 = .ok (.istore 5, 2) := by decide +kernel
theorem d_Mo_go_172 : decode prog_11_method_30_code 172 = .ok (.goto (-161), 3) := by decide +kernel
theorem d_Mo_go_175 : decode prog_11_method_30_code 175 = .ok (.aload_n 0, 1) := by decide +kernel
theorem d_Mo_go_176 : decode prog_11_method_30_code 176 = .ok (.getfield 47, 3) := by decide +kernel
theorem d_Mo_go_179 : decode prog_11_method_30_code 179 = .ok (.iload 5, 2) := by decide +kernel
theorem d_Mo_go_181 : decode prog_11_method_30_code 181 = .ok (.iaload, 1) := by decide +kernel
theorem d_Mo_go_182 : decode prog_11_method_30_code 182 = .ok (.iconst 5, 1) := by decide +kernel
theorem d_Mo_go_183 : decode prog_11_method_30_code 183 = .ok (.if_icmp .ge 40, 3) := by decide +kernel
theorem d_Mo_go_186 : decode prog_11_method_30_code 186 = .ok (.aload_n 0, 1) := by decide +kernel
theorem d_Mo_go_187 : decode prog_11_method_30_code 187 = .ok (.iload 5, 2) := by decide +kernel
theorem d_Mo_go_189 : decode prog_11_method_30_code 189 = .ok (.iload_n 3, 1) := by decide +kernel
theorem d_Mo_go_190 : decode prog_11_method_30_code 190 = .ok (.invokevirtual 290, 3) := by decide +kernel
theorem d_Mo_go_193 : decode prog_11_method_30_code 193 = .ok (.aload_n 0, 1) := by decide +kernel
theorem d_Mo_go_194 : decode prog_11_method_30_code 194 = .ok (.aload_n 0, 1) := by decide +kernel
theorem d_Mo_go_195 : decode prog_11_method_30_code 195 = .ok (.getfield 253, 3) := by decide +kernel
theorem d_Mo_go_198 : decode prog_11_method_30_code 198 = .ok (.ifCond .ne 12, 3) := by decide +kernel
theorem d_Mo_go_201 : decode prog_11_method_30_code 201 = .ok (.aload_n 0, 1) := by decide +kernel
theorem d_Mo_go_202 : decode prog_11_method_30_code 202 = .ok (.getfield 243, 3) := by decide +kernel
theorem d_Mo_go_205 : decode prog_11_method_30_code 205 = .ok (.lconst 1, 1) := by decide +kernel
theorem d_Mo_go_206 : decode prog_11_method_30_code 206 = .ok (.ladd, 1) := by decide +kernel
theorem d_Mo_go_207 : decode prog_11_method_30_code 207 = .ok (.goto 7, 3) := by decide +kernel
theorem d_Mo_go_210 : decode prog_11_method_30_code 210 = .ok (.aload_n 0, 1) := by decide +kernel
theorem d_Mo_go_211 : decode prog_11_method_30_code 211 = .ok (.getfield 243, 3) := by decide +kernel
theorem d_Mo_go_214 : decode prog_11_method_30_code 214 = .ok (.putfield 243, 3) := by decide +kernel
theorem d_Mo_go_217 : decode prog_11_method_30_code 217 = .ok (.iinc 5 1, 3) := by decide +kernel
theorem d_Mo_go_220 : decode prog_11_method_30_code 220 = .ok (.goto (-209), 3) := by decide +kernel
theorem d_Mo_go_223 : decode prog_11_method_30_code 223 = .ok (.aload_n 0, 1) := by decide +kernel
theorem d_Mo_go_224 : decode prog_11_method_30_code 224 = .ok (.iload 5, 2) := by decide +kernel
theorem d_Mo_go_226 : decode prog_11_method_30_code 226 = .ok (.invokevirtual 259, 3) := by decide +kernel
theorem d_Mo_go_229 : decode prog_11_method_30_code 229 = .ok (.ifCond .ne 4, 3) := by decide +kernel
theorem d_Mo_go_232 : decode prog_11_method_30_code 232 = .ok (.return_, 1) := by decide +kernel
theorem d_Mo_go_233 : decode prog_11_method_30_code 233 = .ok (.aload_n 0, 1) := by decide +kernel
theorem d_Mo_go_234 : decode prog_11_method_30_code 234 = .ok (.iload 5, 2) := by decide +kernel
theorem d_Mo_go_236 : decode prog_11_method_30_code 236 = .ok (.lconst 0, 1) := by decide +kernel
theorem d_Mo_go_237 : decode prog_11_method_30_code 237 = .ok (.invokevirtual 262, 3) := by decide +kernel
theorem d_Mo_go_240 : decode prog_11_method_30_code 240 = .ok (.aload_n 0, 1) := by decide +kernel
theorem d_Mo_go_241 : decode prog_11_method_30_code 241 = .ok (.dup, 1) := by decide +kernel
theorem d_Mo_go_242 : decode prog_11_method_30_code 242 = .ok (.getfield 243, 3) := by decide +kernel
theorem d_Mo_go_245 : decode prog_11_method_30_code 245 = .ok (.lconst 1, 1) := by decide +kernel
theorem d_Mo_go_246 : decode prog_11_method_30_code 246 = .ok (.ladd, 1) := by decide +kernel
theorem d_Mo_go_247 : decode prog_11_method_30_code 247 = .ok (.putfield 243, 3) := by decide +kernel
theorem d_Mo_go_250 : decode prog_11_method_30_code 250 = .ok (.aload_n 0, 1) := by decide +kernel
theorem d_Mo_go_251 : decode prog_11_method_30_code 251 = .ok (.getfield 47, 3) := by decide +kernel
theorem d_Mo_go_254 : decode prog_11_method_30_code 254 = .ok (.iload 5, 2) := by decide +kernel
theorem d_Mo_go_256 : decode prog_11_method_30_code 256 = .ok (.iaload, 1) := by decide +kernel
theorem d_Mo_go_257 : decode prog_11_method_30_code 257 = .ok (.bipush 7, 2) := by decide +kernel
theorem d_Mo_go_259 : decode prog_11_method_30_code 259 = .ok (.if_icmp .ne 15, 3) := by decide +kernel
theorem d_Mo_go_262 : decode prog_11_method_30_code 262 = .ok (.aload_n 0, 1) := by decide +kernel
theorem d_Mo_go_263 : decode prog_11_method_30_code 263 = .ok (.getfield 68, 3) := by decide +kernel
theorem d_Mo_go_266 : decode prog_11_method_30_code 266 = .ok (.iload 5, 2) := by decide +kernel
theorem d_Mo_go_268 : decode prog_11_method_30_code 268 = .ok (.iaload, 1) := by decide +kernel
theorem d_Mo_go_269 : decode prog_11_method_30_code 269 = .ok (.istore 5, 2) := by decide +kernel
theorem d_Mo_go_271 : decode prog_11_method_30_code 271 = .ok (.goto (-260), 3) := by decide +kernel
theorem d_Mo_go_274 : decode prog_11_method_30_code 274 = .ok (.aload_n 0, 1) := by decide +kernel
theorem d_Mo_go_275 : decode prog_11_method_30_code 275 = .ok (.getfield 81, 3) := by decide +kernel
theorem d_Mo_go_278 : decode prog_11_method_30_code 278 = .ok (.iload 4, 2) := by decide +kernel
theorem d_Mo_go_280 : decode prog_11_method_30_code 280 = .ok (.iload 5, 2) := by decide +kernel
theorem d_Mo_go_282 : decode prog_11_method_30_code 282 = .ok (.iastore, 1) := by decide +kernel
theorem d_Mo_go_283 : decode prog_11_method_30_code 283 = .ok (.aload_n 0, 1) := by decide +kernel
theorem d_Mo_go_284 : decode prog_11_method_30_code 284 = .ok (.getfield 124, 3) := by decide +kernel
theorem d_Mo_go_287 : decode prog_11_method_30_code 287 = .ok (.iload 4, 2) := by decide +kernel
theorem d_Mo_go_289 : decode prog_11_method_30_code 289 = .ok (.iconst 0, 1) := by decide +kernel
theorem d_Mo_go_290 : decode prog_11_method_30_code 290 = .ok (.iastore, 1) := by decide +kernel
theorem d_Mo_go_291 : decode prog_11_method_30_code 291 = .ok (.iinc 4 1, 3) := by decide +kernel
theorem d_Mo_go_294 : decode prog_11_method_30_code 294 = .ok (.aload_n 0, 1) := by decide +kernel
theorem d_Mo_go_295 : decode prog_11_method_30_code 295 = .ok (.getfield 47, 3) := by decide +kernel
theorem d_Mo_go_298 : decode prog_11_method_30_code 298 = .ok (.iload 5, 2) := by decide +kernel
theorem d_Mo_go_300 : decode prog_11_method_30_code 300 = .ok (.iaload, 1) := by decide +kernel
theorem d_Mo_go_301 : decode prog_11_method_30_code 301 = .ok (.bipush 6, 2) := by decide +kernel
theorem d_Mo_go_303 : decode prog_11_method_30_code 303 = .ok (.if_icmp .ne 45, 3) := by decide +kernel
theorem d_Mo_go_306 : decode prog_11_method_30_code 306 = .ok (.aload_n 0, 1) := by decide +kernel
theorem d_Mo_go_307 : decode prog_11_method_30_code 307 = .ok (.iload 5, 2) := by decide +kernel
theorem d_Mo_go_309 : decode prog_11_method_30_code 309 = .ok (.aload_n 0, 1) := by decide +kernel
theorem d_Mo_go_310 : decode prog_11_method_30_code 310 = .ok (.getfield 78, 3) := by decide +kernel
theorem d_Mo_go_313 : decode prog_11_method_30_code 313 = .ok (.aload_n 0, 1) := by decide +kernel
theorem d_Mo_go_314 : decode prog_11_method_30_code 314 = .ok (.getfield 71, 3) := by decide +kernel
theorem d_Mo_go_317 : decode prog_11_method_30_code 317 = .ok (.iload 5, 2) := by decide +kernel
theorem d_Mo_go_319 : decode prog_11_method_30_code 319 = .ok (.iaload, 1) := by decide +kernel
theorem d_Mo_go_320 : decode prog_11_method_30_code 320 = .ok (.laload, 1) := by decide +kernel
theorem d_Mo_go_321 : decode prog_11_method_30_code 321 = .ok (.invokevirtual 269, 3) := by decide +kernel
theorem d_Mo_go_324 : decode prog_11_method_30_code 324 = .ok (.aload_n 0, 1) := by decide +kernel
theorem d_Mo_go_325 : decode prog_11_method_30_code 325 = .ok (.aload_n 0, 1) := by decide +kernel
theorem d_Mo_go_326 : decode prog_11_method_30_code 326 = .ok (.getfield 253, 3) := by decide +kernel
theorem d_Mo_go_329 : decode prog_11_method_30_code 329 = .ok (.ifCond .ne 12, 3) := by decide +kernel
theorem d_Mo_go_332 : decode prog_11_method_30_code 332 = .ok (.aload_n 0, 1) := by decide +kernel
theorem d_Mo_go_333 : decode prog_11_method_30_code 333 = .ok (.getfield 243, 3) := by decide +kernel
theorem d_Mo_go_336 : decode prog_11_method_30_code 336 = .ok (.lconst 1, 1) := by decide +kernel
theorem d_Mo_go_337 : decode prog_11_method_30_code 337 = .ok (.ladd, 1) := by decide +kernel
theorem d_Mo_go_338 : decode prog_11_method_30_code 338 = .ok (.goto 7, 3) := by decide +kernel
theorem d_Mo_go_341 : decode prog_11_method_30_code 341 = .ok (.aload_n 0, 1) := by decide +kernel
theorem d_Mo_go_342 : decode prog_11_method_30_code 342 = .ok (.getfield 243, 3) := by decide +kernel
theorem d_Mo_go_345 : decode prog_11_method_30_code 345 = .ok (.putfield 243, 3) := by decide +kernel
theorem d_Mo_go_348 : decode prog_11_method_30_code 348 = .ok (.iinc 5 1, 3) := by decide +kernel
theorem d_Mo_go_351 : decode prog_11_method_30_code 351 = .ok (.goto (-340), 3) := by decide +kernel
theorem d_Mo_go_354 : decode prog_11_method_30_code 354 = .ok (.return_, 1) := by decide +kernel
