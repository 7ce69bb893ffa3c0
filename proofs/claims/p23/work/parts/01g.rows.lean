theorem dL_isSo_21 : decode cL_isSo 21 = .ok (.aload_n 1, 1) := by decide +kernel
theorem dL_isSo_22 : decode cL_isSo 22 = .ok (.iconst 0, 1) := by decide +kernel
theorem dL_isSo_23 : decode cL_isSo 23 = .ok (.iaload, 1) := by decide +kernel
theorem dL_isSo_24 : decode cL_isSo 24 = .ok (.if_icmp .ge 148, 3) := by decide +kernel
theorem dL_isSo_27 : decode cL_isSo 27 = .ok (.iload 10, 2) := by decide +kernel
theorem dL_isSo_29 : decode cL_isSo 29 = .ok (.ifCond .eq 143, 3) := by decide +kernel
theorem dL_isSo_32 : decode cL_isSo 32 = .ok (.aload_n 2, 1) := by decide +kernel
theorem dL_isSo_33 : decode cL_isSo 33 = .ok (.aload_n 1, 1) := by decide +kernel
theorem dL_isSo_34 : decode cL_isSo 34 = .ok (.iconst 0, 1) := by decide +kernel
theorem dL_isSo_35 : decode cL_isSo 35 = .ok (.iaload, 1) := by decide +kernel
theorem dL_isSo_36 : decode cL_isSo 36 = .ok (.iconst 1, 1) := by decide +kernel
theorem dL_isSo_37 : decode cL_isSo 37 = .ok (.isub, 1) := by decide +kernel
theorem dL_isSo_38 : decode cL_isSo 38 = .ok (.iload 11, 2) := by decide +kernel
theorem dL_isSo_40 : decode cL_isSo 40 = .ok (.isub, 1) := by decide +kernel
theorem dL_isSo_41 : decode cL_isSo 41 = .ok (.laload, 1) := by decide +kernel
theorem dL_isSo_42 : decode cL_isSo 42 = .ok (.lstore 12, 2) := by decide +kernel
theorem dL_isSo_44 : decode cL_isSo 44 = .ok (.lload 12, 2) := by decide +kernel
theorem dL_isSo_46 : decode cL_isSo 46 = .ok (.invokestatic 11, 3) := by decide +kernel
theorem dL_isSo_49 : decode cL_isSo 49 = .ok (.istore 14, 2) := by decide +kernel
theorem dL_isSo_51 : decode cL_isSo 51 = .ok (.iload 6, 2) := by decide +kernel
theorem dL_isSo_53 : decode cL_isSo 53 = .ok (.iload 14, 2) := by decide +kernel
theorem dL_isSo_55 : decode cL_isSo 55 = .ok (.ifCond .lt 7, 3) := by decide +kernel
theorem dL_isSo_58 : decode cL_isSo 58 = .ok (.iconst 1, 1) := by decide +kernel
theorem dL_isSo_59 : decode cL_isSo 59 = .ok (.goto 4, 3) := by decide +kernel
theorem dL_isSo_62 : decode cL_isSo 62 = .ok (.iconst 0, 1) := by decide +kernel
theorem dL_isSo_63 : decode cL_isSo 63 = .ok (.iadd, 1) := by decide +kernel
theorem dL_isSo_64 : decode cL_isSo 64 = .ok (.istore 6, 2) := by decide +kernel
theorem dL_isSo_66 : decode cL_isSo 66 = .ok (.aload_n 0, 1) := by decide +kernel
theorem dL_isSo_67 : decode cL_isSo 67 = .ok (.iload 11, 2) := by decide +kernel
theorem dL_isSo_69 : decode cL_isSo 69 = .ok (.iconst 0, 1) := by decide +kernel
theorem dL_isSo_70 : decode cL_isSo 70 = .ok (.invokevirtual 66, 3) := by decide +kernel
theorem dL_isSo_73 : decode cL_isSo 73 = .ok (.i2l, 1) := by decide +kernel
theorem dL_isSo_74 : decode cL_isSo 74 = .ok (.lload 12, 2) := by decide +kernel
theorem dL_isSo_76 : decode cL_isSo 76 = .ok (.ldc2_w 25, 3) := by decide +kernel
theorem dL_isSo_79 : decode cL_isSo 79 = .ok (.land, 1) := by decide +kernel
theorem dL_isSo_80 : decode cL_isSo 80 = .ok (.lcmp, 1) := by decide +kernel
theorem dL_isSo_81 : decode cL_isSo 81 = .ok (.ifCond .ne 82, 3) := by decide +kernel
theorem dL_isSo_84 : decode cL_isSo 84 = .ok (.aload_n 0, 1) := by decide +kernel
theorem dL_isSo_85 : decode cL_isSo 85 = .ok (.iload 11, 2) := by decide +kernel
theorem dL_isSo_87 : decode cL_isSo 87 = .ok (.iconst 1, 1) := by decide +kernel
theorem dL_isSo_88 : decode cL_isSo 88 = .ok (.invokevirtual 66, 3) := by decide +kernel
theorem dL_isSo_91 : decode cL_isSo 91 = .ok (.i2l, 1) := by decide +kernel
theorem dL_isSo_92 : decode cL_isSo 92 = .ok (.lload 12, 2) := by decide +kernel
theorem dL_isSo_94 : decode cL_isSo 94 = .ok (.bipush 8, 2) := by decide +kernel
theorem dL_isSo_96 : decode cL_isSo 96 = .ok (.lshr, 1) := by decide +kernel
theorem dL_isSo_97 : decode cL_isSo 97 = .ok (.ldc2_w 9, 3) := by decide +kernel
theorem dL_isSo_100 : decode cL_isSo 100 = .ok (.land, 1) := by decide +kernel
theorem dL_isSo_101 : decode cL_isSo 101 = .ok (.lcmp, 1) := by decide +kernel
theorem dL_isSo_102 : decode cL_isSo 102 = .ok (.ifCond .ne 61, 3) := by decide +kernel
theorem dL_isSo_105 : decode cL_isSo 105 = .ok (.aload_n 0, 1) := by decide +kernel
theorem dL_isSo_106 : decode cL_isSo 106 = .ok (.iload 11, 2) := by decide +kernel
theorem dL_isSo_108 : decode cL_isSo 108 = .ok (.iconst 2, 1) := by decide +kernel
theorem dL_isSo_109 : decode cL_isSo 109 = .ok (.invokevirtual 66, 3) := by decide +kernel
theorem dL_isSo_112 : decode cL_isSo 112 = .ok (.i2l, 1) := by decide +kernel
theorem dL_isSo_113 : decode cL_isSo 113 = .ok (.lload 12, 2) := by decide +kernel
theorem dL_isSo_115 : decode cL_isSo 115 = .ok (.bipush 12, 2) := by decide +kernel
theorem dL_isSo_117 : decode cL_isSo 117 = .ok (.lshr, 1) := by decide +kernel
theorem dL_isSo_118 : decode cL_isSo 118 = .ok (.ldc2_w 23, 3) := by decide +kernel
theorem dL_isSo_121 : decode cL_isSo 121 = .ok (.land, 1) := by decide +kernel
theorem dL_isSo_122 : decode cL_isSo 122 = .ok (.lcmp, 1) := by decide +kernel
theorem dL_isSo_123 : decode cL_isSo 123 = .ok (.ifCond .ne 40, 3) := by decide +kernel
theorem dL_isSo_126 : decode cL_isSo 126 = .ok (.aload_n 0, 1) := by decide +kernel
theorem dL_isSo_127 : decode cL_isSo 127 = .ok (.iload 11, 2) := by decide +kernel
theorem dL_isSo_129 : decode cL_isSo 129 = .ok (.iconst 3, 1) := by decide +kernel
theorem dL_isSo_130 : decode cL_isSo 130 = .ok (.invokevirtual 66, 3) := by decide +kernel
theorem dL_isSo_133 : decode cL_isSo 133 = .ok (.i2l, 1) := by decide +kernel
theorem dL_isSo_134 : decode cL_isSo 134 = .ok (.lload 12, 2) := by decide +kernel
theorem dL_isSo_136 : decode cL_isSo 136 = .ok (.bipush 22, 2) := by decide +kernel
theorem dL_isSo_138 : decode cL_isSo 138 = .ok (.lshr, 1) := by decide +kernel
theorem dL_isSo_139 : decode cL_isSo 139 = .ok (.ldc2_w 9, 3) := by decide +kernel
theorem dL_isSo_142 : decode cL_isSo 142 = .ok (.land, 1) := by decide +kernel
theorem dL_isSo_143 : decode cL_isSo 143 = .ok (.lcmp, 1) := by decide +kernel
theorem dL_isSo_144 : decode cL_isSo 144 = .ok (.ifCond .ne 19, 3) := by decide +kernel
theorem dL_isSo_147 : decode cL_isSo 147 = .ok (.aload_n 0, 1) := by decide +kernel
theorem dL_isSo_148 : decode cL_isSo 148 = .ok (.iload 11, 2) := by decide +kernel
theorem dL_isSo_150 : decode cL_isSo 150 = .ok (.iconst 4, 1) := by decide +kernel
theorem dL_isSo_151 : decode cL_isSo 151 = .ok (.invokevirtual 66, 3) := by decide +kernel
theorem dL_isSo_154 : decode cL_isSo 154 = .ok (.iload 14, 2) := by decide +kernel
theorem dL_isSo_156 : decode cL_isSo 156 = .ok (.if_icmp .ne 7, 3) := by decide +kernel
theorem dL_isSo_159 : decode cL_isSo 159 = .ok (.iconst 1, 1) := by decide +kernel
theorem dL_isSo_160 : decode cL_isSo 160 = .ok (.goto 4, 3) := by decide +kernel
theorem dL_isSo_163 : decode cL_isSo 163 = .ok (.iconst 0, 1) := by decide +kernel
theorem dL_isSo_164 : decode cL_isSo 164 = .ok (.istore 10, 2) := by decide +kernel
theorem dL_isSo_166 : decode cL_isSo 166 = .ok (.iinc 11 1, 3) := by decide +kernel
theorem dL_isSo_169 : decode cL_isSo 169 = .ok (.goto (-150), 3) := by decide +kernel
theorem dL_isSo_172 : decode cL_isSo 172 = .ok (.iconst 0, 1) := by decide +kernel
theorem dL_isSo_173 : decode cL_isSo 173 = .ok (.istore 11, 2) := by decide +kernel
theorem dL_isSo_175 : decode cL_isSo 175 = .ok (.iload 11, 2) := by decide +kernel
theorem dL_isSo_177 : decode cL_isSo 177 = .ok (.iconst 3, 1) := by decide +kernel
theorem dL_isSo_178 : decode cL_isSo 178 = .ok (.aload_n 1, 1) := by decide +kernel
theorem dL_isSo_179 : decode cL_isSo 179 = .ok (.bipush 11, 2) := by decide +kernel
theorem dL_isSo_181 : decode cL_isSo 181 = .ok (.iaload, 1) := by decide +kernel
theorem dL_isSo_182 : decode cL_isSo 182 = .ok (.imul, 1) := by decide +kernel
theorem dL_isSo_183 : decode cL_isSo 183 = .ok (.if_icmp .ge 40, 3) := by decide +kernel
theorem dL_isSo_186 : decode cL_isSo 186 = .ok (.iload 10, 2) := by decide +kernel
theorem dL_isSo_188 : decode cL_isSo 188 = .ok (.ifCond .eq 35, 3) := by decide +kernel
theorem dL_isSo_191 : decode cL_isSo 191 = .ok (.aload_n 0, 1) := by decide +kernel
theorem dL_isSo_192 : decode cL_isSo 192 = .ok (.iload 11, 2) := by decide +kernel
theorem dL_isSo_194 : decode cL_isSo 194 = .ok (.iconst 3, 1) := by decide +kernel
theorem dL_isSo_195 : decode cL_isSo 195 = .ok (.idiv, 1) := by decide +kernel
theorem dL_isSo_196 : decode cL_isSo 196 = .ok (.iload 11, 2) := by decide +kernel
theorem dL_isSo_198 : decode cL_isSo 198 = .ok (.iconst 3, 1) := by decide +kernel
theorem dL_isSo_199 : decode cL_isSo 199 = .ok (.irem, 1) := by decide +kernel
theorem dL_isSo_200 : decode cL_isSo 200 = .ok (.invokevirtual 69, 3) := by decide +kernel
theorem dL_isSo_203 : decode cL_isSo 203 = .ok (.aload_n 3, 1) := by decide +kernel
theorem dL_isSo_204 : decode cL_isSo 204 = .ok (.iload 11, 2) := by decide +kernel
theorem dL_isSo_206 : decode cL_isSo 206 = .ok (.iaload, 1) := by decide +kernel
theorem dL_isSo_207 : decode cL_isSo 207 = .ok (.if_icmp .ne 7, 3) := by decide +kernel
theorem dL_isSo_210 : decode cL_isSo 210 = .ok (.iconst 1, 1) := by decide +kernel
theorem dL_isSo_211 : decode cL_isSo 211 = .ok (.goto 4, 3) := by decide +kernel
theorem dL_isSo_214 : decode cL_isSo 214 = .ok (.iconst 0, 1) := by decide +kernel
theorem dL_isSo_215 : decode cL_isSo 215 = .ok (.istore 10, 2) := by decide +kernel
theorem dL_isSo_217 : decode cL_isSo 217 = .ok (.iinc 11 1, 3) := by decide +kernel
theorem dL_isSo_220 : decode cL_isSo 220 = .ok (.goto (-45), 3) := by decide +kernel
theorem dL_isSo_223 : decode cL_isSo 223 = .ok (.aload_n 1, 1) := by decide +kernel
theorem dL_isSo_224 : decode cL_isSo 224 = .ok (.bipush 10, 2) := by decide +kernel
theorem dL_isSo_226 : decode cL_isSo 226 = .ok (.iaload, 1) := by decide +kernel
theorem dL_isSo_227 : decode cL_isSo 227 = .ok (.bipush 12, 2) := by decide +kernel
theorem dL_isSo_229 : decode cL_isSo 229 = .ok (.if_icmp .ge 10, 3) := by decide +kernel
theorem dL_isSo_232 : decode cL_isSo 232 = .ok (.aload_n 1, 1) := by decide +kernel
theorem dL_isSo_233 : decode cL_isSo 233 = .ok (.bipush 10, 2) := by decide +kernel
theorem dL_isSo_235 : decode cL_isSo 235 = .ok (.iaload, 1) := by decide +kernel
theorem dL_isSo_236 : decode cL_isSo 236 = .ok (.goto 5, 3) := by decide +kernel
theorem dL_isSo_239 : decode cL_isSo 239 = .ok (.bipush 12, 2) := by decide +kernel
theorem dL_isSo_241 : decode cL_isSo 241 = .ok (.istore 11, 2) := by decide +kernel
theorem dL_isSo_243 : decode cL_isSo 243 = .ok (.iconst 0, 1) := by decide +kernel
theorem dL_isSo_244 : decode cL_isSo 244 = .ok (.istore 12, 2) := by decide +kernel
theorem dL_isSo_246 : decode cL_isSo 246 = .ok (.iload 12, 2) := by decide +kernel
theorem dL_isSo_248 : decode cL_isSo 248 = .ok (.iload 11, 2) := by decide +kernel
theorem dL_isSo_250 : decode cL_isSo 250 = .ok (.if_icmp .ge 161, 3) := by decide +kernel
theorem dL_isSo_253 : decode cL_isSo 253 = .ok (.iload 10, 2) := by decide +kernel
theorem dL_isSo_255 : decode cL_isSo 255 = .ok (.ifCond .eq 156, 3) := by decide +kernel
theorem dL_isSo_258 : decode cL_isSo 258 = .ok (.aload 4, 2) := by decide +kernel
theorem dL_isSo_260 : decode cL_isSo 260 = .ok (.aload_n 1, 1) := by decide +kernel
theorem dL_isSo_261 : decode cL_isSo 261 = .ok (.bipush 10, 2) := by decide +kernel
theorem dL_isSo_263 : decode cL_isSo 263 = .ok (.iaload, 1) := by decide +kernel
theorem dL_isSo_264 : decode cL_isSo 264 = .ok (.iconst 1, 1) := by decide +kernel
theorem dL_isSo_265 : decode cL_isSo 265 = .ok (.isub, 1) := by decide +kernel
theorem dL_isSo_266 : decode cL_isSo 266 = .ok (.iload 12, 2) := by decide +kernel
theorem dL_isSo_268 : decode cL_isSo 268 = .ok (.isub, 1) := by decide +kernel
theorem dL_isSo_269 : decode cL_isSo 269 = .ok (.laload, 1) := by decide +kernel
theorem dL_isSo_270 : decode cL_isSo 270 = .ok (.lstore 13, 2) := by decide +kernel
theorem dL_isSo_272 : decode cL_isSo 272 = .ok (.aload_n 0, 1) := by decide +kernel
theorem dL_isSo_273 : decode cL_isSo 273 = .ok (.iload 12, 2) := by decide +kernel
theorem dL_isSo_275 : decode cL_isSo 275 = .ok (.iconst 0, 1) := by decide +kernel
theorem dL_isSo_276 : decode cL_isSo 276 = .ok (.invokevirtual 72, 3) := by decide +kernel
theorem dL_isSo_279 : decode cL_isSo 279 = .ok (.i2l, 1) := by decide +kernel
theorem dL_isSo_280 : decode cL_isSo 280 = .ok (.lload 13, 2) := by decide +kernel
theorem dL_isSo_282 : decode cL_isSo 282 = .ok (.ldc2_w 75, 3) := by decide +kernel
theorem dL_isSo_285 : decode cL_isSo 285 = .ok (.land, 1) := by decide +kernel
theorem dL_isSo_286 : decode cL_isSo 286 = .ok (.lcmp, 1) := by decide +kernel
theorem dL_isSo_287 : decode cL_isSo 287 = .ok (.ifCond .ne 115, 3) := by decide +kernel
theorem dL_isSo_290 : decode cL_isSo 290 = .ok (.aload_n 0, 1) := by decide +kernel
theorem dL_isSo_291 : decode cL_isSo 291 = .ok (.iload 12, 2) := by decide +kernel
theorem dL_isSo_293 : decode cL_isSo 293 = .ok (.iconst 1, 1) := by decide +kernel
theorem dL_isSo_294 : decode cL_isSo 294 = .ok (.invokevirtual 72, 3) := by decide +kernel
theorem dL_isSo_297 : decode cL_isSo 297 = .ok (.i2l, 1) := by decide +kernel
theorem dL_isSo_298 : decode cL_isSo 298 = .ok (.lload 13, 2) := by decide +kernel
theorem dL_isSo_300 : decode cL_isSo 300 = .ok (.iconst 2, 1) := by decide +kernel
theorem dL_isSo_301 : decode cL_isSo 301 = .ok (.lshr, 1) := by decide +kernel
theorem dL_isSo_302 : decode cL_isSo 302 = .ok (.ldc2_w 25, 3) := by decide +kernel
theorem dL_isSo_305 : decode cL_isSo 305 = .ok (.land, 1) := by decide +kernel
theorem dL_isSo_306 : decode cL_isSo 306 = .ok (.ldc2_w 17, 3) := by decide +kernel
theorem dL_isSo_309 : decode cL_isSo 309 = .ok (.lsub, 1) := by decide +kernel
theorem dL_isSo_310 : decode cL_isSo 310 = .ok (.lcmp, 1) := by decide +kernel
theorem dL_isSo_311 : decode cL_isSo 311 = .ok (.ifCond .ne 91, 3) := by decide +kernel
theorem dL_isSo_314 : decode cL_isSo 314 = .ok (.aload_n 0, 1) := by decide +kernel
theorem dL_isSo_315 : decode cL_isSo 315 = .ok (.iload 12, 2) := by decide +kernel
theorem dL_isSo_317 : decode cL_isSo 317 = .ok (.iconst 2, 1) := by decide +kernel
theorem dL_isSo_318 : decode cL_isSo 318 = .ok (.invokevirtual 72, 3) := by decide +kernel
theorem dL_isSo_321 : decode cL_isSo 321 = .ok (.i2l, 1) := by decide +kernel
theorem dL_isSo_322 : decode cL_isSo 322 = .ok (.lload 13, 2) := by decide +kernel
theorem dL_isSo_324 : decode cL_isSo 324 = .ok (.bipush 10, 2) := by decide +kernel
theorem dL_isSo_326 : decode cL_isSo 326 = .ok (.lshr, 1) := by decide +kernel
theorem dL_isSo_327 : decode cL_isSo 327 = .ok (.ldc2_w 25, 3) := by decide +kernel
theorem dL_isSo_330 : decode cL_isSo 330 = .ok (.land, 1) := by decide +kernel
theorem dL_isSo_331 : decode cL_isSo 331 = .ok (.lcmp, 1) := by decide +kernel
theorem dL_isSo_332 : decode cL_isSo 332 = .ok (.ifCond .ne 70, 3) := by decide +kernel
theorem dL_isSo_335 : decode cL_isSo 335 = .ok (.aload_n 0, 1) := by decide +kernel
theorem dL_isSo_336 : decode cL_isSo 336 = .ok (.iload 12, 2) := by decide +kernel
theorem dL_isSo_338 : decode cL_isSo 338 = .ok (.iconst 3, 1) := by decide +kernel
theorem dL_isSo_339 : decode cL_isSo 339 = .ok (.invokevirtual 72, 3) := by decide +kernel
theorem dL_isSo_342 : decode cL_isSo 342 = .ok (.i2l, 1) := by decide +kernel
theorem dL_isSo_343 : decode cL_isSo 343 = .ok (.lload 13, 2) := by decide +kernel
theorem dL_isSo_345 : decode cL_isSo 345 = .ok (.bipush 18, 2) := by decide +kernel
theorem dL_isSo_347 : decode cL_isSo 347 = .ok (.lshr, 1) := by decide +kernel
theorem dL_isSo_348 : decode cL_isSo 348 = .ok (.ldc2_w 23, 3) := by decide +kernel
theorem dL_isSo_351 : decode cL_isSo 351 = .ok (.land, 1) := by decide +kernel
theorem dL_isSo_352 : decode cL_isSo 352 = .ok (.ldc2_w 17, 3) := by decide +kernel
theorem dL_isSo_355 : decode cL_isSo 355 = .ok (.lsub, 1) := by decide +kernel
theorem dL_isSo_356 : decode cL_isSo 356 = .ok (.lcmp, 1) := by decide +kernel
theorem dL_isSo_357 : decode cL_isSo 357 = .ok (.ifCond .ne 45, 3) := by decide +kernel
theorem dL_isSo_360 : decode cL_isSo 360 = .ok (.aload_n 0, 1) := by decide +kernel
theorem dL_isSo_361 : decode cL_isSo 361 = .ok (.iload 12, 2) := by decide +kernel
theorem dL_isSo_363 : decode cL_isSo 363 = .ok (.iconst 4, 1) := by decide +kernel
theorem dL_isSo_364 : decode cL_isSo 364 = .ok (.invokevirtual 72, 3) := by decide +kernel
theorem dL_isSo_367 : decode cL_isSo 367 = .ok (.i2l, 1) := by decide +kernel
theorem dL_isSo_368 : decode cL_isSo 368 = .ok (.lload 13, 2) := by decide +kernel
theorem dL_isSo_370 : decode cL_isSo 370 = .ok (.bipush 28, 2) := by decide +kernel
theorem dL_isSo_372 : decode cL_isSo 372 = .ok (.lshr, 1) := by decide +kernel
theorem dL_isSo_373 : decode cL_isSo 373 = .ok (.ldc2_w 23, 3) := by decide +kernel
theorem dL_isSo_376 : decode cL_isSo 376 = .ok (.land, 1) := by decide +kernel
theorem dL_isSo_377 : decode cL_isSo 377 = .ok (.lcmp, 1) := by decide +kernel
theorem dL_isSo_378 : decode cL_isSo 378 = .ok (.ifCond .ne 24, 3) := by decide +kernel
theorem dL_isSo_381 : decode cL_isSo 381 = .ok (.aload_n 0, 1) := by decide +kernel
theorem dL_isSo_382 : decode cL_isSo 382 = .ok (.iload 12, 2) := by decide +kernel
theorem dL_isSo_384 : decode cL_isSo 384 = .ok (.iconst 5, 1) := by decide +kernel
theorem dL_isSo_385 : decode cL_isSo 385 = .ok (.invokevirtual 72, 3) := by decide +kernel
theorem dL_isSo_388 : decode cL_isSo 388 = .ok (.i2l, 1) := by decide +kernel
theorem dL_isSo_389 : decode cL_isSo 389 = .ok (.lload 13, 2) := by decide +kernel
theorem dL_isSo_391 : decode cL_isSo 391 = .ok (.bipush 38, 2) := by decide +kernel
theorem dL_isSo_393 : decode cL_isSo 393 = .ok (.lshr, 1) := by decide +kernel
theorem dL_isSo_394 : decode cL_isSo 394 = .ok (.lcmp, 1) := by decide +kernel
theorem dL_isSo_395 : decode cL_isSo 395 = .ok (.ifCond .ne 7, 3) := by decide +kernel
theorem dL_isSo_398 : decode cL_isSo 398 = .ok (.iconst 1, 1) := by decide +kernel
theorem dL_isSo_399 : decode cL_isSo 399 = .ok (.goto 4, 3) := by decide +kernel
theorem dL_isSo_402 : decode cL_isSo 402 = .ok (.iconst 0, 1) := by decide +kernel
theorem dL_isSo_403 : decode cL_isSo 403 = .ok (.istore 10, 2) := by decide +kernel
theorem dL_isSo_405 : decode cL_isSo 405 = .ok (.iinc 12 1, 3) := by decide +kernel
theorem dL_isSo_408 : decode cL_isSo 408 = .ok (.goto (-162), 3) := by decide +kernel
theorem dL_isSo_411 : decode cL_isSo 411 = .ok (.iconst 0, 1) := by decide +kernel
theorem dL_isSo_412 : decode cL_isSo 412 = .ok (.istore 12, 2) := by decide +kernel
theorem dL_isSo_414 : decode cL_isSo 414 = .ok (.iload 12, 2) := by decide +kernel
theorem dL_isSo_416 : decode cL_isSo 416 = .ok (.aload_n 1, 1) := by decide +kernel
theorem dL_isSo_417 : decode cL_isSo 417 = .ok (.iconst 2, 1) := by decide +kernel
theorem dL_isSo_418 : decode cL_isSo 418 = .ok (.iaload, 1) := by decide +kernel
theorem dL_isSo_419 : decode cL_isSo 419 = .ok (.if_icmp .ge 86, 3) := by decide +kernel
theorem dL_isSo_422 : decode cL_isSo 422 = .ok (.iload 10, 2) := by decide +kernel
theorem dL_isSo_424 : decode cL_isSo 424 = .ok (.ifCond .eq 81, 3) := by decide +kernel
theorem dL_isSo_427 : decode cL_isSo 427 = .ok (.aload 5, 2) := by decide +kernel
theorem dL_isSo_429 : decode cL_isSo 429 = .ok (.iload 12, 2) := by decide +kernel
theorem dL_isSo_431 : decode cL_isSo 431 = .ok (.iaload, 1) := by decide +kernel
theorem dL_isSo_432 : decode cL_isSo 432 = .ok (.iload 7, 2) := by decide +kernel
theorem dL_isSo_434 : decode cL_isSo 434 = .ok (.if_icmp .le 8, 3) := by decide +kernel
theorem dL_isSo_437 : decode cL_isSo 437 = .ok (.iload 12, 2) := by decide +kernel
theorem dL_isSo_439 : decode cL_isSo 439 = .ok (.goto 5, 3) := by decide +kernel
theorem dL_isSo_442 : decode cL_isSo 442 = .ok (.iload 8, 2) := by decide +kernel
theorem dL_isSo_444 : decode cL_isSo 444 = .ok (.istore 8, 2) := by decide +kernel
theorem dL_isSo_446 : decode cL_isSo 446 = .ok (.aload 5, 2) := by decide +kernel
theorem dL_isSo_448 : decode cL_isSo 448 = .ok (.iload 12, 2) := by decide +kernel
theorem dL_isSo_450 : decode cL_isSo 450 = .ok (.iaload, 1) := by decide +kernel
theorem dL_isSo_451 : decode cL_isSo 451 = .ok (.iload 7, 2) := by decide +kernel
theorem dL_isSo_453 : decode cL_isSo 453 = .ok (.if_icmp .le 11, 3) := by decide +kernel
theorem dL_isSo_456 : decode cL_isSo 456 = .ok (.aload 5, 2) := by decide +kernel
theorem dL_isSo_458 : decode cL_isSo 458 = .ok (.iload 12, 2) := by decide +kernel
theorem dL_isSo_460 : decode cL_isSo 460 = .ok (.iaload, 1) := by decide +kernel
theorem dL_isSo_461 : decode cL_isSo 461 = .ok (.goto 5, 3) := by decide +kernel
theorem dL_isSo_464 : decode cL_isSo 464 = .ok (.iload 7, 2) := by decide +kernel
theorem dL_isSo_466 : decode cL_isSo 466 = .ok (.istore 7, 2) := by decide +kernel
theorem dL_isSo_468 : decode cL_isSo 468 = .ok (.iload 9, 2) := by decide +kernel
theorem dL_isSo_470 : decode cL_isSo 470 = .ok (.aload 5, 2) := by decide +kernel
theorem dL_isSo_472 : decode cL_isSo 472 = .ok (.iload 12, 2) := by decide +kernel
theorem dL_isSo_474 : decode cL_isSo 474 = .ok (.iaload, 1) := by decide +kernel
theorem dL_isSo_475 : decode cL_isSo 475 = .ok (.iadd, 1) := by decide +kernel
theorem dL_isSo_476 : decode cL_isSo 476 = .ok (.istore 9, 2) := by decide +kernel
theorem dL_isSo_478 : decode cL_isSo 478 = .ok (.aload_n 0, 1) := by decide +kernel
theorem dL_isSo_479 : decode cL_isSo 479 = .ok (.iload 12, 2) := by decide +kernel
theorem dL_isSo_481 : decode cL_isSo 481 = .ok (.invokevirtual 77, 3) := by decide +kernel
theorem dL_isSo_484 : decode cL_isSo 484 = .ok (.aload 5, 2) := by decide +kernel
theorem dL_isSo_486 : decode cL_isSo 486 = .ok (.iload 12, 2) := by decide +kernel
theorem dL_isSo_488 : decode cL_isSo 488 = .ok (.iaload, 1) := by decide +kernel
theorem dL_isSo_489 : decode cL_isSo 489 = .ok (.if_icmp .ne 7, 3) := by decide +kernel
theorem dL_isSo_492 : decode cL_isSo 492 = .ok (.iconst 1, 1) := by decide +kernel
theorem dL_isSo_493 : decode cL_isSo 493 = .ok (.goto 4, 3) := by decide +kernel
theorem dL_isSo_496 : decode cL_isSo 496 = .ok (.iconst 0, 1) := by decide +kernel
theorem dL_isSo_497 : decode cL_isSo 497 = .ok (.istore 10, 2) := by decide +kernel
theorem dL_isSo_499 : decode cL_isSo 499 = .ok (.iinc 12 1, 3) := by decide +kernel
theorem dL_isSo_502 : decode cL_isSo 502 = .ok (.goto (-88), 3) := by decide +kernel
theorem dL_isSo_505 : decode cL_isSo 505 = .ok (.iconst 0, 1) := by decide +kernel
theorem dL_isSo_506 : decode cL_isSo 506 = .ok (.istore 12, 2) := by decide +kernel
theorem dL_isSo_508 : decode cL_isSo 508 = .ok (.iload 12, 2) := by decide +kernel
theorem dL_isSo_510 : decode cL_isSo 510 = .ok (.bipush 15, 2) := by decide +kernel
theorem dL_isSo_512 : decode cL_isSo 512 = .ok (.if_icmp .ge 46, 3) := by decide +kernel
theorem dL_isSo_515 : decode cL_isSo 515 = .ok (.iload 10, 2) := by decide +kernel
theorem dL_isSo_517 : decode cL_isSo 517 = .ok (.ifCond .eq 32, 3) := by decide +kernel
theorem dL_isSo_520 : decode cL_isSo 520 = .ok (.aload_n 0, 1) := by decide +kernel
theorem dL_isSo_521 : decode cL_isSo 521 = .ok (.iload 12, 2) := by decide +kernel
theorem dL_isSo_523 : decode cL_isSo 523 = .ok (.invokevirtual 80, 3) := by decide +kernel
theorem dL_isSo_526 : decode cL_isSo 526 = .ok (.iload 12, 2) := by decide +kernel
theorem dL_isSo_528 : decode cL_isSo 528 = .ok (.bipush 10, 2) := by decide +kernel
theorem dL_isSo_530 : decode cL_isSo 530 = .ok (.if_icmp .ne 8, 3) := by decide +kernel
theorem dL_isSo_533 : decode cL_isSo 533 = .ok (.iload 11, 2) := by decide +kernel
theorem dL_isSo_535 : decode cL_isSo 535 = .ok (.goto 7, 3) := by decide +kernel
theorem dL_isSo_538 : decode cL_isSo 538 = .ok (.aload_n 1, 1) := by decide +kernel
theorem dL_isSo_539 : decode cL_isSo 539 = .ok (.iload 12, 2) := by decide +kernel
theorem dL_isSo_541 : decode cL_isSo 541 = .ok (.iaload, 1) := by decide +kernel
theorem dL_isSo_542 : decode cL_isSo 542 = .ok (.if_icmp .ne 7, 3) := by decide +kernel
theorem dL_isSo_545 : decode cL_isSo 545 = .ok (.iconst 1, 1) := by decide +kernel
theorem dL_isSo_546 : decode cL_isSo 546 = .ok (.goto 4, 3) := by decide +kernel
theorem dL_isSo_549 : decode cL_isSo 549 = .ok (.iconst 0, 1) := by decide +kernel
theorem dL_isSo_550 : decode cL_isSo 550 = .ok (.istore 10, 2) := by decide +kernel
theorem dL_isSo_552 : decode cL_isSo 552 = .ok (.iinc 12 1, 3) := by decide +kernel
theorem dL_isSo_555 : decode cL_isSo 555 = .ok (.goto (-47), 3) := by decide +kernel
theorem dL_isSo_558 : decode cL_isSo 558 = .ok (.iload 10, 2) := by decide +kernel
theorem dL_isSo_560 : decode cL_isSo 560 = .ok (.ifCond .eq 50, 3) := by decide +kernel
theorem dL_isSo_563 : decode cL_isSo 563 = .ok (.aload_n 1, 1) := by decide +kernel
theorem dL_isSo_564 : decode cL_isSo 564 = .ok (.iconst 4, 1) := by decide +kernel
theorem dL_isSo_565 : decode cL_isSo 565 = .ok (.iaload, 1) := by decide +kernel
theorem dL_isSo_566 : decode cL_isSo 566 = .ok (.aload_n 1, 1) := by decide +kernel
theorem dL_isSo_567 : decode cL_isSo 567 = .ok (.bipush 6, 2) := by decide +kernel
theorem dL_isSo_569 : decode cL_isSo 569 = .ok (.iaload, 1) := by decide +kernel
theorem dL_isSo_570 : decode cL_isSo 570 = .ok (.aload_n 1, 1) := by decide +kernel
theorem dL_isSo_571 : decode cL_isSo 571 = .ok (.bipush 8, 2) := by decide +kernel
theorem dL_isSo_573 : decode cL_isSo 573 = .ok (.iaload, 1) := by decide +kernel
theorem dL_isSo_574 : decode cL_isSo 574 = .ok (.iadd, 1) := by decide +kernel
theorem dL_isSo_575 : decode cL_isSo 575 = .ok (.aload_n 1, 1) := by decide +kernel
theorem dL_isSo_576 : decode cL_isSo 576 = .ok (.bipush 9, 2) := by decide +kernel
theorem dL_isSo_578 : decode cL_isSo 578 = .ok (.iaload, 1) := by decide +kernel
theorem dL_isSo_579 : decode cL_isSo 579 = .ok (.iadd, 1) := by decide +kernel
theorem dL_isSo_580 : decode cL_isSo 580 = .ok (.if_icmp .ne 30, 3) := by decide +kernel
theorem dL_isSo_583 : decode cL_isSo 583 = .ok (.iload 9, 2) := by decide +kernel
theorem dL_isSo_585 : decode cL_isSo 585 = .ok (.aload_n 1, 1) := by decide +kernel
theorem dL_isSo_586 : decode cL_isSo 586 = .ok (.bipush 8, 2) := by decide +kernel
theorem dL_isSo_588 : decode cL_isSo 588 = .ok (.iaload, 1) := by decide +kernel
theorem dL_isSo_589 : decode cL_isSo 589 = .ok (.aload_n 1, 1) := by decide +kernel
theorem dL_isSo_590 : decode cL_isSo 590 = .ok (.bipush 9, 2) := by decide +kernel
theorem dL_isSo_592 : decode cL_isSo 592 = .ok (.iaload, 1) := by decide +kernel
theorem dL_isSo_593 : decode cL_isSo 593 = .ok (.iadd, 1) := by decide +kernel
theorem dL_isSo_594 : decode cL_isSo 594 = .ok (.if_icmp .gt 16, 3) := by decide +kernel
theorem dL_isSo_597 : decode cL_isSo 597 = .ok (.iload 9, 2) := by decide +kernel
theorem dL_isSo_599 : decode cL_isSo 599 = .ok (.aload_n 1, 1) := by decide +kernel
theorem dL_isSo_600 : decode cL_isSo 600 = .ok (.bipush 8, 2) := by decide +kernel
theorem dL_isSo_602 : decode cL_isSo 602 = .ok (.iaload, 1) := by decide +kernel
theorem dL_isSo_603 : decode cL_isSo 603 = .ok (.if_icmp .lt 7, 3) := by decide +kernel
theorem dL_isSo_606 : decode cL_isSo 606 = .ok (.iconst 1, 1) := by decide +kernel
theorem dL_isSo_607 : decode cL_isSo 607 = .ok (.goto 4, 3) := by decide +kernel
theorem dL_isSo_610 : decode cL_isSo 610 = .ok (.iconst 0, 1) := by decide +kernel
theorem dL_isSo_611 : decode cL_isSo 611 = .ok (.istore 10, 2) := by decide +kernel
theorem dL_isSo_613 : decode cL_isSo 613 = .ok (.iload 10, 2) := by decide +kernel
theorem dL_isSo_615 : decode cL_isSo 615 = .ok (.ifCond .eq 84, 3) := by decide +kernel
theorem dL_isSo_618 : decode cL_isSo 618 = .ok (.aload_n 0, 1) := by decide +kernel
theorem dL_isSo_619 : decode cL_isSo 619 = .ok (.bipush 16, 2) := by decide +kernel
theorem dL_isSo_621 : decode cL_isSo 621 = .ok (.invokevirtual 80, 3) := by decide +kernel
theorem dL_isSo_624 : decode cL_isSo 624 = .ok (.ifCond .ne 75, 3) := by decide +kernel
theorem dL_isSo_627 : decode cL_isSo 627 = .ok (.aload_n 0, 1) := by decide +kernel
theorem dL_isSo_628 : decode cL_isSo 628 = .ok (.bipush 17, 2) := by decide +kernel
theorem dL_isSo_630 : decode cL_isSo 630 = .ok (.invokevirtual 80, 3) := by decide +kernel
theorem dL_isSo_633 : decode cL_isSo 633 = .ok (.iload 6, 2) := by decide +kernel
theorem dL_isSo_635 : decode cL_isSo 635 = .ok (.if_icmp .ne 64, 3) := by decide +kernel
theorem dL_isSo_638 : decode cL_isSo 638 = .ok (.aload_n 0, 1) := by decide +kernel
theorem dL_isSo_639 : decode cL_isSo 639 = .ok (.invokevirtual 83, 3) := by decide +kernel
theorem dL_isSo_642 : decode cL_isSo 642 = .ok (.iload 8, 2) := by decide +kernel
theorem dL_isSo_644 : decode cL_isSo 644 = .ok (.if_icmp .ne 55, 3) := by decide +kernel
theorem dL_isSo_647 : decode cL_isSo 647 = .ok (.aload_n 0, 1) := by decide +kernel
theorem dL_isSo_648 : decode cL_isSo 648 = .ok (.aload_n 1, 1) := by decide +kernel
theorem dL_isSo_649 : decode cL_isSo 649 = .ok (.iconst 0, 1) := by decide +kernel
theorem dL_isSo_650 : decode cL_isSo 650 = .ok (.iaload, 1) := by decide +kernel
theorem dL_isSo_651 : decode cL_isSo 651 = .ok (.iconst 0, 1) := by decide +kernel
theorem dL_isSo_652 : decode cL_isSo 652 = .ok (.invokevirtual 66, 3) := by decide +kernel
theorem dL_isSo_655 : decode cL_isSo 655 = .ok (.iconst (-1), 1) := by decide +kernel
theorem dL_isSo_656 : decode cL_isSo 656 = .ok (.if_icmp .ne 43, 3) := by decide +kernel
theorem dL_isSo_659 : decode cL_isSo 659 = .ok (.aload_n 0, 1) := by decide +kernel
theorem dL_isSo_660 : decode cL_isSo 660 = .ok (.aload_n 1, 1) := by decide +kernel
theorem dL_isSo_661 : decode cL_isSo 661 = .ok (.bipush 11, 2) := by decide +kernel
theorem dL_isSo_663 : decode cL_isSo 663 = .ok (.iaload, 1) := by decide +kernel
theorem dL_isSo_664 : decode cL_isSo 664 = .ok (.iconst 0, 1) := by decide +kernel
theorem dL_isSo_665 : decode cL_isSo 665 = .ok (.invokevirtual 69, 3) := by decide +kernel
theorem dL_isSo_668 : decode cL_isSo 668 = .ok (.iconst (-1), 1) := by decide +kernel
theorem dL_isSo_669 : decode cL_isSo 669 = .ok (.if_icmp .ne 30, 3) := by decide +kernel
theorem dL_isSo_672 : decode cL_isSo 672 = .ok (.aload_n 0, 1) := by decide +kernel
theorem dL_isSo_673 : decode cL_isSo 673 = .ok (.iload 11, 2) := by decide +kernel
theorem dL_isSo_675 : decode cL_isSo 675 = .ok (.iconst 0, 1) := by decide +kernel
theorem dL_isSo_676 : decode cL_isSo 676 = .ok (.invokevirtual 72, 3) := by decide +kernel
theorem dL_isSo_679 : decode cL_isSo 679 = .ok (.bipush (-9), 2) := by decide +kernel
theorem dL_isSo_681 : decode cL_isSo 681 = .ok (.if_icmp .ne 18, 3) := by decide +kernel
theorem dL_isSo_684 : decode cL_isSo 684 = .ok (.aload_n 0, 1) := by decide +kernel
theorem dL_isSo_685 : decode cL_isSo 685 = .ok (.aload_n 1, 1) := by decide +kernel
theorem dL_isSo_686 : decode cL_isSo 686 = .ok (.iconst 2, 1) := by decide +kernel
theorem dL_isSo_687 : decode cL_isSo 687 = .ok (.iaload, 1) := by decide +kernel
theorem dL_isSo_688 : decode cL_isSo 688 = .ok (.invokevirtual 77, 3) := by decide +kernel
theorem dL_isSo_691 : decode cL_isSo 691 = .ok (.iconst (-1), 1) := by decide +kernel
theorem dL_isSo_692 : decode cL_isSo 692 = .ok (.if_icmp .ne 7, 3) := by decide +kernel
theorem dL_isSo_695 : decode cL_isSo 695 = .ok (.iconst 1, 1) := by decide +kernel
theorem dL_isSo_696 : decode cL_isSo 696 = .ok (.goto 4, 3) := by decide +kernel
theorem dL_isSo_699 : decode cL_isSo 699 = .ok (.iconst 0, 1) := by decide +kernel
theorem dL_isSo_700 : decode cL_isSo 700 = .ok (.ireturn, 1) := by decide +kernel
set_option maxRecDepth 20000 in
theorem ggL_law_X2_init : GoodIn wsL_law wsX2_init := goodIn_r _ [7, 8, 9, 10, 11, 12, 13, 14, 15, 16, 17, 18, 19, 20, 21, 22, 23, 24, 25, 3, 26, 27, 28, 29, 30, 31, 32, 33, 34, 35, 36, 37, 38, 39, 40, 41, 42, 43, 44, 45, 46, 47, 48, 49, 50, 51, 250, 251, 252, 253, 254, 255, 256, 257, 258, 259, 260, 261, 262, 263, 244, 245, 246, 247, 248, 249, 264, 265, 266] (by decide +kernel) (by decide +kernel)
set_option maxRecDepth 20000 in
theorem gL_law_X2_init : GoodIn wsL_law (wsX2_init) := ggL_law_X2_init
set_option maxRecDepth 20000 in
theorem ggL_law_L_fresh : GoodIn wsL_law wsL_fresh := goodIn_r _ [55] (by decide +kernel) (by decide +kernel)
set_option maxRecDepth 20000 in
theorem gL_law_L_fresh : GoodIn wsL_law (va_wsS RL 62 yL_fresh wsL_fresh) := goodIn_app (goodIn_of _ (by decide +kernel)) ggL_law_L_fresh
set_option maxRecDepth 20000 in
theorem ggL_law_L_cell : GoodIn wsL_law wsL_cell := goodIn_r _ [58, 59] (by decide +kernel) (by decide +kernel)
set_option maxRecDepth 20000 in
theorem gL_law_L_cell : GoodIn wsL_law (va_wsS RL 87 yL_cell wsL_cell) := goodIn_app (goodIn_of _ (by decide +kernel)) ggL_law_L_cell
set_option maxRecDepth 20000 in
theorem ggL_law_L_low : GoodIn wsL_law wsL_low := goodIn_r _ [62, 63] (by decide +kernel) (by decide +kernel)
set_option maxRecDepth 20000 in
theorem gL_law_L_low : GoodIn wsL_law (va_wsS RL 28 yL_low wsL_low) := goodIn_app (goodIn_of _ (by decide +kernel)) ggL_law_L_low
set_option maxRecDepth 20000 in
theorem ggL_law_X2_begin : GoodIn wsL_law wsX2_begin := goodIn_r _ [67, 14, 68, 69, 70, 2, 71, 72, 73, 74, 75, 76, 17, 77, 78, 79, 80, 81, 82, 83, 13, 84, 85, 38, 39, 40, 41, 42, 43, 26, 86, 87, 88, 89, 27, 28, 30, 31, 32, 33, 90, 91, 92, 93, 35, 36, 37, 44, 45, 46, 47, 244, 245, 246, 247, 248, 249, 250, 251, 252, 253, 254, 255, 256, 257, 258, 259, 260, 261, 262, 263] (by decide +kernel) (by decide +kernel)
set_option maxRecDepth 20000 in
theorem gL_law_X2_begin : GoodIn wsL_law (wsV RL 59 RX2 yX2_begin wsX2_begin) := goodIn_app (goodIn_of _ (by decide +kernel)) ggL_law_X2_begin
set_option maxRecDepth 20000 in
theorem qz_gacts : GoodIn wsL_law ((wsL_acts_r1 ++ (wsL_acts_r2 ++ (wsL_acts_r3 ++ (wsL_acts_r4 ++ (wsL_acts_r5 ++ (wsL_acts_r6 ++ wsL_acts_r7)))))) ++ wsX20 ++ wsX00) := goodIn_r _ [97, 98, 60, 61, 54, 62, 63, 99, 100, 101, 2, 102, 103, 104, 105, 106, 15, 14, 81, 82, 83, 13, 84, 85, 38, 39, 40, 41, 42, 43, 26, 86, 87, 88, 89, 27, 28, 30, 31, 32, 33, 90, 91, 92, 107, 108, 109, 110, 111, 112, 113, 114, 115, 116, 117, 118, 119, 120, 121, 122, 123, 124, 125, 126, 127, 128, 129, 130, 131, 132, 133, 134, 135, 136, 137, 138, 139, 140, 141, 142, 143, 144, 145, 146, 147, 148, 149, 150, 151, 152, 153, 154, 155, 156, 157, 158, 159, 160, 161, 162, 163, 164, 165, 166, 167, 72, 73, 74, 75, 76, 17, 77, 78, 79, 80, 168, 169, 170, 171, 172, 173, 174, 175, 176, 177, 178, 179, 180, 181, 182, 183, 184, 185, 186, 187, 188, 189, 190, 191, 192, 193, 194, 195, 196, 197, 198, 199, 64, 65, 66, 67, 68, 69, 70, 71, 93, 35, 36, 37, 44, 45, 46, 47, 52, 53, 55, 244, 245, 246, 247, 248, 249, 250, 251, 252, 253, 254, 255, 256, 257, 258, 259, 260, 261, 262, 263] (by decide +kernel) (by decide +kernel)
set_option maxRecDepth 100000 in
set_option maxHeartbeats 4000000 in
theorem qz_gmacts : Cond.code yL_acts cL_acts 12 (some .boolean) ∈ wsL_law := List.mem_of_getElem? (i := 96) rfl
theorem ggL_law_L_acts : GoodIn wsL_law wsL_acts := fun w hw => (List.mem_cons.mp (show w ∈ Cond.code yL_acts cL_acts 12 (some .boolean) :: ((wsL_acts_r1 ++ (wsL_acts_r2 ++ (wsL_acts_r3 ++ (wsL_acts_r4 ++ (wsL_acts_r5 ++ (wsL_acts_r6 ++ wsL_acts_r7)))))) ++ wsX20 ++ wsX00) from hw)).elim (fun e => e ▸ ⟨qz_gmacts, Or.inl rfl⟩) (qz_gacts w)
set_option maxRecDepth 20000 in
theorem gL_law_L_acts : GoodIn wsL_law (va_wsS RL 91 yL_acts wsL_acts) := goodIn_app (goodIn_of _ (by decide +kernel)) ggL_law_L_acts
set_option maxRecDepth 20000 in
theorem qz_gisSo : GoodIn wsL_law ((wsL_isSo_r1 ++ (wsL_isSo_r2 ++ wsL_isSo_r3)) ++ wsX20 ++ wsX00 ++ wsX10) := goodIn_r _ [190, 98, 189, 203, 171, 172, 173, 54, 174, 204, 205, 206, 2, 207, 14, 208, 209, 210, 211, 212, 213, 68, 214, 215, 216, 217, 218, 219, 220, 221, 222, 223, 224, 225, 226, 227, 228, 229, 230, 231, 232, 233, 234, 199, 76, 21, 235, 236, 237, 238, 13, 239, 40, 133, 134, 135, 136, 30, 240, 241, 242, 243, 244, 245, 246, 247, 248, 249, 250, 251, 252, 253, 254, 255, 256, 257, 258, 259, 260, 261, 262, 263, 264, 265, 266] (by decide +kernel) (by decide +kernel)
set_option maxRecDepth 100000 in
set_option maxHeartbeats 4000000 in
theorem qz_gmisSo : Cond.code yL_isSo cL_isSo 15 (some .boolean) ∈ wsL_law := List.mem_of_getElem? (i := 202) rfl
theorem ggL_law_L_isSo : GoodIn wsL_law wsL_isSo := fun w hw => (List.mem_cons.mp (show w ∈ Cond.code yL_isSo cL_isSo 15 (some .boolean) :: ((wsL_isSo_r1 ++ (wsL_isSo_r2 ++ wsL_isSo_r3)) ++ wsX20 ++ wsX00 ++ wsX10) from hw)).elim (fun e => e ▸ ⟨qz_gmisSo, Or.inl rfl⟩) (qz_gisSo w)
set_option maxRecDepth 20000 in
theorem gL_law_L_isSo : GoodIn wsL_law (va_wsS RL 95 yL_isSo wsL_isSo) := goodIn_app (goodIn_of _ (by decide +kernel)) ggL_law_L_isSo
set_option maxRecDepth 20000 in
theorem ggL_law_X2_count : GoodIn wsL_law wsX2_count := goodIn_r _ [230, 14, 208, 231, 225, 232, 219, 68, 233, 234, 199, 76, 21, 235, 236, 237, 238, 13, 239, 40, 133, 134, 135, 136, 30, 244, 245, 246, 247, 248, 249, 250, 251, 252, 253, 254, 255, 256, 257, 258, 259, 260, 261, 262, 263, 264, 265, 266] (by decide +kernel) (by decide +kernel)
set_option maxRecDepth 20000 in
theorem gL_law_X2_count : GoodIn wsL_law (wsV RL 80 RX2 yX2_count wsX2_count) := goodIn_app (goodIn_of _ (by decide +kernel)) ggL_law_X2_count
set_option maxRecDepth 20000 in
theorem ggL_law_X2_confession : GoodIn wsL_law wsX2_confession := goodIn_r _ [218, 14, 219, 220, 244, 245, 246, 247, 248, 249, 250, 251, 252, 253, 254, 255, 256, 257, 258, 259, 260, 261, 262, 263] (by decide +kernel) (by decide +kernel)
set_option maxRecDepth 20000 in
theorem gL_law_X2_confession : GoodIn wsL_law (wsV RL 72 RX2 yX2_confession wsX2_confession) := goodIn_app (goodIn_of _ (by decide +kernel)) ggL_law_X2_confession
set_option maxRecDepth 20000 in
theorem ggL_law_X2_named : GoodIn wsL_law wsX2_named := goodIn_r _ [224, 14, 225, 226, 244, 245, 246, 247, 248, 249, 250, 251, 252, 253, 254, 255, 256, 257, 258, 259, 260, 261, 262, 263] (by decide +kernel) (by decide +kernel)
set_option maxRecDepth 20000 in
theorem gL_law_X2_named : GoodIn wsL_law (wsV RL 77 RX2 yX2_named wsX2_named) := goodIn_app (goodIn_of _ (by decide +kernel)) ggL_law_X2_named
theorem dL_law_0 : decode cL_law 0 = .ok (.new 33, 3) := by decide +kernel
theorem dL_law_3 : decode cL_law 3 = .ok (.dup, 1) := by decide +kernel
theorem dL_law_4 : decode cL_law 4 = .ok (.invokespecial 86, 3) := by decide +kernel
theorem dL_law_7 : decode cL_law 7 = .ok (.astore_n 1, 1) := by decide +kernel
theorem dL_law_8 : decode cL_law 8 = .ok (.bipush 15, 2) := by decide +kernel
theorem dL_law_10 : decode cL_law 10 = .ok (.newarray .int, 2) := by decide +kernel
theorem dL_law_12 : decode cL_law 12 = .ok (.astore_n 2, 1) := by decide +kernel
theorem dL_law_13 : decode cL_law 13 = .ok (.bipush 40, 2) := by decide +kernel
theorem dL_law_15 : decode cL_law 15 = .ok (.newarray .long, 2) := by decide +kernel
theorem dL_law_17 : decode cL_law 17 = .ok (.astore_n 3, 1) := by decide +kernel
theorem dL_law_18 : decode cL_law 18 = .ok (.bipush 48, 2) := by decide +kernel
theorem dL_law_20 : decode cL_law 20 = .ok (.newarray .int, 2) := by decide +kernel
theorem dL_law_22 : decode cL_law 22 = .ok (.astore 4, 2) := by decide +kernel
theorem dL_law_24 : decode cL_law 24 = .ok (.bipush 64, 2) := by decide +kernel
theorem dL_law_26 : decode cL_law 26 = .ok (.newarray .int, 2) := by decide +kernel
theorem dL_law_28 : decode cL_law 28 = .ok (.astore 5, 2) := by decide +kernel
theorem dL_law_30 : decode cL_law 30 = .ok (.bipush 64, 2) := by decide +kernel
theorem dL_law_32 : decode cL_law 32 = .ok (.newarray .long, 2) := by decide +kernel
theorem dL_law_34 : decode cL_law 34 = .ok (.astore 6, 2) := by decide +kernel
theorem dL_law_36 : decode cL_law 36 = .ok (.bipush 64, 2) := by decide +kernel
theorem dL_law_38 : decode cL_law 38 = .ok (.newarray .int, 2) := by decide +kernel
theorem dL_law_40 : decode cL_law 40 = .ok (.astore 7, 2) := by decide +kernel
theorem dL_law_42 : decode cL_law 42 = .ok (.aload_n 2, 1) := by decide +kernel
theorem dL_law_43 : decode cL_law 43 = .ok (.aload 4, 2) := by decide +kernel
theorem dL_law_45 : decode cL_law 45 = .ok (.bipush 8, 2) := by decide +kernel
theorem dL_law_47 : decode cL_law 47 = .ok (.invokestatic 62, 3) := by decide +kernel
theorem dL_law_50 : decode cL_law 50 = .ok (.iconst 2, 1) := by decide +kernel
theorem dL_law_51 : decode cL_law 51 = .ok (.aload_n 0, 1) := by decide +kernel
theorem dL_law_52 : decode cL_law 52 = .ok (.iconst 0, 1) := by decide +kernel
theorem dL_law_53 : decode cL_law 53 = .ok (.invokestatic 87, 3) := by decide +kernel
theorem dL_law_56 : decode cL_law 56 = .ok (.bipush 15, 2) := by decide +kernel
theorem dL_law_58 : decode cL_law 58 = .ok (.invokestatic 28, 3) := by decide +kernel
theorem dL_law_61 : decode cL_law 61 = .ok (.iadd, 1) := by decide +kernel
theorem dL_law_62 : decode cL_law 62 = .ok (.istore 8, 2) := by decide +kernel
theorem dL_law_64 : decode cL_law 64 = .ok (.iload 8, 2) := by decide +kernel
theorem dL_law_66 : decode cL_law 66 = .ok (.bipush 8, 2) := by decide +kernel
theorem dL_law_68 : decode cL_law 68 = .ok (.if_icmp .eq 11, 3) := by decide +kernel
theorem dL_law_71 : decode cL_law 71 = .ok (.aload_n 2, 1) := by decide +kernel
theorem dL_law_72 : decode cL_law 72 = .ok (.aload 4, 2) := by decide +kernel
theorem dL_law_74 : decode cL_law 74 = .ok (.iload 8, 2) := by decide +kernel
theorem dL_law_76 : decode cL_law 76 = .ok (.invokestatic 62, 3) := by decide +kernel
theorem dL_law_79 : decode cL_law 79 = .ok (.iload 8, 2) := by decide +kernel
theorem dL_law_81 : decode cL_law 81 = .ok (.bipush 8, 2) := by decide +kernel
theorem dL_law_83 : decode cL_law 83 = .ok (.if_icmp .eq 14, 3) := by decide +kernel
theorem dL_law_86 : decode cL_law 86 = .ok (.aload_n 1, 1) := by decide +kernel
theorem dL_law_87 : decode cL_law 87 = .ok (.iload 8, 2) := by decide +kernel
theorem dL_law_89 : decode cL_law 89 = .ok (.invokevirtual 59, 3) := by decide +kernel
theorem dL_law_92 : decode cL_law 92 = .ok (.bipush 8, 2) := by decide +kernel
theorem dL_law_94 : decode cL_law 94 = .ok (.if_icmp .ne 7, 3) := by decide +kernel
theorem dL_law_97 : decode cL_law 97 = .ok (.iconst 1, 1) := by decide +kernel
theorem dL_law_98 : decode cL_law 98 = .ok (.goto 4, 3) := by decide +kernel
theorem dL_law_101 : decode cL_law 101 = .ok (.iconst 0, 1) := by decide +kernel
theorem dL_law_102 : decode cL_law 102 = .ok (.istore 9, 2) := by decide +kernel
theorem dL_law_104 : decode cL_law 104 = .ok (.bipush 10, 2) := by decide +kernel
theorem dL_law_106 : decode cL_law 106 = .ok (.aload_n 0, 1) := by decide +kernel
theorem dL_law_107 : decode cL_law 107 = .ok (.iconst 1, 1) := by decide +kernel
theorem dL_law_108 : decode cL_law 108 = .ok (.invokestatic 87, 3) := by decide +kernel
theorem dL_law_111 : decode cL_law 111 = .ok (.bipush 50, 2) := by decide +kernel
theorem dL_law_113 : decode cL_law 113 = .ok (.invokestatic 28, 3) := by decide +kernel
theorem dL_law_116 : decode cL_law 116 = .ok (.iadd, 1) := by decide +kernel
theorem dL_law_117 : decode cL_law 117 = .ok (.istore 10, 2) := by decide +kernel
theorem dL_law_119 : decode cL_law 119 = .ok (.iconst 0, 1) := by decide +kernel
theorem dL_law_120 : decode cL_law 120 = .ok (.istore 11, 2) := by decide +kernel
theorem dL_law_122 : decode cL_law 122 = .ok (.iload 11, 2) := by decide +kernel
theorem dL_law_124 : decode cL_law 124 = .ok (.iload 10, 2) := by decide +kernel
theorem dL_law_126 : decode cL_law 126 = .ok (.if_icmp .ge 68, 3) := by decide +kernel
theorem dL_law_129 : decode cL_law 129 = .ok (.iload 9, 2) := by decide +kernel
theorem dL_law_131 : decode cL_law 131 = .ok (.ifCond .eq 63, 3) := by decide +kernel
theorem dL_law_134 : decode cL_law 134 = .ok (.aload_n 1, 1) := by decide +kernel
theorem dL_law_135 : decode cL_law 135 = .ok (.aload_n 2, 1) := by decide +kernel
theorem dL_law_136 : decode cL_law 136 = .ok (.aload_n 3, 1) := by decide +kernel
theorem dL_law_137 : decode cL_law 137 = .ok (.aload 4, 2) := by decide +kernel
theorem dL_law_139 : decode cL_law 139 = .ok (.aload 5, 2) := by decide +kernel
theorem dL_law_141 : decode cL_law 141 = .ok (.aload 6, 2) := by decide +kernel
theorem dL_law_143 : decode cL_law 143 = .ok (.aload 7, 2) := by decide +kernel
theorem dL_law_145 : decode cL_law 145 = .ok (.aload_n 0, 1) := by decide +kernel
theorem dL_law_146 : decode cL_law 146 = .ok (.iconst 2, 1) := by decide +kernel
theorem dL_law_147 : decode cL_law 147 = .ok (.iload 11, 2) := by decide +kernel
theorem dL_law_149 : decode cL_law 149 = .ok (.iadd, 1) := by decide +kernel
theorem dL_law_150 : decode cL_law 150 = .ok (.invokestatic 87, 3) := by decide +kernel
theorem dL_law_153 : decode cL_law 153 = .ok (.sipush 7919, 3) := by decide +kernel
theorem dL_law_156 : decode cL_law 156 = .ok (.iload 11, 2) := by decide +kernel
theorem dL_law_158 : decode cL_law 158 = .ok (.imul, 1) := by decide +kernel
theorem dL_law_159 : decode cL_law 159 = .ok (.ixor, 1) := by decide +kernel
theorem dL_law_160 : decode cL_law 160 = .ok (.invokestatic 91, 3) := by decide +kernel
theorem dL_law_163 : decode cL_law 163 = .ok (.ifCond .eq 22, 3) := by decide +kernel
theorem dL_law_166 : decode cL_law 166 = .ok (.aload_n 1, 1) := by decide +kernel
theorem dL_law_167 : decode cL_law 167 = .ok (.aload_n 2, 1) := by decide +kernel
theorem dL_law_168 : decode cL_law 168 = .ok (.aload_n 3, 1) := by decide +kernel
theorem dL_law_169 : decode cL_law 169 = .ok (.aload 4, 2) := by decide +kernel
theorem dL_law_171 : decode cL_law 171 = .ok (.aload 6, 2) := by decide +kernel
theorem dL_law_173 : decode cL_law 173 = .ok (.aload 7, 2) := by decide +kernel
theorem dL_law_175 : decode cL_law 175 = .ok (.invokestatic 95, 3) := by decide +kernel
theorem dL_law_178 : decode cL_law 178 = .ok (.ifCond .eq 7, 3) := by decide +kernel
theorem dL_law_181 : decode cL_law 181 = .ok (.iconst 1, 1) := by decide +kernel
theorem dL_law_182 : decode cL_law 182 = .ok (.goto 4, 3) := by decide +kernel
theorem dL_law_185 : decode cL_law 185 = .ok (.iconst 0, 1) := by decide +kernel
theorem dL_law_186 : decode cL_law 186 = .ok (.istore 9, 2) := by decide +kernel
theorem dL_law_188 : decode cL_law 188 = .ok (.iinc 11 1, 3) := by decide +kernel
theorem dL_law_191 : decode cL_law 191 = .ok (.goto (-69), 3) := by decide +kernel
theorem dL_law_194 : decode cL_law 194 = .ok (.iload 9, 2) := by decide +kernel
theorem dL_law_196 : decode cL_law 196 = .ok (.ifCond .eq 56, 3) := by decide +kernel
theorem dL_law_199 : decode cL_law 199 = .ok (.aload_n 1, 1) := by decide +kernel
theorem dL_law_200 : decode cL_law 200 = .ok (.bipush 18, 2) := by decide +kernel
theorem dL_law_202 : decode cL_law 202 = .ok (.invokevirtual 80, 3) := by decide +kernel
theorem dL_law_205 : decode cL_law 205 = .ok (.iconst (-1), 1) := by decide +kernel
theorem dL_law_206 : decode cL_law 206 = .ok (.if_icmp .ne 46, 3) := by decide +kernel
theorem dL_law_209 : decode cL_law 209 = .ok (.aload_n 1, 1) := by decide +kernel
theorem dL_law_210 : decode cL_law 210 = .ok (.iconst (-1), 1) := by decide +kernel
theorem dL_law_211 : decode cL_law 211 = .ok (.invokevirtual 80, 3) := by decide +kernel
theorem dL_law_214 : decode cL_law 214 = .ok (.iconst (-1), 1) := by decide +kernel
theorem dL_law_215 : decode cL_law 215 = .ok (.if_icmp .ne 37, 3) := by decide +kernel
theorem dL_law_218 : decode cL_law 218 = .ok (.aload_n 1, 1) := by decide +kernel
theorem dL_law_219 : decode cL_law 219 = .ok (.iconst (-1), 1) := by decide +kernel
theorem dL_law_220 : decode cL_law 220 = .ok (.iconst 0, 1) := by decide +kernel
theorem dL_law_221 : decode cL_law 221 = .ok (.invokevirtual 72, 3) := by decide +kernel
theorem dL_law_224 : decode cL_law 224 = .ok (.iconst (-1), 1) := by decide +kernel
theorem dL_law_225 : decode cL_law 225 = .ok (.if_icmp .ne 27, 3) := by decide +kernel
theorem dL_law_228 : decode cL_law 228 = .ok (.aload_n 1, 1) := by decide +kernel
theorem dL_law_229 : decode cL_law 229 = .ok (.iconst 0, 1) := by decide +kernel
theorem dL_law_230 : decode cL_law 230 = .ok (.bipush 6, 2) := by decide +kernel
theorem dL_law_232 : decode cL_law 232 = .ok (.invokevirtual 72, 3) := by decide +kernel
theorem dL_law_235 : decode cL_law 235 = .ok (.iconst (-1), 1) := by decide +kernel
theorem dL_law_236 : decode cL_law 236 = .ok (.if_icmp .ne 16, 3) := by decide +kernel
theorem dL_law_239 : decode cL_law 239 = .ok (.aload_n 1, 1) := by decide +kernel
theorem dL_law_240 : decode cL_law 240 = .ok (.iconst (-1), 1) := by decide +kernel
theorem dL_law_241 : decode cL_law 241 = .ok (.invokevirtual 77, 3) := by decide +kernel
theorem dL_law_244 : decode cL_law 244 = .ok (.iconst (-1), 1) := by decide +kernel
theorem dL_law_245 : decode cL_law 245 = .ok (.if_icmp .ne 7, 3) := by decide +kernel
theorem dL_law_248 : decode cL_law 248 = .ok (.iconst 1, 1) := by decide +kernel
theorem dL_law_249 : decode cL_law 249 = .ok (.goto 4, 3) := by decide +kernel
theorem dL_law_252 : decode cL_law 252 = .ok (.iconst 0, 1) := by decide +kernel
theorem dL_law_253 : decode cL_law 253 = .ok (.ireturn, 1) := by decide +kernel
abbrev vwCl : List vw_C := [(RX0, TX0, 14), (RX1, TX1, 3), (RX2, TX2, 6)]
/-! ===== END printed: names (the pool left out) ===== -/

