theorem dX3_call_29 : decode cX3_call 29 = .ok (.bipush 40, 2) := by decide +kernel
theorem dX3_call_31 : decode cX3_call 31 = .ok (.if_icmp .eq 15, 3) := by decide +kernel
theorem dX3_call_34 : decode cX3_call 34 = .ok (.aload_n 0, 1) := by decide +kernel
theorem dX3_call_35 : decode cX3_call 35 = .ok (.getfield 7, 3) := by decide +kernel
theorem dX3_call_38 : decode cX3_call 38 = .ok (.iconst 1, 1) := by decide +kernel
theorem dX3_call_39 : decode cX3_call 39 = .ok (.iaload, 1) := by decide +kernel
theorem dX3_call_40 : decode cX3_call 40 = .ok (.sipush 200, 3) := by decide +kernel
theorem dX3_call_43 : decode cX3_call 43 = .ok (.if_icmp .ne 6, 3) := by decide +kernel
theorem dX3_call_46 : decode cX3_call 46 = .ok (.bipush (-3), 2) := by decide +kernel
theorem dX3_call_48 : decode cX3_call 48 = .ok (.ireturn, 1) := by decide +kernel
theorem dX3_call_49 : decode cX3_call 49 = .ok (.aload_n 0, 1) := by decide +kernel
theorem dX3_call_50 : decode cX3_call 50 = .ok (.invokevirtual 44, 3) := by decide +kernel
theorem dX3_call_53 : decode cX3_call 53 = .ok (.aload_n 0, 1) := by decide +kernel
theorem dX3_call_54 : decode cX3_call 54 = .ok (.getfield 7, 3) := by decide +kernel
theorem dX3_call_57 : decode cX3_call 57 = .ok (.iconst 2, 1) := by decide +kernel
theorem dX3_call_58 : decode cX3_call 58 = .ok (.iaload, 1) := by decide +kernel
theorem dX3_call_59 : decode cX3_call 59 = .ok (.istore_n 3, 1) := by decide +kernel
theorem dX3_call_60 : decode cX3_call 60 = .ok (.aload_n 0, 1) := by decide +kernel
theorem dX3_call_61 : decode cX3_call 61 = .ok (.getfield 7, 3) := by decide +kernel
theorem dX3_call_64 : decode cX3_call 64 = .ok (.bipush 12, 2) := by decide +kernel
theorem dX3_call_66 : decode cX3_call 66 = .ok (.iaload, 1) := by decide +kernel
theorem dX3_call_67 : decode cX3_call 67 = .ok (.iconst 1, 1) := by decide +kernel
theorem dX3_call_68 : decode cX3_call 68 = .ok (.iadd, 1) := by decide +kernel
theorem dX3_call_69 : decode cX3_call 69 = .ok (.aload_n 0, 1) := by decide +kernel
theorem dX3_call_70 : decode cX3_call 70 = .ok (.getfield 7, 3) := by decide +kernel
theorem dX3_call_73 : decode cX3_call 73 = .ok (.bipush 11, 2) := by decide +kernel
theorem dX3_call_75 : decode cX3_call 75 = .ok (.iaload, 1) := by decide +kernel
theorem dX3_call_76 : decode cX3_call 76 = .ok (.irem, 1) := by decide +kernel
theorem dX3_call_77 : decode cX3_call 77 = .ok (.istore 4, 2) := by decide +kernel
theorem dX3_call_79 : decode cX3_call 79 = .ok (.iconst 0, 1) := by decide +kernel
theorem dX3_call_80 : decode cX3_call 80 = .ok (.istore 5, 2) := by decide +kernel
theorem dX3_call_82 : decode cX3_call 82 = .ok (.iload 5, 2) := by decide +kernel
theorem dX3_call_84 : decode cX3_call 84 = .ok (.aload_n 0, 1) := by decide +kernel
theorem dX3_call_85 : decode cX3_call 85 = .ok (.getfield 7, 3) := by decide +kernel
theorem dX3_call_88 : decode cX3_call 88 = .ok (.iconst 0, 1) := by decide +kernel
theorem dX3_call_89 : decode cX3_call 89 = .ok (.iaload, 1) := by decide +kernel
theorem dX3_call_90 : decode cX3_call 90 = .ok (.if_icmp .ge 70, 3) := by decide +kernel
theorem dX3_call_93 : decode cX3_call 93 = .ok (.aload_n 0, 1) := by decide +kernel
theorem dX3_call_94 : decode cX3_call 94 = .ok (.iload 5, 2) := by decide +kernel
theorem dX3_call_96 : decode cX3_call 96 = .ok (.iconst 3, 1) := by decide +kernel
theorem dX3_call_97 : decode cX3_call 97 = .ok (.invokevirtual 47, 3) := by decide +kernel
theorem dX3_call_100 : decode cX3_call 100 = .ok (.iload 4, 2) := by decide +kernel
theorem dX3_call_102 : decode cX3_call 102 = .ok (.if_icmp .ne 19, 3) := by decide +kernel
theorem dX3_call_105 : decode cX3_call 105 = .ok (.aload_n 0, 1) := by decide +kernel
theorem dX3_call_106 : decode cX3_call 106 = .ok (.iload 5, 2) := by decide +kernel
theorem dX3_call_108 : decode cX3_call 108 = .ok (.iconst 4, 1) := by decide +kernel
theorem dX3_call_109 : decode cX3_call 109 = .ok (.invokevirtual 47, 3) := by decide +kernel
theorem dX3_call_112 : decode cX3_call 112 = .ok (.bipush (-9), 2) := by decide +kernel
theorem dX3_call_114 : decode cX3_call 114 = .ok (.if_icmp .ne 7, 3) := by decide +kernel
theorem dX3_call_117 : decode cX3_call 117 = .ok (.iconst 1, 1) := by decide +kernel
theorem dX3_call_118 : decode cX3_call 118 = .ok (.goto 4, 3) := by decide +kernel
theorem dX3_call_121 : decode cX3_call 121 = .ok (.iconst 0, 1) := by decide +kernel
theorem dX3_call_122 : decode cX3_call 122 = .ok (.istore 6, 2) := by decide +kernel
theorem dX3_call_124 : decode cX3_call 124 = .ok (.aload_n 0, 1) := by decide +kernel
theorem dX3_call_125 : decode cX3_call 125 = .ok (.getfield 7, 3) := by decide +kernel
theorem dX3_call_128 : decode cX3_call 128 = .ok (.bipush 15, 2) := by decide +kernel
theorem dX3_call_130 : decode cX3_call 130 = .ok (.iconst 5, 1) := by decide +kernel
theorem dX3_call_131 : decode cX3_call 131 = .ok (.iload 5, 2) := by decide +kernel
theorem dX3_call_133 : decode cX3_call 133 = .ok (.imul, 1) := by decide +kernel
theorem dX3_call_134 : decode cX3_call 134 = .ok (.iadd, 1) := by decide +kernel
theorem dX3_call_135 : decode cX3_call 135 = .ok (.iconst 4, 1) := by decide +kernel
theorem dX3_call_136 : decode cX3_call 136 = .ok (.iadd, 1) := by decide +kernel
theorem dX3_call_137 : decode cX3_call 137 = .ok (.iload 6, 2) := by decide +kernel
theorem dX3_call_139 : decode cX3_call 139 = .ok (.ifCond .eq 7, 3) := by decide +kernel
theorem dX3_call_142 : decode cX3_call 142 = .ok (.iload_n 3, 1) := by decide +kernel
theorem dX3_call_143 : decode cX3_call 143 = .ok (.goto 10, 3) := by decide +kernel
theorem dX3_call_146 : decode cX3_call 146 = .ok (.aload_n 0, 1) := by decide +kernel
theorem dX3_call_147 : decode cX3_call 147 = .ok (.iload 5, 2) := by decide +kernel
theorem dX3_call_149 : decode cX3_call 149 = .ok (.iconst 4, 1) := by decide +kernel
theorem dX3_call_150 : decode cX3_call 150 = .ok (.invokevirtual 47, 3) := by decide +kernel
theorem dX3_call_153 : decode cX3_call 153 = .ok (.iastore, 1) := by decide +kernel
theorem dX3_call_154 : decode cX3_call 154 = .ok (.iinc 5 1, 3) := by decide +kernel
theorem dX3_call_157 : decode cX3_call 157 = .ok (.goto (-75), 3) := by decide +kernel
theorem dX3_call_160 : decode cX3_call 160 = .ok (.aload_n 0, 1) := by decide +kernel
theorem dX3_call_161 : decode cX3_call 161 = .ok (.getfield 7, 3) := by decide +kernel
theorem dX3_call_164 : decode cX3_call 164 = .ok (.bipush 12, 2) := by decide +kernel
theorem dX3_call_166 : decode cX3_call 166 = .ok (.iload 4, 2) := by decide +kernel
theorem dX3_call_168 : decode cX3_call 168 = .ok (.iastore, 1) := by decide +kernel
theorem dX3_call_169 : decode cX3_call 169 = .ok (.aload_n 0, 1) := by decide +kernel
theorem dX3_call_170 : decode cX3_call 170 = .ok (.getfield 7, 3) := by decide +kernel
theorem dX3_call_173 : decode cX3_call 173 = .ok (.sipush 215, 3) := by decide +kernel
theorem dX3_call_176 : decode cX3_call 176 = .ok (.iconst 3, 1) := by decide +kernel
theorem dX3_call_177 : decode cX3_call 177 = .ok (.iload 4, 2) := by decide +kernel
theorem dX3_call_179 : decode cX3_call 179 = .ok (.imul, 1) := by decide +kernel
theorem dX3_call_180 : decode cX3_call 180 = .ok (.iadd, 1) := by decide +kernel
theorem dX3_call_181 : decode cX3_call 181 = .ok (.iconst 0, 1) := by decide +kernel
theorem dX3_call_182 : decode cX3_call 182 = .ok (.iadd, 1) := by decide +kernel
theorem dX3_call_183 : decode cX3_call 183 = .ok (.iload_n 3, 1) := by decide +kernel
theorem dX3_call_184 : decode cX3_call 184 = .ok (.iastore, 1) := by decide +kernel
theorem dX3_call_185 : decode cX3_call 185 = .ok (.aload_n 0, 1) := by decide +kernel
theorem dX3_call_186 : decode cX3_call 186 = .ok (.getfield 7, 3) := by decide +kernel
theorem dX3_call_189 : decode cX3_call 189 = .ok (.sipush 215, 3) := by decide +kernel
theorem dX3_call_192 : decode cX3_call 192 = .ok (.iconst 3, 1) := by decide +kernel
theorem dX3_call_193 : decode cX3_call 193 = .ok (.iload 4, 2) := by decide +kernel
theorem dX3_call_195 : decode cX3_call 195 = .ok (.imul, 1) := by decide +kernel
theorem dX3_call_196 : decode cX3_call 196 = .ok (.iadd, 1) := by decide +kernel
theorem dX3_call_197 : decode cX3_call 197 = .ok (.iconst 1, 1) := by decide +kernel
theorem dX3_call_198 : decode cX3_call 198 = .ok (.iadd, 1) := by decide +kernel
theorem dX3_call_199 : decode cX3_call 199 = .ok (.iload_n 2, 1) := by decide +kernel
theorem dX3_call_200 : decode cX3_call 200 = .ok (.iastore, 1) := by decide +kernel
theorem dX3_call_201 : decode cX3_call 201 = .ok (.aload_n 0, 1) := by decide +kernel
theorem dX3_call_202 : decode cX3_call 202 = .ok (.getfield 7, 3) := by decide +kernel
theorem dX3_call_205 : decode cX3_call 205 = .ok (.sipush 215, 3) := by decide +kernel
theorem dX3_call_208 : decode cX3_call 208 = .ok (.iconst 3, 1) := by decide +kernel
theorem dX3_call_209 : decode cX3_call 209 = .ok (.iload 4, 2) := by decide +kernel
theorem dX3_call_211 : decode cX3_call 211 = .ok (.imul, 1) := by decide +kernel
theorem dX3_call_212 : decode cX3_call 212 = .ok (.iadd, 1) := by decide +kernel
theorem dX3_call_213 : decode cX3_call 213 = .ok (.iconst 2, 1) := by decide +kernel
theorem dX3_call_214 : decode cX3_call 214 = .ok (.iadd, 1) := by decide +kernel
theorem dX3_call_215 : decode cX3_call 215 = .ok (.dup2, 1) := by decide +kernel
theorem dX3_call_216 : decode cX3_call 216 = .ok (.iaload, 1) := by decide +kernel
theorem dX3_call_217 : decode cX3_call 217 = .ok (.iconst 1, 1) := by decide +kernel
theorem dX3_call_218 : decode cX3_call 218 = .ok (.iadd, 1) := by decide +kernel
theorem dX3_call_219 : decode cX3_call 219 = .ok (.iastore, 1) := by decide +kernel
theorem dX3_call_220 : decode cX3_call 220 = .ok (.bipush 15, 2) := by decide +kernel
theorem dX3_call_222 : decode cX3_call 222 = .ok (.iconst 5, 1) := by decide +kernel
theorem dX3_call_223 : decode cX3_call 223 = .ok (.aload_n 0, 1) := by decide +kernel
theorem dX3_call_224 : decode cX3_call 224 = .ok (.getfield 7, 3) := by decide +kernel
theorem dX3_call_227 : decode cX3_call 227 = .ok (.iconst 0, 1) := by decide +kernel
theorem dX3_call_228 : decode cX3_call 228 = .ok (.iaload, 1) := by decide +kernel
theorem dX3_call_229 : decode cX3_call 229 = .ok (.imul, 1) := by decide +kernel
theorem dX3_call_230 : decode cX3_call 230 = .ok (.iadd, 1) := by decide +kernel
theorem dX3_call_231 : decode cX3_call 231 = .ok (.istore 5, 2) := by decide +kernel
theorem dX3_call_233 : decode cX3_call 233 = .ok (.aload_n 0, 1) := by decide +kernel
theorem dX3_call_234 : decode cX3_call 234 = .ok (.getfield 7, 3) := by decide +kernel
theorem dX3_call_237 : decode cX3_call 237 = .ok (.iload 5, 2) := by decide +kernel
theorem dX3_call_239 : decode cX3_call 239 = .ok (.iconst 0, 1) := by decide +kernel
theorem dX3_call_240 : decode cX3_call 240 = .ok (.iadd, 1) := by decide +kernel
theorem dX3_call_241 : decode cX3_call 241 = .ok (.iload_n 3, 1) := by decide +kernel
theorem dX3_call_242 : decode cX3_call 242 = .ok (.iastore, 1) := by decide +kernel
theorem dX3_call_243 : decode cX3_call 243 = .ok (.aload_n 0, 1) := by decide +kernel
theorem dX3_call_244 : decode cX3_call 244 = .ok (.getfield 7, 3) := by decide +kernel
theorem dX3_call_247 : decode cX3_call 247 = .ok (.iload 5, 2) := by decide +kernel
theorem dX3_call_249 : decode cX3_call 249 = .ok (.iconst 1, 1) := by decide +kernel
theorem dX3_call_250 : decode cX3_call 250 = .ok (.iadd, 1) := by decide +kernel
theorem dX3_call_251 : decode cX3_call 251 = .ok (.iload_n 1, 1) := by decide +kernel
theorem dX3_call_252 : decode cX3_call 252 = .ok (.iastore, 1) := by decide +kernel
theorem dX3_call_253 : decode cX3_call 253 = .ok (.aload_n 0, 1) := by decide +kernel
theorem dX3_call_254 : decode cX3_call 254 = .ok (.getfield 7, 3) := by decide +kernel
theorem dX3_call_257 : decode cX3_call 257 = .ok (.iload 5, 2) := by decide +kernel
theorem dX3_call_259 : decode cX3_call 259 = .ok (.iconst 2, 1) := by decide +kernel
theorem dX3_call_260 : decode cX3_call 260 = .ok (.iadd, 1) := by decide +kernel
theorem dX3_call_261 : decode cX3_call 261 = .ok (.iload_n 2, 1) := by decide +kernel
theorem dX3_call_262 : decode cX3_call 262 = .ok (.iastore, 1) := by decide +kernel
theorem dX3_call_263 : decode cX3_call 263 = .ok (.aload_n 0, 1) := by decide +kernel
theorem dX3_call_264 : decode cX3_call 264 = .ok (.getfield 7, 3) := by decide +kernel
theorem dX3_call_267 : decode cX3_call 267 = .ok (.iload 5, 2) := by decide +kernel
theorem dX3_call_269 : decode cX3_call 269 = .ok (.iconst 3, 1) := by decide +kernel
theorem dX3_call_270 : decode cX3_call 270 = .ok (.iadd, 1) := by decide +kernel
theorem dX3_call_271 : decode cX3_call 271 = .ok (.iload 4, 2) := by decide +kernel
theorem dX3_call_273 : decode cX3_call 273 = .ok (.iastore, 1) := by decide +kernel
theorem dX3_call_274 : decode cX3_call 274 = .ok (.aload_n 0, 1) := by decide +kernel
theorem dX3_call_275 : decode cX3_call 275 = .ok (.getfield 7, 3) := by decide +kernel
theorem dX3_call_278 : decode cX3_call 278 = .ok (.iload 5, 2) := by decide +kernel
theorem dX3_call_280 : decode cX3_call 280 = .ok (.iconst 4, 1) := by decide +kernel
theorem dX3_call_281 : decode cX3_call 281 = .ok (.iadd, 1) := by decide +kernel
theorem dX3_call_282 : decode cX3_call 282 = .ok (.bipush (-9), 2) := by decide +kernel
theorem dX3_call_284 : decode cX3_call 284 = .ok (.iastore, 1) := by decide +kernel
theorem dX3_call_285 : decode cX3_call 285 = .ok (.aload_n 0, 1) := by decide +kernel
theorem dX3_call_286 : decode cX3_call 286 = .ok (.getfield 7, 3) := by decide +kernel
theorem dX3_call_289 : decode cX3_call 289 = .ok (.iconst 0, 1) := by decide +kernel
theorem dX3_call_290 : decode cX3_call 290 = .ok (.dup2, 1) := by decide +kernel
theorem dX3_call_291 : decode cX3_call 291 = .ok (.iaload, 1) := by decide +kernel
theorem dX3_call_292 : decode cX3_call 292 = .ok (.iconst 1, 1) := by decide +kernel
theorem dX3_call_293 : decode cX3_call 293 = .ok (.iadd, 1) := by decide +kernel
theorem dX3_call_294 : decode cX3_call 294 = .ok (.iastore, 1) := by decide +kernel
theorem dX3_call_295 : decode cX3_call 295 = .ok (.aload_n 0, 1) := by decide +kernel
theorem dX3_call_296 : decode cX3_call 296 = .ok (.getfield 7, 3) := by decide +kernel
theorem dX3_call_299 : decode cX3_call 299 = .ok (.bipush 13, 2) := by decide +kernel
theorem dX3_call_301 : decode cX3_call 301 = .ok (.aload_n 0, 1) := by decide +kernel
theorem dX3_call_302 : decode cX3_call 302 = .ok (.getfield 7, 3) := by decide +kernel
theorem dX3_call_305 : decode cX3_call 305 = .ok (.iconst 0, 1) := by decide +kernel
theorem dX3_call_306 : decode cX3_call 306 = .ok (.iaload, 1) := by decide +kernel
theorem dX3_call_307 : decode cX3_call 307 = .ok (.aload_n 0, 1) := by decide +kernel
theorem dX3_call_308 : decode cX3_call 308 = .ok (.getfield 7, 3) := by decide +kernel
theorem dX3_call_311 : decode cX3_call 311 = .ok (.bipush 13, 2) := by decide +kernel
theorem dX3_call_313 : decode cX3_call 313 = .ok (.iaload, 1) := by decide +kernel
theorem dX3_call_314 : decode cX3_call 314 = .ok (.if_icmp .le 12, 3) := by decide +kernel
theorem dX3_call_317 : decode cX3_call 317 = .ok (.aload_n 0, 1) := by decide +kernel
theorem dX3_call_318 : decode cX3_call 318 = .ok (.getfield 7, 3) := by decide +kernel
theorem dX3_call_321 : decode cX3_call 321 = .ok (.iconst 0, 1) := by decide +kernel
theorem dX3_call_322 : decode cX3_call 322 = .ok (.iaload, 1) := by decide +kernel
theorem dX3_call_323 : decode cX3_call 323 = .ok (.goto 10, 3) := by decide +kernel
theorem dX3_call_326 : decode cX3_call 326 = .ok (.aload_n 0, 1) := by decide +kernel
theorem dX3_call_327 : decode cX3_call 327 = .ok (.getfield 7, 3) := by decide +kernel
theorem dX3_call_330 : decode cX3_call 330 = .ok (.bipush 13, 2) := by decide +kernel
theorem dX3_call_332 : decode cX3_call 332 = .ok (.iaload, 1) := by decide +kernel
theorem dX3_call_333 : decode cX3_call 333 = .ok (.iastore, 1) := by decide +kernel
theorem dX3_call_334 : decode cX3_call 334 = .ok (.aload_n 0, 1) := by decide +kernel
theorem dX3_call_335 : decode cX3_call 335 = .ok (.getfield 7, 3) := by decide +kernel
theorem dX3_call_338 : decode cX3_call 338 = .ok (.sipush 735, 3) := by decide +kernel
theorem dX3_call_341 : decode cX3_call 341 = .ok (.iload_n 3, 1) := by decide +kernel
theorem dX3_call_342 : decode cX3_call 342 = .ok (.iadd, 1) := by decide +kernel
theorem dX3_call_343 : decode cX3_call 343 = .ok (.iconst 0, 1) := by decide +kernel
theorem dX3_call_344 : decode cX3_call 344 = .ok (.iastore, 1) := by decide +kernel
theorem dX3_call_345 : decode cX3_call 345 = .ok (.aload_n 0, 1) := by decide +kernel
theorem dX3_call_346 : decode cX3_call 346 = .ok (.iconst 0, 1) := by decide +kernel
theorem dX3_call_347 : decode cX3_call 347 = .ok (.iload_n 2, 1) := by decide +kernel
theorem dX3_call_348 : decode cX3_call 348 = .ok (.invokevirtual 51, 3) := by decide +kernel
theorem dX3_call_351 : decode cX3_call 351 = .ok (.iload_n 3, 1) := by decide +kernel
theorem dX3_call_352 : decode cX3_call 352 = .ok (.ireturn, 1) := by decide +kernel
set_option maxRecDepth 20000 in
theorem ggX3_tail_X3_in : GoodIn wsX3_tail wsX3_in := goodIn_r _ [5] (by decide +kernel) (by decide +kernel)
set_option maxRecDepth 20000 in
theorem gX3_tail_X3_in : GoodIn wsX3_tail (va_wsS RX3 40 yX3_in wsX3_in) := goodIn_app (goodIn_of _ (by decide +kernel)) ggX3_tail_X3_in
set_option maxRecDepth 20000 in
theorem ggX3_tail_X3_acts : GoodIn wsX3_tail wsX3_acts := goodIn_r _ [9, 10, 11, 12, 1, 17, 18, 19, 20, 21, 22, 23, 24, 25, 26, 27] (by decide +kernel) (by decide +kernel)
set_option maxRecDepth 20000 in
theorem gX3_tail_X3_acts : GoodIn wsX3_tail (wsV RX3 44 RX3 yX3_acts wsX3_acts) := goodIn_app (goodIn_of _ (by decide +kernel)) ggX3_tail_X3_acts
set_option maxRecDepth 20000 in
theorem ggX3_tail_X3_notes : GoodIn wsX3_tail wsX3_notes := goodIn_r _ [16, 1, 17, 18, 19, 20, 21, 22, 23, 24, 25, 26, 27] (by decide +kernel) (by decide +kernel)
set_option maxRecDepth 20000 in
theorem gX3_tail_X3_notes : GoodIn wsX3_tail (wsV RX3 51 RX3 yX3_notes wsX3_notes) := goodIn_app (goodIn_of _ (by decide +kernel)) ggX3_tail_X3_notes
theorem dX3_tail_0 : decode cX3_tail 0 = .ok (.iload_n 1, 1) := by decide +kernel
theorem dX3_tail_1 : decode cX3_tail 1 = .ok (.iconst 0, 1) := by decide +kernel
theorem dX3_tail_2 : decode cX3_tail 2 = .ok (.bipush 15, 2) := by decide +kernel
theorem dX3_tail_4 : decode cX3_tail 4 = .ok (.invokestatic 40, 3) := by decide +kernel
theorem dX3_tail_7 : decode cX3_tail 7 = .ok (.ifCond .ne 5, 3) := by decide +kernel
theorem dX3_tail_10 : decode cX3_tail 10 = .ok (.iconst (-1), 1) := by decide +kernel
theorem dX3_tail_11 : decode cX3_tail 11 = .ok (.ireturn, 1) := by decide +kernel
theorem dX3_tail_12 : decode cX3_tail 12 = .ok (.aload_n 0, 1) := by decide +kernel
theorem dX3_tail_13 : decode cX3_tail 13 = .ok (.getfield 7, 3) := by decide +kernel
theorem dX3_tail_16 : decode cX3_tail 16 = .ok (.iconst 0, 1) := by decide +kernel
theorem dX3_tail_17 : decode cX3_tail 17 = .ok (.iaload, 1) := by decide +kernel
theorem dX3_tail_18 : decode cX3_tail 18 = .ok (.ifCond .ne 6, 3) := by decide +kernel
theorem dX3_tail_21 : decode cX3_tail 21 = .ok (.bipush (-2), 2) := by decide +kernel
theorem dX3_tail_23 : decode cX3_tail 23 = .ok (.ireturn, 1) := by decide +kernel
theorem dX3_tail_24 : decode cX3_tail 24 = .ok (.aload_n 0, 1) := by decide +kernel
theorem dX3_tail_25 : decode cX3_tail 25 = .ok (.getfield 7, 3) := by decide +kernel
theorem dX3_tail_28 : decode cX3_tail 28 = .ok (.iconst 1, 1) := by decide +kernel
theorem dX3_tail_29 : decode cX3_tail 29 = .ok (.iaload, 1) := by decide +kernel
theorem dX3_tail_30 : decode cX3_tail 30 = .ok (.sipush 200, 3) := by decide +kernel
theorem dX3_tail_33 : decode cX3_tail 33 = .ok (.if_icmp .ne 6, 3) := by decide +kernel
theorem dX3_tail_36 : decode cX3_tail 36 = .ok (.bipush (-3), 2) := by decide +kernel
theorem dX3_tail_38 : decode cX3_tail 38 = .ok (.ireturn, 1) := by decide +kernel
theorem dX3_tail_39 : decode cX3_tail 39 = .ok (.aload_n 0, 1) := by decide +kernel
theorem dX3_tail_40 : decode cX3_tail 40 = .ok (.invokevirtual 44, 3) := by decide +kernel
theorem dX3_tail_43 : decode cX3_tail 43 = .ok (.bipush 15, 2) := by decide +kernel
theorem dX3_tail_45 : decode cX3_tail 45 = .ok (.iconst 5, 1) := by decide +kernel
theorem dX3_tail_46 : decode cX3_tail 46 = .ok (.aload_n 0, 1) := by decide +kernel
theorem dX3_tail_47 : decode cX3_tail 47 = .ok (.getfield 7, 3) := by decide +kernel
theorem dX3_tail_50 : decode cX3_tail 50 = .ok (.iconst 0, 1) := by decide +kernel
theorem dX3_tail_51 : decode cX3_tail 51 = .ok (.iaload, 1) := by decide +kernel
theorem dX3_tail_52 : decode cX3_tail 52 = .ok (.iconst 1, 1) := by decide +kernel
theorem dX3_tail_53 : decode cX3_tail 53 = .ok (.isub, 1) := by decide +kernel
theorem dX3_tail_54 : decode cX3_tail 54 = .ok (.imul, 1) := by decide +kernel
theorem dX3_tail_55 : decode cX3_tail 55 = .ok (.iadd, 1) := by decide +kernel
theorem dX3_tail_56 : decode cX3_tail 56 = .ok (.iconst 1, 1) := by decide +kernel
theorem dX3_tail_57 : decode cX3_tail 57 = .ok (.iadd, 1) := by decide +kernel
theorem dX3_tail_58 : decode cX3_tail 58 = .ok (.istore_n 2, 1) := by decide +kernel
theorem dX3_tail_59 : decode cX3_tail 59 = .ok (.aload_n 0, 1) := by decide +kernel
theorem dX3_tail_60 : decode cX3_tail 60 = .ok (.getfield 7, 3) := by decide +kernel
theorem dX3_tail_63 : decode cX3_tail 63 = .ok (.iload_n 2, 1) := by decide +kernel
theorem dX3_tail_64 : decode cX3_tail 64 = .ok (.iaload, 1) := by decide +kernel
theorem dX3_tail_65 : decode cX3_tail 65 = .ok (.istore_n 3, 1) := by decide +kernel
theorem dX3_tail_66 : decode cX3_tail 66 = .ok (.aload_n 0, 1) := by decide +kernel
theorem dX3_tail_67 : decode cX3_tail 67 = .ok (.getfield 7, 3) := by decide +kernel
theorem dX3_tail_70 : decode cX3_tail 70 = .ok (.iload_n 2, 1) := by decide +kernel
theorem dX3_tail_71 : decode cX3_tail 71 = .ok (.iload_n 1, 1) := by decide +kernel
theorem dX3_tail_72 : decode cX3_tail 72 = .ok (.iastore, 1) := by decide +kernel
theorem dX3_tail_73 : decode cX3_tail 73 = .ok (.aload_n 0, 1) := by decide +kernel
theorem dX3_tail_74 : decode cX3_tail 74 = .ok (.iconst 1, 1) := by decide +kernel
theorem dX3_tail_75 : decode cX3_tail 75 = .ok (.iload_n 1, 1) := by decide +kernel
theorem dX3_tail_76 : decode cX3_tail 76 = .ok (.invokevirtual 51, 3) := by decide +kernel
theorem dX3_tail_79 : decode cX3_tail 79 = .ok (.iload_n 3, 1) := by decide +kernel
theorem dX3_tail_80 : decode cX3_tail 80 = .ok (.ireturn, 1) := by decide +kernel
set_option maxRecDepth 20000 in
theorem ggX3_tells_X3_ofFrame : GoodIn wsX3_tells wsX3_ofFrame := goodIn_r _ [6, 1, 11, 12, 13, 14, 15, 16, 17, 18, 19, 20, 21] (by decide +kernel) (by decide +kernel)
set_option maxRecDepth 20000 in
theorem gX3_tells_X3_ofFrame : GoodIn wsX3_tells (wsV RX3 47 RX3 yX3_ofFrame wsX3_ofFrame) := goodIn_app (goodIn_of _ (by decide +kernel)) ggX3_tells_X3_ofFrame
set_option maxRecDepth 20000 in
theorem ggX3_tells_X3_ofSlot : GoodIn wsX3_tells wsX3_ofSlot := goodIn_r _ [10, 1, 11, 12, 13, 14, 15, 16, 17, 18, 19, 20, 21] (by decide +kernel) (by decide +kernel)
set_option maxRecDepth 20000 in
theorem gX3_tells_X3_ofSlot : GoodIn wsX3_tells (wsV RX3 55 RX3 yX3_ofSlot wsX3_ofSlot) := goodIn_app (goodIn_of _ (by decide +kernel)) ggX3_tells_X3_ofSlot
theorem dX3_tells_0 : decode cX3_tells 0 = .ok (.aload_n 0, 1) := by decide +kernel
theorem dX3_tells_1 : decode cX3_tells 1 = .ok (.getfield 7, 3) := by decide +kernel
theorem dX3_tells_4 : decode cX3_tells 4 = .ok (.bipush 10, 2) := by decide +kernel
theorem dX3_tells_6 : decode cX3_tells 6 = .ok (.iaload, 1) := by decide +kernel
theorem dX3_tells_7 : decode cX3_tells 7 = .ok (.bipush 12, 2) := by decide +kernel
theorem dX3_tells_9 : decode cX3_tells 9 = .ok (.if_icmp .ne 50, 3) := by decide +kernel
theorem dX3_tells_12 : decode cX3_tells 12 = .ok (.sipush 263, 3) := by decide +kernel
theorem dX3_tells_15 : decode cX3_tells 15 = .ok (.istore 4, 2) := by decide +kernel
theorem dX3_tells_17 : decode cX3_tells 17 = .ok (.iload 4, 2) := by decide +kernel
theorem dX3_tells_19 : decode cX3_tells 19 = .ok (.sipush 329, 3) := by decide +kernel
theorem dX3_tells_22 : decode cX3_tells 22 = .ok (.if_icmp .ge 26, 3) := by decide +kernel
theorem dX3_tells_25 : decode cX3_tells 25 = .ok (.aload_n 0, 1) := by decide +kernel
theorem dX3_tells_26 : decode cX3_tells 26 = .ok (.getfield 7, 3) := by decide +kernel
theorem dX3_tells_29 : decode cX3_tells 29 = .ok (.iload 4, 2) := by decide +kernel
theorem dX3_tells_31 : decode cX3_tells 31 = .ok (.aload_n 0, 1) := by decide +kernel
theorem dX3_tells_32 : decode cX3_tells 32 = .ok (.getfield 7, 3) := by decide +kernel
theorem dX3_tells_35 : decode cX3_tells 35 = .ok (.iload 4, 2) := by decide +kernel
theorem dX3_tells_37 : decode cX3_tells 37 = .ok (.bipush 6, 2) := by decide +kernel
theorem dX3_tells_39 : decode cX3_tells 39 = .ok (.iadd, 1) := by decide +kernel
theorem dX3_tells_40 : decode cX3_tells 40 = .ok (.iaload, 1) := by decide +kernel
theorem dX3_tells_41 : decode cX3_tells 41 = .ok (.iastore, 1) := by decide +kernel
theorem dX3_tells_42 : decode cX3_tells 42 = .ok (.iinc 4 1, 3) := by decide +kernel
theorem dX3_tells_45 : decode cX3_tells 45 = .ok (.goto (-28), 3) := by decide +kernel
theorem dX3_tells_48 : decode cX3_tells 48 = .ok (.aload_n 0, 1) := by decide +kernel
theorem dX3_tells_49 : decode cX3_tells 49 = .ok (.getfield 7, 3) := by decide +kernel
theorem dX3_tells_52 : decode cX3_tells 52 = .ok (.bipush 10, 2) := by decide +kernel
theorem dX3_tells_54 : decode cX3_tells 54 = .ok (.dup2, 1) := by decide +kernel
theorem dX3_tells_55 : decode cX3_tells 55 = .ok (.iaload, 1) := by decide +kernel
theorem dX3_tells_56 : decode cX3_tells 56 = .ok (.iconst 1, 1) := by decide +kernel
theorem dX3_tells_57 : decode cX3_tells 57 = .ok (.isub, 1) := by decide +kernel
theorem dX3_tells_58 : decode cX3_tells 58 = .ok (.iastore, 1) := by decide +kernel
theorem dX3_tells_59 : decode cX3_tells 59 = .ok (.sipush 263, 3) := by decide +kernel
theorem dX3_tells_62 : decode cX3_tells 62 = .ok (.bipush 6, 2) := by decide +kernel
theorem dX3_tells_64 : decode cX3_tells 64 = .ok (.aload_n 0, 1) := by decide +kernel
theorem dX3_tells_65 : decode cX3_tells 65 = .ok (.getfield 7, 3) := by decide +kernel
theorem dX3_tells_68 : decode cX3_tells 68 = .ok (.bipush 10, 2) := by decide +kernel
theorem dX3_tells_70 : decode cX3_tells 70 = .ok (.iaload, 1) := by decide +kernel
theorem dX3_tells_71 : decode cX3_tells 71 = .ok (.imul, 1) := by decide +kernel
theorem dX3_tells_72 : decode cX3_tells 72 = .ok (.iadd, 1) := by decide +kernel
theorem dX3_tells_73 : decode cX3_tells 73 = .ok (.istore 4, 2) := by decide +kernel
theorem dX3_tells_75 : decode cX3_tells 75 = .ok (.aload_n 0, 1) := by decide +kernel
theorem dX3_tells_76 : decode cX3_tells 76 = .ok (.getfield 7, 3) := by decide +kernel
theorem dX3_tells_79 : decode cX3_tells 79 = .ok (.iload 4, 2) := by decide +kernel
theorem dX3_tells_81 : decode cX3_tells 81 = .ok (.iload_n 1, 1) := by decide +kernel
theorem dX3_tells_82 : decode cX3_tells 82 = .ok (.iastore, 1) := by decide +kernel
theorem dX3_tells_83 : decode cX3_tells 83 = .ok (.aload_n 0, 1) := by decide +kernel
theorem dX3_tells_84 : decode cX3_tells 84 = .ok (.getfield 7, 3) := by decide +kernel
theorem dX3_tells_87 : decode cX3_tells 87 = .ok (.iload 4, 2) := by decide +kernel
theorem dX3_tells_89 : decode cX3_tells 89 = .ok (.iconst 1, 1) := by decide +kernel
theorem dX3_tells_90 : decode cX3_tells 90 = .ok (.iadd, 1) := by decide +kernel
theorem dX3_tells_91 : decode cX3_tells 91 = .ok (.iload_n 2, 1) := by decide +kernel
theorem dX3_tells_92 : decode cX3_tells 92 = .ok (.iastore, 1) := by decide +kernel
theorem dX3_tells_93 : decode cX3_tells 93 = .ok (.aload_n 0, 1) := by decide +kernel
theorem dX3_tells_94 : decode cX3_tells 94 = .ok (.getfield 7, 3) := by decide +kernel
theorem dX3_tells_97 : decode cX3_tells 97 = .ok (.iload 4, 2) := by decide +kernel
theorem dX3_tells_99 : decode cX3_tells 99 = .ok (.iconst 2, 1) := by decide +kernel
theorem dX3_tells_100 : decode cX3_tells 100 = .ok (.iadd, 1) := by decide +kernel
theorem dX3_tells_101 : decode cX3_tells 101 = .ok (.aload_n 0, 1) := by decide +kernel
theorem dX3_tells_102 : decode cX3_tells 102 = .ok (.iload_n 3, 1) := by decide +kernel
theorem dX3_tells_103 : decode cX3_tells 103 = .ok (.iconst 0, 1) := by decide +kernel
theorem dX3_tells_104 : decode cX3_tells 104 = .ok (.invokevirtual 47, 3) := by decide +kernel
theorem dX3_tells_107 : decode cX3_tells 107 = .ok (.iastore, 1) := by decide +kernel
theorem dX3_tells_108 : decode cX3_tells 108 = .ok (.aload_n 0, 1) := by decide +kernel
theorem dX3_tells_109 : decode cX3_tells 109 = .ok (.getfield 7, 3) := by decide +kernel
theorem dX3_tells_112 : decode cX3_tells 112 = .ok (.iload 4, 2) := by decide +kernel
theorem dX3_tells_114 : decode cX3_tells 114 = .ok (.iconst 3, 1) := by decide +kernel
theorem dX3_tells_115 : decode cX3_tells 115 = .ok (.iadd, 1) := by decide +kernel
theorem dX3_tells_116 : decode cX3_tells 116 = .ok (.aload_n 0, 1) := by decide +kernel
theorem dX3_tells_117 : decode cX3_tells 117 = .ok (.aload_n 0, 1) := by decide +kernel
theorem dX3_tells_118 : decode cX3_tells 118 = .ok (.getfield 7, 3) := by decide +kernel
theorem dX3_tells_121 : decode cX3_tells 121 = .ok (.bipush 12, 2) := by decide +kernel
theorem dX3_tells_123 : decode cX3_tells 123 = .ok (.iaload, 1) := by decide +kernel
theorem dX3_tells_124 : decode cX3_tells 124 = .ok (.iconst 1, 1) := by decide +kernel
theorem dX3_tells_125 : decode cX3_tells 125 = .ok (.invokevirtual 55, 3) := by decide +kernel
theorem dX3_tells_128 : decode cX3_tells 128 = .ok (.iastore, 1) := by decide +kernel
theorem dX3_tells_129 : decode cX3_tells 129 = .ok (.aload_n 0, 1) := by decide +kernel
theorem dX3_tells_130 : decode cX3_tells 130 = .ok (.getfield 7, 3) := by decide +kernel
theorem dX3_tells_133 : decode cX3_tells 133 = .ok (.iload 4, 2) := by decide +kernel
theorem dX3_tells_135 : decode cX3_tells 135 = .ok (.iconst 4, 1) := by decide +kernel
theorem dX3_tells_136 : decode cX3_tells 136 = .ok (.iadd, 1) := by decide +kernel
theorem dX3_tells_137 : decode cX3_tells 137 = .ok (.aload_n 0, 1) := by decide +kernel
theorem dX3_tells_138 : decode cX3_tells 138 = .ok (.iload_n 3, 1) := by decide +kernel
theorem dX3_tells_139 : decode cX3_tells 139 = .ok (.iconst 2, 1) := by decide +kernel
theorem dX3_tells_140 : decode cX3_tells 140 = .ok (.invokevirtual 47, 3) := by decide +kernel
theorem dX3_tells_143 : decode cX3_tells 143 = .ok (.iastore, 1) := by decide +kernel
theorem dX3_tells_144 : decode cX3_tells 144 = .ok (.aload_n 0, 1) := by decide +kernel
theorem dX3_tells_145 : decode cX3_tells 145 = .ok (.getfield 7, 3) := by decide +kernel
theorem dX3_tells_148 : decode cX3_tells 148 = .ok (.iload 4, 2) := by decide +kernel
theorem dX3_tells_150 : decode cX3_tells 150 = .ok (.iconst 5, 1) := by decide +kernel
theorem dX3_tells_151 : decode cX3_tells 151 = .ok (.iadd, 1) := by decide +kernel
theorem dX3_tells_152 : decode cX3_tells 152 = .ok (.aload_n 0, 1) := by decide +kernel
theorem dX3_tells_153 : decode cX3_tells 153 = .ok (.getfield 7, 3) := by decide +kernel
theorem dX3_tells_156 : decode cX3_tells 156 = .ok (.iconst 1, 1) := by decide +kernel
theorem dX3_tells_157 : decode cX3_tells 157 = .ok (.iaload, 1) := by decide +kernel
theorem dX3_tells_158 : decode cX3_tells 158 = .ok (.iastore, 1) := by decide +kernel
theorem dX3_tells_159 : decode cX3_tells 159 = .ok (.aload_n 0, 1) := by decide +kernel
theorem dX3_tells_160 : decode cX3_tells 160 = .ok (.getfield 7, 3) := by decide +kernel
theorem dX3_tells_163 : decode cX3_tells 163 = .ok (.bipush 10, 2) := by decide +kernel
theorem dX3_tells_165 : decode cX3_tells 165 = .ok (.dup2, 1) := by decide +kernel
theorem dX3_tells_166 : decode cX3_tells 166 = .ok (.iaload, 1) := by decide +kernel
theorem dX3_tells_167 : decode cX3_tells 167 = .ok (.iconst 1, 1) := by decide +kernel
theorem dX3_tells_168 : decode cX3_tells 168 = .ok (.iadd, 1) := by decide +kernel
theorem dX3_tells_169 : decode cX3_tells 169 = .ok (.iastore, 1) := by decide +kernel
theorem dX3_tells_170 : decode cX3_tells 170 = .ok (.iload_n 2, 1) := by decide +kernel
theorem dX3_tells_171 : decode cX3_tells 171 = .ok (.bipush (-9), 2) := by decide +kernel
theorem dX3_tells_173 : decode cX3_tells 173 = .ok (.if_icmp .eq 17, 3) := by decide +kernel
theorem dX3_tells_176 : decode cX3_tells 176 = .ok (.aload_n 0, 1) := by decide +kernel
theorem dX3_tells_177 : decode cX3_tells 177 = .ok (.getfield 7, 3) := by decide +kernel
theorem dX3_tells_180 : decode cX3_tells 180 = .ok (.sipush 735, 3) := by decide +kernel
theorem dX3_tells_183 : decode cX3_tells 183 = .ok (.iload_n 2, 1) := by decide +kernel
theorem dX3_tells_184 : decode cX3_tells 184 = .ok (.iadd, 1) := by decide +kernel
theorem dX3_tells_185 : decode cX3_tells 185 = .ok (.dup2, 1) := by decide +kernel
theorem dX3_tells_186 : decode cX3_tells 186 = .ok (.iaload, 1) := by decide +kernel
theorem dX3_tells_187 : decode cX3_tells 187 = .ok (.iconst 1, 1) := by decide +kernel
theorem dX3_tells_188 : decode cX3_tells 188 = .ok (.iadd, 1) := by decide +kernel
theorem dX3_tells_189 : decode cX3_tells 189 = .ok (.iastore, 1) := by decide +kernel
theorem dX3_tells_190 : decode cX3_tells 190 = .ok (.return_, 1) := by decide +kernel
set_option maxRecDepth 20000 in
theorem ggX3_returns_X3_ofSlot : GoodIn wsX3_returns wsX3_ofSlot := goodIn_r _ [6, 1, 15, 16, 17, 18, 19, 20, 21, 22, 23, 24, 25] (by decide +kernel) (by decide +kernel)
set_option maxRecDepth 20000 in
theorem gX3_returns_X3_ofSlot : GoodIn wsX3_returns (wsV RX3 55 RX3 yX3_ofSlot wsX3_ofSlot) := goodIn_app (goodIn_of _ (by decide +kernel)) ggX3_returns_X3_ofSlot
set_option maxRecDepth 20000 in
theorem ggX3_returns_X3_ofFrame : GoodIn wsX3_returns wsX3_ofFrame := goodIn_r _ [10, 1, 15, 16, 17, 18, 19, 20, 21, 22, 23, 24, 25] (by decide +kernel) (by decide +kernel)
set_option maxRecDepth 20000 in
theorem gX3_returns_X3_ofFrame : GoodIn wsX3_returns (wsV RX3 47 RX3 yX3_ofFrame wsX3_ofFrame) := goodIn_app (goodIn_of _ (by decide +kernel)) ggX3_returns_X3_ofFrame
set_option maxRecDepth 20000 in
theorem ggX3_returns_X3_tells : GoodIn wsX3_returns wsX3_tells := goodIn_r _ [14, 1, 7, 8, 9, 5, 10, 2, 3, 4, 6, 15, 16, 17, 18, 19, 20, 21, 22, 23, 24, 25] (by decide +kernel) (by decide +kernel)
set_option maxRecDepth 20000 in
theorem gX3_returns_X3_tells : GoodIn wsX3_returns (wsV RX3 58 RX3 yX3_tells wsX3_tells) := goodIn_app (goodIn_of _ (by decide +kernel)) ggX3_returns_X3_tells
theorem dX3_returns_0 : decode cX3_returns 0 = .ok (.aload_n 0, 1) := by decide +kernel
theorem dX3_returns_1 : decode cX3_returns 1 = .ok (.getfield 7, 3) := by decide +kernel
theorem dX3_returns_4 : decode cX3_returns 4 = .ok (.iconst 0, 1) := by decide +kernel
theorem dX3_returns_5 : decode cX3_returns 5 = .ok (.iaload, 1) := by decide +kernel
theorem dX3_returns_6 : decode cX3_returns 6 = .ok (.iconst 1, 1) := by decide +kernel
theorem dX3_returns_7 : decode cX3_returns 7 = .ok (.isub, 1) := by decide +kernel
theorem dX3_returns_8 : decode cX3_returns 8 = .ok (.istore_n 1, 1) := by decide +kernel
theorem dX3_returns_9 : decode cX3_returns 9 = .ok (.aload_n 0, 1) := by decide +kernel
theorem dX3_returns_10 : decode cX3_returns 10 = .ok (.aload_n 0, 1) := by decide +kernel
theorem dX3_returns_11 : decode cX3_returns 11 = .ok (.getfield 7, 3) := by decide +kernel
theorem dX3_returns_14 : decode cX3_returns 14 = .ok (.bipush 12, 2) := by decide +kernel
theorem dX3_returns_16 : decode cX3_returns 16 = .ok (.iaload, 1) := by decide +kernel
theorem dX3_returns_17 : decode cX3_returns 17 = .ok (.iconst 1, 1) := by decide +kernel
theorem dX3_returns_18 : decode cX3_returns 18 = .ok (.invokevirtual 55, 3) := by decide +kernel
theorem dX3_returns_21 : decode cX3_returns 21 = .ok (.aload_n 0, 1) := by decide +kernel
theorem dX3_returns_22 : decode cX3_returns 22 = .ok (.iload_n 1, 1) := by decide +kernel
theorem dX3_returns_23 : decode cX3_returns 23 = .ok (.iconst 2, 1) := by decide +kernel
theorem dX3_returns_24 : decode cX3_returns 24 = .ok (.invokevirtual 47, 3) := by decide +kernel
theorem dX3_returns_27 : decode cX3_returns 27 = .ok (.if_icmp .ne 70, 3) := by decide +kernel
theorem dX3_returns_30 : decode cX3_returns 30 = .ok (.aload_n 0, 1) := by decide +kernel
theorem dX3_returns_31 : decode cX3_returns 31 = .ok (.aload_n 0, 1) := by decide +kernel
theorem dX3_returns_32 : decode cX3_returns 32 = .ok (.getfield 7, 3) := by decide +kernel
theorem dX3_returns_35 : decode cX3_returns 35 = .ok (.bipush 12, 2) := by decide +kernel
theorem dX3_returns_37 : decode cX3_returns 37 = .ok (.iaload, 1) := by decide +kernel
theorem dX3_returns_38 : decode cX3_returns 38 = .ok (.iconst 0, 1) := by decide +kernel
theorem dX3_returns_39 : decode cX3_returns 39 = .ok (.invokevirtual 55, 3) := by decide +kernel
theorem dX3_returns_42 : decode cX3_returns 42 = .ok (.aload_n 0, 1) := by decide +kernel
theorem dX3_returns_43 : decode cX3_returns 43 = .ok (.iload_n 1, 1) := by decide +kernel
theorem dX3_returns_44 : decode cX3_returns 44 = .ok (.iconst 0, 1) := by decide +kernel
theorem dX3_returns_45 : decode cX3_returns 45 = .ok (.invokevirtual 47, 3) := by decide +kernel
theorem dX3_returns_48 : decode cX3_returns 48 = .ok (.if_icmp .eq 7, 3) := by decide +kernel
theorem dX3_returns_51 : decode cX3_returns 51 = .ok (.iconst 1, 1) := by decide +kernel
theorem dX3_returns_52 : decode cX3_returns 52 = .ok (.goto 4, 3) := by decide +kernel
theorem dX3_returns_55 : decode cX3_returns 55 = .ok (.iconst 0, 1) := by decide +kernel
theorem dX3_returns_56 : decode cX3_returns 56 = .ok (.istore_n 2, 1) := by decide +kernel
theorem dX3_returns_57 : decode cX3_returns 57 = .ok (.aload_n 0, 1) := by decide +kernel
theorem dX3_returns_58 : decode cX3_returns 58 = .ok (.getfield 7, 3) := by decide +kernel
theorem dX3_returns_61 : decode cX3_returns 61 = .ok (.bipush 6, 2) := by decide +kernel
theorem dX3_returns_63 : decode cX3_returns 63 = .ok (.dup2, 1) := by decide +kernel
theorem dX3_returns_64 : decode cX3_returns 64 = .ok (.iaload, 1) := by decide +kernel
theorem dX3_returns_65 : decode cX3_returns 65 = .ok (.iconst 1, 1) := by decide +kernel
theorem dX3_returns_66 : decode cX3_returns 66 = .ok (.iadd, 1) := by decide +kernel
theorem dX3_returns_67 : decode cX3_returns 67 = .ok (.iastore, 1) := by decide +kernel
theorem dX3_returns_68 : decode cX3_returns 68 = .ok (.aload_n 0, 1) := by decide +kernel
theorem dX3_returns_69 : decode cX3_returns 69 = .ok (.getfield 7, 3) := by decide +kernel
theorem dX3_returns_72 : decode cX3_returns 72 = .ok (.bipush 7, 2) := by decide +kernel
theorem dX3_returns_74 : decode cX3_returns 74 = .ok (.dup2, 1) := by decide +kernel
theorem dX3_returns_75 : decode cX3_returns 75 = .ok (.iaload, 1) := by decide +kernel
theorem dX3_returns_76 : decode cX3_returns 76 = .ok (.iload_n 2, 1) := by decide +kernel
theorem dX3_returns_77 : decode cX3_returns 77 = .ok (.ifCond .eq 7, 3) := by decide +kernel
theorem dX3_returns_80 : decode cX3_returns 80 = .ok (.iconst 1, 1) := by decide +kernel
theorem dX3_returns_81 : decode cX3_returns 81 = .ok (.goto 4, 3) := by decide +kernel
theorem dX3_returns_84 : decode cX3_returns 84 = .ok (.iconst 0, 1) := by decide +kernel
theorem dX3_returns_85 : decode cX3_returns 85 = .ok (.iadd, 1) := by decide +kernel
theorem dX3_returns_86 : decode cX3_returns 86 = .ok (.iastore, 1) := by decide +kernel
theorem dX3_returns_87 : decode cX3_returns 87 = .ok (.iload_n 2, 1) := by decide +kernel
theorem dX3_returns_88 : decode cX3_returns 88 = .ok (.ifCond .eq 7, 3) := by decide +kernel
theorem dX3_returns_91 : decode cX3_returns 91 = .ok (.iconst 1, 1) := by decide +kernel
theorem dX3_returns_92 : decode cX3_returns 92 = .ok (.goto 4, 3) := by decide +kernel
theorem dX3_returns_95 : decode cX3_returns 95 = .ok (.iconst 0, 1) := by decide +kernel
theorem dX3_returns_96 : decode cX3_returns 96 = .ok (.ireturn, 1) := by decide +kernel
theorem dX3_returns_97 : decode cX3_returns 97 = .ok (.aload_n 0, 1) := by decide +kernel
theorem dX3_returns_98 : decode cX3_returns 98 = .ok (.iload_n 1, 1) := by decide +kernel
theorem dX3_returns_99 : decode cX3_returns 99 = .ok (.iconst 4, 1) := by decide +kernel
theorem dX3_returns_100 : decode cX3_returns 100 = .ok (.invokevirtual 47, 3) := by decide +kernel
theorem dX3_returns_103 : decode cX3_returns 103 = .ok (.bipush (-9), 2) := by decide +kernel
theorem dX3_returns_105 : decode cX3_returns 105 = .ok (.if_icmp .eq 28, 3) := by decide +kernel
theorem dX3_returns_108 : decode cX3_returns 108 = .ok (.aload_n 0, 1) := by decide +kernel
theorem dX3_returns_109 : decode cX3_returns 109 = .ok (.getfield 7, 3) := by decide +kernel
theorem dX3_returns_112 : decode cX3_returns 112 = .ok (.bipush 8, 2) := by decide +kernel
theorem dX3_returns_114 : decode cX3_returns 114 = .ok (.dup2, 1) := by decide +kernel
theorem dX3_returns_115 : decode cX3_returns 115 = .ok (.iaload, 1) := by decide +kernel
theorem dX3_returns_116 : decode cX3_returns 116 = .ok (.iconst 1, 1) := by decide +kernel
theorem dX3_returns_117 : decode cX3_returns 117 = .ok (.iadd, 1) := by decide +kernel
theorem dX3_returns_118 : decode cX3_returns 118 = .ok (.iastore, 1) := by decide +kernel
theorem dX3_returns_119 : decode cX3_returns 119 = .ok (.aload_n 0, 1) := by decide +kernel
theorem dX3_returns_120 : decode cX3_returns 120 = .ok (.iconst 1, 1) := by decide +kernel
theorem dX3_returns_121 : decode cX3_returns 121 = .ok (.aload_n 0, 1) := by decide +kernel
theorem dX3_returns_122 : decode cX3_returns 122 = .ok (.iload_n 1, 1) := by decide +kernel
theorem dX3_returns_123 : decode cX3_returns 123 = .ok (.iconst 4, 1) := by decide +kernel
theorem dX3_returns_124 : decode cX3_returns 124 = .ok (.invokevirtual 47, 3) := by decide +kernel
theorem dX3_returns_127 : decode cX3_returns 127 = .ok (.iload_n 1, 1) := by decide +kernel
theorem dX3_returns_128 : decode cX3_returns 128 = .ok (.invokevirtual 58, 3) := by decide +kernel
theorem dX3_returns_131 : decode cX3_returns 131 = .ok (.iconst 2, 1) := by decide +kernel
theorem dX3_returns_132 : decode cX3_returns 132 = .ok (.ireturn, 1) := by decide +kernel
theorem dX3_returns_133 : decode cX3_returns 133 = .ok (.aload_n 0, 1) := by decide +kernel
theorem dX3_returns_134 : decode cX3_returns 134 = .ok (.getfield 7, 3) := by decide +kernel
theorem dX3_returns_137 : decode cX3_returns 137 = .ok (.bipush 9, 2) := by decide +kernel
theorem dX3_returns_139 : decode cX3_returns 139 = .ok (.dup2, 1) := by decide +kernel
theorem dX3_returns_140 : decode cX3_returns 140 = .ok (.iaload, 1) := by decide +kernel
theorem dX3_returns_141 : decode cX3_returns 141 = .ok (.iconst 1, 1) := by decide +kernel
theorem dX3_returns_142 : decode cX3_returns 142 = .ok (.iadd, 1) := by decide +kernel
theorem dX3_returns_143 : decode cX3_returns 143 = .ok (.iastore, 1) := by decide +kernel
theorem dX3_returns_144 : decode cX3_returns 144 = .ok (.aload_n 0, 1) := by decide +kernel
theorem dX3_returns_145 : decode cX3_returns 145 = .ok (.iconst 2, 1) := by decide +kernel
theorem dX3_returns_146 : decode cX3_returns 146 = .ok (.aload_n 0, 1) := by decide +kernel
theorem dX3_returns_147 : decode cX3_returns 147 = .ok (.aload_n 0, 1) := by decide +kernel
theorem dX3_returns_148 : decode cX3_returns 148 = .ok (.getfield 7, 3) := by decide +kernel
theorem dX3_returns_151 : decode cX3_returns 151 = .ok (.bipush 12, 2) := by decide +kernel
theorem dX3_returns_153 : decode cX3_returns 153 = .ok (.iaload, 1) := by decide +kernel
theorem dX3_returns_154 : decode cX3_returns 154 = .ok (.iconst 0, 1) := by decide +kernel
theorem dX3_returns_155 : decode cX3_returns 155 = .ok (.invokevirtual 55, 3) := by decide +kernel
theorem dX3_returns_158 : decode cX3_returns 158 = .ok (.iload_n 1, 1) := by decide +kernel
theorem dX3_returns_159 : decode cX3_returns 159 = .ok (.invokevirtual 58, 3) := by decide +kernel
theorem dX3_returns_162 : decode cX3_returns 162 = .ok (.iconst 3, 1) := by decide +kernel
theorem dX3_returns_163 : decode cX3_returns 163 = .ok (.ireturn, 1) := by decide +kernel
theorem dX3_back_0 : decode cX3_back 0 = .ok (.iload_n 0, 1) := by decide +kernel
theorem dX3_back_1 : decode cX3_back 1 = .ok (.iload_n 2, 1) := by decide +kernel
theorem dX3_back_2 : decode cX3_back 2 = .ok (.bipush 40, 2) := by decide +kernel
theorem dX3_back_4 : decode cX3_back 4 = .ok (.imul, 1) := by decide +kernel
theorem dX3_back_5 : decode cX3_back 5 = .ok (.iadd, 1) := by decide +kernel
theorem dX3_back_6 : decode cX3_back 6 = .ok (.iload_n 1, 1) := by decide +kernel
theorem dX3_back_7 : decode cX3_back 7 = .ok (.isub, 1) := by decide +kernel
theorem dX3_back_8 : decode cX3_back 8 = .ok (.iload_n 2, 1) := by decide +kernel
theorem dX3_back_9 : decode cX3_back 9 = .ok (.irem, 1) := by decide +kernel
theorem dX3_back_10 : decode cX3_back 10 = .ok (.ireturn, 1) := by decide +kernel
set_option maxRecDepth 20000 in
theorem ggX3_ret_X3_acts : GoodIn wsX3_ret wsX3_acts := goodIn_r _ [6, 7, 8, 9, 1, 33, 34, 35, 36, 37, 38, 39, 40, 41, 42, 43] (by decide +kernel) (by decide +kernel)
set_option maxRecDepth 20000 in
theorem gX3_ret_X3_acts : GoodIn wsX3_ret (wsV RX3 44 RX3 yX3_acts wsX3_acts) := goodIn_app (goodIn_of _ (by decide +kernel)) ggX3_ret_X3_acts
set_option maxRecDepth 20000 in
theorem ggX3_ret_X3_returns : GoodIn wsX3_ret wsX3_returns := goodIn_r _ [13, 1, 14, 15, 16, 5, 17, 18, 19, 20, 21, 22, 23, 24, 25, 33, 34, 35, 36, 37, 38, 39, 40, 41, 42, 43] (by decide +kernel) (by decide +kernel)
set_option maxRecDepth 20000 in
theorem gX3_ret_X3_returns : GoodIn wsX3_ret (wsV RX3 62 RX3 yX3_returns wsX3_returns) := goodIn_app (goodIn_of _ (by decide +kernel)) ggX3_ret_X3_returns
set_option maxRecDepth 20000 in
theorem ggX3_ret_X3_back : GoodIn wsX3_ret wsX3_back := goodIn_r _ [28] (by decide +kernel) (by decide +kernel)
set_option maxRecDepth 20000 in
theorem gX3_ret_X3_back : GoodIn wsX3_ret (va_wsS RX3 66 yX3_back wsX3_back) := goodIn_app (goodIn_of _ (by decide +kernel)) ggX3_ret_X3_back
set_option maxRecDepth 20000 in
theorem ggX3_ret_X3_notes : GoodIn wsX3_ret wsX3_notes := goodIn_r _ [32, 1, 33, 34, 35, 36, 37, 38, 39, 40, 41, 42, 43] (by decide +kernel) (by decide +kernel)
set_option maxRecDepth 20000 in
theorem gX3_ret_X3_notes : GoodIn wsX3_ret (wsV RX3 51 RX3 yX3_notes wsX3_notes) := goodIn_app (goodIn_of _ (by decide +kernel)) ggX3_ret_X3_notes
theorem dX3_ret_0 : decode cX3_ret 0 = .ok (.aload_n 0, 1) := by decide +kernel
theorem dX3_ret_1 : decode cX3_ret 1 = .ok (.getfield 7, 3) := by decide +kernel
theorem dX3_ret_4 : decode cX3_ret 4 = .ok (.iconst 0, 1) := by decide +kernel
theorem dX3_ret_5 : decode cX3_ret 5 = .ok (.iaload, 1) := by decide +kernel
theorem dX3_ret_6 : decode cX3_ret 6 = .ok (.ifCond .ne 6, 3) := by decide +kernel
theorem dX3_ret_9 : decode cX3_ret 9 = .ok (.bipush (-2), 2) := by decide +kernel
theorem dX3_ret_11 : decode cX3_ret 11 = .ok (.ireturn, 1) := by decide +kernel
theorem dX3_ret_12 : decode cX3_ret 12 = .ok (.aload_n 0, 1) := by decide +kernel
theorem dX3_ret_13 : decode cX3_ret 13 = .ok (.getfield 7, 3) := by decide +kernel
theorem dX3_ret_16 : decode cX3_ret 16 = .ok (.iconst 1, 1) := by decide +kernel
theorem dX3_ret_17 : decode cX3_ret 17 = .ok (.iaload, 1) := by decide +kernel
theorem dX3_ret_18 : decode cX3_ret 18 = .ok (.sipush 200, 3) := by decide +kernel
theorem dX3_ret_21 : decode cX3_ret 21 = .ok (.if_icmp .ne 6, 3) := by decide +kernel
theorem dX3_ret_24 : decode cX3_ret 24 = .ok (.bipush (-3), 2) := by decide +kernel
theorem dX3_ret_26 : decode cX3_ret 26 = .ok (.ireturn, 1) := by decide +kernel
theorem dX3_ret_27 : decode cX3_ret 27 = .ok (.aload_n 0, 1) := by decide +kernel
theorem dX3_ret_28 : decode cX3_ret 28 = .ok (.invokevirtual 44, 3) := by decide +kernel
theorem dX3_ret_31 : decode cX3_ret 31 = .ok (.aload_n 0, 1) := by decide +kernel
theorem dX3_ret_32 : decode cX3_ret 32 = .ok (.invokevirtual 62, 3) := by decide +kernel
theorem dX3_ret_35 : decode cX3_ret 35 = .ok (.istore_n 1, 1) := by decide +kernel
theorem dX3_ret_36 : decode cX3_ret 36 = .ok (.aload_n 0, 1) := by decide +kernel
theorem dX3_ret_37 : decode cX3_ret 37 = .ok (.getfield 7, 3) := by decide +kernel
theorem dX3_ret_40 : decode cX3_ret 40 = .ok (.iconst 0, 1) := by decide +kernel
theorem dX3_ret_41 : decode cX3_ret 41 = .ok (.dup2, 1) := by decide +kernel
theorem dX3_ret_42 : decode cX3_ret 42 = .ok (.iaload, 1) := by decide +kernel
theorem dX3_ret_43 : decode cX3_ret 43 = .ok (.iconst 1, 1) := by decide +kernel
