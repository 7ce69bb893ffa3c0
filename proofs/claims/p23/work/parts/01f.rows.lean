theorem dL_returned_105 : decode cL_returned 105 = .ok (.iadd, 1) := by decide +kernel
theorem dL_returned_106 : decode cL_returned 106 = .ok (.iastore, 1) := by decide +kernel
theorem dL_returned_107 : decode cL_returned 107 = .ok (.aload_n 0, 1) := by decide +kernel
theorem dL_returned_108 : decode cL_returned 108 = .ok (.bipush 7, 2) := by decide +kernel
theorem dL_returned_110 : decode cL_returned 110 = .ok (.dup2, 1) := by decide +kernel
theorem dL_returned_111 : decode cL_returned 111 = .ok (.iaload, 1) := by decide +kernel
theorem dL_returned_112 : decode cL_returned 112 = .ok (.iload 12, 2) := by decide +kernel
theorem dL_returned_114 : decode cL_returned 114 = .ok (.iconst 1, 1) := by decide +kernel
theorem dL_returned_115 : decode cL_returned 115 = .ok (.if_icmp .ne 7, 3) := by decide +kernel
theorem dL_returned_118 : decode cL_returned 118 = .ok (.iconst 1, 1) := by decide +kernel
theorem dL_returned_119 : decode cL_returned 119 = .ok (.goto 4, 3) := by decide +kernel
theorem dL_returned_122 : decode cL_returned 122 = .ok (.iconst 0, 1) := by decide +kernel
theorem dL_returned_123 : decode cL_returned 123 = .ok (.iadd, 1) := by decide +kernel
theorem dL_returned_124 : decode cL_returned 124 = .ok (.iastore, 1) := by decide +kernel
theorem dL_returned_125 : decode cL_returned 125 = .ok (.aload_n 0, 1) := by decide +kernel
theorem dL_returned_126 : decode cL_returned 126 = .ok (.bipush 8, 2) := by decide +kernel
theorem dL_returned_128 : decode cL_returned 128 = .ok (.dup2, 1) := by decide +kernel
theorem dL_returned_129 : decode cL_returned 129 = .ok (.iaload, 1) := by decide +kernel
theorem dL_returned_130 : decode cL_returned 130 = .ok (.iload 12, 2) := by decide +kernel
theorem dL_returned_132 : decode cL_returned 132 = .ok (.iconst 2, 1) := by decide +kernel
theorem dL_returned_133 : decode cL_returned 133 = .ok (.if_icmp .ne 7, 3) := by decide +kernel
theorem dL_returned_136 : decode cL_returned 136 = .ok (.iconst 1, 1) := by decide +kernel
theorem dL_returned_137 : decode cL_returned 137 = .ok (.goto 4, 3) := by decide +kernel
theorem dL_returned_140 : decode cL_returned 140 = .ok (.iconst 0, 1) := by decide +kernel
theorem dL_returned_141 : decode cL_returned 141 = .ok (.iadd, 1) := by decide +kernel
theorem dL_returned_142 : decode cL_returned 142 = .ok (.iastore, 1) := by decide +kernel
theorem dL_returned_143 : decode cL_returned 143 = .ok (.aload_n 0, 1) := by decide +kernel
theorem dL_returned_144 : decode cL_returned 144 = .ok (.bipush 9, 2) := by decide +kernel
theorem dL_returned_146 : decode cL_returned 146 = .ok (.dup2, 1) := by decide +kernel
theorem dL_returned_147 : decode cL_returned 147 = .ok (.iaload, 1) := by decide +kernel
theorem dL_returned_148 : decode cL_returned 148 = .ok (.iload 12, 2) := by decide +kernel
theorem dL_returned_150 : decode cL_returned 150 = .ok (.iconst 3, 1) := by decide +kernel
theorem dL_returned_151 : decode cL_returned 151 = .ok (.if_icmp .ne 7, 3) := by decide +kernel
theorem dL_returned_154 : decode cL_returned 154 = .ok (.iconst 1, 1) := by decide +kernel
theorem dL_returned_155 : decode cL_returned 155 = .ok (.goto 4, 3) := by decide +kernel
theorem dL_returned_158 : decode cL_returned 158 = .ok (.iconst 0, 1) := by decide +kernel
theorem dL_returned_159 : decode cL_returned 159 = .ok (.iadd, 1) := by decide +kernel
theorem dL_returned_160 : decode cL_returned 160 = .ok (.iastore, 1) := by decide +kernel
theorem dL_returned_161 : decode cL_returned 161 = .ok (.iload 12, 2) := by decide +kernel
theorem dL_returned_163 : decode cL_returned 163 = .ok (.iconst 1, 1) := by decide +kernel
theorem dL_returned_164 : decode cL_returned 164 = .ok (.if_icmp .le 98, 3) := by decide +kernel
theorem dL_returned_167 : decode cL_returned 167 = .ok (.iload 12, 2) := by decide +kernel
theorem dL_returned_169 : decode cL_returned 169 = .ok (.iconst 2, 1) := by decide +kernel
theorem dL_returned_170 : decode cL_returned 170 = .ok (.if_icmp .ne 11, 3) := by decide +kernel
theorem dL_returned_173 : decode cL_returned 173 = .ok (.lload 6, 2) := by decide +kernel
theorem dL_returned_175 : decode cL_returned 175 = .ok (.invokestatic 11, 3) := by decide +kernel
theorem dL_returned_178 : decode cL_returned 178 = .ok (.goto 5, 3) := by decide +kernel
theorem dL_returned_181 : decode cL_returned 181 = .ok (.iload 8, 2) := by decide +kernel
theorem dL_returned_183 : decode cL_returned 183 = .ok (.istore 13, 2) := by decide +kernel
theorem dL_returned_185 : decode cL_returned 185 = .ok (.aload 4, 2) := by decide +kernel
theorem dL_returned_187 : decode cL_returned 187 = .ok (.aload_n 0, 1) := by decide +kernel
theorem dL_returned_188 : decode cL_returned 188 = .ok (.bipush 10, 2) := by decide +kernel
theorem dL_returned_190 : decode cL_returned 190 = .ok (.iaload, 1) := by decide +kernel
theorem dL_returned_191 : decode cL_returned 191 = .ok (.iload 12, 2) := by decide +kernel
theorem dL_returned_193 : decode cL_returned 193 = .ok (.i2l, 1) := by decide +kernel
theorem dL_returned_194 : decode cL_returned 194 = .ok (.lconst 1, 1) := by decide +kernel
theorem dL_returned_195 : decode cL_returned 195 = .ok (.lsub, 1) := by decide +kernel
theorem dL_returned_196 : decode cL_returned 196 = .ok (.iload 13, 2) := by decide +kernel
theorem dL_returned_198 : decode cL_returned 198 = .ok (.i2l, 1) := by decide +kernel
theorem dL_returned_199 : decode cL_returned 199 = .ok (.ldc2_w 17, 3) := by decide +kernel
theorem dL_returned_202 : decode cL_returned 202 = .ok (.ladd, 1) := by decide +kernel
theorem dL_returned_203 : decode cL_returned 203 = .ok (.iconst 2, 1) := by decide +kernel
theorem dL_returned_204 : decode cL_returned 204 = .ok (.lshl, 1) := by decide +kernel
theorem dL_returned_205 : decode cL_returned 205 = .ok (.lor, 1) := by decide +kernel
theorem dL_returned_206 : decode cL_returned 206 = .ok (.iload 11, 2) := by decide +kernel
theorem dL_returned_208 : decode cL_returned 208 = .ok (.i2l, 1) := by decide +kernel
theorem dL_returned_209 : decode cL_returned 209 = .ok (.bipush 10, 2) := by decide +kernel
theorem dL_returned_211 : decode cL_returned 211 = .ok (.lshl, 1) := by decide +kernel
theorem dL_returned_212 : decode cL_returned 212 = .ok (.lor, 1) := by decide +kernel
theorem dL_returned_213 : decode cL_returned 213 = .ok (.iload 9, 2) := by decide +kernel
theorem dL_returned_215 : decode cL_returned 215 = .ok (.i2l, 1) := by decide +kernel
theorem dL_returned_216 : decode cL_returned 216 = .ok (.ldc2_w 17, 3) := by decide +kernel
theorem dL_returned_219 : decode cL_returned 219 = .ok (.ladd, 1) := by decide +kernel
theorem dL_returned_220 : decode cL_returned 220 = .ok (.bipush 18, 2) := by decide +kernel
theorem dL_returned_222 : decode cL_returned 222 = .ok (.lshl, 1) := by decide +kernel
theorem dL_returned_223 : decode cL_returned 223 = .ok (.lor, 1) := by decide +kernel
theorem dL_returned_224 : decode cL_returned 224 = .ok (.iload 10, 2) := by decide +kernel
theorem dL_returned_226 : decode cL_returned 226 = .ok (.i2l, 1) := by decide +kernel
theorem dL_returned_227 : decode cL_returned 227 = .ok (.bipush 28, 2) := by decide +kernel
theorem dL_returned_229 : decode cL_returned 229 = .ok (.lshl, 1) := by decide +kernel
theorem dL_returned_230 : decode cL_returned 230 = .ok (.lor, 1) := by decide +kernel
theorem dL_returned_231 : decode cL_returned 231 = .ok (.aload_n 0, 1) := by decide +kernel
theorem dL_returned_232 : decode cL_returned 232 = .ok (.iconst 1, 1) := by decide +kernel
theorem dL_returned_233 : decode cL_returned 233 = .ok (.iaload, 1) := by decide +kernel
theorem dL_returned_234 : decode cL_returned 234 = .ok (.i2l, 1) := by decide +kernel
theorem dL_returned_235 : decode cL_returned 235 = .ok (.bipush 38, 2) := by decide +kernel
theorem dL_returned_237 : decode cL_returned 237 = .ok (.lshl, 1) := by decide +kernel
theorem dL_returned_238 : decode cL_returned 238 = .ok (.lor, 1) := by decide +kernel
theorem dL_returned_239 : decode cL_returned 239 = .ok (.lastore, 1) := by decide +kernel
theorem dL_returned_240 : decode cL_returned 240 = .ok (.aload_n 0, 1) := by decide +kernel
theorem dL_returned_241 : decode cL_returned 241 = .ok (.bipush 10, 2) := by decide +kernel
theorem dL_returned_243 : decode cL_returned 243 = .ok (.dup2, 1) := by decide +kernel
theorem dL_returned_244 : decode cL_returned 244 = .ok (.iaload, 1) := by decide +kernel
theorem dL_returned_245 : decode cL_returned 245 = .ok (.iconst 1, 1) := by decide +kernel
theorem dL_returned_246 : decode cL_returned 246 = .ok (.iadd, 1) := by decide +kernel
theorem dL_returned_247 : decode cL_returned 247 = .ok (.iastore, 1) := by decide +kernel
theorem dL_returned_248 : decode cL_returned 248 = .ok (.iload 13, 2) := by decide +kernel
theorem dL_returned_250 : decode cL_returned 250 = .ok (.ifCond .lt 12, 3) := by decide +kernel
theorem dL_returned_253 : decode cL_returned 253 = .ok (.aload 5, 2) := by decide +kernel
theorem dL_returned_255 : decode cL_returned 255 = .ok (.iload 13, 2) := by decide +kernel
theorem dL_returned_257 : decode cL_returned 257 = .ok (.dup2, 1) := by decide +kernel
theorem dL_returned_258 : decode cL_returned 258 = .ok (.iaload, 1) := by decide +kernel
theorem dL_returned_259 : decode cL_returned 259 = .ok (.iconst 1, 1) := by decide +kernel
theorem dL_returned_260 : decode cL_returned 260 = .ok (.iadd, 1) := by decide +kernel
theorem dL_returned_261 : decode cL_returned 261 = .ok (.iastore, 1) := by decide +kernel
theorem dL_returned_262 : decode cL_returned 262 = .ok (.aload_n 0, 1) := by decide +kernel
theorem dL_returned_263 : decode cL_returned 263 = .ok (.iconst 0, 1) := by decide +kernel
theorem dL_returned_264 : decode cL_returned 264 = .ok (.dup2, 1) := by decide +kernel
theorem dL_returned_265 : decode cL_returned 265 = .ok (.iaload, 1) := by decide +kernel
theorem dL_returned_266 : decode cL_returned 266 = .ok (.iconst 1, 1) := by decide +kernel
theorem dL_returned_267 : decode cL_returned 267 = .ok (.isub, 1) := by decide +kernel
theorem dL_returned_268 : decode cL_returned 268 = .ok (.iastore, 1) := by decide +kernel
theorem dL_returned_269 : decode cL_returned 269 = .ok (.aload_n 0, 1) := by decide +kernel
theorem dL_returned_270 : decode cL_returned 270 = .ok (.bipush 12, 2) := by decide +kernel
theorem dL_returned_272 : decode cL_returned 272 = .ok (.aload_n 0, 1) := by decide +kernel
theorem dL_returned_273 : decode cL_returned 273 = .ok (.bipush 12, 2) := by decide +kernel
theorem dL_returned_275 : decode cL_returned 275 = .ok (.iaload, 1) := by decide +kernel
theorem dL_returned_276 : decode cL_returned 276 = .ok (.ifCond .ne 12, 3) := by decide +kernel
theorem dL_returned_279 : decode cL_returned 279 = .ok (.aload_n 0, 1) := by decide +kernel
theorem dL_returned_280 : decode cL_returned 280 = .ok (.bipush 11, 2) := by decide +kernel
theorem dL_returned_282 : decode cL_returned 282 = .ok (.iaload, 1) := by decide +kernel
theorem dL_returned_283 : decode cL_returned 283 = .ok (.iconst 1, 1) := by decide +kernel
theorem dL_returned_284 : decode cL_returned 284 = .ok (.isub, 1) := by decide +kernel
theorem dL_returned_285 : decode cL_returned 285 = .ok (.goto 9, 3) := by decide +kernel
theorem dL_returned_288 : decode cL_returned 288 = .ok (.aload_n 0, 1) := by decide +kernel
theorem dL_returned_289 : decode cL_returned 289 = .ok (.bipush 12, 2) := by decide +kernel
theorem dL_returned_291 : decode cL_returned 291 = .ok (.iaload, 1) := by decide +kernel
theorem dL_returned_292 : decode cL_returned 292 = .ok (.iconst 1, 1) := by decide +kernel
theorem dL_returned_293 : decode cL_returned 293 = .ok (.isub, 1) := by decide +kernel
theorem dL_returned_294 : decode cL_returned 294 = .ok (.iastore, 1) := by decide +kernel
theorem dL_returned_295 : decode cL_returned 295 = .ok (.aload_n 0, 1) := by decide +kernel
theorem dL_returned_296 : decode cL_returned 296 = .ok (.aload_n 3, 1) := by decide +kernel
theorem dL_returned_297 : decode cL_returned 297 = .ok (.iconst 2, 1) := by decide +kernel
theorem dL_returned_298 : decode cL_returned 298 = .ok (.iconst 0, 1) := by decide +kernel
theorem dL_returned_299 : decode cL_returned 299 = .ok (.invokestatic 19, 3) := by decide +kernel
theorem dL_returned_302 : decode cL_returned 302 = .ok (.iload 12, 2) := by decide +kernel
theorem dL_returned_304 : decode cL_returned 304 = .ok (.ireturn, 1) := by decide +kernel
set_option maxRecDepth 20000 in
theorem ggL_acts_L_low : GoodIn wsL_acts wsL_low := goodIn_r _ [6, 7] (by decide +kernel) (by decide +kernel)
set_option maxRecDepth 20000 in
theorem gL_acts_L_low : GoodIn wsL_acts (va_wsS RL 28 yL_low wsL_low) := goodIn_app (goodIn_of _ (by decide +kernel)) ggL_acts_L_low
set_option maxRecDepth 20000 in
theorem ggL_acts_X2_call : GoodIn wsL_acts wsX2_call := goodIn_r _ [12, 13, 14, 15, 11, 16, 17, 18, 19, 20, 21, 22, 23, 24, 25, 26, 27, 28, 29, 30, 31, 32, 33, 34, 35, 36, 37, 38, 39, 40, 41, 42, 43, 44, 45, 46, 47, 48, 49, 50, 51, 52, 53, 54, 55, 56, 57, 58, 59, 60, 61, 62, 63, 64, 65, 66, 67, 68, 69, 70, 71, 72, 73, 74, 75, 76, 77, 78, 79, 80, 81, 82, 83, 84, 85, 86, 87, 88, 89, 90, 91, 92, 93, 94, 95, 96, 97, 98, 99, 100, 101, 102, 103, 104, 105, 106, 107, 108, 109, 110, 111, 112, 113, 114, 115, 167, 168, 169, 170, 171, 172, 173, 174, 175, 176, 177, 178, 179, 180, 181, 182, 183, 184, 185, 186] (by decide +kernel) (by decide +kernel)
set_option maxRecDepth 20000 in
theorem gL_acts_X2_call : GoodIn wsL_acts (wsV RL 32 RX2 yX2_call wsX2_call) := goodIn_app (goodIn_of _ (by decide +kernel)) ggL_acts_X2_call
set_option maxRecDepth 20000 in
theorem ggL_acts_L_called : GoodIn wsL_acts wsL_called := goodIn_r _ [118, 2, 119, 120, 121, 5, 122, 123, 124, 125] (by decide +kernel) (by decide +kernel)
set_option maxRecDepth 20000 in
theorem gL_acts_L_called : GoodIn wsL_acts (va_wsS RL 37 yL_called wsL_called) := goodIn_app (goodIn_of _ (by decide +kernel)) ggL_acts_L_called
set_option maxRecDepth 20000 in
theorem ggL_acts_X2_tail : GoodIn wsL_acts wsX2_tail := goodIn_r _ [129, 13, 14, 15, 11, 16, 17, 18, 19, 20, 21, 22, 23, 24, 25, 26, 27, 28, 29, 30, 31, 32, 33, 34, 35, 36, 37, 38, 39, 40, 41, 42, 43, 44, 45, 46, 47, 48, 49, 50, 51, 52, 53, 54, 55, 56, 57, 58, 59, 60, 61, 62, 63, 64, 65, 66, 67, 68, 69, 70, 71, 72, 73, 74, 75, 76, 77, 78, 79, 80, 81, 82, 83, 84, 85, 86, 87, 88, 89, 90, 91, 92, 93, 94, 95, 96, 97, 98, 99, 100, 101, 102, 103, 104, 105, 106, 107, 108, 109, 110, 111, 112, 113, 114, 115, 167, 168, 169, 170, 171, 172, 173, 174, 175, 176, 177, 178, 179, 180, 181, 182, 183, 184, 185, 186] (by decide +kernel) (by decide +kernel)
set_option maxRecDepth 20000 in
theorem gL_acts_X2_tail : GoodIn wsL_acts (wsV RL 41 RX2 yX2_tail wsX2_tail) := goodIn_app (goodIn_of _ (by decide +kernel)) ggL_acts_X2_tail
set_option maxRecDepth 20000 in
theorem ggL_acts_L_steps : GoodIn wsL_acts wsL_steps := goodIn_r _ [125] (by decide +kernel) (by decide +kernel)
set_option maxRecDepth 20000 in
theorem gL_acts_L_steps : GoodIn wsL_acts (va_wsS RL 19 yL_steps wsL_steps) := goodIn_app (goodIn_of _ (by decide +kernel)) ggL_acts_L_steps
set_option maxRecDepth 20000 in
theorem ggL_acts_X2_ret : GoodIn wsL_acts wsX2_ret := goodIn_r _ [133, 13, 14, 15, 11, 16, 17, 18, 19, 20, 21, 22, 23, 24, 25, 26, 27, 28, 29, 30, 31, 32, 33, 34, 35, 36, 37, 38, 39, 40, 41, 42, 43, 44, 45, 46, 47, 48, 49, 50, 51, 52, 53, 54, 55, 56, 57, 58, 59, 60, 61, 62, 63, 64, 65, 66, 67, 68, 69, 70, 71, 72, 73, 74, 75, 76, 77, 78, 79, 80, 81, 82, 83, 84, 85, 86, 87, 88, 89, 90, 91, 92, 93, 94, 95, 96, 97, 98, 99, 100, 101, 102, 103, 104, 105, 106, 107, 108, 109, 110, 111, 112, 113, 114, 115, 167, 168, 169, 170, 171, 172, 173, 174, 175, 176, 177, 178, 179, 180, 181, 182, 183, 184, 185, 186] (by decide +kernel) (by decide +kernel)
set_option maxRecDepth 20000 in
theorem gL_acts_X2_ret : GoodIn wsL_acts (wsV RL 45 RX2 yX2_ret wsX2_ret) := goodIn_app (goodIn_of _ (by decide +kernel)) ggL_acts_X2_ret
set_option maxRecDepth 20000 in
theorem ggL_acts_L_returned : GoodIn wsL_acts wsL_returned := goodIn_r _ [136, 137, 138, 119, 120, 121, 5, 122, 123, 124, 125] (by decide +kernel) (by decide +kernel)
set_option maxRecDepth 20000 in
theorem gL_acts_L_returned : GoodIn wsL_acts (va_wsS RL 49 yL_returned wsL_returned) := goodIn_app (goodIn_of _ (by decide +kernel)) ggL_acts_L_returned
set_option maxRecDepth 20000 in
theorem ggL_acts_X2_raise : GoodIn wsL_acts wsX2_raise := goodIn_r _ [142, 13, 14, 15, 11, 16, 17, 18, 19, 20, 21, 22, 23, 24, 25, 26, 27, 28, 29, 30, 31, 32, 33, 34, 35, 36, 37, 38, 39, 40, 41, 42, 43, 44, 45, 46, 47, 48, 49, 50, 51, 52, 53, 54, 55, 56, 57, 58, 59, 60, 61, 62, 63, 64, 65, 66, 67, 68, 69, 70, 71, 72, 73, 74, 75, 76, 77, 78, 79, 80, 81, 82, 83, 84, 85, 86, 87, 88, 89, 90, 91, 92, 93, 94, 95, 96, 97, 98, 99, 100, 101, 102, 103, 104, 105, 106, 107, 108, 109, 110, 111, 112, 113, 114, 115, 167, 168, 169, 170, 171, 172, 173, 174, 175, 176, 177, 178, 179, 180, 181, 182, 183, 184, 185, 186] (by decide +kernel) (by decide +kernel)
set_option maxRecDepth 20000 in
theorem gL_acts_X2_raise : GoodIn wsL_acts (wsV RL 53 RX2 yX2_raise wsX2_raise) := goodIn_app (goodIn_of _ (by decide +kernel)) ggL_acts_X2_raise
set_option maxRecDepth 20000 in
theorem ggL_acts_X2_setRepair : GoodIn wsL_acts wsX2_setRepair := goodIn_r _ [146, 18, 147, 106, 107, 108, 11, 109, 110, 111, 112, 113, 114, 115, 19, 20, 21, 22, 23, 24, 25, 26, 27, 28, 29, 30, 31, 32, 33, 34, 35, 36, 37, 38, 39, 40, 41, 42, 43, 44, 167, 168, 169, 170, 171, 172, 173, 174, 175, 176, 177, 178, 179, 180, 181, 182, 183, 184, 185, 186] (by decide +kernel) (by decide +kernel)
set_option maxRecDepth 20000 in
theorem gL_acts_X2_setRepair : GoodIn wsL_acts (wsV RL 56 RX2 yX2_setRepair wsX2_setRepair) := goodIn_app (goodIn_of _ (by decide +kernel)) ggL_acts_X2_setRepair
set_option maxRecDepth 20000 in
theorem ggL_acts_X2_begin : GoodIn wsL_acts wsX2_begin := goodIn_r _ [151, 18, 152, 153, 154, 11, 155, 106, 107, 108, 109, 110, 111, 112, 113, 114, 115, 19, 20, 21, 22, 23, 24, 25, 26, 27, 28, 29, 30, 31, 32, 33, 34, 35, 36, 37, 38, 39, 40, 41, 42, 43, 44, 156, 157, 158, 159, 160, 161, 162, 163, 167, 168, 169, 170, 171, 172, 173, 174, 175, 176, 177, 178, 179, 180, 181, 182, 183, 184, 185, 186] (by decide +kernel) (by decide +kernel)
set_option maxRecDepth 20000 in
theorem gL_acts_X2_begin : GoodIn wsL_acts (wsV RL 59 RX2 yX2_begin wsX2_begin) := goodIn_app (goodIn_of _ (by decide +kernel)) ggL_acts_X2_begin
set_option maxRecDepth 20000 in
theorem ggL_acts_L_fresh : GoodIn wsL_acts wsL_fresh := goodIn_r _ [166] (by decide +kernel) (by decide +kernel)
set_option maxRecDepth 20000 in
theorem gL_acts_L_fresh : GoodIn wsL_acts (va_wsS RL 62 yL_fresh wsL_fresh) := goodIn_app (goodIn_of _ (by decide +kernel)) ggL_acts_L_fresh
theorem dL_acts_0 : decode cL_acts 0 = .ok (.iload 7, 2) := by decide +kernel
theorem dL_acts_2 : decode cL_acts 2 = .ok (.iconst 5, 1) := by decide +kernel
theorem dL_acts_3 : decode cL_acts 3 = .ok (.ishr, 1) := by decide +kernel
theorem dL_acts_4 : decode cL_acts 4 = .ok (.ldc 27, 2) := by decide +kernel
theorem dL_acts_6 : decode cL_acts 6 = .ok (.invokestatic 28, 3) := by decide +kernel
theorem dL_acts_9 : decode cL_acts 9 = .ok (.istore 8, 2) := by decide +kernel
theorem dL_acts_11 : decode cL_acts 11 = .ok (.iload 7, 2) := by decide +kernel
theorem dL_acts_13 : decode cL_acts 13 = .ok (.bipush 26, 2) := by decide +kernel
theorem dL_acts_15 : decode cL_acts 15 = .ok (.invokestatic 28, 3) := by decide +kernel
theorem dL_acts_18 : decode cL_acts 18 = .ok (.istore 9, 2) := by decide +kernel
theorem dL_acts_20 : decode cL_acts 20 = .ok (.iload 9, 2) := by decide +kernel
theorem dL_acts_22 : decode cL_acts 22 = .ok (.bipush 11, 2) := by decide +kernel
theorem dL_acts_24 : decode cL_acts 24 = .ok (.if_icmp .lt 10, 3) := by decide +kernel
theorem dL_acts_27 : decode cL_acts 27 = .ok (.iload 9, 2) := by decide +kernel
theorem dL_acts_29 : decode cL_acts 29 = .ok (.bipush 22, 2) := by decide +kernel
theorem dL_acts_31 : decode cL_acts 31 = .ok (.if_icmp .le 96, 3) := by decide +kernel
theorem dL_acts_34 : decode cL_acts 34 = .ok (.iload 8, 2) := by decide +kernel
theorem dL_acts_36 : decode cL_acts 36 = .ok (.iconst 4, 1) := by decide +kernel
theorem dL_acts_37 : decode cL_acts 37 = .ok (.irem, 1) := by decide +kernel
theorem dL_acts_38 : decode cL_acts 38 = .ok (.ifCond .ne 14, 3) := by decide +kernel
theorem dL_acts_41 : decode cL_acts 41 = .ok (.iload 8, 2) := by decide +kernel
theorem dL_acts_43 : decode cL_acts 43 = .ok (.iconst 4, 1) := by decide +kernel
theorem dL_acts_44 : decode cL_acts 44 = .ok (.idiv, 1) := by decide +kernel
theorem dL_acts_45 : decode cL_acts 45 = .ok (.sipush 1000, 3) := by decide +kernel
theorem dL_acts_48 : decode cL_acts 48 = .ok (.irem, 1) := by decide +kernel
theorem dL_acts_49 : decode cL_acts 49 = .ok (.goto 9, 3) := by decide +kernel
theorem dL_acts_52 : decode cL_acts 52 = .ok (.iload 8, 2) := by decide +kernel
theorem dL_acts_54 : decode cL_acts 54 = .ok (.iconst 4, 1) := by decide +kernel
theorem dL_acts_55 : decode cL_acts 55 = .ok (.idiv, 1) := by decide +kernel
theorem dL_acts_56 : decode cL_acts 56 = .ok (.iconst 4, 1) := by decide +kernel
theorem dL_acts_57 : decode cL_acts 57 = .ok (.irem, 1) := by decide +kernel
theorem dL_acts_58 : decode cL_acts 58 = .ok (.istore 10, 2) := by decide +kernel
theorem dL_acts_60 : decode cL_acts 60 = .ok (.aload_n 1, 1) := by decide +kernel
theorem dL_acts_61 : decode cL_acts 61 = .ok (.iconst 0, 1) := by decide +kernel
theorem dL_acts_62 : decode cL_acts 62 = .ok (.iaload, 1) := by decide +kernel
theorem dL_acts_63 : decode cL_acts 63 = .ok (.bipush 40, 2) := by decide +kernel
theorem dL_acts_65 : decode cL_acts 65 = .ok (.if_icmp .ne 25, 3) := by decide +kernel
theorem dL_acts_68 : decode cL_acts 68 = .ok (.aload_n 0, 1) := by decide +kernel
theorem dL_acts_69 : decode cL_acts 69 = .ok (.iload 8, 2) := by decide +kernel
theorem dL_acts_71 : decode cL_acts 71 = .ok (.bipush 16, 2) := by decide +kernel
theorem dL_acts_73 : decode cL_acts 73 = .ok (.irem, 1) := by decide +kernel
theorem dL_acts_74 : decode cL_acts 74 = .ok (.iload 10, 2) := by decide +kernel
theorem dL_acts_76 : decode cL_acts 76 = .ok (.invokevirtual 32, 3) := by decide +kernel
theorem dL_acts_79 : decode cL_acts 79 = .ok (.bipush (-3), 2) := by decide +kernel
theorem dL_acts_81 : decode cL_acts 81 = .ok (.if_icmp .ne 7, 3) := by decide +kernel
theorem dL_acts_84 : decode cL_acts 84 = .ok (.iconst 1, 1) := by decide +kernel
theorem dL_acts_85 : decode cL_acts 85 = .ok (.goto 4, 3) := by decide +kernel
theorem dL_acts_88 : decode cL_acts 88 = .ok (.iconst 0, 1) := by decide +kernel
theorem dL_acts_89 : decode cL_acts 89 = .ok (.ireturn, 1) := by decide +kernel
theorem dL_acts_90 : decode cL_acts 90 = .ok (.aload_n 0, 1) := by decide +kernel
theorem dL_acts_91 : decode cL_acts 91 = .ok (.iload 8, 2) := by decide +kernel
theorem dL_acts_93 : decode cL_acts 93 = .ok (.bipush 16, 2) := by decide +kernel
theorem dL_acts_95 : decode cL_acts 95 = .ok (.irem, 1) := by decide +kernel
theorem dL_acts_96 : decode cL_acts 96 = .ok (.iload 10, 2) := by decide +kernel
theorem dL_acts_98 : decode cL_acts 98 = .ok (.invokevirtual 32, 3) := by decide +kernel
theorem dL_acts_101 : decode cL_acts 101 = .ok (.aload_n 1, 1) := by decide +kernel
theorem dL_acts_102 : decode cL_acts 102 = .ok (.aload_n 2, 1) := by decide +kernel
theorem dL_acts_103 : decode cL_acts 103 = .ok (.aload_n 3, 1) := by decide +kernel
theorem dL_acts_104 : decode cL_acts 104 = .ok (.aload 4, 2) := by decide +kernel
theorem dL_acts_106 : decode cL_acts 106 = .ok (.aload 6, 2) := by decide +kernel
theorem dL_acts_108 : decode cL_acts 108 = .ok (.iload 8, 2) := by decide +kernel
theorem dL_acts_110 : decode cL_acts 110 = .ok (.bipush 16, 2) := by decide +kernel
theorem dL_acts_112 : decode cL_acts 112 = .ok (.irem, 1) := by decide +kernel
theorem dL_acts_113 : decode cL_acts 113 = .ok (.iload 10, 2) := by decide +kernel
theorem dL_acts_115 : decode cL_acts 115 = .ok (.invokestatic 37, 3) := by decide +kernel
theorem dL_acts_118 : decode cL_acts 118 = .ok (.if_icmp .ne 7, 3) := by decide +kernel
theorem dL_acts_121 : decode cL_acts 121 = .ok (.iconst 1, 1) := by decide +kernel
theorem dL_acts_122 : decode cL_acts 122 = .ok (.goto 4, 3) := by decide +kernel
theorem dL_acts_125 : decode cL_acts 125 = .ok (.iconst 0, 1) := by decide +kernel
theorem dL_acts_126 : decode cL_acts 126 = .ok (.ireturn, 1) := by decide +kernel
theorem dL_acts_127 : decode cL_acts 127 = .ok (.iload 9, 2) := by decide +kernel
theorem dL_acts_129 : decode cL_acts 129 = .ok (.bipush 13, 2) := by decide +kernel
theorem dL_acts_131 : decode cL_acts 131 = .ok (.if_icmp .ge 101, 3) := by decide +kernel
theorem dL_acts_134 : decode cL_acts 134 = .ok (.aload_n 1, 1) := by decide +kernel
theorem dL_acts_135 : decode cL_acts 135 = .ok (.iconst 0, 1) := by decide +kernel
theorem dL_acts_136 : decode cL_acts 136 = .ok (.iaload, 1) := by decide +kernel
theorem dL_acts_137 : decode cL_acts 137 = .ok (.ifCond .ne 23, 3) := by decide +kernel
theorem dL_acts_140 : decode cL_acts 140 = .ok (.aload_n 0, 1) := by decide +kernel
theorem dL_acts_141 : decode cL_acts 141 = .ok (.iload 8, 2) := by decide +kernel
theorem dL_acts_143 : decode cL_acts 143 = .ok (.bipush 16, 2) := by decide +kernel
theorem dL_acts_145 : decode cL_acts 145 = .ok (.irem, 1) := by decide +kernel
theorem dL_acts_146 : decode cL_acts 146 = .ok (.invokevirtual 41, 3) := by decide +kernel
theorem dL_acts_149 : decode cL_acts 149 = .ok (.bipush (-2), 2) := by decide +kernel
theorem dL_acts_151 : decode cL_acts 151 = .ok (.if_icmp .ne 7, 3) := by decide +kernel
theorem dL_acts_154 : decode cL_acts 154 = .ok (.iconst 1, 1) := by decide +kernel
theorem dL_acts_155 : decode cL_acts 155 = .ok (.goto 4, 3) := by decide +kernel
theorem dL_acts_158 : decode cL_acts 158 = .ok (.iconst 0, 1) := by decide +kernel
theorem dL_acts_159 : decode cL_acts 159 = .ok (.ireturn, 1) := by decide +kernel
theorem dL_acts_160 : decode cL_acts 160 = .ok (.aload_n 1, 1) := by decide +kernel
theorem dL_acts_161 : decode cL_acts 161 = .ok (.iconst 0, 1) := by decide +kernel
theorem dL_acts_162 : decode cL_acts 162 = .ok (.iaload, 1) := by decide +kernel
theorem dL_acts_163 : decode cL_acts 163 = .ok (.iconst 1, 1) := by decide +kernel
theorem dL_acts_164 : decode cL_acts 164 = .ok (.isub, 1) := by decide +kernel
theorem dL_acts_165 : decode cL_acts 165 = .ok (.istore 10, 2) := by decide +kernel
theorem dL_acts_167 : decode cL_acts 167 = .ok (.aload_n 2, 1) := by decide +kernel
theorem dL_acts_168 : decode cL_acts 168 = .ok (.iload 10, 2) := by decide +kernel
theorem dL_acts_170 : decode cL_acts 170 = .ok (.laload, 1) := by decide +kernel
theorem dL_acts_171 : decode cL_acts 171 = .ok (.bipush 8, 2) := by decide +kernel
theorem dL_acts_173 : decode cL_acts 173 = .ok (.lshr, 1) := by decide +kernel
theorem dL_acts_174 : decode cL_acts 174 = .ok (.ldc2_w 9, 3) := by decide +kernel
theorem dL_acts_177 : decode cL_acts 177 = .ok (.land, 1) := by decide +kernel
theorem dL_acts_178 : decode cL_acts 178 = .ok (.l2i, 1) := by decide +kernel
theorem dL_acts_179 : decode cL_acts 179 = .ok (.istore 11, 2) := by decide +kernel
theorem dL_acts_181 : decode cL_acts 181 = .ok (.aload_n 2, 1) := by decide +kernel
theorem dL_acts_182 : decode cL_acts 182 = .ok (.iload 10, 2) := by decide +kernel
theorem dL_acts_184 : decode cL_acts 184 = .ok (.dup2, 1) := by decide +kernel
theorem dL_acts_185 : decode cL_acts 185 = .ok (.laload, 1) := by decide +kernel
theorem dL_acts_186 : decode cL_acts 186 = .ok (.iload 8, 2) := by decide +kernel
theorem dL_acts_188 : decode cL_acts 188 = .ok (.bipush 16, 2) := by decide +kernel
theorem dL_acts_190 : decode cL_acts 190 = .ok (.irem, 1) := by decide +kernel
theorem dL_acts_191 : decode cL_acts 191 = .ok (.iload 11, 2) := by decide +kernel
theorem dL_acts_193 : decode cL_acts 193 = .ok (.isub, 1) := by decide +kernel
theorem dL_acts_194 : decode cL_acts 194 = .ok (.bipush 8, 2) := by decide +kernel
theorem dL_acts_196 : decode cL_acts 196 = .ok (.ishl, 1) := by decide +kernel
theorem dL_acts_197 : decode cL_acts 197 = .ok (.i2l, 1) := by decide +kernel
theorem dL_acts_198 : decode cL_acts 198 = .ok (.ladd, 1) := by decide +kernel
theorem dL_acts_199 : decode cL_acts 199 = .ok (.lastore, 1) := by decide +kernel
theorem dL_acts_200 : decode cL_acts 200 = .ok (.aload_n 1, 1) := by decide +kernel
theorem dL_acts_201 : decode cL_acts 201 = .ok (.aload 4, 2) := by decide +kernel
theorem dL_acts_203 : decode cL_acts 203 = .ok (.iconst 1, 1) := by decide +kernel
theorem dL_acts_204 : decode cL_acts 204 = .ok (.iload 8, 2) := by decide +kernel
theorem dL_acts_206 : decode cL_acts 206 = .ok (.bipush 16, 2) := by decide +kernel
theorem dL_acts_208 : decode cL_acts 208 = .ok (.irem, 1) := by decide +kernel
theorem dL_acts_209 : decode cL_acts 209 = .ok (.invokestatic 19, 3) := by decide +kernel
theorem dL_acts_212 : decode cL_acts 212 = .ok (.aload_n 0, 1) := by decide +kernel
theorem dL_acts_213 : decode cL_acts 213 = .ok (.iload 8, 2) := by decide +kernel
theorem dL_acts_215 : decode cL_acts 215 = .ok (.bipush 16, 2) := by decide +kernel
theorem dL_acts_217 : decode cL_acts 217 = .ok (.irem, 1) := by decide +kernel
theorem dL_acts_218 : decode cL_acts 218 = .ok (.invokevirtual 41, 3) := by decide +kernel
theorem dL_acts_221 : decode cL_acts 221 = .ok (.iload 11, 2) := by decide +kernel
theorem dL_acts_223 : decode cL_acts 223 = .ok (.if_icmp .ne 7, 3) := by decide +kernel
theorem dL_acts_226 : decode cL_acts 226 = .ok (.iconst 1, 1) := by decide +kernel
theorem dL_acts_227 : decode cL_acts 227 = .ok (.goto 4, 3) := by decide +kernel
theorem dL_acts_230 : decode cL_acts 230 = .ok (.iconst 0, 1) := by decide +kernel
theorem dL_acts_231 : decode cL_acts 231 = .ok (.ireturn, 1) := by decide +kernel
theorem dL_acts_232 : decode cL_acts 232 = .ok (.iload 9, 2) := by decide +kernel
theorem dL_acts_234 : decode cL_acts 234 = .ok (.bipush 19, 2) := by decide +kernel
theorem dL_acts_236 : decode cL_acts 236 = .ok (.if_icmp .ge 49, 3) := by decide +kernel
theorem dL_acts_239 : decode cL_acts 239 = .ok (.aload_n 1, 1) := by decide +kernel
theorem dL_acts_240 : decode cL_acts 240 = .ok (.iconst 0, 1) := by decide +kernel
theorem dL_acts_241 : decode cL_acts 241 = .ok (.iaload, 1) := by decide +kernel
theorem dL_acts_242 : decode cL_acts 242 = .ok (.ifCond .ne 18, 3) := by decide +kernel
theorem dL_acts_245 : decode cL_acts 245 = .ok (.aload_n 0, 1) := by decide +kernel
theorem dL_acts_246 : decode cL_acts 246 = .ok (.invokevirtual 45, 3) := by decide +kernel
theorem dL_acts_249 : decode cL_acts 249 = .ok (.bipush (-2), 2) := by decide +kernel
theorem dL_acts_251 : decode cL_acts 251 = .ok (.if_icmp .ne 7, 3) := by decide +kernel
theorem dL_acts_254 : decode cL_acts 254 = .ok (.iconst 1, 1) := by decide +kernel
theorem dL_acts_255 : decode cL_acts 255 = .ok (.goto 4, 3) := by decide +kernel
theorem dL_acts_258 : decode cL_acts 258 = .ok (.iconst 0, 1) := by decide +kernel
theorem dL_acts_259 : decode cL_acts 259 = .ok (.ireturn, 1) := by decide +kernel
theorem dL_acts_260 : decode cL_acts 260 = .ok (.aload_n 0, 1) := by decide +kernel
theorem dL_acts_261 : decode cL_acts 261 = .ok (.invokevirtual 45, 3) := by decide +kernel
theorem dL_acts_264 : decode cL_acts 264 = .ok (.aload_n 1, 1) := by decide +kernel
theorem dL_acts_265 : decode cL_acts 265 = .ok (.aload_n 2, 1) := by decide +kernel
theorem dL_acts_266 : decode cL_acts 266 = .ok (.aload_n 3, 1) := by decide +kernel
theorem dL_acts_267 : decode cL_acts 267 = .ok (.aload 4, 2) := by decide +kernel
theorem dL_acts_269 : decode cL_acts 269 = .ok (.aload 5, 2) := by decide +kernel
theorem dL_acts_271 : decode cL_acts 271 = .ok (.aload 6, 2) := by decide +kernel
theorem dL_acts_273 : decode cL_acts 273 = .ok (.invokestatic 49, 3) := by decide +kernel
theorem dL_acts_276 : decode cL_acts 276 = .ok (.if_icmp .ne 7, 3) := by decide +kernel
theorem dL_acts_279 : decode cL_acts 279 = .ok (.iconst 1, 1) := by decide +kernel
theorem dL_acts_280 : decode cL_acts 280 = .ok (.goto 4, 3) := by decide +kernel
theorem dL_acts_283 : decode cL_acts 283 = .ok (.iconst 0, 1) := by decide +kernel
theorem dL_acts_284 : decode cL_acts 284 = .ok (.ireturn, 1) := by decide +kernel
theorem dL_acts_285 : decode cL_acts 285 = .ok (.iload 9, 2) := by decide +kernel
theorem dL_acts_287 : decode cL_acts 287 = .ok (.bipush 21, 2) := by decide +kernel
theorem dL_acts_289 : decode cL_acts 289 = .ok (.if_icmp .ge 140, 3) := by decide +kernel
theorem dL_acts_292 : decode cL_acts 292 = .ok (.iconst 1, 1) := by decide +kernel
theorem dL_acts_293 : decode cL_acts 293 = .ok (.iload 8, 2) := by decide +kernel
theorem dL_acts_295 : decode cL_acts 295 = .ok (.iconst 4, 1) := by decide +kernel
theorem dL_acts_296 : decode cL_acts 296 = .ok (.irem, 1) := by decide +kernel
theorem dL_acts_297 : decode cL_acts 297 = .ok (.iadd, 1) := by decide +kernel
theorem dL_acts_298 : decode cL_acts 298 = .ok (.istore 10, 2) := by decide +kernel
theorem dL_acts_300 : decode cL_acts 300 = .ok (.iload 10, 2) := by decide +kernel
theorem dL_acts_302 : decode cL_acts 302 = .ok (.aload_n 1, 1) := by decide +kernel
theorem dL_acts_303 : decode cL_acts 303 = .ok (.iconst 0, 1) := by decide +kernel
theorem dL_acts_304 : decode cL_acts 304 = .ok (.iaload, 1) := by decide +kernel
theorem dL_acts_305 : decode cL_acts 305 = .ok (.if_icmp .le 39, 3) := by decide +kernel
theorem dL_acts_308 : decode cL_acts 308 = .ok (.aload_n 0, 1) := by decide +kernel
theorem dL_acts_309 : decode cL_acts 309 = .ok (.iload 10, 2) := by decide +kernel
theorem dL_acts_311 : decode cL_acts 311 = .ok (.invokevirtual 53, 3) := by decide +kernel
theorem dL_acts_314 : decode cL_acts 314 = .ok (.bipush (-2), 2) := by decide +kernel
theorem dL_acts_316 : decode cL_acts 316 = .ok (.if_icmp .ne 26, 3) := by decide +kernel
theorem dL_acts_319 : decode cL_acts 319 = .ok (.aload_n 0, 1) := by decide +kernel
theorem dL_acts_320 : decode cL_acts 320 = .ok (.bipush 41, 2) := by decide +kernel
theorem dL_acts_322 : decode cL_acts 322 = .ok (.invokevirtual 53, 3) := by decide +kernel
theorem dL_acts_325 : decode cL_acts 325 = .ok (.iconst (-1), 1) := by decide +kernel
theorem dL_acts_326 : decode cL_acts 326 = .ok (.if_icmp .ne 16, 3) := by decide +kernel
theorem dL_acts_329 : decode cL_acts 329 = .ok (.aload_n 0, 1) := by decide +kernel
theorem dL_acts_330 : decode cL_acts 330 = .ok (.iconst 0, 1) := by decide +kernel
theorem dL_acts_331 : decode cL_acts 331 = .ok (.invokevirtual 53, 3) := by decide +kernel
theorem dL_acts_334 : decode cL_acts 334 = .ok (.iconst (-1), 1) := by decide +kernel
theorem dL_acts_335 : decode cL_acts 335 = .ok (.if_icmp .ne 7, 3) := by decide +kernel
theorem dL_acts_338 : decode cL_acts 338 = .ok (.iconst 1, 1) := by decide +kernel
theorem dL_acts_339 : decode cL_acts 339 = .ok (.goto 4, 3) := by decide +kernel
theorem dL_acts_342 : decode cL_acts 342 = .ok (.iconst 0, 1) := by decide +kernel
theorem dL_acts_343 : decode cL_acts 343 = .ok (.ireturn, 1) := by decide +kernel
theorem dL_acts_344 : decode cL_acts 344 = .ok (.aload_n 1, 1) := by decide +kernel
theorem dL_acts_345 : decode cL_acts 345 = .ok (.iconst 0, 1) := by decide +kernel
theorem dL_acts_346 : decode cL_acts 346 = .ok (.dup2, 1) := by decide +kernel
theorem dL_acts_347 : decode cL_acts 347 = .ok (.iaload, 1) := by decide +kernel
theorem dL_acts_348 : decode cL_acts 348 = .ok (.iload 10, 2) := by decide +kernel
theorem dL_acts_350 : decode cL_acts 350 = .ok (.isub, 1) := by decide +kernel
theorem dL_acts_351 : decode cL_acts 351 = .ok (.iastore, 1) := by decide +kernel
theorem dL_acts_352 : decode cL_acts 352 = .ok (.iconst 0, 1) := by decide +kernel
theorem dL_acts_353 : decode cL_acts 353 = .ok (.istore 11, 2) := by decide +kernel
theorem dL_acts_355 : decode cL_acts 355 = .ok (.iload 11, 2) := by decide +kernel
theorem dL_acts_357 : decode cL_acts 357 = .ok (.iload 10, 2) := by decide +kernel
theorem dL_acts_359 : decode cL_acts 359 = .ok (.if_icmp .ge 43, 3) := by decide +kernel
theorem dL_acts_362 : decode cL_acts 362 = .ok (.aload_n 1, 1) := by decide +kernel
theorem dL_acts_363 : decode cL_acts 363 = .ok (.bipush 14, 2) := by decide +kernel
theorem dL_acts_365 : decode cL_acts 365 = .ok (.iaload, 1) := by decide +kernel
theorem dL_acts_366 : decode cL_acts 366 = .ok (.iconst 1, 1) := by decide +kernel
theorem dL_acts_367 : decode cL_acts 367 = .ok (.if_icmp .ne 35, 3) := by decide +kernel
theorem dL_acts_370 : decode cL_acts 370 = .ok (.aload_n 1, 1) := by decide +kernel
theorem dL_acts_371 : decode cL_acts 371 = .ok (.bipush 12, 2) := by decide +kernel
theorem dL_acts_373 : decode cL_acts 373 = .ok (.aload_n 1, 1) := by decide +kernel
theorem dL_acts_374 : decode cL_acts 374 = .ok (.bipush 12, 2) := by decide +kernel
theorem dL_acts_376 : decode cL_acts 376 = .ok (.iaload, 1) := by decide +kernel
theorem dL_acts_377 : decode cL_acts 377 = .ok (.ifCond .ne 12, 3) := by decide +kernel
theorem dL_acts_380 : decode cL_acts 380 = .ok (.aload_n 1, 1) := by decide +kernel
theorem dL_acts_381 : decode cL_acts 381 = .ok (.bipush 11, 2) := by decide +kernel
theorem dL_acts_383 : decode cL_acts 383 = .ok (.iaload, 1) := by decide +kernel
theorem dL_acts_384 : decode cL_acts 384 = .ok (.iconst 1, 1) := by decide +kernel
theorem dL_acts_385 : decode cL_acts 385 = .ok (.isub, 1) := by decide +kernel
theorem dL_acts_386 : decode cL_acts 386 = .ok (.goto 9, 3) := by decide +kernel
theorem dL_acts_389 : decode cL_acts 389 = .ok (.aload_n 1, 1) := by decide +kernel
theorem dL_acts_390 : decode cL_acts 390 = .ok (.bipush 12, 2) := by decide +kernel
theorem dL_acts_392 : decode cL_acts 392 = .ok (.iaload, 1) := by decide +kernel
theorem dL_acts_393 : decode cL_acts 393 = .ok (.iconst 1, 1) := by decide +kernel
theorem dL_acts_394 : decode cL_acts 394 = .ok (.isub, 1) := by decide +kernel
theorem dL_acts_395 : decode cL_acts 395 = .ok (.iastore, 1) := by decide +kernel
theorem dL_acts_396 : decode cL_acts 396 = .ok (.iinc 11 1, 3) := by decide +kernel
theorem dL_acts_399 : decode cL_acts 399 = .ok (.goto (-44), 3) := by decide +kernel
theorem dL_acts_402 : decode cL_acts 402 = .ok (.aload_n 1, 1) := by decide +kernel
theorem dL_acts_403 : decode cL_acts 403 = .ok (.aload 4, 2) := by decide +kernel
theorem dL_acts_405 : decode cL_acts 405 = .ok (.iconst 3, 1) := by decide +kernel
theorem dL_acts_406 : decode cL_acts 406 = .ok (.iload 10, 2) := by decide +kernel
theorem dL_acts_408 : decode cL_acts 408 = .ok (.invokestatic 19, 3) := by decide +kernel
theorem dL_acts_411 : decode cL_acts 411 = .ok (.aload_n 0, 1) := by decide +kernel
theorem dL_acts_412 : decode cL_acts 412 = .ok (.iload 10, 2) := by decide +kernel
theorem dL_acts_414 : decode cL_acts 414 = .ok (.invokevirtual 53, 3) := by decide +kernel
theorem dL_acts_417 : decode cL_acts 417 = .ok (.aload_n 1, 1) := by decide +kernel
theorem dL_acts_418 : decode cL_acts 418 = .ok (.iconst 0, 1) := by decide +kernel
theorem dL_acts_419 : decode cL_acts 419 = .ok (.iaload, 1) := by decide +kernel
theorem dL_acts_420 : decode cL_acts 420 = .ok (.if_icmp .ne 7, 3) := by decide +kernel
theorem dL_acts_423 : decode cL_acts 423 = .ok (.iconst 1, 1) := by decide +kernel
theorem dL_acts_424 : decode cL_acts 424 = .ok (.goto 4, 3) := by decide +kernel
theorem dL_acts_427 : decode cL_acts 427 = .ok (.iconst 0, 1) := by decide +kernel
theorem dL_acts_428 : decode cL_acts 428 = .ok (.ireturn, 1) := by decide +kernel
theorem dL_acts_429 : decode cL_acts 429 = .ok (.iload 9, 2) := by decide +kernel
theorem dL_acts_431 : decode cL_acts 431 = .ok (.bipush 21, 2) := by decide +kernel
theorem dL_acts_433 : decode cL_acts 433 = .ok (.if_icmp .ne 36, 3) := by decide +kernel
theorem dL_acts_436 : decode cL_acts 436 = .ok (.aload_n 1, 1) := by decide +kernel
theorem dL_acts_437 : decode cL_acts 437 = .ok (.bipush 14, 2) := by decide +kernel
theorem dL_acts_439 : decode cL_acts 439 = .ok (.iaload, 1) := by decide +kernel
theorem dL_acts_440 : decode cL_acts 440 = .ok (.istore 10, 2) := by decide +kernel
theorem dL_acts_442 : decode cL_acts 442 = .ok (.aload_n 1, 1) := by decide +kernel
theorem dL_acts_443 : decode cL_acts 443 = .ok (.bipush 14, 2) := by decide +kernel
theorem dL_acts_445 : decode cL_acts 445 = .ok (.iload 8, 2) := by decide +kernel
theorem dL_acts_447 : decode cL_acts 447 = .ok (.iconst 2, 1) := by decide +kernel
theorem dL_acts_448 : decode cL_acts 448 = .ok (.irem, 1) := by decide +kernel
theorem dL_acts_449 : decode cL_acts 449 = .ok (.iastore, 1) := by decide +kernel
theorem dL_acts_450 : decode cL_acts 450 = .ok (.aload_n 0, 1) := by decide +kernel
theorem dL_acts_451 : decode cL_acts 451 = .ok (.iload 8, 2) := by decide +kernel
theorem dL_acts_453 : decode cL_acts 453 = .ok (.iconst 2, 1) := by decide +kernel
theorem dL_acts_454 : decode cL_acts 454 = .ok (.irem, 1) := by decide +kernel
theorem dL_acts_455 : decode cL_acts 455 = .ok (.invokevirtual 56, 3) := by decide +kernel
theorem dL_acts_458 : decode cL_acts 458 = .ok (.iload 10, 2) := by decide +kernel
theorem dL_acts_460 : decode cL_acts 460 = .ok (.if_icmp .ne 7, 3) := by decide +kernel
theorem dL_acts_463 : decode cL_acts 463 = .ok (.iconst 1, 1) := by decide +kernel
theorem dL_acts_464 : decode cL_acts 464 = .ok (.goto 4, 3) := by decide +kernel
theorem dL_acts_467 : decode cL_acts 467 = .ok (.iconst 0, 1) := by decide +kernel
theorem dL_acts_468 : decode cL_acts 468 = .ok (.ireturn, 1) := by decide +kernel
theorem dL_acts_469 : decode cL_acts 469 = .ok (.iload 8, 2) := by decide +kernel
theorem dL_acts_471 : decode cL_acts 471 = .ok (.bipush 6, 2) := by decide +kernel
theorem dL_acts_473 : decode cL_acts 473 = .ok (.irem, 1) := by decide +kernel
theorem dL_acts_474 : decode cL_acts 474 = .ok (.ifCond .le 69, 3) := by decide +kernel
theorem dL_acts_477 : decode cL_acts 477 = .ok (.aload_n 0, 1) := by decide +kernel
theorem dL_acts_478 : decode cL_acts 478 = .ok (.iconst 1, 1) := by decide +kernel
theorem dL_acts_479 : decode cL_acts 479 = .ok (.invokevirtual 59, 3) := by decide +kernel
theorem dL_acts_482 : decode cL_acts 482 = .ok (.iconst (-1), 1) := by decide +kernel
theorem dL_acts_483 : decode cL_acts 483 = .ok (.if_icmp .ne 58, 3) := by decide +kernel
theorem dL_acts_486 : decode cL_acts 486 = .ok (.aload_n 0, 1) := by decide +kernel
theorem dL_acts_487 : decode cL_acts 487 = .ok (.bipush 17, 2) := by decide +kernel
theorem dL_acts_489 : decode cL_acts 489 = .ok (.invokevirtual 59, 3) := by decide +kernel
theorem dL_acts_492 : decode cL_acts 492 = .ok (.iconst (-1), 1) := by decide +kernel
theorem dL_acts_493 : decode cL_acts 493 = .ok (.if_icmp .ne 48, 3) := by decide +kernel
theorem dL_acts_496 : decode cL_acts 496 = .ok (.aload_n 0, 1) := by decide +kernel
theorem dL_acts_497 : decode cL_acts 497 = .ok (.iconst 2, 1) := by decide +kernel
theorem dL_acts_498 : decode cL_acts 498 = .ok (.invokevirtual 56, 3) := by decide +kernel
theorem dL_acts_501 : decode cL_acts 501 = .ok (.iconst (-1), 1) := by decide +kernel
theorem dL_acts_502 : decode cL_acts 502 = .ok (.if_icmp .ne 39, 3) := by decide +kernel
theorem dL_acts_505 : decode cL_acts 505 = .ok (.aload_n 0, 1) := by decide +kernel
theorem dL_acts_506 : decode cL_acts 506 = .ok (.bipush 16, 2) := by decide +kernel
theorem dL_acts_508 : decode cL_acts 508 = .ok (.iconst 0, 1) := by decide +kernel
theorem dL_acts_509 : decode cL_acts 509 = .ok (.invokevirtual 32, 3) := by decide +kernel
theorem dL_acts_512 : decode cL_acts 512 = .ok (.iconst (-1), 1) := by decide +kernel
theorem dL_acts_513 : decode cL_acts 513 = .ok (.if_icmp .ne 28, 3) := by decide +kernel
theorem dL_acts_516 : decode cL_acts 516 = .ok (.aload_n 0, 1) := by decide +kernel
theorem dL_acts_517 : decode cL_acts 517 = .ok (.iconst 0, 1) := by decide +kernel
theorem dL_acts_518 : decode cL_acts 518 = .ok (.sipush 1000, 3) := by decide +kernel
theorem dL_acts_521 : decode cL_acts 521 = .ok (.invokevirtual 32, 3) := by decide +kernel
theorem dL_acts_524 : decode cL_acts 524 = .ok (.iconst (-1), 1) := by decide +kernel
theorem dL_acts_525 : decode cL_acts 525 = .ok (.if_icmp .ne 16, 3) := by decide +kernel
theorem dL_acts_528 : decode cL_acts 528 = .ok (.aload_n 0, 1) := by decide +kernel
theorem dL_acts_529 : decode cL_acts 529 = .ok (.iconst (-1), 1) := by decide +kernel
theorem dL_acts_530 : decode cL_acts 530 = .ok (.invokevirtual 41, 3) := by decide +kernel
theorem dL_acts_533 : decode cL_acts 533 = .ok (.iconst (-1), 1) := by decide +kernel
theorem dL_acts_534 : decode cL_acts 534 = .ok (.if_icmp .ne 7, 3) := by decide +kernel
theorem dL_acts_537 : decode cL_acts 537 = .ok (.iconst 1, 1) := by decide +kernel
theorem dL_acts_538 : decode cL_acts 538 = .ok (.goto 4, 3) := by decide +kernel
theorem dL_acts_541 : decode cL_acts 541 = .ok (.iconst 0, 1) := by decide +kernel
theorem dL_acts_542 : decode cL_acts 542 = .ok (.ireturn, 1) := by decide +kernel
theorem dL_acts_543 : decode cL_acts 543 = .ok (.aload_n 1, 1) := by decide +kernel
theorem dL_acts_544 : decode cL_acts 544 = .ok (.bipush 11, 2) := by decide +kernel
theorem dL_acts_546 : decode cL_acts 546 = .ok (.iaload, 1) := by decide +kernel
theorem dL_acts_547 : decode cL_acts 547 = .ok (.istore 10, 2) := by decide +kernel
theorem dL_acts_549 : decode cL_acts 549 = .ok (.aload_n 1, 1) := by decide +kernel
theorem dL_acts_550 : decode cL_acts 550 = .ok (.aload_n 3, 1) := by decide +kernel
theorem dL_acts_551 : decode cL_acts 551 = .ok (.iconst 2, 1) := by decide +kernel
theorem dL_acts_552 : decode cL_acts 552 = .ok (.iload 8, 2) := by decide +kernel
theorem dL_acts_554 : decode cL_acts 554 = .ok (.bipush 6, 2) := by decide +kernel
theorem dL_acts_556 : decode cL_acts 556 = .ok (.idiv, 1) := by decide +kernel
theorem dL_acts_557 : decode cL_acts 557 = .ok (.bipush 15, 2) := by decide +kernel
theorem dL_acts_559 : decode cL_acts 559 = .ok (.irem, 1) := by decide +kernel
theorem dL_acts_560 : decode cL_acts 560 = .ok (.iadd, 1) := by decide +kernel
theorem dL_acts_561 : decode cL_acts 561 = .ok (.invokestatic 62, 3) := by decide +kernel
theorem dL_acts_564 : decode cL_acts 564 = .ok (.aload_n 0, 1) := by decide +kernel
theorem dL_acts_565 : decode cL_acts 565 = .ok (.aload_n 1, 1) := by decide +kernel
theorem dL_acts_566 : decode cL_acts 566 = .ok (.bipush 11, 2) := by decide +kernel
theorem dL_acts_568 : decode cL_acts 568 = .ok (.iaload, 1) := by decide +kernel
theorem dL_acts_569 : decode cL_acts 569 = .ok (.invokevirtual 59, 3) := by decide +kernel
theorem dL_acts_572 : decode cL_acts 572 = .ok (.iload 10, 2) := by decide +kernel
theorem dL_acts_574 : decode cL_acts 574 = .ok (.if_icmp .ne 7, 3) := by decide +kernel
theorem dL_acts_577 : decode cL_acts 577 = .ok (.iconst 1, 1) := by decide +kernel
theorem dL_acts_578 : decode cL_acts 578 = .ok (.goto 4, 3) := by decide +kernel
theorem dL_acts_581 : decode cL_acts 581 = .ok (.iconst 0, 1) := by decide +kernel
theorem dL_acts_582 : decode cL_acts 582 = .ok (.ireturn, 1) := by decide +kernel
set_option maxRecDepth 20000 in
theorem ggL_isSo_L_by : GoodIn wsL_isSo wsL_by := goodIn_r _ [9] (by decide +kernel) (by decide +kernel)
set_option maxRecDepth 20000 in
theorem gL_isSo_L_by : GoodIn wsL_isSo (va_wsS RL 11 yL_by wsL_by) := goodIn_app (goodIn_of _ (by decide +kernel)) ggL_isSo_L_by
set_option maxRecDepth 20000 in
theorem ggL_isSo_X2_frame : GoodIn wsL_isSo wsX2_frame := goodIn_r _ [14, 15, 16, 17, 63, 64, 65, 66, 67, 68, 69, 70, 71, 72, 73, 74, 75, 76, 77, 78, 79, 80, 81, 82] (by decide +kernel) (by decide +kernel)
set_option maxRecDepth 20000 in
theorem gL_isSo_X2_frame : GoodIn wsL_isSo (wsV RL 66 RX2 yX2_frame wsX2_frame) := goodIn_app (goodIn_of _ (by decide +kernel)) ggL_isSo_X2_frame
set_option maxRecDepth 20000 in
theorem ggL_isSo_X2_slot : GoodIn wsL_isSo wsX2_slot := goodIn_r _ [21, 15, 22, 23, 63, 64, 65, 66, 67, 68, 69, 70, 71, 72, 73, 74, 75, 76, 77, 78, 79, 80, 81, 82] (by decide +kernel) (by decide +kernel)
set_option maxRecDepth 20000 in
theorem gL_isSo_X2_slot : GoodIn wsL_isSo (wsV RL 69 RX2 yX2_slot wsX2_slot) := goodIn_app (goodIn_of _ (by decide +kernel)) ggL_isSo_X2_slot
set_option maxRecDepth 20000 in
theorem ggL_isSo_X2_confession : GoodIn wsL_isSo wsX2_confession := goodIn_r _ [27, 15, 28, 29, 63, 64, 65, 66, 67, 68, 69, 70, 71, 72, 73, 74, 75, 76, 77, 78, 79, 80, 81, 82] (by decide +kernel) (by decide +kernel)
set_option maxRecDepth 20000 in
theorem gL_isSo_X2_confession : GoodIn wsL_isSo (wsV RL 72 RX2 yX2_confession wsX2_confession) := goodIn_app (goodIn_of _ (by decide +kernel)) ggL_isSo_X2_confession
set_option maxRecDepth 20000 in
theorem ggL_isSo_X2_named : GoodIn wsL_isSo wsX2_named := goodIn_r _ [33, 15, 34, 35, 63, 64, 65, 66, 67, 68, 69, 70, 71, 72, 73, 74, 75, 76, 77, 78, 79, 80, 81, 82] (by decide +kernel) (by decide +kernel)
set_option maxRecDepth 20000 in
theorem gL_isSo_X2_named : GoodIn wsL_isSo (wsV RL 77 RX2 yX2_named wsX2_named) := goodIn_app (goodIn_of _ (by decide +kernel)) ggL_isSo_X2_named
set_option maxRecDepth 20000 in
theorem ggL_isSo_X2_count : GoodIn wsL_isSo wsX2_count := goodIn_r _ [39, 15, 16, 40, 34, 41, 28, 22, 42, 43, 44, 45, 46, 47, 48, 49, 50, 51, 52, 53, 54, 55, 56, 57, 58, 63, 64, 65, 66, 67, 68, 69, 70, 71, 72, 73, 74, 75, 76, 77, 78, 79, 80, 81, 82, 83, 84, 85] (by decide +kernel) (by decide +kernel)
set_option maxRecDepth 20000 in
theorem gL_isSo_X2_count : GoodIn wsL_isSo (wsV RL 80 RX2 yX2_count wsX2_count) := goodIn_app (goodIn_of _ (by decide +kernel)) ggL_isSo_X2_count
set_option maxRecDepth 20000 in
theorem ggL_isSo_X2_worst : GoodIn wsL_isSo wsX2_worst := goodIn_r _ [62, 15, 34, 35, 63, 64, 65, 66, 67, 68, 69, 70, 71, 72, 73, 74, 75, 76, 77, 78, 79, 80, 81, 82] (by decide +kernel) (by decide +kernel)
set_option maxRecDepth 20000 in
theorem gL_isSo_X2_worst : GoodIn wsL_isSo (wsV RL 83 RX2 yX2_worst wsX2_worst) := goodIn_app (goodIn_of _ (by decide +kernel)) ggL_isSo_X2_worst
theorem dL_isSo_0 : decode cL_isSo 0 = .ok (.iconst 0, 1) := by decide +kernel
theorem dL_isSo_1 : decode cL_isSo 1 = .ok (.istore 6, 2) := by decide +kernel
theorem dL_isSo_3 : decode cL_isSo 3 = .ok (.iconst 0, 1) := by decide +kernel
theorem dL_isSo_4 : decode cL_isSo 4 = .ok (.istore 7, 2) := by decide +kernel
theorem dL_isSo_6 : decode cL_isSo 6 = .ok (.bipush (-9), 2) := by decide +kernel
theorem dL_isSo_8 : decode cL_isSo 8 = .ok (.istore 8, 2) := by decide +kernel
theorem dL_isSo_10 : decode cL_isSo 10 = .ok (.iconst 0, 1) := by decide +kernel
theorem dL_isSo_11 : decode cL_isSo 11 = .ok (.istore 9, 2) := by decide +kernel
theorem dL_isSo_13 : decode cL_isSo 13 = .ok (.iconst 1, 1) := by decide +kernel
theorem dL_isSo_14 : decode cL_isSo 14 = .ok (.istore 10, 2) := by decide +kernel
theorem dL_isSo_16 : decode cL_isSo 16 = .ok (.iconst 0, 1) := by decide +kernel
theorem dL_isSo_17 : decode cL_isSo 17 = .ok (.istore 11, 2) := by decide +kernel
theorem dL_isSo_19 : decode cL_isSo 19 = .ok (.iload 11, 2) := by decide +kernel
