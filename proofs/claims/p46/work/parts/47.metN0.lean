theorem dL_makes_0 : decode cL_makes 0 = .ok (.iconst 1, 1) := by decide +kernel
theorem dL_makes_1 : decode cL_makes 1 = .ok (.istore 7, 2) := by decide +kernel
theorem dL_makes_3 : decode cL_makes 3 = .ok (.iconst 0, 1) := by decide +kernel
theorem dL_makes_4 : decode cL_makes 4 = .ok (.istore 8, 2) := by decide +kernel
theorem dL_makes_6 : decode cL_makes 6 = .ok (.iload 8, 2) := by decide +kernel
theorem dL_makes_8 : decode cL_makes 8 = .ok (.iload_n 3, 1) := by decide +kernel
theorem dL_makes_9 : decode cL_makes 9 = .ok (.if_icmp .ge 118, 3) := by decide +kernel
theorem dL_makes_127 : decode cL_makes 127 = .ok (.iconst 0, 1) := by decide +kernel
theorem dL_makes_128 : decode cL_makes 128 = .ok (.istore 8, 2) := by decide +kernel
theorem dL_makes_130 : decode cL_makes 130 = .ok (.iload 8, 2) := by decide +kernel
theorem dL_makes_132 : decode cL_makes 132 = .ok (.iload 5, 2) := by decide +kernel
theorem dL_makes_134 : decode cL_makes 134 = .ok (.if_icmp .ge 249, 3) := by decide +kernel
theorem dL_makes_383 : decode cL_makes 383 = .ok (.iload 7, 2) := by decide +kernel
theorem dL_makes_385 : decode cL_makes 385 = .ok (.ireturn, 1) := by decide +kernel
theorem dL_makes_137 : decode cL_makes 137 = .ok (.aload 4, 2) := by decide +kernel
theorem dL_makes_139 : decode cL_makes 139 = .ok (.iconst 4, 1) := by decide +kernel
theorem dL_makes_140 : decode cL_makes 140 = .ok (.iload 8, 2) := by decide +kernel
theorem dL_makes_142 : decode cL_makes 142 = .ok (.imul, 1) := by decide +kernel
theorem dL_makes_143 : decode cL_makes 143 = .ok (.iconst 1, 1) := by decide +kernel
theorem dL_makes_144 : decode cL_makes 144 = .ok (.aload_n 1, 1) := by decide +kernel
theorem dL_makes_145 : decode cL_makes 145 = .ok (.bipush 50, 2) := by decide +kernel
theorem dL_makes_147 : decode cL_makes 147 = .ok (.iload 8, 2) := by decide +kernel
theorem dL_makes_149 : decode cL_makes 149 = .ok (.iadd, 1) := by decide +kernel
theorem dL_makes_150 : decode cL_makes 150 = .ok (.iconst 3, 1) := by decide +kernel
theorem dL_makes_151 : decode cL_makes 151 = .ok (.invokestatic 106, 3) := by decide +kernel
set_option maxRecDepth 20000 in
theorem ggL_makes_L_in : GoodIn wsL_makes wsL_in := goodIn_ca (goodIn_r _ [5, 6, 7, 8, 4, 9, 10, 11] (by decide +kernel) (by decide +kernel)) (goodIn_sub (fun _ h => List.mem_cons_of_mem _ (List.mem_append_left _ (List.mem_append_left _ (List.mem_append_left _ (List.mem_append_left _ (List.mem_append_right _ h)))))) (by decide +kernel))
set_option maxRecDepth 20000 in
theorem gL_makes_L_in : GoodIn wsL_makes (va_wsS RL 106 yL_in wsL_in) := goodIn_app (goodIn_of _ (by decide +kernel)) ggL_makes_L_in
theorem dL_makes_154 : decode cL_makes 154 = .ok (.iadd, 1) := by decide +kernel
theorem dL_makes_155 : decode cL_makes 155 = .ok (.iastore, 1) := by decide +kernel
theorem dL_makes_156 : decode cL_makes 156 = .ok (.aload 4, 2) := by decide +kernel
theorem dL_makes_158 : decode cL_makes 158 = .ok (.iconst 4, 1) := by decide +kernel
theorem dL_makes_159 : decode cL_makes 159 = .ok (.iload 8, 2) := by decide +kernel
theorem dL_makes_161 : decode cL_makes 161 = .ok (.imul, 1) := by decide +kernel
theorem dL_makes_162 : decode cL_makes 162 = .ok (.iconst 1, 1) := by decide +kernel
theorem dL_makes_163 : decode cL_makes 163 = .ok (.iadd, 1) := by decide +kernel
theorem dL_makes_164 : decode cL_makes 164 = .ok (.aload_n 1, 1) := by decide +kernel
theorem dL_makes_165 : decode cL_makes 165 = .ok (.bipush 60, 2) := by decide +kernel
theorem dL_makes_167 : decode cL_makes 167 = .ok (.iload 8, 2) := by decide +kernel
theorem dL_makes_169 : decode cL_makes 169 = .ok (.iadd, 1) := by decide +kernel
theorem dL_makes_170 : decode cL_makes 170 = .ok (.bipush 10, 2) := by decide +kernel
theorem dL_makes_172 : decode cL_makes 172 = .ok (.invokestatic 106, 3) := by decide +kernel
theorem dL_makes_175 : decode cL_makes 175 = .ok (.iastore, 1) := by decide +kernel
theorem dL_makes_176 : decode cL_makes 176 = .ok (.iload 7, 2) := by decide +kernel
theorem dL_makes_178 : decode cL_makes 178 = .ok (.aload_n 0, 1) := by decide +kernel
theorem dL_makes_179 : decode cL_makes 179 = .ok (.aload 4, 2) := by decide +kernel
theorem dL_makes_181 : decode cL_makes 181 = .ok (.iconst 4, 1) := by decide +kernel
theorem dL_makes_182 : decode cL_makes 182 = .ok (.iload 8, 2) := by decide +kernel
theorem dL_makes_184 : decode cL_makes 184 = .ok (.imul, 1) := by decide +kernel
theorem dL_makes_185 : decode cL_makes 185 = .ok (.iaload, 1) := by decide +kernel
theorem dL_makes_186 : decode cL_makes 186 = .ok (.aload 4, 2) := by decide +kernel
theorem dL_makes_188 : decode cL_makes 188 = .ok (.iconst 4, 1) := by decide +kernel
theorem dL_makes_189 : decode cL_makes 189 = .ok (.iload 8, 2) := by decide +kernel
theorem dL_makes_191 : decode cL_makes 191 = .ok (.imul, 1) := by decide +kernel
theorem dL_makes_192 : decode cL_makes 192 = .ok (.iconst 1, 1) := by decide +kernel
theorem dL_makes_193 : decode cL_makes 193 = .ok (.iadd, 1) := by decide +kernel
theorem dL_makes_194 : decode cL_makes 194 = .ok (.iaload, 1) := by decide +kernel
theorem dL_makes_195 : decode cL_makes 195 = .ok (.invokestatic 120, 3) := by decide +kernel
set_option maxRecDepth 20000 in
theorem ggL_makes_L_addPlayer : GoodIn wsL_makes wsL_addPlayer := goodIn_ca (goodIn_ca (goodIn_r _ [108, 56, 57, 58, 59, 109, 110, 111, 63, 112, 65, 113, 114, 115, 116, 72, 73, 74, 75, 70, 71, 117, 118, 119, 120, 80, 81, 121, 122, 123, 124, 86, 125, 126, 127, 128, 129, 207, 208, 209, 210, 211, 212, 213, 214, 215, 216, 217, 225, 226, 227, 228, 229, 230] (by decide +kernel) (by decide +kernel)) (goodIn_sub (fun _ h => List.mem_cons_of_mem _ (List.mem_append_left _ (List.mem_append_left _ (List.mem_append_left _ (List.mem_append_right _ h))))) (by decide +kernel))) (goodIn_sub (fun _ h => List.mem_cons_of_mem _ (List.mem_append_left _ (List.mem_append_left _ (List.mem_append_right _ h)))) (by decide +kernel))
set_option maxRecDepth 20000 in
theorem gL_makes_L_addPlayer : GoodIn wsL_makes (va_wsS RL 120 yL_addPlayer wsL_addPlayer) := goodIn_app (goodIn_of _ (by decide +kernel)) ggL_makes_L_addPlayer
theorem dL_makes_198 : decode cL_makes 198 = .ok (.iload 8, 2) := by decide +kernel
theorem dL_makes_200 : decode cL_makes 200 = .ok (.if_icmp .ne 26, 3) := by decide +kernel
theorem dL_makes_203 : decode cL_makes 203 = .ok (.aload_n 0, 1) := by decide +kernel
theorem dL_makes_204 : decode cL_makes 204 = .ok (.iload 8, 2) := by decide +kernel
theorem dL_makes_206 : decode cL_makes 206 = .ok (.invokestatic 123, 3) := by decide +kernel
set_option maxRecDepth 20000 in
theorem ggL_makes_L_getChosen : GoodIn wsL_makes wsL_getChosen := goodIn_ca (goodIn_ca (goodIn_r _ [132, 133, 58, 134, 135, 136, 63, 137, 138, 139, 140, 141, 142, 143, 144, 145, 65, 121, 207, 208, 209, 210, 211, 212, 213, 231, 232, 233, 214, 215, 216, 217] (by decide +kernel) (by decide +kernel)) (goodIn_sub (fun _ h => List.mem_cons_of_mem _ (List.mem_append_left _ (List.mem_append_left _ (List.mem_append_left _ (List.mem_append_left _ (List.mem_append_right _ h)))))) (by decide +kernel))) (goodIn_sub (fun _ h => List.mem_cons_of_mem _ (List.mem_append_left _ (List.mem_append_right _ h))) (by decide +kernel))
set_option maxRecDepth 20000 in
theorem gL_makes_L_getChosen : GoodIn wsL_makes (va_wsS RL 123 yL_getChosen wsL_getChosen) := goodIn_app (goodIn_of _ (by decide +kernel)) ggL_makes_L_getChosen
theorem dL_makes_209 : decode cL_makes 209 = .ok (.iconst (-1), 1) := by decide +kernel
theorem dL_makes_210 : decode cL_makes 210 = .ok (.if_icmp .ne 16, 3) := by decide +kernel
theorem dL_makes_213 : decode cL_makes 213 = .ok (.aload_n 0, 1) := by decide +kernel
theorem dL_makes_214 : decode cL_makes 214 = .ok (.iload 8, 2) := by decide +kernel
theorem dL_makes_216 : decode cL_makes 216 = .ok (.invokestatic 126, 3) := by decide +kernel
set_option maxRecDepth 20000 in
theorem ggL_makes_L_getCost : GoodIn wsL_makes wsL_getCost := goodIn_ca (goodIn_ca (goodIn_r _ [148, 133, 58, 149, 150, 151, 63, 152, 65, 138, 140, 141, 142, 143, 144, 145, 121, 153, 154, 155, 86, 156, 157, 158, 159, 160, 161, 127, 88, 162, 128, 89, 163, 129, 164, 165, 166, 167, 168, 169, 170, 171, 172, 173, 174, 175, 96, 176, 98, 207, 208, 209, 210, 211, 212, 213, 214, 215, 216, 217, 231, 232, 233, 225, 226, 227, 228, 229, 230, 218, 219, 220, 221, 222, 223, 224] (by decide +kernel) (by decide +kernel)) (goodIn_sub (fun _ h => List.mem_cons_of_mem _ (List.mem_append_left _ (List.mem_append_right _ h))) (by decide +kernel))) (goodIn_sub (fun _ h => List.mem_cons_of_mem _ (List.mem_append_left _ (List.mem_append_left _ (List.mem_append_left _ (List.mem_append_left _ (List.mem_append_right _ h)))))) (by decide +kernel))
set_option maxRecDepth 20000 in
theorem gL_makes_L_getCost : GoodIn wsL_makes (va_wsS RL 126 yL_getCost wsL_getCost) := goodIn_app (goodIn_of _ (by decide +kernel)) ggL_makes_L_getCost
theorem dL_makes_219 : decode cL_makes 219 = .ok (.ifCond .ne 7, 3) := by decide +kernel
theorem dL_makes_222 : decode cL_makes 222 = .ok (.iconst 1, 1) := by decide +kernel
theorem dL_makes_223 : decode cL_makes 223 = .ok (.goto 4, 3) := by decide +kernel
theorem dL_makes_227 : decode cL_makes 227 = .ok (.iand, 1) := by decide +kernel
theorem dL_makes_228 : decode cL_makes 228 = .ok (.istore 7, 2) := by decide +kernel
theorem dL_makes_230 : decode cL_makes 230 = .ok (.iconst 1, 1) := by decide +kernel
theorem dL_makes_231 : decode cL_makes 231 = .ok (.iload_n 3, 1) := by decide +kernel
theorem dL_makes_232 : decode cL_makes 232 = .ok (.ishl, 1) := by decide +kernel
theorem dL_makes_233 : decode cL_makes 233 = .ok (.iconst 1, 1) := by decide +kernel
theorem dL_makes_234 : decode cL_makes 234 = .ok (.isub, 1) := by decide +kernel
theorem dL_makes_235 : decode cL_makes 235 = .ok (.istore 9, 2) := by decide +kernel
theorem dL_makes_237 : decode cL_makes 237 = .ok (.iconst 1, 1) := by decide +kernel
theorem dL_makes_238 : decode cL_makes 238 = .ok (.aload_n 1, 1) := by decide +kernel
theorem dL_makes_239 : decode cL_makes 239 = .ok (.bipush 70, 2) := by decide +kernel
theorem dL_makes_241 : decode cL_makes 241 = .ok (.iload 8, 2) := by decide +kernel
theorem dL_makes_243 : decode cL_makes 243 = .ok (.iadd, 1) := by decide +kernel
theorem dL_makes_244 : decode cL_makes 244 = .ok (.iload 9, 2) := by decide +kernel
theorem dL_makes_246 : decode cL_makes 246 = .ok (.invokestatic 106, 3) := by decide +kernel
theorem dL_makes_249 : decode cL_makes 249 = .ok (.iadd, 1) := by decide +kernel
theorem dL_makes_250 : decode cL_makes 250 = .ok (.istore 10, 2) := by decide +kernel
theorem dL_makes_252 : decode cL_makes 252 = .ok (.iconst 0, 1) := by decide +kernel
theorem dL_makes_253 : decode cL_makes 253 = .ok (.istore 11, 2) := by decide +kernel
theorem dL_makes_255 : decode cL_makes 255 = .ok (.iload 11, 2) := by decide +kernel
theorem dL_makes_257 : decode cL_makes 257 = .ok (.iconst 3, 1) := by decide +kernel
theorem dL_makes_258 : decode cL_makes 258 = .ok (.if_icmp .ge 93, 3) := by decide +kernel
theorem dL_makes_351 : decode cL_makes 351 = .ok (.aload 4, 2) := by decide +kernel
theorem dL_makes_353 : decode cL_makes 353 = .ok (.iconst 4, 1) := by decide +kernel
theorem dL_makes_354 : decode cL_makes 354 = .ok (.iload 8, 2) := by decide +kernel
theorem dL_makes_356 : decode cL_makes 356 = .ok (.imul, 1) := by decide +kernel
theorem dL_makes_357 : decode cL_makes 357 = .ok (.iconst 2, 1) := by decide +kernel
theorem dL_makes_358 : decode cL_makes 358 = .ok (.iadd, 1) := by decide +kernel
theorem dL_makes_359 : decode cL_makes 359 = .ok (.aload 6, 2) := by decide +kernel
theorem dL_makes_361 : decode cL_makes 361 = .ok (.iconst 3, 1) := by decide +kernel
theorem dL_makes_362 : decode cL_makes 362 = .ok (.iload 8, 2) := by decide +kernel
theorem dL_makes_364 : decode cL_makes 364 = .ok (.imul, 1) := by decide +kernel
theorem dL_makes_365 : decode cL_makes 365 = .ok (.iaload, 1) := by decide +kernel
theorem dL_makes_366 : decode cL_makes 366 = .ok (.iastore, 1) := by decide +kernel
theorem dL_makes_367 : decode cL_makes 367 = .ok (.aload 4, 2) := by decide +kernel
theorem dL_makes_369 : decode cL_makes 369 = .ok (.iconst 4, 1) := by decide +kernel
theorem dL_makes_370 : decode cL_makes 370 = .ok (.iload 8, 2) := by decide +kernel
theorem dL_makes_372 : decode cL_makes 372 = .ok (.imul, 1) := by decide +kernel
theorem dL_makes_373 : decode cL_makes 373 = .ok (.iconst 3, 1) := by decide +kernel
theorem dL_makes_374 : decode cL_makes 374 = .ok (.iadd, 1) := by decide +kernel
theorem dL_makes_375 : decode cL_makes 375 = .ok (.iconst 0, 1) := by decide +kernel
theorem dL_makes_376 : decode cL_makes 376 = .ok (.iastore, 1) := by decide +kernel
theorem dL_makes_377 : decode cL_makes 377 = .ok (.iinc 8 1, 3) := by decide +kernel
theorem dL_makes_380 : decode cL_makes 380 = .ok (.goto (-250), 3) := by decide +kernel
theorem dL_makes_261 : decode cL_makes 261 = .ok (.aload 6, 2) := by decide +kernel
theorem dL_makes_263 : decode cL_makes 263 = .ok (.iconst 3, 1) := by decide +kernel
theorem dL_makes_264 : decode cL_makes 264 = .ok (.iload 8, 2) := by decide +kernel
theorem dL_makes_266 : decode cL_makes 266 = .ok (.imul, 1) := by decide +kernel
theorem dL_makes_267 : decode cL_makes 267 = .ok (.iload 11, 2) := by decide +kernel
theorem dL_makes_269 : decode cL_makes 269 = .ok (.iadd, 1) := by decide +kernel
theorem dL_makes_270 : decode cL_makes 270 = .ok (.iconst 1, 1) := by decide +kernel
theorem dL_makes_271 : decode cL_makes 271 = .ok (.iload 10, 2) := by decide +kernel
theorem dL_makes_273 : decode cL_makes 273 = .ok (.iconst 1, 1) := by decide +kernel
theorem dL_makes_274 : decode cL_makes 274 = .ok (.isub, 1) := by decide +kernel
theorem dL_makes_275 : decode cL_makes 275 = .ok (.iload 11, 2) := by decide +kernel
theorem dL_makes_277 : decode cL_makes 277 = .ok (.iconst 1, 1) := by decide +kernel
theorem dL_makes_278 : decode cL_makes 278 = .ok (.aload_n 1, 1) := by decide +kernel
theorem dL_makes_279 : decode cL_makes 279 = .ok (.bipush 80, 2) := by decide +kernel
theorem dL_makes_281 : decode cL_makes 281 = .ok (.iload 8, 2) := by decide +kernel
theorem dL_makes_283 : decode cL_makes 283 = .ok (.iadd, 1) := by decide +kernel
theorem dL_makes_284 : decode cL_makes 284 = .ok (.iconst 2, 1) := by decide +kernel
theorem dL_makes_285 : decode cL_makes 285 = .ok (.invokestatic 106, 3) := by decide +kernel
theorem dL_makes_288 : decode cL_makes 288 = .ok (.iadd, 1) := by decide +kernel
theorem dL_makes_289 : decode cL_makes 289 = .ok (.imul, 1) := by decide +kernel
theorem dL_makes_290 : decode cL_makes 290 = .ok (.iadd, 1) := by decide +kernel
theorem dL_makes_291 : decode cL_makes 291 = .ok (.iload 9, 2) := by decide +kernel
theorem dL_makes_293 : decode cL_makes 293 = .ok (.irem, 1) := by decide +kernel
theorem dL_makes_294 : decode cL_makes 294 = .ok (.iadd, 1) := by decide +kernel
theorem dL_makes_295 : decode cL_makes 295 = .ok (.iastore, 1) := by decide +kernel
theorem dL_makes_296 : decode cL_makes 296 = .ok (.iload 7, 2) := by decide +kernel
theorem dL_makes_298 : decode cL_makes 298 = .ok (.aload_n 0, 1) := by decide +kernel
theorem dL_makes_299 : decode cL_makes 299 = .ok (.iload 8, 2) := by decide +kernel
theorem dL_makes_301 : decode cL_makes 301 = .ok (.aload 6, 2) := by decide +kernel
theorem dL_makes_303 : decode cL_makes 303 = .ok (.iconst 3, 1) := by decide +kernel
theorem dL_makes_304 : decode cL_makes 304 = .ok (.iload 8, 2) := by decide +kernel
theorem dL_makes_306 : decode cL_makes 306 = .ok (.imul, 1) := by decide +kernel
theorem dL_makes_307 : decode cL_makes 307 = .ok (.iload 11, 2) := by decide +kernel
theorem dL_makes_309 : decode cL_makes 309 = .ok (.iadd, 1) := by decide +kernel
theorem dL_makes_310 : decode cL_makes 310 = .ok (.iaload, 1) := by decide +kernel
theorem dL_makes_311 : decode cL_makes 311 = .ok (.invokestatic 128, 3) := by decide +kernel
set_option maxRecDepth 20000 in
theorem ggL_makes_L_addWay : GoodIn wsL_makes wsL_addWay := goodIn_ca (goodIn_ca (goodIn_ca (goodIn_ca (goodIn_ca (goodIn_r _ [179, 133, 56, 180, 57, 58, 59, 1, 181, 182, 183, 184, 63, 185, 70, 71, 186, 187, 80, 81, 65, 82, 138, 188, 189, 190, 140, 141, 142, 143, 144, 145, 121, 191, 192, 193, 167, 194, 169, 170, 195, 196, 197, 86, 198, 127, 199, 200, 201, 202, 203, 204, 157, 88, 162, 128, 164, 165, 166, 168, 171, 172, 207, 208, 209, 210, 211, 212, 213, 214, 215, 216, 217, 231, 232, 233, 225, 226, 227, 228, 229, 230] (by decide +kernel) (by decide +kernel)) (goodIn_sub (fun _ h => List.mem_cons_of_mem _ (List.mem_append_left _ (List.mem_append_left _ (List.mem_append_left _ (List.mem_append_right _ h))))) (by decide +kernel))) (goodIn_sub (fun _ h => List.mem_cons_of_mem _ (List.mem_append_right _ h)) (by decide +kernel))) (goodIn_sub (fun _ h => List.mem_cons_of_mem _ (List.mem_append_left _ (List.mem_append_left _ (List.mem_append_right _ h)))) (by decide +kernel))) (goodIn_sub (fun _ h => List.mem_cons_of_mem _ (List.mem_append_left _ (List.mem_append_right _ h))) (by decide +kernel))) (goodIn_sub (fun _ h => List.mem_cons_of_mem _ (List.mem_append_left _ (List.mem_append_left _ (List.mem_append_left _ (List.mem_append_left _ (List.mem_append_right _ h)))))) (by decide +kernel))
set_option maxRecDepth 20000 in
theorem gL_makes_L_addWay : GoodIn wsL_makes (va_wsS RL 128 yL_addWay wsL_addWay) := goodIn_app (goodIn_of _ (by decide +kernel)) ggL_makes_L_addWay
theorem dL_makes_314 : decode cL_makes 314 = .ok (.iload 11, 2) := by decide +kernel
theorem dL_makes_316 : decode cL_makes 316 = .ok (.if_icmp .ne 25, 3) := by decide +kernel
theorem dL_makes_319 : decode cL_makes 319 = .ok (.aload_n 0, 1) := by decide +kernel
theorem dL_makes_320 : decode cL_makes 320 = .ok (.iload 8, 2) := by decide +kernel
theorem dL_makes_322 : decode cL_makes 322 = .ok (.aload 6, 2) := by decide +kernel
theorem dL_makes_324 : decode cL_makes 324 = .ok (.iconst 3, 1) := by decide +kernel
theorem dL_makes_325 : decode cL_makes 325 = .ok (.iload 8, 2) := by decide +kernel
theorem dL_makes_327 : decode cL_makes 327 = .ok (.imul, 1) := by decide +kernel
theorem dL_makes_328 : decode cL_makes 328 = .ok (.iaload, 1) := by decide +kernel
theorem dL_makes_329 : decode cL_makes 329 = .ok (.invokestatic 128, 3) := by decide +kernel
theorem dL_makes_332 : decode cL_makes 332 = .ok (.ldc 32, 2) := by decide +kernel
theorem dL_makes_334 : decode cL_makes 334 = .ok (.if_icmp .ne 7, 3) := by decide +kernel
theorem dL_makes_337 : decode cL_makes 337 = .ok (.iconst 1, 1) := by decide +kernel
theorem dL_makes_338 : decode cL_makes 338 = .ok (.goto 4, 3) := by decide +kernel
theorem dL_makes_342 : decode cL_makes 342 = .ok (.iand, 1) := by decide +kernel
theorem dL_makes_343 : decode cL_makes 343 = .ok (.istore 7, 2) := by decide +kernel
theorem dL_makes_345 : decode cL_makes 345 = .ok (.iinc 11 1, 3) := by decide +kernel
theorem dL_makes_348 : decode cL_makes 348 = .ok (.goto (-93), 3) := by decide +kernel
theorem dL_makes_12 : decode cL_makes 12 = .ok (.aload_n 2, 1) := by decide +kernel
theorem dL_makes_13 : decode cL_makes 13 = .ok (.iconst 4, 1) := by decide +kernel
theorem dL_makes_14 : decode cL_makes 14 = .ok (.iload 8, 2) := by decide +kernel
theorem dL_makes_16 : decode cL_makes 16 = .ok (.imul, 1) := by decide +kernel
theorem dL_makes_17 : decode cL_makes 17 = .ok (.aload_n 1, 1) := by decide +kernel
theorem dL_makes_18 : decode cL_makes 18 = .ok (.bipush 20, 2) := by decide +kernel
theorem dL_makes_20 : decode cL_makes 20 = .ok (.iload 8, 2) := by decide +kernel
theorem dL_makes_22 : decode cL_makes 22 = .ok (.iadd, 1) := by decide +kernel
theorem dL_makes_23 : decode cL_makes 23 = .ok (.iconst 4, 1) := by decide +kernel
theorem dL_makes_24 : decode cL_makes 24 = .ok (.invokestatic 106, 3) := by decide +kernel
theorem dL_makes_27 : decode cL_makes 27 = .ok (.iastore, 1) := by decide +kernel
theorem dL_makes_28 : decode cL_makes 28 = .ok (.aload_n 2, 1) := by decide +kernel
theorem dL_makes_29 : decode cL_makes 29 = .ok (.iconst 4, 1) := by decide +kernel
theorem dL_makes_30 : decode cL_makes 30 = .ok (.iload 8, 2) := by decide +kernel
theorem dL_makes_32 : decode cL_makes 32 = .ok (.imul, 1) := by decide +kernel
theorem dL_makes_33 : decode cL_makes 33 = .ok (.iconst 1, 1) := by decide +kernel
theorem dL_makes_34 : decode cL_makes 34 = .ok (.iadd, 1) := by decide +kernel
theorem dL_makes_35 : decode cL_makes 35 = .ok (.aload_n 1, 1) := by decide +kernel
theorem dL_makes_36 : decode cL_makes 36 = .ok (.bipush 30, 2) := by decide +kernel
theorem dL_makes_38 : decode cL_makes 38 = .ok (.iload 8, 2) := by decide +kernel
theorem dL_makes_40 : decode cL_makes 40 = .ok (.iadd, 1) := by decide +kernel
theorem dL_makes_41 : decode cL_makes 41 = .ok (.bipush 21, 2) := by decide +kernel
theorem dL_makes_43 : decode cL_makes 43 = .ok (.invokestatic 106, 3) := by decide +kernel
theorem dL_makes_46 : decode cL_makes 46 = .ok (.iastore, 1) := by decide +kernel
theorem dL_makes_47 : decode cL_makes 47 = .ok (.aload_n 2, 1) := by decide +kernel
theorem dL_makes_48 : decode cL_makes 48 = .ok (.iconst 4, 1) := by decide +kernel
theorem dL_makes_49 : decode cL_makes 49 = .ok (.iload 8, 2) := by decide +kernel
theorem dL_makes_51 : decode cL_makes 51 = .ok (.imul, 1) := by decide +kernel
theorem dL_makes_52 : decode cL_makes 52 = .ok (.iconst 2, 1) := by decide +kernel
theorem dL_makes_53 : decode cL_makes 53 = .ok (.iadd, 1) := by decide +kernel
theorem dL_makes_54 : decode cL_makes 54 = .ok (.aload_n 1, 1) := by decide +kernel
theorem dL_makes_55 : decode cL_makes 55 = .ok (.bipush 40, 2) := by decide +kernel
theorem dL_makes_57 : decode cL_makes 57 = .ok (.iload 8, 2) := by decide +kernel
theorem dL_makes_59 : decode cL_makes 59 = .ok (.iadd, 1) := by decide +kernel
theorem dL_makes_60 : decode cL_makes 60 = .ok (.bipush 60, 2) := by decide +kernel
theorem dL_makes_62 : decode cL_makes 62 = .ok (.invokestatic 106, 3) := by decide +kernel
theorem dL_makes_65 : decode cL_makes 65 = .ok (.iastore, 1) := by decide +kernel
theorem dL_makes_66 : decode cL_makes 66 = .ok (.aload_n 2, 1) := by decide +kernel
theorem dL_makes_67 : decode cL_makes 67 = .ok (.iconst 4, 1) := by decide +kernel
theorem dL_makes_68 : decode cL_makes 68 = .ok (.iload 8, 2) := by decide +kernel
theorem dL_makes_70 : decode cL_makes 70 = .ok (.imul, 1) := by decide +kernel
theorem dL_makes_71 : decode cL_makes 71 = .ok (.iconst 3, 1) := by decide +kernel
theorem dL_makes_72 : decode cL_makes 72 = .ok (.iadd, 1) := by decide +kernel
theorem dL_makes_73 : decode cL_makes 73 = .ok (.iconst 0, 1) := by decide +kernel
theorem dL_makes_74 : decode cL_makes 74 = .ok (.iastore, 1) := by decide +kernel
theorem dL_makes_75 : decode cL_makes 75 = .ok (.iload 7, 2) := by decide +kernel
theorem dL_makes_77 : decode cL_makes 77 = .ok (.aload_n 0, 1) := by decide +kernel
theorem dL_makes_78 : decode cL_makes 78 = .ok (.ldc 109, 2) := by decide +kernel
theorem dL_makes_80 : decode cL_makes 80 = .ok (.aload_n 2, 1) := by decide +kernel
theorem dL_makes_81 : decode cL_makes 81 = .ok (.iconst 4, 1) := by decide +kernel
theorem dL_makes_82 : decode cL_makes 82 = .ok (.iload 8, 2) := by decide +kernel
theorem dL_makes_84 : decode cL_makes 84 = .ok (.imul, 1) := by decide +kernel
theorem dL_makes_85 : decode cL_makes 85 = .ok (.iaload, 1) := by decide +kernel
theorem dL_makes_86 : decode cL_makes 86 = .ok (.invokevirtual 111, 3) := by decide +kernel
set_option maxRecDepth 20000 in
theorem ggL_makes_J0_charAt_5068e : GoodIn wsL_makes wsJ0_charAt_5068e := goodIn_r _ [16, 17, 18, 19, 20, 15, 21, 22, 23, 24, 25, 26, 27, 28, 29, 30, 31, 32, 33, 34, 35, 36, 37, 38, 39, 40, 41, 42, 43, 44, 45, 46, 47, 48, 49, 50, 51, 52, 205, 206] (by decide +kernel) (by decide +kernel)
set_option maxRecDepth 20000 in
theorem gL_makes_J0_charAt_5068e : GoodIn wsL_makes (wsV RL 111 RJ0 yJ0_charAt_5068e wsJ0_charAt_5068e) := goodIn_app (goodIn_of _ (by decide +kernel)) ggL_makes_J0_charAt_5068e
theorem dL_makes_89 : decode cL_makes 89 = .ok (.aload_n 2, 1) := by decide +kernel
theorem dL_makes_90 : decode cL_makes 90 = .ok (.iconst 4, 1) := by decide +kernel
theorem dL_makes_91 : decode cL_makes 91 = .ok (.iload 8, 2) := by decide +kernel
theorem dL_makes_93 : decode cL_makes 93 = .ok (.imul, 1) := by decide +kernel
theorem dL_makes_94 : decode cL_makes 94 = .ok (.iconst 1, 1) := by decide +kernel
theorem dL_makes_95 : decode cL_makes 95 = .ok (.iadd, 1) := by decide +kernel
theorem dL_makes_96 : decode cL_makes 96 = .ok (.iaload, 1) := by decide +kernel
theorem dL_makes_97 : decode cL_makes 97 = .ok (.aload_n 2, 1) := by decide +kernel
theorem dL_makes_98 : decode cL_makes 98 = .ok (.iconst 4, 1) := by decide +kernel
theorem dL_makes_99 : decode cL_makes 99 = .ok (.iload 8, 2) := by decide +kernel
theorem dL_makes_101 : decode cL_makes 101 = .ok (.imul, 1) := by decide +kernel
theorem dL_makes_102 : decode cL_makes 102 = .ok (.iconst 2, 1) := by decide +kernel
theorem dL_makes_103 : decode cL_makes 103 = .ok (.iadd, 1) := by decide +kernel
theorem dL_makes_104 : decode cL_makes 104 = .ok (.iaload, 1) := by decide +kernel
theorem dL_makes_105 : decode cL_makes 105 = .ok (.invokestatic 117, 3) := by decide +kernel
set_option maxRecDepth 20000 in
theorem ggL_makes_L_addResource : GoodIn wsL_makes wsL_addResource := goodIn_ca (goodIn_ca (goodIn_ca (goodIn_r _ [55, 56, 57, 58, 59, 60, 61, 62, 63, 64, 65, 66, 67, 68, 69, 70, 71, 72, 73, 74, 75, 76, 77, 78, 79, 80, 81, 82, 83, 84, 85, 86, 87, 88, 89, 90, 91, 92, 93, 94, 95, 96, 97, 98, 99, 100, 101, 102, 103, 104, 105, 207, 208, 209, 210, 211, 212, 213, 214, 215, 216, 217, 218, 219, 220, 221, 222, 223, 224] (by decide +kernel) (by decide +kernel)) (goodIn_sub (fun _ h => List.mem_cons_of_mem _ (List.mem_append_left _ (List.mem_append_left _ (List.mem_append_left _ (List.mem_append_right _ h))))) (by decide +kernel))) (goodIn_sub (fun _ h => List.mem_cons_of_mem _ (List.mem_append_left _ (List.mem_append_left _ (List.mem_append_right _ h)))) (by decide +kernel))) (goodIn_sub (fun _ h => List.mem_cons_of_mem _ (List.mem_append_left _ (List.mem_append_left _ (List.mem_append_left _ (List.mem_append_left _ (List.mem_append_right _ h)))))) (by decide +kernel))
set_option maxRecDepth 20000 in
theorem gL_makes_L_addResource : GoodIn wsL_makes (va_wsS RL 117 yL_addResource wsL_addResource) := goodIn_app (goodIn_of _ (by decide +kernel)) ggL_makes_L_addResource
theorem dL_makes_108 : decode cL_makes 108 = .ok (.iload 8, 2) := by decide +kernel
theorem dL_makes_110 : decode cL_makes 110 = .ok (.if_icmp .ne 7, 3) := by decide +kernel
theorem dL_makes_113 : decode cL_makes 113 = .ok (.iconst 1, 1) := by decide +kernel
theorem dL_makes_114 : decode cL_makes 114 = .ok (.goto 4, 3) := by decide +kernel
theorem dL_makes_118 : decode cL_makes 118 = .ok (.iand, 1) := by decide +kernel
theorem dL_makes_119 : decode cL_makes 119 = .ok (.istore 7, 2) := by decide +kernel
theorem dL_makes_121 : decode cL_makes 121 = .ok (.iinc 8 1, 3) := by decide +kernel
theorem dL_makes_124 : decode cL_makes 124 = .ok (.goto (-118), 3) := by decide +kernel
set_option maxHeartbeats 4000000 in
set_option maxRecDepth 100000 in
theorem b_L_makes {X : VC} {σ : SX} {μ : Mem} (s : Nat) (n : Nat) (hs : 2 ≤ s ∧ s ≤ 5) (hn : 1 ≤ n ∧ n ≤ 5) (hF : F1 μ 0) (K : vK X cL_makes 12 RL wsL_makes ({ frames := 8, cells := 15, slots := 90, locals := 127 } : Room)) (SJ : lxJ X.2.2.2.1 X.2.1.1 σ) (hret : ∀ (z : Int) (ν : Mem), (fun (z : Int) (ν : Mem) => z = 1 ∧ LST ν s n 1) z ν → ∀ n pc k1 k2 lv, k1 ≤ 15 → k2 ≤ 90 → decode cL_makes pc = .ok (.ireturn, 1) → vW X n pc k1 k2 lv [.int (iZ z)] ν) : vW X 12 0 0 0 [(0, .ref (vAd X 0)), (1, .ref (σ.1.1)), (2, .ref (vAd X 49)), (3, .int (iZ (s : Int))), (4, .ref (vAd X 50)), (5, .int (iZ (n : Int))), (6, .ref (vAd X 51))] [] μ := by
  have hall := or4_of hs
  have hall2 := hall.rng9
  refine v_iconst K dL_makes_0 ?_
  refine v_istore [(7, .int (iZ 1)), (0, .ref (vAd X 0)), (1, .ref (σ.1.1)), (2, .ref (vAd X 49)), (3, .int (iZ (s : Int))), (4, .ref (vAd X 50)), (5, .int (iZ (n : Int))), (6, .ref (vAd X 51))] K dL_makes_1 (by decide) rfl ?_
  refine v_iconst K dL_makes_3 ?_
  refine v_istore [(8, .int (iZ 0)), (7, .int (iZ 1)), (0, .ref (vAd X 0)), (1, .ref (σ.1.1)), (2, .ref (vAd X 49)), (3, .int (iZ (s : Int))), (4, .ref (vAd X 50)), (5, .int (iZ (n : Int))), (6, .ref (vAd X 51))] K dL_makes_4 (by decide) rfl ?_
  have L6 : ∀ (fuel : Nat) (r : Nat) (ξ : Mem) (hm : 9 - r < fuel) (hr : r ≤ s) (hF1 : F1 ξ r), vW X 12 6 0 0 [(0, .ref (vAd X 0)), (1, .ref (σ.1.1)), (2, .ref (vAd X 49)), (3, .int (iZ (s : Int))), (4, .ref (vAd X 50)), (5, .int (iZ (n : Int))), (6, .ref (vAd X 51)), (7, .int (iZ 1)), (8, .int (iZ (r : Int)))] [] ξ := by
    intro fuel
    induction fuel with
    | zero => intro r ξ hm; exact absurd hm (Nat.not_lt_zero _)
    | succ fuel ih6 =>
      intro r ξ hm hr hF1
      refine v_iload 8 K dL_makes_6 rfl ?_
      refine v_iload_n 3 K dL_makes_8 rfl ?_
      refine v_icmp_ge 127 K dL_makes_9 (by decide) (by omega) (by omega) (fun c9 => ?_) (fun c9 => ?_)
      · have hrs : r = s := by omega
        rw [hrs] at hF1
        refine v_iconst K dL_makes_127 ?_
        refine v_istore [(8, .int (iZ 0)), (0, .ref (vAd X 0)), (1, .ref (σ.1.1)), (2, .ref (vAd X 49)), (3, .int (iZ (s : Int))), (4, .ref (vAd X 50)), (5, .int (iZ (n : Int))), (6, .ref (vAd X 51)), (7, .int (iZ 1))] K dL_makes_128 (by decide) rfl ?_
        have L130 : ∀ (fuel : Nat) (p : Nat) (η : Mem) (hm : 7 - p < fuel) (hp : p ≤ n) (hF2 : F2 η s p), vW X 12 130 (3 * p) (18 * p) [(0, .ref (vAd X 0)), (1, .ref (σ.1.1)), (2, .ref (vAd X 49)), (3, .int (iZ (s : Int))), (4, .ref (vAd X 50)), (5, .int (iZ (n : Int))), (6, .ref (vAd X 51)), (7, .int (iZ 1)), (8, .int (iZ (p : Int)))] [] η := by
          intro fuel
          induction fuel with
          | zero => intro p η hm; exact absurd hm (Nat.not_lt_zero _)
          | succ fuel ih130 =>
            intro p η hm hp hF2
            refine v_iload 8 K dL_makes_130 rfl ?_
            refine v_iload 5 K dL_makes_132 rfl ?_
            refine v_icmp_ge 383 K dL_makes_134 (by decide) (by omega) (by omega) (fun c134 => ?_) (fun c134 => ?_)
            · refine v_iload 7 K dL_makes_383 rfl ?_
              exact hret _ _ ⟨rfl, F2_LST (by rw [show p = n by omega] at hF2; exact hF2) hs hn⟩ _ _ _ _ _ (by omega) (by omega) dL_makes_385
            · refine v_aload 4 K dL_makes_137 rfl ?_
              refine v_iconst K dL_makes_139 ?_
              refine v_iload 8 K dL_makes_140 rfl ?_
              refine v_imul K dL_makes_142 ?_
              refine v_iconst K dL_makes_143 ?_
              refine v_aload_n 1 K dL_makes_144 rfl ?_
              refine v_bipush K dL_makes_145 (by decide) ?_
              refine v_iload 8 K dL_makes_147 rfl ?_
              refine v_iadd K dL_makes_149 ?_
              refine v_iconst K dL_makes_150 ?_
              refine v_in (σ := σ) (i := (50 + (p : Int))) (n := 3) K SJ (by omega) (by omega) gL_makes_L_in ⟨(Nat.le_of_ble_eq_true rfl), (Nat.le_of_ble_eq_true rfl)⟩ (Nat.le_of_ble_eq_true rfl) dL_makes_151 ⟨(by show (3 * p) + 0 ≤ 15; omega), (by show (18 * p) + 0 ≤ 90; omega)⟩ ?_
              refine v_iadd K dL_makes_154 ?_
              obtain ⟨we, ewe⟩ : ∃ we : Int, we = (1 + (inV σ (50 + (p : Int)) 3)) := ⟨_, rfl⟩
              refine v_top (b := we) (congrArg iZ ewe.symm) ?_
              have hwe : 1 ≤ we ∧ we ≤ 3 := by have := in_rng σ (50 + (p : Int)) (n := 3) (by omega); omega
              refine v_iast (c := 50) (4 * p) K isI_50 (by omega) (by omega) dL_makes_155 ?_
              obtain ⟨η1, eη1⟩ : ∃ η1 : Mem, η1 = (upM η 50 (4 * p) we) := ⟨_, rfl⟩
              rw [← eη1]
              refine v_aload 4 K dL_makes_156 rfl ?_
              refine v_iconst K dL_makes_158 ?_
              refine v_iload 8 K dL_makes_159 rfl ?_
              refine v_imul K dL_makes_161 ?_
              refine v_iconst K dL_makes_162 ?_
              refine v_iadd K dL_makes_163 ?_
              refine v_aload_n 1 K dL_makes_164 rfl ?_
              refine v_bipush K dL_makes_165 (by decide) ?_
              refine v_iload 8 K dL_makes_167 rfl ?_
              refine v_iadd K dL_makes_169 ?_
              refine v_bipush K dL_makes_170 (by decide) ?_
              refine v_in (σ := σ) (i := (60 + (p : Int))) (n := 10) K SJ (by omega) (by omega) gL_makes_L_in ⟨(Nat.le_of_ble_eq_true rfl), (Nat.le_of_ble_eq_true rfl)⟩ (Nat.le_of_ble_eq_true rfl) dL_makes_172 ⟨(by show (3 * p) + 0 ≤ 15; omega), (by show (18 * p) + 0 ≤ 90; omega)⟩ ?_
              obtain ⟨mi, emi⟩ : ∃ mi : Int, mi = (inV σ (60 + (p : Int)) 10) := ⟨_, rfl⟩
              refine v_top (b := mi) (congrArg iZ emi.symm) ?_
              have hmi : 0 ≤ mi ∧ mi < 10 := by rw [emi]; exact in_rng σ _ (by omega)
              refine v_iast (c := 50) ((4 * p) + 1) K isI_50 (by omega) (by omega) dL_makes_175 ?_
              obtain ⟨η2, eη2⟩ : ∃ η2 : Mem, η2 = (upM η1 50 ((4 * p) + 1) mi) := ⟨_, rfl⟩
              rw [← eη2]
              have h213 : η2 1 3 = (p : Int) := by rw [eη2, upM_off (by omega), eη1, upM_off (by omega)]; exact hF2.2.2.1
              refine v_iload 7 K dL_makes_176 rfl ?_
              refine v_aload_n 0 K dL_makes_178 rfl ?_
              refine v_aload 4 K dL_makes_179 rfl ?_
              refine v_iconst K dL_makes_181 ?_
              refine v_iload 8 K dL_makes_182 rfl ?_
              refine v_imul K dL_makes_184 ?_
              refine v_iald (c := 50) (4 * p) K isI_50 (by omega) (by omega) dL_makes_185 ?_
              refine v_top (b := we) (by rw [eη2, upM_ne (by omega), eη1, upM_self]) ?_
              refine v_aload 4 K dL_makes_186 rfl ?_
              refine v_iconst K dL_makes_188 ?_
              refine v_iload 8 K dL_makes_189 rfl ?_
              refine v_imul K dL_makes_191 ?_
              refine v_iconst K dL_makes_192 ?_
              refine v_iadd K dL_makes_193 ?_
              refine v_iald (c := 50) ((4 * p) + 1) K isI_50 (by omega) (by omega) dL_makes_194 ?_
              refine v_top (b := mi) (by rw [eη2, upM_self]) ?_
              refine v_callSWi (As := [.ref (vAd X 0), .int (iZ we), .int (iZ mi)]) (rest := [.int (iZ 1)]) K 3 (c_L_addPlayer X.1.2.1 K.2.2.2.2.2.2 _ _ _ η2 we mi (by omega) (by omega) (by omega)) gL_makes_L_addPlayer rfl rfl rfl (by decide +kernel) ⟨(Nat.le_of_ble_eq_true rfl), (Nat.le_of_ble_eq_true rfl)⟩ rfl rfl (Nat.le_of_ble_eq_true rfl) dL_makes_195 ⟨(by show (3 * p) + 0 ≤ 15; omega), (by show (18 * p) + 0 ≤ 90; omega)⟩ (fun z195 η3 q195 => ?_)
              obtain ⟨hz195, hP3⟩ := q195
              rw [h213] at hz195
              rw [h213, Int.toNat_natCast] at hP3
              have hG3 : ∀ g : Nat → Int, F3 η3 s p 0 (-1) g := F3_0 hF2 (by omega) hwe ⟨hmi.1, by omega⟩ eη1 eη2 hP3
              obtain ⟨hW3, -, h313, hL3, -, -, -, -, -, -, -, -, hch3, -⟩ := hG3 (fun _ => 0)
              have hp3 : pcn η3 = p + 1 := by unfold pcn; rw [h313]; omega
              have hB3 := hL3.PB9 hW3
              have hcs0 := cst_no hch3
              refine v_iload 8 K dL_makes_198 rfl ?_
              refine v_icmp_ne 226 K dL_makes_200 (by decide) (by omega) (by omega) (fun c200 => (by exfalso; omega)) (fun c200 => ?_)
              refine v_aload_n 0 K dL_makes_203 rfl ?_
              refine v_iload 8 K dL_makes_204 rfl ?_
              refine v_callSWir (As := [.ref (vAd X 0), .int (iZ (p : Int))]) (rest := [.int (iZ 1)]) K 2 (c_L_getChosen X.1.2.1 K.2.2.2.2.2.2 _ _ _ η3 p hW3 (by omega)) gL_makes_L_getChosen rfl rfl rfl (by decide +kernel) ⟨(Nat.le_of_ble_eq_true rfl), (Nat.le_of_ble_eq_true rfl)⟩ rfl rfl (Nat.le_of_ble_eq_true rfl) dL_makes_206 ⟨(by show (3 * p) + 0 ≤ 15; omega), (by show (18 * p) + 0 ≤ 90; omega)⟩ ?_
              refine v_top (b := -1) (by rw [hch3]) ?_
              refine v_iconst K dL_makes_209 ?_
              refine v_icmp_ne 226 K dL_makes_210 (by decide) (by decide) (by decide) (fun c210 => (by exfalso; omega)) (fun c210 => ?_)
              refine v_aload_n 0 K dL_makes_213 rfl ?_
              refine v_iload 8 K dL_makes_214 rfl ?_
              refine v_callSWir (As := [.ref (vAd X 0), .int (iZ (p : Int))]) (rest := [.int (iZ 1)]) K 2 (c_L_getCost X.1.2.1 K.2.2.2.2.2.2 _ _ _ η3 p hW3 hB3 (by omega)) gL_makes_L_getCost rfl rfl rfl (by decide +kernel) ⟨(Nat.le_of_ble_eq_true rfl), (Nat.le_of_ble_eq_true rfl)⟩ rfl rfl (Nat.le_of_ble_eq_true rfl) dL_makes_216 ⟨(by show (3 * p) + 0 ≤ 15; omega), (by show (18 * p) + 0 ≤ 90; omega)⟩ ?_
              refine v_top (b := 0) (by rw [hcs0]) ?_
              refine v_if_ne 226 K dL_makes_219 (by decide) (by decide) (fun c219 => (by exfalso; omega)) (fun c219 => ?_)
              refine v_iconst K dL_makes_222 ?_
              refine v_goto 227 K dL_makes_223 (by decide) ?_
              refine v_iand (z := 1) rfl K dL_makes_227 ?_
              refine v_istore [(7, .int (iZ 1)), (0, .ref (vAd X 0)), (1, .ref (σ.1.1)), (2, .ref (vAd X 49)), (3, .int (iZ (s : Int))), (4, .ref (vAd X 50)), (5, .int (iZ (n : Int))), (6, .ref (vAd X 51)), (8, .int (iZ (p : Int)))] K dL_makes_228 (by decide) rfl ?_
              refine v_iconst K dL_makes_230 ?_
              refine v_iload_n 4 K dL_makes_231 rfl ?_
              refine v_ishl (z := ((2 ^ s : Nat) : Int)) (iZ_shl1 _ (by omega)) K dL_makes_232 ?_
              refine v_iconst K dL_makes_233 ?_
              refine v_isub K dL_makes_234 ?_
              obtain ⟨al, eal⟩ : ∃ al : Int, al = (((2 ^ s : Nat) : Int) - 1) := ⟨_, rfl⟩
              refine v_top (b := al) (congrArg iZ eal.symm) ?_
              have hal : or4 al := by rw [eal]; exact hall
              have hal2 := hal.rng9
              refine v_istore [(9, .int (iZ al)), (7, .int (iZ 1)), (0, .ref (vAd X 0)), (1, .ref (σ.1.1)), (2, .ref (vAd X 49)), (3, .int (iZ (s : Int))), (4, .ref (vAd X 50)), (5, .int (iZ (n : Int))), (6, .ref (vAd X 51)), (8, .int (iZ (p : Int)))] K dL_makes_235 (by decide) rfl ?_
              refine v_iconst K dL_makes_237 ?_
              refine v_aload_n 3 K dL_makes_238 rfl ?_
              refine v_bipush K dL_makes_239 (by decide) ?_
              refine v_iload 9 K dL_makes_241 rfl ?_
              refine v_iadd K dL_makes_243 ?_
              refine v_iload 0 K dL_makes_244 rfl ?_
              refine v_in (σ := σ) (i := (70 + (p : Int))) (n := al) K SJ (by omega) (by omega) gL_makes_L_in ⟨(Nat.le_of_ble_eq_true rfl), (Nat.le_of_ble_eq_true rfl)⟩ (Nat.le_of_ble_eq_true rfl) dL_makes_246 ⟨(by show (3 * p) + 0 ≤ 15; omega), (by show (18 * p) + 0 ≤ 90; omega)⟩ ?_
              refine v_iadd K dL_makes_249 ?_
              obtain ⟨fi, efi⟩ : ∃ fi : Int, fi = (1 + (inV σ (70 + (p : Int)) al)) := ⟨_, rfl⟩
              refine v_top (b := fi) (congrArg iZ efi.symm) ?_
              have hfi : 1 ≤ fi ∧ fi ≤ al := by have := in_rng σ (70 + (p : Int)) (n := al) (by omega); omega
              obtain ⟨sp, esp⟩ : ∃ sp : Int, sp = 1 + inV σ (80 + (p : Int)) 2 := ⟨_, rfl⟩
              have hsp2 : 1 ≤ sp ∧ sp ≤ 2 := by have := in_rng σ (80 + (p : Int)) (n := 2) (by omega); omega
              have hsp : or2 sp := or2_of hsp2
              have hgr : ∀ j, j < 3 → 1 ≤ wyF fi sp al j ∧ wyF fi sp al j < ((2 ^ s : Nat) : Int) := fun j hj => by have := wyF_rng (f := fi) (st := sp) (al := al) (by omega) j; omega
              refine v_istore [(10, .int (iZ fi)), (9, .int (iZ al)), (7, .int (iZ 1)), (0, .ref (vAd X 0)), (1, .ref (σ.1.1)), (2, .ref (vAd X 49)), (3, .int (iZ (s : Int))), (4, .ref (vAd X 50)), (5, .int (iZ (n : Int))), (6, .ref (vAd X 51)), (8, .int (iZ (p : Int)))] K dL_makes_250 (by decide) rfl ?_
              refine v_iconst K dL_makes_252 ?_
              refine v_istore [(11, .int (iZ 0)), (10, .int (iZ fi)), (9, .int (iZ al)), (7, .int (iZ 1)), (0, .ref (vAd X 0)), (1, .ref (σ.1.1)), (2, .ref (vAd X 49)), (3, .int (iZ (s : Int))), (4, .ref (vAd X 50)), (5, .int (iZ (n : Int))), (6, .ref (vAd X 51)), (8, .int (iZ (p : Int)))] K dL_makes_253 (by decide) rfl ?_
              have L255 : ∀ (fuel : Nat) (w : Nat) (ζ : Mem) (hm : 4 - w < fuel) (hw : w ≤ 3) (hF3 : F3 ζ s p w (chW w) (wyF fi sp al)), vW X 12 255 (3 * p + w) (18 * p + 6 * w) [(0, .ref (vAd X 0)), (1, .ref (σ.1.1)), (2, .ref (vAd X 49)), (3, .int (iZ (s : Int))), (4, .ref (vAd X 50)), (5, .int (iZ (n : Int))), (6, .ref (vAd X 51)), (7, .int (iZ 1)), (8, .int (iZ (p : Int))), (9, .int (iZ al)), (10, .int (iZ fi)), (11, .int (iZ (w : Int)))] [] ζ := by
                intro fuel
                induction fuel with
                | zero => intro w ζ hm; exact absurd hm (Nat.not_lt_zero _)
                | succ fuel ih255 =>
                  intro w ζ hm hw hF3
                  refine v_iload 11 K dL_makes_255 rfl ?_
                  refine v_iconst K dL_makes_257 ?_
                  refine v_icmp_ge 351 K dL_makes_258 (by decide) (by omega) (by decide) (fun c258 => ?_) (fun c258 => ?_)
                  · have hw3 : w = 3 := by omega
                    rw [hw3] at hF3
                    refine v_aload 4 K dL_makes_351 rfl ?_
                    refine v_iconst K dL_makes_353 ?_
                    refine v_iload 8 K dL_makes_354 rfl ?_
                    refine v_imul K dL_makes_356 ?_
                    refine v_iconst K dL_makes_357 ?_
                    refine v_iadd K dL_makes_358 ?_
                    refine v_aload 6 K dL_makes_359 rfl ?_
                    refine v_iconst K dL_makes_361 ?_
                    refine v_iload 8 K dL_makes_362 rfl ?_
                    refine v_imul K dL_makes_364 ?_
                    refine v_iald (c := 51) (3 * p) K isI_51 (by omega) (by omega) dL_makes_365 ?_
                    refine v_iast (c := 50) ((4 * p) + 2) K isI_50 (by omega) (by omega) dL_makes_366 ?_
                    obtain ⟨ζ4, eζ4⟩ : ∃ ζ4 : Mem, ζ4 = (upM ζ 50 ((4 * p) + 2) (ζ 51 (3 * p))) := ⟨_, rfl⟩
                    rw [← eζ4]
                    refine v_aload 4 K dL_makes_367 rfl ?_
                    refine v_iconst K dL_makes_369 ?_
                    refine v_iload 8 K dL_makes_370 rfl ?_
                    refine v_imul K dL_makes_372 ?_
                    refine v_iconst K dL_makes_373 ?_
                    refine v_iadd K dL_makes_374 ?_
                    refine v_iconst K dL_makes_375 ?_
                    refine v_iast (c := 50) ((4 * p) + 3) K isI_50 (by omega) (by omega) dL_makes_376 ?_
                    obtain ⟨ζ5, eζ5⟩ : ∃ ζ5 : Mem, ζ5 = (upM ζ4 50 ((4 * p) + 3) 0) := ⟨_, rfl⟩
                    rw [← eζ5]
                    refine v_iinc 8 [(8, .int (iZ ((p : Int) + 1))), (0, .ref (vAd X 0)), (1, .ref (σ.1.1)), (2, .ref (vAd X 49)), (3, .int (iZ (s : Int))), (4, .ref (vAd X 50)), (5, .int (iZ (n : Int))), (6, .ref (vAd X 51)), (7, .int (iZ 1)), (9, .int (iZ al)), (10, .int (iZ fi)), (11, .int (iZ (w : Int)))] K dL_makes_377 rfl (by decide) rfl ?_
                    refine v_goto 130 K dL_makes_380 (by decide) ?_
                    refine v_sub [1, 2, 3, 4, 5, 6, 7, 8, 0] rfl ?_
                    refine v_eq (lv1 := [(0, .ref (vAd X 0)), (1, .ref (σ.1.1)), (2, .ref (vAd X 49)), (3, .int (iZ (s : Int))), (4, .ref (vAd X 50)), (5, .int (iZ (n : Int))), (6, .ref (vAd X 51)), (7, .int (iZ 1)), (8, .int (iZ (((p + 1) : Nat) : Int)))]) (st1 := []) (v_c0 (v_c0 (v_c0 (v_c0 (v_c0 (v_c0 (v_c0 (v_c0 (v_cI (by first | rfl | omega) rfl))))))))) rfl ?_
                    refine v_wid (c2 := (3 * (p + 1))) (s2 := (18 * (p + 1))) (by show (3 * p + w) ≤ (3 * (p + 1)); omega) (by show (18 * p + 6 * w) ≤ (18 * (p + 1)); omega) ?_
                    exact ih130 (p + 1) ζ5 (by omega) (by omega) (F2_s hF3 (by omega) hgr rfl eζ4 eζ5)
                  · have hws := mul_rng (a := (w : Int)) (b := sp) (A := 2) (B := 2) (by omega) (by omega)
                    have hgw := hgr w (by omega)
                    have hgw0 := hgr 0 (by omega)
                    refine v_aload 6 K dL_makes_261 rfl ?_
                    refine v_iconst K dL_makes_263 ?_
                    refine v_iload 8 K dL_makes_264 rfl ?_
                    refine v_imul K dL_makes_266 ?_
                    refine v_iload 11 K dL_makes_267 rfl ?_
                    refine v_iadd K dL_makes_269 ?_
                    refine v_iconst K dL_makes_270 ?_
                    refine v_iload 10 K dL_makes_271 rfl ?_
                    refine v_iconst K dL_makes_273 ?_
                    refine v_isub K dL_makes_274 ?_
                    refine v_iload 11 K dL_makes_275 rfl ?_
                    refine v_iconst K dL_makes_277 ?_
                    refine v_aload_n 1 K dL_makes_278 rfl ?_
                    refine v_bipush K dL_makes_279 (by decide) ?_
                    refine v_iload 8 K dL_makes_281 rfl ?_
                    refine v_iadd K dL_makes_283 ?_
                    refine v_iconst K dL_makes_284 ?_
                    refine v_in (σ := σ) (i := (80 + (p : Int))) (n := 2) K SJ (by omega) (by omega) gL_makes_L_in ⟨(Nat.le_of_ble_eq_true rfl), (Nat.le_of_ble_eq_true rfl)⟩ (Nat.le_of_ble_eq_true rfl) dL_makes_285 ⟨(by show (3 * p + w) + 0 ≤ 15; omega), (by show (18 * p + 6 * w) + 0 ≤ 90; omega)⟩ ?_
                    refine v_iadd K dL_makes_288 ?_
                    refine v_top (b := sp) (by rw [esp]) ?_
                    refine v_imul K dL_makes_289 ?_
                    refine v_iadd K dL_makes_290 ?_
                    refine v_iload 9 K dL_makes_291 rfl ?_
                    refine v_irem (by omega) (by omega) K dL_makes_293 ?_
                    refine v_iadd K dL_makes_294 ?_
                    refine v_top (b := (wyF fi sp al w)) rfl ?_
                    refine v_iast (c := 51) ((3 * p) + w) K isI_51 (by omega) (by omega) dL_makes_295 ?_
                    obtain ⟨ζ1, eζ1⟩ : ∃ ζ1 : Mem, ζ1 = (upM ζ 51 ((3 * p) + w) (wyF fi sp al w)) := ⟨_, rfl⟩
                    rw [← eζ1]
                    have hWz : WF ζ1 := by rw [eζ1]; exact (E49_arr (by omega)).WF9 hF3.1
                    have hrz : rc ζ1 = s := by unfold rc; rw [eζ1, upM_off (by omega)]; exact hF3.2.1
                    have hpz : pcn ζ1 = p + 1 := by unfold pcn; rw [eζ1, upM_off (by omega), hF3.2.2.1]; omega
                    have hLz : PL ζ1 0 := by rw [eζ1]; exact (E49_arr (by omega)).PL9 (by omega) hF3.1 hF3.2.2.2.1
                    have h3z : ζ1 (37 + p) 3 = (w : Int) := by rw [eζ1, upM_off (by omega)]; exact hF3.2.2.2.2.2.2.2.2.2.2.2.1
                    have hnz : ∀ k : Nat, (k : Int) < ζ1 (37 + p) 3 → ζ1 (43 + p) k ≠ wyF fi sp al w := fun k hk => by rw [eζ1, upM_off (by omega), (hF3.2.2.2.2.2.2.2.2.2.2.2.2.2 k (by omega)).2]; exact wyF_ne hal hsp (by omega) (by omega)
                    refine v_iload 7 K dL_makes_296 rfl ?_
                    refine v_aload_n 0 K dL_makes_298 rfl ?_
                    refine v_iload 8 K dL_makes_299 rfl ?_
                    refine v_aload 6 K dL_makes_301 rfl ?_
                    refine v_iconst K dL_makes_303 ?_
                    refine v_iload 8 K dL_makes_304 rfl ?_
                    refine v_imul K dL_makes_306 ?_
                    refine v_iload 11 K dL_makes_307 rfl ?_
                    refine v_iadd K dL_makes_309 ?_
                    refine v_iald (c := 51) ((3 * p) + w) K isI_51 (by omega) (by omega) dL_makes_310 ?_
                    refine v_top (b := (wyF fi sp al w)) (by rw [eζ1, upM_self]) ?_
                    refine v_callSWi (As := [.ref (vAd X 0), .int (iZ (p : Int)), .int (iZ (wyF fi sp al w))]) (rest := [.int (iZ 1)]) K 3 (c_L_addWay X.1.2.1 K.2.2.2.2.2.2 _ _ _ ζ1 p (wyF fi sp al w) hWz (hLz.PB9 hWz) (by omega) (by rw [hrz]; exact hgw) (by omega) hnz) gL_makes_L_addWay rfl rfl rfl (by decide +kernel) ⟨(Nat.le_of_ble_eq_true rfl), (Nat.le_of_ble_eq_true rfl)⟩ rfl rfl (Nat.le_of_ble_eq_true rfl) dL_makes_311 ⟨(by show (3 * p + w) + 0 ≤ 15; omega), (by show (18 * p + 6 * w) + 0 ≤ 90; omega)⟩ (fun z311 ζ3 q311 => ?_)
                    obtain ⟨hz311, hq311⟩ := q311
                    have hG4 := F3_s hF3 (by omega) (by omega) (by omega) rfl (by omega) eζ1 hq311
                    have hW4 := hG4.1
                    have hr4 := hG4.2.1
                    have hp4 : pcn ζ3 = p + 1 := by unfold pcn; rw [hG4.2.2.1]; omega
                    have hc4 := hG4.2.2.2.1.2.2
                    have h34 := hG4.2.2.2.2.2.2.2.2.2.2.2.1
                    have h51z : ζ3 51 (3 * p) = wyF fi sp al 0 := (hG4.2.2.2.2.2.2.2.2.2.2.2.2.2 0 (by omega)).1
                    refine v_iload 11 K dL_makes_314 rfl ?_
                    refine v_icmp_ne 341 K dL_makes_316 (by decide) (by omega) (by omega) (fun c316 => (by exfalso; omega)) (fun c316 => ?_)
                    refine v_aload_n 0 K dL_makes_319 rfl ?_
                    refine v_iload 8 K dL_makes_320 rfl ?_
                    refine v_aload 6 K dL_makes_322 rfl ?_
                    refine v_iconst K dL_makes_324 ?_
                    refine v_iload 8 K dL_makes_325 rfl ?_
                    refine v_imul K dL_makes_327 ?_
                    refine v_iald (c := 51) (3 * p) K isI_51 (by omega) (by omega) dL_makes_328 ?_
                    refine v_top (b := (wyF fi sp al 0)) (by rw [h51z]) ?_
                    refine v_callSWir (As := [.ref (vAd X 0), .int (iZ (p : Int)), .int (iZ (wyF fi sp al 0))]) (rest := [.int (iZ 1)]) K 3 (c_L_addWayT3 X.1.2.1 K.2.2.2.2.2.2 _ _ _ ζ3 p (wyF fi sp al 0) hW4 hc4 (by omega) (by rw [hr4]; exact hgw0) ⟨0, by omega, (hG4.2.2.2.2.2.2.2.2.2.2.2.2.2 0 (by omega)).2⟩) gL_makes_L_addWay rfl rfl rfl (by decide +kernel) ⟨(Nat.le_of_ble_eq_true rfl), (Nat.le_of_ble_eq_true rfl)⟩ rfl rfl (Nat.le_of_ble_eq_true rfl) dL_makes_329 ⟨(by show (3 * p + w) + 1 ≤ 15; omega), (by show (18 * p + 6 * w) + 6 ≤ 90; omega)⟩ ?_
                    refine v_ldc (v := (-900003)) (n := (-900003)) K (List.mem_cons_of_mem _ (List.mem_append_left _ (List.mem_append_left _ (List.mem_append_left _ (List.mem_append_left _ (List.mem_append_left _ (List.mem_append_left _ (List.mem_append_left _ (List.mem_append_left _ (List.mem_append_left _ (List.mem_append_left _ (List.mem_append_left _ (List.mem_append_left _ (List.mem_of_getElem? (i := 0) rfl)))))))))))))) dL_makes_332 (by decide) ?_
                    refine v_icmp_ne 341 K dL_makes_334 (by decide) (by decide) (by decide) (fun c334 => (by exfalso; omega)) (fun c334 => ?_)
                    refine v_iconst K dL_makes_337 ?_
                    refine v_goto 342 K dL_makes_338 (by decide) ?_
                    refine v_iand (z := 1) rfl K dL_makes_342 ?_
                    refine v_istore [(7, .int (iZ 1)), (0, .ref (vAd X 0)), (1, .ref (σ.1.1)), (2, .ref (vAd X 49)), (3, .int (iZ (s : Int))), (4, .ref (vAd X 50)), (5, .int (iZ (n : Int))), (6, .ref (vAd X 51)), (8, .int (iZ (p : Int))), (9, .int (iZ al)), (10, .int (iZ fi)), (11, .int (iZ (w : Int)))] K dL_makes_343 (by decide) rfl ?_
                    refine v_iinc 11 [(11, .int (iZ ((w : Int) + 1))), (7, .int (iZ 1)), (0, .ref (vAd X 0)), (1, .ref (σ.1.1)), (2, .ref (vAd X 49)), (3, .int (iZ (s : Int))), (4, .ref (vAd X 50)), (5, .int (iZ (n : Int))), (6, .ref (vAd X 51)), (8, .int (iZ (p : Int))), (9, .int (iZ al)), (10, .int (iZ fi))] K dL_makes_345 rfl (by decide) rfl ?_
                    refine v_goto 255 K dL_makes_348 (by decide) ?_
                    refine v_sub [2, 3, 4, 5, 6, 7, 8, 1, 9, 10, 11, 0] rfl ?_
                    refine v_eq (lv1 := [(0, .ref (vAd X 0)), (1, .ref (σ.1.1)), (2, .ref (vAd X 49)), (3, .int (iZ (s : Int))), (4, .ref (vAd X 50)), (5, .int (iZ (n : Int))), (6, .ref (vAd X 51)), (7, .int (iZ 1)), (8, .int (iZ (p : Int))), (9, .int (iZ al)), (10, .int (iZ fi)), (11, .int (iZ (((w + 1) : Nat) : Int)))]) (st1 := []) (v_c0 (v_c0 (v_c0 (v_c0 (v_c0 (v_c0 (v_c0 (v_c0 (v_c0 (v_c0 (v_c0 (v_cI (by first | rfl | omega) rfl)))))))))))) rfl ?_
                    refine v_wid (c2 := (3 * p + (w + 1))) (s2 := (18 * p + 6 * (w + 1))) (by show ((3 * p + w) + 1) ≤ (3 * p + (w + 1)); omega) (by show ((18 * p + 6 * w) + 6) ≤ (18 * p + 6 * (w + 1)); omega) ?_
                    exact ih255 (w + 1) ζ3 (by omega) (by omega) hG4
              refine v_sub [4, 5, 6, 7, 8, 9, 10, 3, 11, 2, 1, 0] rfl ?_
              refine v_eq (lv1 := [(0, .ref (vAd X 0)), (1, .ref (σ.1.1)), (2, .ref (vAd X 49)), (3, .int (iZ (s : Int))), (4, .ref (vAd X 50)), (5, .int (iZ (n : Int))), (6, .ref (vAd X 51)), (7, .int (iZ 1)), (8, .int (iZ (p : Int))), (9, .int (iZ al)), (10, .int (iZ fi)), (11, .int (iZ ((0 : Nat) : Int)))]) (st1 := []) (v_c0 (v_c0 (v_c0 (v_c0 (v_c0 (v_c0 (v_c0 (v_c0 (v_c0 (v_c0 (v_c0 (v_cI (by first | rfl | omega) rfl)))))))))))) rfl ?_
              refine v_wid (c2 := (3 * p + 0)) (s2 := (18 * p + 6 * 0)) (by show (3 * p) ≤ (3 * p + 0); omega) (by show (18 * p) ≤ (18 * p + 6 * 0); omega) ?_
              exact L255 (4 - 0 + 1) 0 η3 (by omega) (by omega) (hG3 _)
        refine v_sub [1, 2, 3, 4, 5, 6, 7, 8, 0] rfl ?_
        refine v_eq (lv1 := [(0, .ref (vAd X 0)), (1, .ref (σ.1.1)), (2, .ref (vAd X 49)), (3, .int (iZ (s : Int))), (4, .ref (vAd X 50)), (5, .int (iZ (n : Int))), (6, .ref (vAd X 51)), (7, .int (iZ 1)), (8, .int (iZ ((0 : Nat) : Int)))]) (st1 := []) (v_c0 (v_c0 (v_c0 (v_c0 (v_c0 (v_c0 (v_c0 (v_c0 (v_cI (by first | rfl | omega) rfl))))))))) rfl ?_
        refine v_wid (c2 := (3 * 0)) (s2 := (18 * 0)) (by show 0 ≤ (3 * 0); omega) (by show 0 ≤ (18 * 0); omega) ?_
        exact L130 (7 - 0 + 1) 0 ξ (by omega) (by omega) (F2_0 hF1)
      · refine v_aload_n 2 K dL_makes_12 rfl ?_
        refine v_iconst K dL_makes_13 ?_
        refine v_iload 8 K dL_makes_14 rfl ?_
        refine v_imul K dL_makes_16 ?_
        refine v_aload_n 1 K dL_makes_17 rfl ?_
        refine v_bipush K dL_makes_18 (by decide) ?_
        refine v_iload 8 K dL_makes_20 rfl ?_
        refine v_iadd K dL_makes_22 ?_
        refine v_iconst K dL_makes_23 ?_
        refine v_in (σ := σ) (i := (20 + (r : Int))) (n := 4) K SJ (by omega) (by omega) gL_makes_L_in ⟨(Nat.le_of_ble_eq_true rfl), (Nat.le_of_ble_eq_true rfl)⟩ (Nat.le_of_ble_eq_true rfl) dL_makes_24 ⟨(Nat.le_of_ble_eq_true rfl), (Nat.le_of_ble_eq_true rfl)⟩ ?_
        obtain ⟨ka, eka⟩ : ∃ ka : Int, ka = (inV σ (20 + (r : Int)) 4) := ⟨_, rfl⟩
        refine v_top (b := ka) (congrArg iZ eka.symm) ?_
        have hka : 0 ≤ ka ∧ ka < 4 := by rw [eka]; exact in_rng σ _ (by omega)
        refine v_iast (c := 49) (4 * r) K isI_49 (by omega) (by omega) dL_makes_27 ?_
        obtain ⟨ξ1, eξ1⟩ : ∃ ξ1 : Mem, ξ1 = (upM ξ 49 (4 * r) ka) := ⟨_, rfl⟩
        rw [← eξ1]
        refine v_aload_n 2 K dL_makes_28 rfl ?_
        refine v_iconst K dL_makes_29 ?_
        refine v_iload 8 K dL_makes_30 rfl ?_
        refine v_imul K dL_makes_32 ?_
        refine v_iconst K dL_makes_33 ?_
        refine v_iadd K dL_makes_34 ?_
        refine v_aload_n 1 K dL_makes_35 rfl ?_
        refine v_bipush K dL_makes_36 (by decide) ?_
        refine v_iload 8 K dL_makes_38 rfl ?_
        refine v_iadd K dL_makes_40 ?_
        refine v_bipush K dL_makes_41 (by decide) ?_
        refine v_in (σ := σ) (i := (30 + (r : Int))) (n := 21) K SJ (by omega) (by omega) gL_makes_L_in ⟨(Nat.le_of_ble_eq_true rfl), (Nat.le_of_ble_eq_true rfl)⟩ (Nat.le_of_ble_eq_true rfl) dL_makes_43 ⟨(Nat.le_of_ble_eq_true rfl), (Nat.le_of_ble_eq_true rfl)⟩ ?_
        obtain ⟨aa, eaa⟩ : ∃ aa : Int, aa = (inV σ (30 + (r : Int)) 21) := ⟨_, rfl⟩
        refine v_top (b := aa) (congrArg iZ eaa.symm) ?_
        have haa : 0 ≤ aa ∧ aa < 21 := by rw [eaa]; exact in_rng σ _ (by omega)
        refine v_iast (c := 49) ((4 * r) + 1) K isI_49 (by omega) (by omega) dL_makes_46 ?_
        obtain ⟨ξ2, eξ2⟩ : ∃ ξ2 : Mem, ξ2 = (upM ξ1 49 ((4 * r) + 1) aa) := ⟨_, rfl⟩
        rw [← eξ2]
        refine v_aload_n 2 K dL_makes_47 rfl ?_
        refine v_iconst K dL_makes_48 ?_
        refine v_iload 8 K dL_makes_49 rfl ?_
        refine v_imul K dL_makes_51 ?_
        refine v_iconst K dL_makes_52 ?_
        refine v_iadd K dL_makes_53 ?_
        refine v_aload_n 1 K dL_makes_54 rfl ?_
        refine v_bipush K dL_makes_55 (by decide) ?_
        refine v_iload 8 K dL_makes_57 rfl ?_
        refine v_iadd K dL_makes_59 ?_
        refine v_bipush K dL_makes_60 (by decide) ?_
        refine v_in (σ := σ) (i := (40 + (r : Int))) (n := 60) K SJ (by omega) (by omega) gL_makes_L_in ⟨(Nat.le_of_ble_eq_true rfl), (Nat.le_of_ble_eq_true rfl)⟩ (Nat.le_of_ble_eq_true rfl) dL_makes_62 ⟨(Nat.le_of_ble_eq_true rfl), (Nat.le_of_ble_eq_true rfl)⟩ ?_
        obtain ⟨bb, ebb⟩ : ∃ bb : Int, bb = (inV σ (40 + (r : Int)) 60) := ⟨_, rfl⟩
        refine v_top (b := bb) (congrArg iZ ebb.symm) ?_
        have hbb : 0 ≤ bb ∧ bb < 60 := by rw [ebb]; exact in_rng σ _ (by omega)
        refine v_iast (c := 49) ((4 * r) + 2) K isI_49 (by omega) (by omega) dL_makes_65 ?_
        obtain ⟨ξ3, eξ3⟩ : ∃ ξ3 : Mem, ξ3 = (upM ξ2 49 ((4 * r) + 2) bb) := ⟨_, rfl⟩
        rw [← eξ3]
        refine v_aload_n 2 K dL_makes_66 rfl ?_
        refine v_iconst K dL_makes_67 ?_
        refine v_iload 8 K dL_makes_68 rfl ?_
        refine v_imul K dL_makes_70 ?_
        refine v_iconst K dL_makes_71 ?_
        refine v_iadd K dL_makes_72 ?_
        refine v_iconst K dL_makes_73 ?_
        refine v_iast (c := 49) ((4 * r) + 3) K isI_49 (by omega) (by omega) dL_makes_74 ?_
        obtain ⟨ξ4, eξ4⟩ : ∃ ξ4 : Mem, ξ4 = (upM ξ3 49 ((4 * r) + 3) 0) := ⟨_, rfl⟩
        rw [← eξ4]
        have h412 : ξ4 1 2 = (r : Int) := by rw [eξ4, upM_off (by omega), eξ3, upM_off (by omega), eξ2, upM_off (by omega), eξ1, upM_off (by omega)]; exact hF1.2.1
        refine v_iload 7 K dL_makes_75 rfl ?_
        refine v_aload_n 0 K dL_makes_77 rfl ?_
        refine v_ldcS K SJ.2.2.2.2.1 dL_makes_78 ?_
        refine v_aload_n 2 K dL_makes_80 rfl ?_
        refine v_iconst K dL_makes_81 ?_
        refine v_iload 8 K dL_makes_82 rfl ?_
        refine v_imul K dL_makes_84 ?_
        refine v_iald (c := 49) (4 * r) K isI_49 (by omega) (by omega) dL_makes_85 ?_
        refine v_top (b := ka) (by rw [eξ4, upM_ne (by omega), eξ3, upM_ne (by omega), eξ2, upM_ne (by omega), eξ1, upM_self]) ?_
        refine v_chc (σ := σ) K SJ (by omega) gL_makes_J0_charAt_5068e ⟨(Nat.le_of_ble_eq_true rfl), (Nat.le_of_ble_eq_true rfl)⟩ (Nat.le_of_ble_eq_true rfl) dL_makes_86 ⟨(Nat.le_of_ble_eq_true rfl), (Nat.le_of_ble_eq_true rfl)⟩ ?_
        refine v_aload_n 2 K dL_makes_89 rfl ?_
        refine v_iconst K dL_makes_90 ?_
        refine v_iload 8 K dL_makes_91 rfl ?_
        refine v_imul K dL_makes_93 ?_
        refine v_iconst K dL_makes_94 ?_
        refine v_iadd K dL_makes_95 ?_
        refine v_iald (c := 49) ((4 * r) + 1) K isI_49 (by omega) (by omega) dL_makes_96 ?_
        refine v_top (b := aa) (by rw [eξ4, upM_ne (by omega), eξ3, upM_ne (by omega), eξ2, upM_self]) ?_
        refine v_aload_n 2 K dL_makes_97 rfl ?_
        refine v_iconst K dL_makes_98 ?_
        refine v_iload 8 K dL_makes_99 rfl ?_
        refine v_imul K dL_makes_101 ?_
        refine v_iconst K dL_makes_102 ?_
        refine v_iadd K dL_makes_103 ?_
        refine v_iald (c := 49) ((4 * r) + 2) K isI_49 (by omega) (by omega) dL_makes_104 ?_
        refine v_top (b := bb) (by rw [eξ4, upM_ne (by omega), eξ3, upM_self]) ?_
        refine v_callSWi (As := [.ref (vAd X 0), .int (iZ (kdc ka)), .int (iZ aa), .int (iZ bb)]) (rest := [.int (iZ 1)]) K 4 (c_L_addResource X.1.2.1 K.2.2.2.2.2.2 _ _ _ ξ4 (kdc ka) aa bb (kdc_is hka) (by omega) (by omega) (by omega)) gL_makes_L_addResource rfl rfl rfl (by decide +kernel) ⟨(Nat.le_of_ble_eq_true rfl), (Nat.le_of_ble_eq_true rfl)⟩ rfl rfl (Nat.le_of_ble_eq_true rfl) dL_makes_105 ⟨(Nat.le_of_ble_eq_true rfl), (Nat.le_of_ble_eq_true rfl)⟩ (fun z105 ξ5 q105 => ?_)
        obtain ⟨hz105, hP5⟩ := q105
        rw [h412] at hz105
        rw [h412, Int.toNat_natCast] at hP5
        refine v_iload 8 K dL_makes_108 rfl ?_
        refine v_icmp_ne 117 K dL_makes_110 (by decide) (by omega) (by omega) (fun c110 => (by exfalso; omega)) (fun c110 => ?_)
        refine v_iconst K dL_makes_113 ?_
        refine v_goto 118 K dL_makes_114 (by decide) ?_
        refine v_iand (z := 1) rfl K dL_makes_118 ?_
        refine v_istore [(7, .int (iZ 1)), (0, .ref (vAd X 0)), (1, .ref (σ.1.1)), (2, .ref (vAd X 49)), (3, .int (iZ (s : Int))), (4, .ref (vAd X 50)), (5, .int (iZ (n : Int))), (6, .ref (vAd X 51)), (8, .int (iZ (r : Int)))] K dL_makes_119 (by decide) rfl ?_
        refine v_iinc 8 [(8, .int (iZ ((r : Int) + 1))), (7, .int (iZ 1)), (0, .ref (vAd X 0)), (1, .ref (σ.1.1)), (2, .ref (vAd X 49)), (3, .int (iZ (s : Int))), (4, .ref (vAd X 50)), (5, .int (iZ (n : Int))), (6, .ref (vAd X 51))] K dL_makes_121 rfl (by decide) rfl ?_
        refine v_goto 6 K dL_makes_124 (by decide) ?_
        refine v_sub [2, 3, 4, 5, 6, 7, 8, 1, 0] rfl ?_
        refine v_eq (lv1 := [(0, .ref (vAd X 0)), (1, .ref (σ.1.1)), (2, .ref (vAd X 49)), (3, .int (iZ (s : Int))), (4, .ref (vAd X 50)), (5, .int (iZ (n : Int))), (6, .ref (vAd X 51)), (7, .int (iZ 1)), (8, .int (iZ (((r + 1) : Nat) : Int)))]) (st1 := []) (v_c0 (v_c0 (v_c0 (v_c0 (v_c0 (v_c0 (v_c0 (v_c0 (v_cI (by first | rfl | omega) rfl))))))))) rfl ?_
        exact ih6 (r + 1) ξ5 (by omega) (by omega) (F1_s hF1 (by omega) hka ⟨haa.1, by omega⟩ ⟨hbb.1, by omega⟩ eξ1 eξ2 eξ3 eξ4 hP5)
  refine v_sub [2, 3, 4, 5, 6, 7, 8, 1, 0] rfl ?_
  refine v_eq (lv1 := [(0, .ref (vAd X 0)), (1, .ref (σ.1.1)), (2, .ref (vAd X 49)), (3, .int (iZ (s : Int))), (4, .ref (vAd X 50)), (5, .int (iZ (n : Int))), (6, .ref (vAd X 51)), (7, .int (iZ 1)), (8, .int (iZ ((0 : Nat) : Int)))]) (st1 := []) (v_c0 (v_c0 (v_c0 (v_c0 (v_c0 (v_c0 (v_c0 (v_c0 (v_cI (by first | rfl | omega) rfl))))))))) rfl ?_
  exact L6 (9 - 0 + 1) 0 μ (by omega) (by omega) hF
theorem c_L_makes (l : Launch) (hl : l.stackTraces = false) (D : va_G) (cy : Nat → ClassId) (ad : Nat → Nat) (μ : Mem) (σ : SX) (s : Nat) (n : Nat) (hs : 2 ≤ s ∧ s ≤ 5) (hn : 1 ≤ n ∧ n ≤ 5) (hF : F1 μ 0) : cIx l yL_makes wsL_makes ({ frames := 8, cells := 15, slots := 90, locals := 127 } : Room) D cy ad μ σ [.ref (ad 0), .ref (σ.1.1), .ref (ad 49), .int (iZ (s : Int)), .ref (ad 50), .int (iZ (n : Int)), .ref (ad 51)] (fun (z : Int) (ν : Mem) => z = 1 ∧ LST ν s n 1) :=
  m_intx (av := (fun ad => [.ref (ad 0), .ref (σ.1.1), .ref (ad 49), .int (iZ (s : Int)), .ref (ad 50), .int (iZ (n : Int)), .ref (ad 51)])) hl (by decide) rfl rfl (Nat.le_of_ble_eq_true rfl) (fun z ν q => (nar_z (by have := q.1; omega)).1) (fun X K SJ hret => b_L_makes s n hs hn hF K SJ hret)
