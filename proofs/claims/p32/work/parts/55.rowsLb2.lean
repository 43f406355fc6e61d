theorem dL_build_197 : decode cL_build 197 = .ok (.aload 4, 2) := by decide +kernel
theorem dL_build_199 : decode cL_build 199 = .ok (.iconst 3, 1) := by decide +kernel
theorem dL_build_200 : decode cL_build 200 = .ok (.iload 7, 2) := by decide +kernel
theorem dL_build_202 : decode cL_build 202 = .ok (.imul, 1) := by decide +kernel
theorem dL_build_203 : decode cL_build 203 = .ok (.iconst 2, 1) := by decide +kernel
theorem dL_build_204 : decode cL_build 204 = .ok (.iadd, 1) := by decide +kernel
theorem dL_build_205 : decode cL_build 205 = .ok (.dup2, 1) := by decide +kernel
theorem dL_build_206 : decode cL_build 206 = .ok (.iaload, 1) := by decide +kernel
theorem dL_build_207 : decode cL_build 207 = .ok (.iconst 1, 1) := by decide +kernel
theorem dL_build_208 : decode cL_build 208 = .ok (.iload 8, 2) := by decide +kernel
theorem dL_build_210 : decode cL_build 210 = .ok (.iconst 4, 1) := by decide +kernel
theorem dL_build_211 : decode cL_build 211 = .ok (.iload 9, 2) := by decide +kernel
theorem dL_build_213 : decode cL_build 213 = .ok (.imul, 1) := by decide +kernel
theorem dL_build_214 : decode cL_build 214 = .ok (.ishr, 1) := by decide +kernel
theorem dL_build_215 : decode cL_build 215 = .ok (.iload 5, 2) := by decide +kernel
theorem dL_build_217 : decode cL_build 217 = .ok (.invokestatic 15, 3) := by decide +kernel
theorem dL_build_220 : decode cL_build 220 = .ok (.ishl, 1) := by decide +kernel
theorem dL_build_221 : decode cL_build 221 = .ok (.ior, 1) := by decide +kernel
theorem dL_build_222 : decode cL_build 222 = .ok (.iastore, 1) := by decide +kernel
theorem dL_build_223 : decode cL_build 223 = .ok (.iinc 9 1, 3) := by decide +kernel
theorem dL_build_226 : decode cL_build 226 = .ok (.goto (-36), 3) := by decide +kernel
theorem dL_build_229 : decode cL_build 229 = .ok (.iload 8, 2) := by decide +kernel
theorem dL_build_231 : decode cL_build 231 = .ok (.bipush 13, 2) := by decide +kernel
theorem dL_build_233 : decode cL_build 233 = .ok (.ishr, 1) := by decide +kernel
theorem dL_build_234 : decode cL_build 234 = .ok (.iconst 3, 1) := by decide +kernel
theorem dL_build_235 : decode cL_build 235 = .ok (.invokestatic 15, 3) := by decide +kernel
theorem dL_build_238 : decode cL_build 238 = .ok (.ifCond .ne 13, 3) := by decide +kernel
theorem dL_build_241 : decode cL_build 241 = .ok (.aload 4, 2) := by decide +kernel
theorem dL_build_243 : decode cL_build 243 = .ok (.iconst 3, 1) := by decide +kernel
theorem dL_build_244 : decode cL_build 244 = .ok (.iload 7, 2) := by decide +kernel
theorem dL_build_246 : decode cL_build 246 = .ok (.imul, 1) := by decide +kernel
theorem dL_build_247 : decode cL_build 247 = .ok (.iconst 2, 1) := by decide +kernel
theorem dL_build_248 : decode cL_build 248 = .ok (.iadd, 1) := by decide +kernel
theorem dL_build_249 : decode cL_build 249 = .ok (.iconst 0, 1) := by decide +kernel
theorem dL_build_250 : decode cL_build 250 = .ok (.iastore, 1) := by decide +kernel
theorem dL_build_251 : decode cL_build 251 = .ok (.iconst 0, 1) := by decide +kernel
theorem dL_build_252 : decode cL_build 252 = .ok (.istore 9, 2) := by decide +kernel
theorem dL_build_254 : decode cL_build 254 = .ok (.iload 9, 2) := by decide +kernel
theorem dL_build_256 : decode cL_build 256 = .ok (.iload 5, 2) := by decide +kernel
theorem dL_build_258 : decode cL_build 258 = .ok (.if_icmp .ge 41, 3) := by decide +kernel
theorem dL_build_261 : decode cL_build 261 = .ok (.aload 4, 2) := by decide +kernel
theorem dL_build_263 : decode cL_build 263 = .ok (.iconst 3, 1) := by decide +kernel
theorem dL_build_264 : decode cL_build 264 = .ok (.iload 7, 2) := by decide +kernel
theorem dL_build_266 : decode cL_build 266 = .ok (.imul, 1) := by decide +kernel
theorem dL_build_267 : decode cL_build 267 = .ok (.iconst 2, 1) := by decide +kernel
theorem dL_build_268 : decode cL_build 268 = .ok (.iadd, 1) := by decide +kernel
theorem dL_build_269 : decode cL_build 269 = .ok (.iaload, 1) := by decide +kernel
theorem dL_build_270 : decode cL_build 270 = .ok (.iload 9, 2) := by decide +kernel
theorem dL_build_272 : decode cL_build 272 = .ok (.ishr, 1) := by decide +kernel
theorem dL_build_273 : decode cL_build 273 = .ok (.iconst 1, 1) := by decide +kernel
theorem dL_build_274 : decode cL_build 274 = .ok (.iand, 1) := by decide +kernel
theorem dL_build_275 : decode cL_build 275 = .ok (.iconst 1, 1) := by decide +kernel
theorem dL_build_276 : decode cL_build 276 = .ok (.if_icmp .ne 17, 3) := by decide +kernel
theorem dL_build_279 : decode cL_build 279 = .ok (.aload_n 0, 1) := by decide +kernel
theorem dL_build_280 : decode cL_build 280 = .ok (.iload 7, 2) := by decide +kernel
theorem dL_build_282 : decode cL_build 282 = .ok (.iload 9, 2) := by decide +kernel
theorem dL_build_284 : decode cL_build 284 = .ok (.iconst 1, 1) := by decide +kernel
theorem dL_build_285 : decode cL_build 285 = .ok (.invokevirtual 25, 3) := by decide +kernel
theorem dL_build_288 : decode cL_build 288 = .ok (.ifCond .eq 5, 3) := by decide +kernel
theorem dL_build_291 : decode cL_build 291 = .ok (.iconst (-1), 1) := by decide +kernel
theorem dL_build_292 : decode cL_build 292 = .ok (.ireturn, 1) := by decide +kernel
theorem dL_build_293 : decode cL_build 293 = .ok (.iinc 9 1, 3) := by decide +kernel
theorem dL_build_296 : decode cL_build 296 = .ok (.goto (-42), 3) := by decide +kernel
theorem dL_build_299 : decode cL_build 299 = .ok (.aload 4, 2) := by decide +kernel
theorem dL_build_301 : decode cL_build 301 = .ok (.iconst 3, 1) := by decide +kernel
theorem dL_build_302 : decode cL_build 302 = .ok (.iload 7, 2) := by decide +kernel
theorem dL_build_304 : decode cL_build 304 = .ok (.imul, 1) := by decide +kernel
theorem dL_build_305 : decode cL_build 305 = .ok (.iconst 1, 1) := by decide +kernel
theorem dL_build_306 : decode cL_build 306 = .ok (.iadd, 1) := by decide +kernel
theorem dL_build_307 : decode cL_build 307 = .ok (.iaload, 1) := by decide +kernel
theorem dL_build_308 : decode cL_build 308 = .ok (.ifCond .ne 15, 3) := by decide +kernel
theorem dL_build_311 : decode cL_build 311 = .ok (.aload_n 0, 1) := by decide +kernel
theorem dL_build_312 : decode cL_build 312 = .ok (.iload 7, 2) := by decide +kernel
theorem dL_build_314 : decode cL_build 314 = .ok (.iconst 0, 1) := by decide +kernel
theorem dL_build_315 : decode cL_build 315 = .ok (.invokevirtual 29, 3) := by decide +kernel
theorem dL_build_318 : decode cL_build 318 = .ok (.ifCond .ne 5, 3) := by decide +kernel
theorem dL_build_321 : decode cL_build 321 = .ok (.iconst (-1), 1) := by decide +kernel
theorem dL_build_322 : decode cL_build 322 = .ok (.ireturn, 1) := by decide +kernel
theorem dL_build_323 : decode cL_build 323 = .ok (.iinc 7 1, 3) := by decide +kernel
theorem dL_build_326 : decode cL_build 326 = .ok (.goto (-180), 3) := by decide +kernel
theorem dL_build_329 : decode cL_build 329 = .ok (.aload 4, 2) := by decide +kernel
theorem dL_build_331 : decode cL_build 331 = .ok (.bipush 36, 2) := by decide +kernel
theorem dL_build_333 : decode cL_build 333 = .ok (.aload_n 1, 1) := by decide +kernel
theorem dL_build_334 : decode cL_build 334 = .ok (.iload_n 2, 1) := by decide +kernel
theorem dL_build_335 : decode cL_build 335 = .ok (.invokestatic 9, 3) := by decide +kernel
theorem dL_build_338 : decode cL_build 338 = .ok (.bipush 7, 2) := by decide +kernel
theorem dL_build_340 : decode cL_build 340 = .ok (.ishr, 1) := by decide +kernel
theorem dL_build_341 : decode cL_build 341 = .ok (.iconst 3, 1) := by decide +kernel
theorem dL_build_342 : decode cL_build 342 = .ok (.invokestatic 15, 3) := by decide +kernel
theorem dL_build_345 : decode cL_build 345 = .ok (.ifCond .ne 19, 3) := by decide +kernel
theorem dL_build_348 : decode cL_build 348 = .ok (.aload_n 1, 1) := by decide +kernel
theorem dL_build_349 : decode cL_build 349 = .ok (.iload_n 2, 1) := by decide +kernel
theorem dL_build_350 : decode cL_build 350 = .ok (.invokestatic 9, 3) := by decide +kernel
theorem dL_build_353 : decode cL_build 353 = .ok (.bipush 9, 2) := by decide +kernel
theorem dL_build_355 : decode cL_build 355 = .ok (.ishr, 1) := by decide +kernel
theorem dL_build_356 : decode cL_build 356 = .ok (.bipush 10, 2) := by decide +kernel
theorem dL_build_358 : decode cL_build 358 = .ok (.invokestatic 15, 3) := by decide +kernel
theorem dL_build_361 : decode cL_build 361 = .ok (.goto 5, 3) := by decide +kernel
theorem dL_build_364 : decode cL_build 364 = .ok (.bipush 9, 2) := by decide +kernel
theorem dL_build_366 : decode cL_build 366 = .ok (.iastore, 1) := by decide +kernel
theorem dL_build_367 : decode cL_build 367 = .ok (.aload_n 0, 1) := by decide +kernel
theorem dL_build_368 : decode cL_build 368 = .ok (.aload 4, 2) := by decide +kernel
theorem dL_build_370 : decode cL_build 370 = .ok (.bipush 36, 2) := by decide +kernel
theorem dL_build_372 : decode cL_build 372 = .ok (.iaload, 1) := by decide +kernel
theorem dL_build_373 : decode cL_build 373 = .ok (.invokevirtual 33, 3) := by decide +kernel
theorem dL_build_376 : decode cL_build 376 = .ok (.bipush 9, 2) := by decide +kernel
theorem dL_build_378 : decode cL_build 378 = .ok (.if_icmp .ne 17, 3) := by decide +kernel
theorem dL_build_381 : decode cL_build 381 = .ok (.aload_n 0, 1) := by decide +kernel
theorem dL_build_382 : decode cL_build 382 = .ok (.invokevirtual 36, 3) := by decide +kernel
theorem dL_build_385 : decode cL_build 385 = .ok (.iload 5, 2) := by decide +kernel
theorem dL_build_387 : decode cL_build 387 = .ok (.if_icmp .ne 8, 3) := by decide +kernel
theorem dL_build_390 : decode cL_build 390 = .ok (.iload 5, 2) := by decide +kernel
theorem dL_build_392 : decode cL_build 392 = .ok (.goto 4, 3) := by decide +kernel
theorem dL_build_395 : decode cL_build 395 = .ok (.iconst (-1), 1) := by decide +kernel
theorem dL_build_396 : decode cL_build 396 = .ok (.ireturn, 1) := by decide +kernel
set_option maxRecDepth 20000 in
theorem ggL_build_L_cell : GoodIn wsL_build wsL_cell := goodIn_r _ [4, 5] (by decide +kernel) (by decide +kernel)
set_option maxRecDepth 20000 in
theorem gL_build_L_cell : GoodIn wsL_build (va_wsS RL 9 yL_cell wsL_cell) := goodIn_app (goodIn_of _ (by decide +kernel)) ggL_build_L_cell
set_option maxRecDepth 20000 in
theorem ggL_build_L_below : GoodIn wsL_build wsL_below := goodIn_r _ [8, 9] (by decide +kernel) (by decide +kernel)
set_option maxRecDepth 20000 in
theorem gL_build_L_below : GoodIn wsL_build (va_wsS RL 15 yL_below wsL_below) := goodIn_app (goodIn_of _ (by decide +kernel)) ggL_build_L_below
set_option maxRecDepth 20000 in
theorem ggL_build_X3_addArgument : GoodIn wsL_build wsX3_addArgument := goodIn_ca (goodIn_ca (goodIn_r _ [14, 15, 16, 17, 18, 19, 20, 21, 13, 22, 23, 24, 25, 26, 27, 28, 29, 30, 31, 32, 33, 34, 35, 36, 37, 38, 39, 40, 41, 42, 43, 44, 45, 46, 47, 48, 49, 50, 51, 52, 80, 81, 82, 83, 84, 85, 86, 87, 88, 89, 90, 91, 92] (by decide +kernel) (by decide +kernel)) (goodIn_sub (fun _ h => List.mem_cons_of_mem _ (List.mem_append_left _ (List.mem_append_left _ (List.mem_append_right _ h)))) (by decide +kernel))) (goodIn_sub (fun _ h => List.mem_cons_of_mem _ (List.mem_append_left _ (List.mem_append_right _ h))) (by decide +kernel))
set_option maxRecDepth 20000 in
theorem gL_build_X3_addArgument : GoodIn wsL_build (wsV RL 19 RX3 yX3_addArgument wsX3_addArgument) := goodIn_app (goodIn_of _ (by decide +kernel)) ggL_build_X3_addArgument
set_option maxRecDepth 20000 in
theorem ggL_build_X3_attack : GoodIn wsL_build wsX3_attack := goodIn_ca (goodIn_r _ [56, 33, 57, 58, 59, 13, 60, 61, 62, 17, 63, 45, 46, 64, 65, 66, 25, 26, 27, 28, 29, 30, 31, 32, 18, 19, 34, 35, 36, 37, 38, 39, 40, 41, 42, 43, 44, 47, 48, 49, 50, 51, 52, 67, 80, 81, 82, 83, 84, 85, 86, 87, 88, 89, 90, 91, 92] (by decide +kernel) (by decide +kernel)) (goodIn_sub (fun _ h => List.mem_cons_of_mem _ (List.mem_append_right _ h)) (by decide +kernel))
set_option maxRecDepth 20000 in
theorem gL_build_X3_attack : GoodIn wsL_build (wsV RL 25 RX3 yX3_attack wsX3_attack) := goodIn_app (goodIn_of _ (by decide +kernel)) ggL_build_X3_attack
set_option maxRecDepth 20000 in
theorem ggL_build_X3_put : GoodIn wsL_build wsX3_put := goodIn_ca (goodIn_r _ [71, 19, 57, 58, 59, 13, 60, 61, 62, 17, 67, 47, 48, 64, 65, 66, 28, 29, 30, 31, 32, 18, 33, 34, 35, 36, 37, 38, 39, 40, 41, 42, 43, 44, 26, 27, 45, 46, 49, 50, 51, 52, 80, 81, 82, 83, 84, 85, 86, 87, 88, 89, 90, 91, 92] (by decide +kernel) (by decide +kernel)) (goodIn_sub (fun _ h => List.mem_cons_of_mem _ (List.mem_append_right _ h)) (by decide +kernel))
set_option maxRecDepth 20000 in
theorem gL_build_X3_put : GoodIn wsL_build (wsV RL 29 RX3 yX3_put wsX3_put) := goodIn_app (goodIn_of _ (by decide +kernel)) ggL_build_X3_put
set_option maxRecDepth 20000 in
theorem ggL_build_X3_setTolerance : GoodIn wsL_build wsX3_setTolerance := goodIn_ca (goodIn_r _ [75, 23, 24, 34, 28, 29, 30, 13, 31, 32, 18, 33, 19, 35, 36, 37, 38, 39, 40, 41, 42, 43, 44, 26, 27, 45, 46, 47, 48, 49, 50, 51, 52, 80, 81, 82, 83, 84, 85, 86, 87, 88, 89, 90, 91, 92] (by decide +kernel) (by decide +kernel)) (goodIn_sub (fun _ h => List.mem_cons_of_mem _ (List.mem_append_left _ (List.mem_append_right _ h))) (by decide +kernel))
set_option maxRecDepth 20000 in
theorem gL_build_X3_setTolerance : GoodIn wsL_build (wsV RL 33 RX3 yX3_setTolerance wsX3_setTolerance) := goodIn_app (goodIn_of _ (by decide +kernel)) ggL_build_X3_setTolerance
set_option maxRecDepth 20000 in
theorem ggL_build_X3_argumentCount : GoodIn wsL_build wsX3_argumentCount := goodIn_r _ [79, 17, 80, 81, 82, 83, 84, 85, 86, 87, 88] (by decide +kernel) (by decide +kernel)
set_option maxRecDepth 20000 in
theorem gL_build_X3_argumentCount : GoodIn wsL_build (wsV RL 36 RX3 yX3_argumentCount wsX3_argumentCount) := goodIn_app (goodIn_of _ (by decide +kernel)) ggL_build_X3_argumentCount
