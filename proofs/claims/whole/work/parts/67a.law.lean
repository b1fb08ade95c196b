theorem dL_law_188 : decode cL_law 188 = .ok (.aload_n 1, 1) := by decide +kernel
theorem dL_law_189 : decode cL_law 189 = .ok (.aload_n 0, 1) := by decide +kernel
theorem dL_law_190 : decode cL_law 190 = .ok (.iload 4, 2) := by decide +kernel
theorem dL_law_192 : decode cL_law 192 = .ok (.iconst 1, 1) := by decide +kernel
theorem dL_law_193 : decode cL_law 193 = .ok (.iadd, 1) := by decide +kernel
theorem dL_law_194 : decode cL_law 194 = .ok (.iaload, 1) := by decide +kernel
theorem dL_law_195 : decode cL_law 195 = .ok (.aload_n 3, 1) := by decide +kernel
set_option maxRecDepth 20000 in
theorem ggL_law_L_begin : GoodIn wsL_law wsL_begin := goodIn_ca (goodIn_ca (goodIn_r _ [100, 101, 102, 103, 104, 105, 2, 106, 25, 107, 108, 109, 110, 111, 112, 113, 114, 115, 116, 117, 16, 15, 118, 119, 120, 121, 122, 123, 11, 12, 124, 125, 126, 127, 128, 129, 130, 131, 132, 133, 134, 135, 136, 137, 138, 13, 139, 140, 141, 142, 143, 144, 145, 146, 147, 148, 149, 150, 151, 152, 153, 154, 155, 156, 157, 158, 159, 915, 916, 917, 918, 919, 920, 854, 855, 856, 857, 858, 859, 860, 921, 922, 923, 924, 925, 926, 927, 928] (by decide +kernel) (by decide +kernel)) (goodIn_sub (fun _ h => List.mem_append_left _ (List.mem_append_left _ (List.mem_append_right _ h))) (by decide +kernel))) (goodIn_sub (fun _ h => List.mem_append_left _ (List.mem_append_right _ h)) (by decide +kernel))
set_option maxRecDepth 20000 in
theorem gL_law_L_begin : GoodIn wsL_law (va_wsS RL 119 yL_begin wsL_begin) := goodIn_app (goodIn_of _ (by decide +kernel)) ggL_law_L_begin
theorem dL_law_196 : decode cL_law 196 = .ok (.invokestatic 119, 3) := by decide +kernel
theorem dL_law_199 : decode cL_law 199 = .ok (.istore 5, 2) := by decide +kernel
theorem dL_law_201 : decode cL_law 201 = .ok (.aload_n 2, 1) := by decide +kernel
theorem dL_law_202 : decode cL_law 202 = .ok (.aload_n 0, 1) := by decide +kernel
theorem dL_law_203 : decode cL_law 203 = .ok (.iload 4, 2) := by decide +kernel
theorem dL_law_205 : decode cL_law 205 = .ok (.iconst 1, 1) := by decide +kernel
theorem dL_law_206 : decode cL_law 206 = .ok (.iadd, 1) := by decide +kernel
theorem dL_law_207 : decode cL_law 207 = .ok (.iaload, 1) := by decide +kernel
set_option maxRecDepth 20000 in
theorem ggL_law_X8_begin : GoodIn wsL_law wsX8_begin := goodIn_r _ [163, 164, 165, 69, 166, 167, 5, 168, 169, 170, 171, 172, 173, 174, 175, 176, 177, 178, 179, 68, 70, 71, 72, 861, 862, 863, 864, 865, 866, 867, 868, 869, 870, 871, 872, 873, 874, 875, 876, 877, 878, 879, 880, 881, 882, 883, 884, 885, 886, 887, 888, 889, 890, 891, 892, 893, 894, 895, 896, 897, 898] (by decide +kernel) (by decide +kernel)
set_option maxRecDepth 20000 in
theorem gL_law_X8_begin : GoodIn wsL_law (wsV RL 124 RX8 yX8_begin wsX8_begin) := goodIn_app (goodIn_of _ (by decide +kernel)) ggL_law_X8_begin
theorem dL_law_208 : decode cL_law 208 = .ok (.invokevirtual 124, 3) := by decide +kernel
theorem dL_law_211 : decode cL_law 211 = .ok (.istore 6, 2) := by decide +kernel
theorem dL_law_213 : decode cL_law 213 = .ok (.aload_n 2, 1) := by decide +kernel
theorem dL_law_214 : decode cL_law 214 = .ok (.invokevirtual 125, 3) := by decide +kernel
theorem dL_law_217 : decode cL_law 217 = .ok (.iload 5, 2) := by decide +kernel
theorem dL_law_219 : decode cL_law 219 = .ok (.if_icmp .eq 5, 3) := by decide +kernel
theorem dL_law_224 : decode cL_law 224 = .ok (.iload 5, 2) := by decide +kernel
theorem dL_law_226 : decode cL_law 226 = .ok (.ifCond .ne 15, 3) := by decide +kernel
theorem dL_law_241 : decode cL_law 241 = .ok (.goto 1925, 3) := by decide +kernel
theorem dL_law_229 : decode cL_law 229 = .ok (.aload_n 3, 1) := by decide +kernel
theorem dL_law_230 : decode cL_law 230 = .ok (.iconst 0, 1) := by decide +kernel
theorem dL_law_231 : decode cL_law 231 = .ok (.laload, 1) := by decide +kernel
theorem dL_law_232 : decode cL_law 232 = .ok (.iload 6, 2) := by decide +kernel
theorem dL_law_234 : decode cL_law 234 = .ok (.i2l, 1) := by decide +kernel
theorem dL_law_235 : decode cL_law 235 = .ok (.lcmp, 1) := by decide +kernel
theorem dL_law_236 : decode cL_law 236 = .ok (.ifCond .eq 5, 3) := by decide +kernel
theorem dL_law_244 : decode cL_law 244 = .ok (.aload_n 1, 1) := by decide +kernel
theorem dL_law_245 : decode cL_law 245 = .ok (.aload_n 0, 1) := by decide +kernel
theorem dL_law_246 : decode cL_law 246 = .ok (.iload 4, 2) := by decide +kernel
theorem dL_law_248 : decode cL_law 248 = .ok (.iconst 1, 1) := by decide +kernel
theorem dL_law_249 : decode cL_law 249 = .ok (.iadd, 1) := by decide +kernel
theorem dL_law_250 : decode cL_law 250 = .ok (.iaload, 1) := by decide +kernel
theorem dL_law_251 : decode cL_law 251 = .ok (.aload_n 0, 1) := by decide +kernel
theorem dL_law_252 : decode cL_law 252 = .ok (.iload 4, 2) := by decide +kernel
theorem dL_law_254 : decode cL_law 254 = .ok (.iconst 2, 1) := by decide +kernel
theorem dL_law_255 : decode cL_law 255 = .ok (.iadd, 1) := by decide +kernel
theorem dL_law_256 : decode cL_law 256 = .ok (.iaload, 1) := by decide +kernel
theorem dL_law_257 : decode cL_law 257 = .ok (.aload_n 0, 1) := by decide +kernel
theorem dL_law_258 : decode cL_law 258 = .ok (.iload 4, 2) := by decide +kernel
theorem dL_law_260 : decode cL_law 260 = .ok (.iconst 3, 1) := by decide +kernel
theorem dL_law_261 : decode cL_law 261 = .ok (.iadd, 1) := by decide +kernel
theorem dL_law_262 : decode cL_law 262 = .ok (.iaload, 1) := by decide +kernel
theorem dL_law_263 : decode cL_law 263 = .ok (.aload_n 3, 1) := by decide +kernel
set_option maxRecDepth 20000 in
theorem ggL_law_L_set : GoodIn wsL_law wsL_set := goodIn_ca (goodIn_ca (goodIn_ca (goodIn_r _ [186, 101, 187, 102, 188, 189, 190, 2, 191, 192, 193, 116, 117, 194, 195, 196, 197, 110, 111, 16, 198, 199, 200, 201, 154, 155, 202, 203, 204, 126, 205, 139, 206, 207, 208, 209, 141, 210, 211, 212, 213, 214, 215, 216, 217, 218, 219, 130, 220, 148, 145, 146, 147, 149, 221, 222, 223, 224, 225, 226, 227, 119, 228, 127, 133, 229, 151, 152, 153, 156, 157, 158, 159, 140, 915, 916, 917, 918, 919, 920, 854, 855, 856, 857, 858, 859, 860, 921, 922, 923, 924, 925, 926, 927, 928] (by decide +kernel) (by decide +kernel)) (goodIn_sub (fun _ h => List.mem_append_right _ h) (by decide +kernel))) (goodIn_sub (fun _ h => List.mem_append_left _ (List.mem_append_right _ h)) (by decide +kernel))) (goodIn_sub (fun _ h => List.mem_append_left _ (List.mem_append_left _ (List.mem_append_right _ h))) (by decide +kernel))
set_option maxRecDepth 20000 in
theorem gL_law_L_set : GoodIn wsL_law (va_wsS RL 129 yL_set wsL_set) := goodIn_app (goodIn_of _ (by decide +kernel)) ggL_law_L_set
theorem dL_law_264 : decode cL_law 264 = .ok (.invokestatic 129, 3) := by decide +kernel
theorem dL_law_267 : decode cL_law 267 = .ok (.istore 5, 2) := by decide +kernel
theorem dL_law_269 : decode cL_law 269 = .ok (.aload_n 2, 1) := by decide +kernel
theorem dL_law_270 : decode cL_law 270 = .ok (.aload_n 0, 1) := by decide +kernel
theorem dL_law_271 : decode cL_law 271 = .ok (.iload 4, 2) := by decide +kernel
theorem dL_law_273 : decode cL_law 273 = .ok (.iconst 1, 1) := by decide +kernel
theorem dL_law_274 : decode cL_law 274 = .ok (.iadd, 1) := by decide +kernel
theorem dL_law_275 : decode cL_law 275 = .ok (.iaload, 1) := by decide +kernel
theorem dL_law_276 : decode cL_law 276 = .ok (.aload_n 0, 1) := by decide +kernel
theorem dL_law_277 : decode cL_law 277 = .ok (.iload 4, 2) := by decide +kernel
theorem dL_law_279 : decode cL_law 279 = .ok (.iconst 2, 1) := by decide +kernel
theorem dL_law_280 : decode cL_law 280 = .ok (.iadd, 1) := by decide +kernel
theorem dL_law_281 : decode cL_law 281 = .ok (.iaload, 1) := by decide +kernel
theorem dL_law_282 : decode cL_law 282 = .ok (.aload_n 0, 1) := by decide +kernel
theorem dL_law_283 : decode cL_law 283 = .ok (.iload 4, 2) := by decide +kernel
theorem dL_law_285 : decode cL_law 285 = .ok (.iconst 3, 1) := by decide +kernel
theorem dL_law_286 : decode cL_law 286 = .ok (.iadd, 1) := by decide +kernel
theorem dL_law_287 : decode cL_law 287 = .ok (.iaload, 1) := by decide +kernel
set_option maxRecDepth 20000 in
theorem ggL_law_X8_set : GoodIn wsL_law wsX8_set := goodIn_r _ [233, 164, 69, 76, 71, 234, 235, 236, 5, 237, 165, 169, 170, 171, 238, 239, 240, 172, 173, 174, 175, 241, 242, 243, 244, 245, 246, 247, 248, 73, 74, 75, 861, 862, 863, 864, 865, 866, 867, 868, 869, 870, 871, 872, 873, 874, 875, 876, 877, 878, 879, 880, 881, 882, 883, 884, 885, 886, 887, 888, 889, 890, 891, 892, 893, 894, 895, 896, 897, 898] (by decide +kernel) (by decide +kernel)
set_option maxRecDepth 20000 in
theorem gL_law_X8_set : GoodIn wsL_law (wsV RL 132 RX8 yX8_set wsX8_set) := goodIn_app (goodIn_of _ (by decide +kernel)) ggL_law_X8_set
theorem dL_law_288 : decode cL_law 288 = .ok (.invokevirtual 132, 3) := by decide +kernel
theorem dL_law_291 : decode cL_law 291 = .ok (.istore 6, 2) := by decide +kernel
theorem dL_law_293 : decode cL_law 293 = .ok (.aload_n 2, 1) := by decide +kernel
theorem dL_law_294 : decode cL_law 294 = .ok (.invokevirtual 125, 3) := by decide +kernel
theorem dL_law_297 : decode cL_law 297 = .ok (.iload 5, 2) := by decide +kernel
theorem dL_law_299 : decode cL_law 299 = .ok (.if_icmp .eq 5, 3) := by decide +kernel
theorem dL_law_304 : decode cL_law 304 = .ok (.iload 5, 2) := by decide +kernel
theorem dL_law_306 : decode cL_law 306 = .ok (.ifCond .ne 15, 3) := by decide +kernel
theorem dL_law_321 : decode cL_law 321 = .ok (.goto 1845, 3) := by decide +kernel
theorem dL_law_309 : decode cL_law 309 = .ok (.aload_n 3, 1) := by decide +kernel
theorem dL_law_310 : decode cL_law 310 = .ok (.iconst 0, 1) := by decide +kernel
theorem dL_law_311 : decode cL_law 311 = .ok (.laload, 1) := by decide +kernel
theorem dL_law_312 : decode cL_law 312 = .ok (.iload 6, 2) := by decide +kernel
theorem dL_law_314 : decode cL_law 314 = .ok (.i2l, 1) := by decide +kernel
theorem dL_law_315 : decode cL_law 315 = .ok (.lcmp, 1) := by decide +kernel
theorem dL_law_316 : decode cL_law 316 = .ok (.ifCond .eq 5, 3) := by decide +kernel
theorem dL_law_324 : decode cL_law 324 = .ok (.aload_n 1, 1) := by decide +kernel
theorem dL_law_325 : decode cL_law 325 = .ok (.aload_n 0, 1) := by decide +kernel
theorem dL_law_326 : decode cL_law 326 = .ok (.iload 4, 2) := by decide +kernel
theorem dL_law_328 : decode cL_law 328 = .ok (.iconst 1, 1) := by decide +kernel
theorem dL_law_329 : decode cL_law 329 = .ok (.iadd, 1) := by decide +kernel
theorem dL_law_330 : decode cL_law 330 = .ok (.iaload, 1) := by decide +kernel
theorem dL_law_331 : decode cL_law 331 = .ok (.aload_n 0, 1) := by decide +kernel
theorem dL_law_332 : decode cL_law 332 = .ok (.iload 4, 2) := by decide +kernel
theorem dL_law_334 : decode cL_law 334 = .ok (.iconst 2, 1) := by decide +kernel
theorem dL_law_335 : decode cL_law 335 = .ok (.iadd, 1) := by decide +kernel
theorem dL_law_336 : decode cL_law 336 = .ok (.iaload, 1) := by decide +kernel
theorem dL_law_337 : decode cL_law 337 = .ok (.aload_n 3, 1) := by decide +kernel
set_option maxRecDepth 20000 in
theorem ggL_law_L_setStart : GoodIn wsL_law wsL_setStart := goodIn_ca (goodIn_r _ [251, 101, 252, 253, 254, 2, 255, 194, 195, 196, 197, 110, 111, 16, 198, 199, 200, 201, 154, 155, 915, 916, 917, 918, 919, 920, 854, 855, 856, 857, 858, 859, 860] (by decide +kernel) (by decide +kernel)) (goodIn_sub (fun _ h => List.mem_append_left _ (List.mem_append_left _ (List.mem_append_right _ h))) (by decide +kernel))
set_option maxRecDepth 20000 in
theorem gL_law_L_setStart : GoodIn wsL_law (va_wsS RL 133 yL_setStart wsL_setStart) := goodIn_app (goodIn_of _ (by decide +kernel)) ggL_law_L_setStart
theorem dL_law_338 : decode cL_law 338 = .ok (.invokestatic 133, 3) := by decide +kernel
theorem dL_law_341 : decode cL_law 341 = .ok (.istore 5, 2) := by decide +kernel
theorem dL_law_343 : decode cL_law 343 = .ok (.aload_n 2, 1) := by decide +kernel
theorem dL_law_344 : decode cL_law 344 = .ok (.aload_n 0, 1) := by decide +kernel
theorem dL_law_345 : decode cL_law 345 = .ok (.iload 4, 2) := by decide +kernel
theorem dL_law_347 : decode cL_law 347 = .ok (.iconst 1, 1) := by decide +kernel
theorem dL_law_348 : decode cL_law 348 = .ok (.iadd, 1) := by decide +kernel
theorem dL_law_349 : decode cL_law 349 = .ok (.iaload, 1) := by decide +kernel
theorem dL_law_350 : decode cL_law 350 = .ok (.aload_n 0, 1) := by decide +kernel
theorem dL_law_351 : decode cL_law 351 = .ok (.iload 4, 2) := by decide +kernel
theorem dL_law_353 : decode cL_law 353 = .ok (.iconst 2, 1) := by decide +kernel
theorem dL_law_354 : decode cL_law 354 = .ok (.iadd, 1) := by decide +kernel
theorem dL_law_355 : decode cL_law 355 = .ok (.iaload, 1) := by decide +kernel
set_option maxRecDepth 20000 in
theorem ggL_law_X8_setStart : GoodIn wsL_law wsX8_setStart := goodIn_r _ [259, 164, 70, 71, 234, 235, 236, 5, 237, 165, 169, 170, 171, 238, 239, 240, 172, 173, 174, 175, 861, 862, 863, 864, 865, 866, 867, 868, 869, 870, 871, 872, 873, 874, 875, 876, 877, 878, 879, 880, 881, 882, 883, 884, 885, 886, 887, 888, 889, 890, 891, 892, 893, 894, 895, 896, 897, 898] (by decide +kernel) (by decide +kernel)
set_option maxRecDepth 20000 in
theorem gL_law_X8_setStart : GoodIn wsL_law (wsV RL 136 RX8 yX8_setStart wsX8_setStart) := goodIn_app (goodIn_of _ (by decide +kernel)) ggL_law_X8_setStart
theorem dL_law_356 : decode cL_law 356 = .ok (.invokevirtual 136, 3) := by decide +kernel
theorem dL_law_359 : decode cL_law 359 = .ok (.istore 6, 2) := by decide +kernel
theorem dL_law_361 : decode cL_law 361 = .ok (.aload_n 2, 1) := by decide +kernel
theorem dL_law_362 : decode cL_law 362 = .ok (.invokevirtual 125, 3) := by decide +kernel
theorem dL_law_365 : decode cL_law 365 = .ok (.iload 5, 2) := by decide +kernel
theorem dL_law_367 : decode cL_law 367 = .ok (.if_icmp .eq 5, 3) := by decide +kernel
theorem dL_law_372 : decode cL_law 372 = .ok (.iload 5, 2) := by decide +kernel
theorem dL_law_374 : decode cL_law 374 = .ok (.ifCond .ne 15, 3) := by decide +kernel
theorem dL_law_389 : decode cL_law 389 = .ok (.goto 1777, 3) := by decide +kernel
theorem dL_law_377 : decode cL_law 377 = .ok (.aload_n 3, 1) := by decide +kernel
theorem dL_law_378 : decode cL_law 378 = .ok (.iconst 0, 1) := by decide +kernel
theorem dL_law_379 : decode cL_law 379 = .ok (.laload, 1) := by decide +kernel
theorem dL_law_380 : decode cL_law 380 = .ok (.iload 6, 2) := by decide +kernel
theorem dL_law_382 : decode cL_law 382 = .ok (.i2l, 1) := by decide +kernel
theorem dL_law_383 : decode cL_law 383 = .ok (.lcmp, 1) := by decide +kernel
theorem dL_law_384 : decode cL_law 384 = .ok (.ifCond .eq 5, 3) := by decide +kernel
theorem dL_law_392 : decode cL_law 392 = .ok (.aload_n 1, 1) := by decide +kernel
theorem dL_law_393 : decode cL_law 393 = .ok (.aload_n 0, 1) := by decide +kernel
theorem dL_law_394 : decode cL_law 394 = .ok (.iload 4, 2) := by decide +kernel
theorem dL_law_396 : decode cL_law 396 = .ok (.iconst 1, 1) := by decide +kernel
theorem dL_law_397 : decode cL_law 397 = .ok (.iadd, 1) := by decide +kernel
theorem dL_law_398 : decode cL_law 398 = .ok (.iaload, 1) := by decide +kernel
theorem dL_law_399 : decode cL_law 399 = .ok (.aload_n 3, 1) := by decide +kernel
set_option maxRecDepth 20000 in
theorem ggL_law_L_undo : GoodIn wsL_law wsL_undo := goodIn_ca (goodIn_ca (goodIn_r _ [262, 101, 102, 263, 264, 265, 2, 266, 116, 117, 194, 195, 196, 197, 110, 111, 16, 267, 268, 269, 130, 270, 148, 149, 271, 272, 273, 274, 145, 275, 276, 277, 278, 279, 280, 281, 282, 146, 225, 226, 227, 119, 228, 127, 133, 229, 151, 152, 126, 153, 139, 154, 155, 156, 157, 158, 159, 140, 141, 915, 916, 917, 918, 919, 920, 924, 925, 926, 927, 928, 854, 855, 856, 857, 858, 859, 860, 921, 922, 923] (by decide +kernel) (by decide +kernel)) (goodIn_sub (fun _ h => List.mem_append_left _ (List.mem_append_right _ h)) (by decide +kernel))) (goodIn_sub (fun _ h => List.mem_append_left _ (List.mem_append_left _ (List.mem_append_right _ h))) (by decide +kernel))
set_option maxRecDepth 20000 in
theorem gL_law_L_undo : GoodIn wsL_law (va_wsS RL 137 yL_undo wsL_undo) := goodIn_app (goodIn_of _ (by decide +kernel)) ggL_law_L_undo
theorem dL_law_400 : decode cL_law 400 = .ok (.invokestatic 137, 3) := by decide +kernel
theorem dL_law_403 : decode cL_law 403 = .ok (.istore 5, 2) := by decide +kernel
theorem dL_law_405 : decode cL_law 405 = .ok (.aload_n 2, 1) := by decide +kernel
theorem dL_law_406 : decode cL_law 406 = .ok (.aload_n 0, 1) := by decide +kernel
theorem dL_law_407 : decode cL_law 407 = .ok (.iload 4, 2) := by decide +kernel
theorem dL_law_409 : decode cL_law 409 = .ok (.iconst 1, 1) := by decide +kernel
theorem dL_law_410 : decode cL_law 410 = .ok (.iadd, 1) := by decide +kernel
theorem dL_law_411 : decode cL_law 411 = .ok (.iaload, 1) := by decide +kernel
set_option maxRecDepth 20000 in
theorem ggL_law_X8_undo : GoodIn wsL_law wsX8_undo := goodIn_r _ [286, 164, 73, 77, 76, 74, 78, 75, 69, 71, 234, 235, 236, 5, 237, 165, 169, 170, 171, 172, 173, 174, 175, 861, 862, 863, 864, 865, 866, 867, 868, 869, 870, 871, 872, 873, 874, 875, 876, 877, 878, 879, 880, 881, 882, 883, 884, 885, 886, 887, 888, 889, 890, 891, 892, 893, 894, 895, 896, 897, 898] (by decide +kernel) (by decide +kernel)
set_option maxRecDepth 20000 in
theorem gL_law_X8_undo : GoodIn wsL_law (wsV RL 139 RX8 yX8_undo wsX8_undo) := goodIn_app (goodIn_of _ (by decide +kernel)) ggL_law_X8_undo
theorem dL_law_412 : decode cL_law 412 = .ok (.invokevirtual 139, 3) := by decide +kernel
theorem dL_law_415 : decode cL_law 415 = .ok (.istore 6, 2) := by decide +kernel
theorem dL_law_417 : decode cL_law 417 = .ok (.aload_n 2, 1) := by decide +kernel
theorem dL_law_418 : decode cL_law 418 = .ok (.invokevirtual 125, 3) := by decide +kernel
theorem dL_law_421 : decode cL_law 421 = .ok (.iload 5, 2) := by decide +kernel
theorem dL_law_423 : decode cL_law 423 = .ok (.if_icmp .eq 5, 3) := by decide +kernel
theorem dL_law_428 : decode cL_law 428 = .ok (.iload 5, 2) := by decide +kernel
theorem dL_law_430 : decode cL_law 430 = .ok (.ifCond .ne 15, 3) := by decide +kernel
theorem dL_law_445 : decode cL_law 445 = .ok (.goto 1721, 3) := by decide +kernel
theorem dL_law_433 : decode cL_law 433 = .ok (.aload_n 3, 1) := by decide +kernel
theorem dL_law_434 : decode cL_law 434 = .ok (.iconst 0, 1) := by decide +kernel
theorem dL_law_435 : decode cL_law 435 = .ok (.laload, 1) := by decide +kernel
theorem dL_law_436 : decode cL_law 436 = .ok (.iload 6, 2) := by decide +kernel
theorem dL_law_438 : decode cL_law 438 = .ok (.i2l, 1) := by decide +kernel
theorem dL_law_439 : decode cL_law 439 = .ok (.lcmp, 1) := by decide +kernel
theorem dL_law_440 : decode cL_law 440 = .ok (.ifCond .eq 5, 3) := by decide +kernel
theorem dL_law_448 : decode cL_law 448 = .ok (.aload_n 1, 1) := by decide +kernel
theorem dL_law_449 : decode cL_law 449 = .ok (.aload_n 0, 1) := by decide +kernel
theorem dL_law_450 : decode cL_law 450 = .ok (.iload 4, 2) := by decide +kernel
theorem dL_law_452 : decode cL_law 452 = .ok (.iconst 1, 1) := by decide +kernel
theorem dL_law_453 : decode cL_law 453 = .ok (.iadd, 1) := by decide +kernel
theorem dL_law_454 : decode cL_law 454 = .ok (.iaload, 1) := by decide +kernel
theorem dL_law_455 : decode cL_law 455 = .ok (.aload_n 3, 1) := by decide +kernel
set_option maxRecDepth 20000 in
theorem ggL_law_L_redo : GoodIn wsL_law wsL_redo := goodIn_ca (goodIn_ca (goodIn_r _ [289, 101, 102, 290, 291, 292, 2, 293, 116, 117, 194, 195, 196, 197, 110, 111, 16, 271, 272, 273, 130, 274, 145, 148, 275, 276, 277, 278, 294, 295, 296, 297, 147, 225, 226, 227, 119, 228, 127, 133, 229, 151, 152, 126, 153, 139, 154, 155, 156, 157, 158, 159, 140, 141, 298, 299, 300, 301, 149, 915, 916, 917, 918, 919, 920, 924, 925, 926, 927, 928, 854, 855, 856, 857, 858, 859, 860, 921, 922, 923] (by decide +kernel) (by decide +kernel)) (goodIn_sub (fun _ h => List.mem_append_left _ (List.mem_append_right _ h)) (by decide +kernel))) (goodIn_sub (fun _ h => List.mem_append_left _ (List.mem_append_left _ (List.mem_append_right _ h))) (by decide +kernel))
set_option maxRecDepth 20000 in
theorem gL_law_L_redo : GoodIn wsL_law (va_wsS RL 140 yL_redo wsL_redo) := goodIn_app (goodIn_of _ (by decide +kernel)) ggL_law_L_redo
theorem dL_law_456 : decode cL_law 456 = .ok (.invokestatic 140, 3) := by decide +kernel
theorem dL_law_459 : decode cL_law 459 = .ok (.istore 5, 2) := by decide +kernel
theorem dL_law_461 : decode cL_law 461 = .ok (.aload_n 2, 1) := by decide +kernel
theorem dL_law_462 : decode cL_law 462 = .ok (.aload_n 0, 1) := by decide +kernel
theorem dL_law_463 : decode cL_law 463 = .ok (.iload 4, 2) := by decide +kernel
theorem dL_law_465 : decode cL_law 465 = .ok (.iconst 1, 1) := by decide +kernel
theorem dL_law_466 : decode cL_law 466 = .ok (.iadd, 1) := by decide +kernel
theorem dL_law_467 : decode cL_law 467 = .ok (.iaload, 1) := by decide +kernel
set_option maxRecDepth 20000 in
theorem ggL_law_X8_redo : GoodIn wsL_law wsX8_redo := goodIn_r _ [305, 164, 76, 77, 78, 69, 71, 234, 235, 236, 5, 237, 165, 169, 170, 171, 172, 173, 174, 175, 245, 246, 247, 248, 73, 74, 75, 861, 862, 863, 864, 865, 866, 867, 868, 869, 870, 871, 872, 873, 874, 875, 876, 877, 878, 879, 880, 881, 882, 883, 884, 885, 886, 887, 888, 889, 890, 891, 892, 893, 894, 895, 896, 897, 898] (by decide +kernel) (by decide +kernel)
set_option maxRecDepth 20000 in
theorem gL_law_X8_redo : GoodIn wsL_law (wsV RL 142 RX8 yX8_redo wsX8_redo) := goodIn_app (goodIn_of _ (by decide +kernel)) ggL_law_X8_redo
theorem dL_law_468 : decode cL_law 468 = .ok (.invokevirtual 142, 3) := by decide +kernel
theorem dL_law_471 : decode cL_law 471 = .ok (.istore 6, 2) := by decide +kernel
theorem dL_law_473 : decode cL_law 473 = .ok (.aload_n 2, 1) := by decide +kernel
theorem dL_law_474 : decode cL_law 474 = .ok (.invokevirtual 125, 3) := by decide +kernel
theorem dL_law_477 : decode cL_law 477 = .ok (.iload 5, 2) := by decide +kernel
theorem dL_law_479 : decode cL_law 479 = .ok (.if_icmp .eq 5, 3) := by decide +kernel
theorem dL_law_484 : decode cL_law 484 = .ok (.iload 5, 2) := by decide +kernel
theorem dL_law_486 : decode cL_law 486 = .ok (.ifCond .ne 15, 3) := by decide +kernel
theorem dL_law_501 : decode cL_law 501 = .ok (.goto 1665, 3) := by decide +kernel
theorem dL_law_489 : decode cL_law 489 = .ok (.aload_n 3, 1) := by decide +kernel
theorem dL_law_490 : decode cL_law 490 = .ok (.iconst 0, 1) := by decide +kernel
theorem dL_law_491 : decode cL_law 491 = .ok (.laload, 1) := by decide +kernel
theorem dL_law_492 : decode cL_law 492 = .ok (.iload 6, 2) := by decide +kernel
theorem dL_law_494 : decode cL_law 494 = .ok (.i2l, 1) := by decide +kernel
theorem dL_law_495 : decode cL_law 495 = .ok (.lcmp, 1) := by decide +kernel
theorem dL_law_496 : decode cL_law 496 = .ok (.ifCond .eq 5, 3) := by decide +kernel
theorem dL_law_504 : decode cL_law 504 = .ok (.aload_n 1, 1) := by decide +kernel
theorem dL_law_505 : decode cL_law 505 = .ok (.aload_n 0, 1) := by decide +kernel
theorem dL_law_506 : decode cL_law 506 = .ok (.iload 4, 2) := by decide +kernel
theorem dL_law_508 : decode cL_law 508 = .ok (.iconst 1, 1) := by decide +kernel
theorem dL_law_509 : decode cL_law 509 = .ok (.iadd, 1) := by decide +kernel
theorem dL_law_510 : decode cL_law 510 = .ok (.iaload, 1) := by decide +kernel
theorem dL_law_511 : decode cL_law 511 = .ok (.aload_n 0, 1) := by decide +kernel
theorem dL_law_512 : decode cL_law 512 = .ok (.iload 4, 2) := by decide +kernel
theorem dL_law_514 : decode cL_law 514 = .ok (.iconst 2, 1) := by decide +kernel
theorem dL_law_515 : decode cL_law 515 = .ok (.iadd, 1) := by decide +kernel
theorem dL_law_516 : decode cL_law 516 = .ok (.iaload, 1) := by decide +kernel
theorem dL_law_517 : decode cL_law 517 = .ok (.aload_n 3, 1) := by decide +kernel
set_option maxRecDepth 20000 in
theorem ggL_law_L_setSpring : GoodIn wsL_law wsL_setSpring := goodIn_ca (goodIn_ca (goodIn_r _ [308, 101, 187, 309, 310, 311, 2, 312, 192, 193, 14, 26, 24, 313, 314, 315, 110, 111, 316, 317, 318, 319, 18, 320, 321, 322, 126, 323, 139, 324, 325, 326, 23, 327, 43, 38, 39, 328, 329, 330, 331, 37, 36, 332, 333, 334, 42, 335, 49, 50, 51, 336, 337, 338, 339, 48, 154, 155, 340, 203, 204, 205, 341, 342, 343, 344, 140, 345, 346, 347, 348, 349, 350, 351, 352, 353, 354, 355, 356, 34, 357, 358, 359, 360, 33, 361, 362, 363, 364, 365, 366, 367, 368, 369, 370, 371, 372, 373, 374, 375, 376, 377, 378, 379, 380, 381, 382, 383, 384, 385, 386, 387, 388, 389, 390, 391, 392, 393, 394, 395, 396, 397, 52, 398, 399, 400, 401, 402, 403, 404, 405, 20, 406, 407, 408, 409, 25, 194, 195, 196, 197, 16, 854, 855, 856, 857, 858, 859, 860, 929, 930, 931, 932, 933, 934, 935, 936, 921, 922, 923, 899, 900, 901, 902, 903, 904, 905, 910, 911, 912, 913, 914, 906, 907, 908, 909, 915, 916, 917, 918, 919, 920] (by decide +kernel) (by decide +kernel)) (goodIn_sub (fun _ h => List.mem_append_right _ h) (by decide +kernel))) (goodIn_sub (fun _ h => List.mem_append_left _ (List.mem_append_left _ (List.mem_append_right _ h))) (by decide +kernel))
set_option maxRecDepth 20000 in
theorem gL_law_L_setSpring : GoodIn wsL_law (va_wsS RL 143 yL_setSpring wsL_setSpring) := goodIn_app (goodIn_of _ (by decide +kernel)) ggL_law_L_setSpring
theorem dL_law_518 : decode cL_law 518 = .ok (.invokestatic 143, 3) := by decide +kernel
theorem dL_law_521 : decode cL_law 521 = .ok (.istore 5, 2) := by decide +kernel
theorem dL_law_523 : decode cL_law 523 = .ok (.aload_n 2, 1) := by decide +kernel
theorem dL_law_524 : decode cL_law 524 = .ok (.aload_n 0, 1) := by decide +kernel
theorem dL_law_525 : decode cL_law 525 = .ok (.iload 4, 2) := by decide +kernel
theorem dL_law_527 : decode cL_law 527 = .ok (.iconst 1, 1) := by decide +kernel
theorem dL_law_528 : decode cL_law 528 = .ok (.iadd, 1) := by decide +kernel
theorem dL_law_529 : decode cL_law 529 = .ok (.iaload, 1) := by decide +kernel
theorem dL_law_530 : decode cL_law 530 = .ok (.aload_n 0, 1) := by decide +kernel
theorem dL_law_531 : decode cL_law 531 = .ok (.iload 4, 2) := by decide +kernel
theorem dL_law_533 : decode cL_law 533 = .ok (.iconst 2, 1) := by decide +kernel
theorem dL_law_534 : decode cL_law 534 = .ok (.iadd, 1) := by decide +kernel
theorem dL_law_535 : decode cL_law 535 = .ok (.iaload, 1) := by decide +kernel
set_option maxRecDepth 20000 in
theorem ggL_law_X8_setSpring : GoodIn wsL_law wsX8_setSpring := goodIn_r _ [413, 164, 67, 165, 71, 414, 169, 170, 5, 171, 172, 173, 174, 175, 415, 416, 417, 418, 69, 419, 420, 421, 422, 80, 423, 424, 425, 426, 82, 81, 86, 87, 427, 428, 429, 430, 431, 92, 93, 432, 433, 434, 435, 95, 96, 436, 94, 437, 438, 439, 440, 441, 442, 443, 444, 445, 446, 447, 448, 449, 450, 451, 452, 453, 454, 455, 456, 457, 458, 459, 861, 862, 863, 864, 865, 866, 867, 868, 869, 870, 871, 872, 873, 874, 875, 876, 877, 878, 879, 880, 881, 882, 883, 884, 885, 886, 887, 888, 889, 890, 891, 892, 893, 894, 895, 896, 897, 898] (by decide +kernel) (by decide +kernel)
set_option maxRecDepth 20000 in
theorem gL_law_X8_setSpring : GoodIn wsL_law (wsV RL 145 RX8 yX8_setSpring wsX8_setSpring) := goodIn_app (goodIn_of _ (by decide +kernel)) ggL_law_X8_setSpring
theorem dL_law_536 : decode cL_law 536 = .ok (.invokevirtual 145, 3) := by decide +kernel
theorem dL_law_539 : decode cL_law 539 = .ok (.istore 6, 2) := by decide +kernel
theorem dL_law_541 : decode cL_law 541 = .ok (.aload_n 2, 1) := by decide +kernel
theorem dL_law_542 : decode cL_law 542 = .ok (.invokevirtual 125, 3) := by decide +kernel
theorem dL_law_545 : decode cL_law 545 = .ok (.iload 5, 2) := by decide +kernel
theorem dL_law_547 : decode cL_law 547 = .ok (.if_icmp .eq 5, 3) := by decide +kernel
theorem dL_law_552 : decode cL_law 552 = .ok (.iload 5, 2) := by decide +kernel
theorem dL_law_554 : decode cL_law 554 = .ok (.ifCond .ne 15, 3) := by decide +kernel
theorem dL_law_569 : decode cL_law 569 = .ok (.goto 1597, 3) := by decide +kernel
theorem dL_law_557 : decode cL_law 557 = .ok (.aload_n 3, 1) := by decide +kernel
theorem dL_law_558 : decode cL_law 558 = .ok (.iconst 0, 1) := by decide +kernel
theorem dL_law_559 : decode cL_law 559 = .ok (.laload, 1) := by decide +kernel
theorem dL_law_560 : decode cL_law 560 = .ok (.iload 6, 2) := by decide +kernel
theorem dL_law_562 : decode cL_law 562 = .ok (.i2l, 1) := by decide +kernel
theorem dL_law_563 : decode cL_law 563 = .ok (.lcmp, 1) := by decide +kernel
theorem dL_law_564 : decode cL_law 564 = .ok (.ifCond .eq 5, 3) := by decide +kernel

set_option maxRecDepth 100000 in
set_option maxHeartbeats 4000000 in
theorem lc_begin {κ : KX} {D : va_G} {A : Nat → Prop} {nm : String} (C : CX κ "LedgeLevelsLaw" nm cL_law wsL_law { frames := 12, cells := 601024, slots := 7293034, locals := 438 } D A 7) (kn : KN κ) {b x mm ao nS : Nat} {sc : Nat → Int} (xs0 : XS κ b nS sc) {h : vh} {t i n1 n2 : Nat} (hS : Sy D x mm ao h t) (ht : t < 512) (hi : i + 3 < nS) (hnS : nS ≤ 2048) (hsc : ∀ j, -2147483648 ≤ sc j ∧ sc j ≤ 2147483647) (hn : n1 + 500 ≤ 601024 ∧ n2 + 3000 ≤ 7293034) (K : ∀ h9, Sy D x mm ao h9 (t + 1) → X κ (n1 + 500) (n2 + 3000) h9 [(0, .ref b), (1, .ref x), (2, .ref mm), (3, .ref ao), (4, vI ((i : Nat) : Int))] 2166 []) : X κ n1 n2 h [(0, .ref b), (1, .ref x), (2, .ref mm), (3, .ref ao), (4, vI ((i : Nat) : Int))] 188 [] := by
  obtain ⟨ad, c, L, W, am, m, fo, hR, hO, rfl, rfl, hC, hSi, hB⟩ := hS
  obtain ⟨p1, hp1⟩ : ∃ p9, p9 = sc (Int.toNat (((i : Nat) : Int) + 1)) := ⟨_, rfl⟩
  have hr1 : -2147483648 ≤ p1 ∧ p1 ≤ 2147483647 := by rw [hp1]; exact hsc _
  have hb3 := hB.2.2
  refine x_aload_n C dL_law_188 1 rfl ?_
  refine x_aload_n C dL_law_189 0 rfl ?_
  refine x_iload C dL_law_190 4 rfl ?_
  refine x_iconst C dL_law_192 1 (by decide) ?_
  refine x_iadd C dL_law_193 ?_
  refine x_sld C xs0 ⟨by omega, by omega⟩ (by omega) dL_law_194 ?_
  refine x_topv (show sc (Int.toNat (((i : Nat) : Int) + 1)) = p1 from hp1.symm) ?_
  refine x_aload_n C dL_law_195 3 rfl ?_
  refine x_callSh C (n := 3) (As := [.ref (ad 0 0), vI p1, .ref ao]) (rest := []) (c_L_begin (ao := ao) (fo := fo) (c_X7_begin hR hC (by omega)) (hR.1 0 0 (lv0 (by decide))) (fun rv h9 hp => by obtain ⟨y0, rfl, hcp, hg, _⟩ := hp; exact ⟨_, rfl, (hO.gr hg hcp.2).2.1⟩) (fun E h9 hx => by obtain ⟨_, hx⟩ := hx; rcases hx with ⟨rfl, q⟩ | ⟨rfl, q⟩ | ⟨rfl, q⟩ <;> first | exact q.elim | exact rfl | exact Or.inl rfl | exact Or.inr rfl | exact Or.inr (Or.inl rfl) | exact Or.inr (Or.inr rfl))) kn gL_law_L_begin (by decide +kernel) rfl rfl rfl (Nat.le_of_ble_eq_true rfl) ⟨by decide, by decide⟩ ⟨by dsimp only; omega, by dsimp only; omega⟩ dL_law_196 (fun rv h1 hp => ?_)
  obtain ⟨k, ad1, c1, L1, W1, fo1, rfl, hk, hR1, hO1, hx1, hB1, hA⟩ := hr_begin hO rfl hR hC hSi hB rv h1 hp
  refine x_istore C (ls' := [(0, .ref b), (1, .ref (ad 0 0)), (2, .ref (am 0 0)), (3, .ref ao), (4, vI ((i : Nat) : Int))] ++ [(5, vI k)]) dL_law_199 (by decide) rfl ?_
  refine x_aload_n C dL_law_201 2 rfl ?_
  refine x_aload_n C dL_law_202 0 rfl ?_
  refine x_iload C dL_law_203 4 rfl ?_
  refine x_iconst C dL_law_205 1 (by decide) ?_
  refine x_iadd C dL_law_206 ?_
  refine x_sld C xs0 ⟨by omega, by omega⟩ (by omega) dL_law_207 ?_
  refine x_topv (show sc (Int.toNat (((i : Nat) : Int) + 1)) = p1 from hp1.symm) ?_
  refine x_callV C (n := 1) (qc := (RX8, TX8, 38)) (As := [vI p1]) (rest := []) (c_X8_begin hO1.1 (hSi.mk1 hC) (by omega)) gL_law_X8_begin (by decide +kernel) (hO1.1.1 0 0 (lm0 (by decide))) rfl rfl rfl rfl (Nat.le_of_ble_eq_true rfl) ⟨by decide, by decide⟩ ⟨by dsimp only; omega, by dsimp only; omega⟩ dL_law_208 (fun rv2 h2 hp2 => ?_)
  obtain ⟨r, m1, rfl, hM, hPR⟩ := hp2
  obtain ⟨a1, a2, a3, a4⟩ := hA r m1 hPR
  obtain ⟨hR2, hO2⟩ := hO1.mp hR1 hM
  refine x_istore C (ls' := [(0, .ref b), (1, .ref (ad 0 0)), (2, .ref (am 0 0)), (3, .ref ao), (4, vI ((i : Nat) : Int))] ++ [(5, vI k), (6, vI r)]) dL_law_211 (by decide) rfl ?_
  refine x_aload_n C dL_law_213 2 rfl ?_
  refine x_callV C (n := 0) (qc := (RX8, TX8, 38)) (As := []) (rest := []) (c_X8_thrown hO2.1) gL_law_X8_thrown (by decide +kernel) (hO2.1.1 0 0 (lm0 (by decide))) rfl rfl rfl rfl (Nat.le_of_ble_eq_true rfl) ⟨by decide, by decide⟩ ⟨by dsimp only; omega, by dsimp only; omega⟩ dL_law_214 (fun rv3 h3 hp3 => ?_)
  obtain ⟨rfl, rfl⟩ := hp3
  refine x_topv (show m1 0 0 0 = k from a1) ?_
  refine x_iload C dL_law_217 5 rfl ?_
  refine x_icmp_eq (tgt := 224) C dL_law_219 (by decide) (by omega) (by omega) (fun _ => ?_) (fun z1 => absurd rfl z1)
  refine x_iload C dL_law_224 5 rfl ?_
  refine x_if_ne (tgt := 241) C dL_law_226 (by decide) (by omega) (fun z1 => ?_) (fun z1 => ?_)
  · refine x_goto (tgt := 2166) C dL_law_241 (by decide) ?_
    refine x_sub [0, 1, 2, 3, 4] (ls' := [(0, .ref b), (1, .ref (ad 0 0)), (2, .ref (am 0 0)), (3, .ref ao), (4, vI ((i : Nat) : Int))]) rfl ?_
    refine x_widen (m1 := n1 + 500) (m2 := n2 + 3000) (by dsimp only; omega) (by dsimp only; omega) ?_
    exact K _ ⟨ad1, c1, L1, W1, am, m1, fo1, hR2, hO2, hx1, rfl, a4, a2, hB1⟩
  · refine x_aload_n C dL_law_229 3 rfl ?_
    refine x_iconst C dL_law_230 0 (by decide) ?_
    refine x_lald C hO2.2.1 ⟨by decide, by decide⟩ (by decide) dL_law_231 ?_
    refine x_iload C dL_law_232 6 rfl ?_
    refine x_i2l C dL_law_234 ?_
    refine x_lcmp C dL_law_235 (a3 (by omega)) ?_
    refine x_if_eq (tgt := 241) C dL_law_236 (by decide) (by omega) (fun _ => ?_) (fun z2 => absurd rfl z2)
    refine x_goto (tgt := 2166) C dL_law_241 (by decide) ?_
    refine x_sub [0, 1, 2, 3, 4] (ls' := [(0, .ref b), (1, .ref (ad 0 0)), (2, .ref (am 0 0)), (3, .ref ao), (4, vI ((i : Nat) : Int))]) rfl ?_
    refine x_widen (m1 := n1 + 500) (m2 := n2 + 3000) (by dsimp only; omega) (by dsimp only; omega) ?_
    exact K _ ⟨ad1, c1, L1, W1, am, m1, fo1, hR2, hO2, hx1, rfl, a4, a2, hB1⟩

set_option maxRecDepth 100000 in
set_option maxHeartbeats 4000000 in
theorem lc_set {κ : KX} {D : va_G} {A : Nat → Prop} {nm : String} (C : CX κ "LedgeLevelsLaw" nm cL_law wsL_law { frames := 12, cells := 601024, slots := 7293034, locals := 438 } D A 7) (kn : KN κ) {b x mm ao nS : Nat} {sc : Nat → Int} (xs0 : XS κ b nS sc) {h : vh} {t i n1 n2 : Nat} (hS : Sy D x mm ao h t) (ht : t < 512) (hi : i + 3 < nS) (hnS : nS ≤ 2048) (hsc : ∀ j, -2147483648 ≤ sc j ∧ sc j ≤ 2147483647) (hn : n1 + 500 ≤ 601024 ∧ n2 + 3000 ≤ 7293034) (K : ∀ h9, Sy D x mm ao h9 (t + 1) → X κ (n1 + 500) (n2 + 3000) h9 [(0, .ref b), (1, .ref x), (2, .ref mm), (3, .ref ao), (4, vI ((i : Nat) : Int))] 2166 []) : X κ n1 n2 h [(0, .ref b), (1, .ref x), (2, .ref mm), (3, .ref ao), (4, vI ((i : Nat) : Int))] 244 [] := by
  obtain ⟨ad, c, L, W, am, m, fo, hR, hO, rfl, rfl, hC, hSi, hB⟩ := hS
  obtain ⟨p1, hp1⟩ : ∃ p9, p9 = sc (Int.toNat (((i : Nat) : Int) + 1)) := ⟨_, rfl⟩
  have hr1 : -2147483648 ≤ p1 ∧ p1 ≤ 2147483647 := by rw [hp1]; exact hsc _
  obtain ⟨p2, hp2⟩ : ∃ p9, p9 = sc (Int.toNat (((i : Nat) : Int) + 2)) := ⟨_, rfl⟩
  have hr2 : -2147483648 ≤ p2 ∧ p2 ≤ 2147483647 := by rw [hp2]; exact hsc _
  obtain ⟨p3, hp3⟩ : ∃ p9, p9 = sc (Int.toNat (((i : Nat) : Int) + 3)) := ⟨_, rfl⟩
  have hr3 : -2147483648 ≤ p3 ∧ p3 ≤ 2147483647 := by rw [hp3]; exact hsc _
  have hb3 := hB.2.2
  refine x_aload_n C dL_law_244 1 rfl ?_
  refine x_aload_n C dL_law_245 0 rfl ?_
  refine x_iload C dL_law_246 4 rfl ?_
  refine x_iconst C dL_law_248 1 (by decide) ?_
  refine x_iadd C dL_law_249 ?_
  refine x_sld C xs0 ⟨by omega, by omega⟩ (by omega) dL_law_250 ?_
  refine x_topv (show sc (Int.toNat (((i : Nat) : Int) + 1)) = p1 from hp1.symm) ?_
  refine x_aload_n C dL_law_251 0 rfl ?_
  refine x_iload C dL_law_252 4 rfl ?_
  refine x_iconst C dL_law_254 2 (by decide) ?_
  refine x_iadd C dL_law_255 ?_
  refine x_sld C xs0 ⟨by omega, by omega⟩ (by omega) dL_law_256 ?_
  refine x_topv (show sc (Int.toNat (((i : Nat) : Int) + 2)) = p2 from hp2.symm) ?_
  refine x_aload_n C dL_law_257 0 rfl ?_
  refine x_iload C dL_law_258 4 rfl ?_
  refine x_iconst C dL_law_260 3 (by decide) ?_
  refine x_iadd C dL_law_261 ?_
  refine x_sld C xs0 ⟨by omega, by omega⟩ (by omega) dL_law_262 ?_
  refine x_topv (show sc (Int.toNat (((i : Nat) : Int) + 3)) = p3 from hp3.symm) ?_
  refine x_aload_n C dL_law_263 3 rfl ?_
  refine x_callSh C (n := 5) (As := [.ref (ad 0 0), vI p1, vI p2, vI p3, .ref ao]) (rest := []) (c_L_set (ao := ao) (fo := fo) (c_X7_set hR hC (by omega) (by omega) (by omega)) (hR.1 0 0 (lv0 (by decide))) (fun rv h9 hp => by obtain ⟨rfl, hcp, _⟩ := hp; exact ⟨_, rfl, (hO.fr hcp.2).2.1⟩) (fun E h9 hx => by obtain ⟨_, hx⟩ := hx; rcases hx with ⟨rfl, q⟩ | ⟨rfl, q⟩ | ⟨rfl, q⟩ <;> first | exact q.elim | exact rfl | exact Or.inl rfl | exact Or.inr rfl | exact Or.inr (Or.inl rfl) | exact Or.inr (Or.inr rfl))) kn gL_law_L_set (by decide +kernel) rfl rfl rfl (Nat.le_of_ble_eq_true rfl) ⟨by decide, by decide⟩ ⟨by dsimp only; omega, by dsimp only; omega⟩ dL_law_264 (fun rv h1 hp => ?_)
  obtain ⟨k, ad1, c1, L1, W1, fo1, rfl, hk, hR1, hO1, hx1, hB1, hA⟩ := hr_set hO rfl hR hC hSi hB rv h1 hp
  refine x_istore C (ls' := [(0, .ref b), (1, .ref (ad 0 0)), (2, .ref (am 0 0)), (3, .ref ao), (4, vI ((i : Nat) : Int))] ++ [(5, vI k)]) dL_law_267 (by decide) rfl ?_
  refine x_aload_n C dL_law_269 2 rfl ?_
  refine x_aload_n C dL_law_270 0 rfl ?_
  refine x_iload C dL_law_271 4 rfl ?_
  refine x_iconst C dL_law_273 1 (by decide) ?_
  refine x_iadd C dL_law_274 ?_
  refine x_sld C xs0 ⟨by omega, by omega⟩ (by omega) dL_law_275 ?_
  refine x_topv (show sc (Int.toNat (((i : Nat) : Int) + 1)) = p1 from hp1.symm) ?_
  refine x_aload_n C dL_law_276 0 rfl ?_
  refine x_iload C dL_law_277 4 rfl ?_
  refine x_iconst C dL_law_279 2 (by decide) ?_
  refine x_iadd C dL_law_280 ?_
  refine x_sld C xs0 ⟨by omega, by omega⟩ (by omega) dL_law_281 ?_
  refine x_topv (show sc (Int.toNat (((i : Nat) : Int) + 2)) = p2 from hp2.symm) ?_
  refine x_aload_n C dL_law_282 0 rfl ?_
  refine x_iload C dL_law_283 4 rfl ?_
  refine x_iconst C dL_law_285 3 (by decide) ?_
  refine x_iadd C dL_law_286 ?_
  refine x_sld C xs0 ⟨by omega, by omega⟩ (by omega) dL_law_287 ?_
  refine x_topv (show sc (Int.toNat (((i : Nat) : Int) + 3)) = p3 from hp3.symm) ?_
  refine x_callV C (n := 3) (qc := (RX8, TX8, 38)) (As := [vI p1, vI p2, vI p3]) (rest := []) (c_X8_set hO1.1 (hSi.mk1 hC) (by omega) (by omega) (by omega) (hSi.g4 hC) (hSi.un hC)) gL_law_X8_set (by decide +kernel) (hO1.1.1 0 0 (lm0 (by decide))) rfl rfl rfl rfl (Nat.le_of_ble_eq_true rfl) ⟨by decide, by decide⟩ ⟨by dsimp only; omega, by dsimp only; omega⟩ dL_law_288 (fun rv2 h2 hp2 => ?_)
  obtain ⟨r, m1, rfl, hM, hPR⟩ := hp2
  obtain ⟨a1, a2, a3, a4⟩ := hA r m1 hPR
  obtain ⟨hR2, hO2⟩ := hO1.mp hR1 hM
  refine x_istore C (ls' := [(0, .ref b), (1, .ref (ad 0 0)), (2, .ref (am 0 0)), (3, .ref ao), (4, vI ((i : Nat) : Int))] ++ [(5, vI k), (6, vI r)]) dL_law_291 (by decide) rfl ?_
  refine x_aload_n C dL_law_293 2 rfl ?_
  refine x_callV C (n := 0) (qc := (RX8, TX8, 38)) (As := []) (rest := []) (c_X8_thrown hO2.1) gL_law_X8_thrown (by decide +kernel) (hO2.1.1 0 0 (lm0 (by decide))) rfl rfl rfl rfl (Nat.le_of_ble_eq_true rfl) ⟨by decide, by decide⟩ ⟨by dsimp only; omega, by dsimp only; omega⟩ dL_law_294 (fun rv3 h3 hp3 => ?_)
  obtain ⟨rfl, rfl⟩ := hp3
  refine x_topv (show m1 0 0 0 = k from a1) ?_
  refine x_iload C dL_law_297 5 rfl ?_
  refine x_icmp_eq (tgt := 304) C dL_law_299 (by decide) (by omega) (by omega) (fun _ => ?_) (fun z1 => absurd rfl z1)
  refine x_iload C dL_law_304 5 rfl ?_
  refine x_if_ne (tgt := 321) C dL_law_306 (by decide) (by omega) (fun z1 => ?_) (fun z1 => ?_)
  · refine x_goto (tgt := 2166) C dL_law_321 (by decide) ?_
    refine x_sub [0, 1, 2, 3, 4] (ls' := [(0, .ref b), (1, .ref (ad 0 0)), (2, .ref (am 0 0)), (3, .ref ao), (4, vI ((i : Nat) : Int))]) rfl ?_
    refine x_widen (m1 := n1 + 500) (m2 := n2 + 3000) (by dsimp only; omega) (by dsimp only; omega) ?_
    exact K _ ⟨ad1, c1, L1, W1, am, m1, fo1, hR2, hO2, hx1, rfl, a4, a2, hB1⟩
  · refine x_aload_n C dL_law_309 3 rfl ?_
    refine x_iconst C dL_law_310 0 (by decide) ?_
    refine x_lald C hO2.2.1 ⟨by decide, by decide⟩ (by decide) dL_law_311 ?_
    refine x_iload C dL_law_312 6 rfl ?_
    refine x_i2l C dL_law_314 ?_
    refine x_lcmp C dL_law_315 (a3 (by omega)) ?_
    refine x_if_eq (tgt := 321) C dL_law_316 (by decide) (by omega) (fun _ => ?_) (fun z2 => absurd rfl z2)
    refine x_goto (tgt := 2166) C dL_law_321 (by decide) ?_
    refine x_sub [0, 1, 2, 3, 4] (ls' := [(0, .ref b), (1, .ref (ad 0 0)), (2, .ref (am 0 0)), (3, .ref ao), (4, vI ((i : Nat) : Int))]) rfl ?_
    refine x_widen (m1 := n1 + 500) (m2 := n2 + 3000) (by dsimp only; omega) (by dsimp only; omega) ?_
    exact K _ ⟨ad1, c1, L1, W1, am, m1, fo1, hR2, hO2, hx1, rfl, a4, a2, hB1⟩

set_option maxRecDepth 100000 in
set_option maxHeartbeats 4000000 in
theorem lc_setStart {κ : KX} {D : va_G} {A : Nat → Prop} {nm : String} (C : CX κ "LedgeLevelsLaw" nm cL_law wsL_law { frames := 12, cells := 601024, slots := 7293034, locals := 438 } D A 7) (kn : KN κ) {b x mm ao nS : Nat} {sc : Nat → Int} (xs0 : XS κ b nS sc) {h : vh} {t i n1 n2 : Nat} (hS : Sy D x mm ao h t) (ht : t < 512) (hi : i + 3 < nS) (hnS : nS ≤ 2048) (hsc : ∀ j, -2147483648 ≤ sc j ∧ sc j ≤ 2147483647) (hn : n1 + 500 ≤ 601024 ∧ n2 + 3000 ≤ 7293034) (K : ∀ h9, Sy D x mm ao h9 (t + 1) → X κ (n1 + 500) (n2 + 3000) h9 [(0, .ref b), (1, .ref x), (2, .ref mm), (3, .ref ao), (4, vI ((i : Nat) : Int))] 2166 []) : X κ n1 n2 h [(0, .ref b), (1, .ref x), (2, .ref mm), (3, .ref ao), (4, vI ((i : Nat) : Int))] 324 [] := by
  obtain ⟨ad, c, L, W, am, m, fo, hR, hO, rfl, rfl, hC, hSi, hB⟩ := hS
  obtain ⟨p1, hp1⟩ : ∃ p9, p9 = sc (Int.toNat (((i : Nat) : Int) + 1)) := ⟨_, rfl⟩
  have hr1 : -2147483648 ≤ p1 ∧ p1 ≤ 2147483647 := by rw [hp1]; exact hsc _
  obtain ⟨p2, hp2⟩ : ∃ p9, p9 = sc (Int.toNat (((i : Nat) : Int) + 2)) := ⟨_, rfl⟩
  have hr2 : -2147483648 ≤ p2 ∧ p2 ≤ 2147483647 := by rw [hp2]; exact hsc _
  have hb3 := hB.2.2
  refine x_aload_n C dL_law_324 1 rfl ?_
  refine x_aload_n C dL_law_325 0 rfl ?_
  refine x_iload C dL_law_326 4 rfl ?_
  refine x_iconst C dL_law_328 1 (by decide) ?_
  refine x_iadd C dL_law_329 ?_
  refine x_sld C xs0 ⟨by omega, by omega⟩ (by omega) dL_law_330 ?_
  refine x_topv (show sc (Int.toNat (((i : Nat) : Int) + 1)) = p1 from hp1.symm) ?_
  refine x_aload_n C dL_law_331 0 rfl ?_
  refine x_iload C dL_law_332 4 rfl ?_
  refine x_iconst C dL_law_334 2 (by decide) ?_
  refine x_iadd C dL_law_335 ?_
  refine x_sld C xs0 ⟨by omega, by omega⟩ (by omega) dL_law_336 ?_
  refine x_topv (show sc (Int.toNat (((i : Nat) : Int) + 2)) = p2 from hp2.symm) ?_
  refine x_aload_n C dL_law_337 3 rfl ?_
  refine x_callSh C (n := 4) (As := [.ref (ad 0 0), vI p1, vI p2, .ref ao]) (rest := []) (c_L_setStart (ao := ao) (fo := fo) (c_X7_setStart hR hC (by omega) (by omega)) (hR.1 0 0 (lv0 (by decide))) (fun rv h9 hp => by obtain ⟨rfl, hcp, _⟩ := hp; exact ⟨_, rfl, (hO.fr hcp.2).2.1⟩) (fun E h9 hx => by obtain ⟨_, hx⟩ := hx; rcases hx with ⟨rfl, q⟩ | ⟨rfl, q⟩ | ⟨rfl, q⟩ <;> first | exact q.elim | exact rfl | exact Or.inl rfl | exact Or.inr rfl | exact Or.inr (Or.inl rfl) | exact Or.inr (Or.inr rfl))) kn gL_law_L_setStart (by decide +kernel) rfl rfl rfl (Nat.le_of_ble_eq_true rfl) ⟨by decide, by decide⟩ ⟨by dsimp only; omega, by dsimp only; omega⟩ dL_law_338 (fun rv h1 hp => ?_)
  obtain ⟨k, ad1, c1, L1, W1, fo1, rfl, hk, hR1, hO1, hx1, hB1, hA⟩ := hr_setStart hO rfl hR hC hSi hB rv h1 hp
  refine x_istore C (ls' := [(0, .ref b), (1, .ref (ad 0 0)), (2, .ref (am 0 0)), (3, .ref ao), (4, vI ((i : Nat) : Int))] ++ [(5, vI k)]) dL_law_341 (by decide) rfl ?_
  refine x_aload_n C dL_law_343 2 rfl ?_
  refine x_aload_n C dL_law_344 0 rfl ?_
  refine x_iload C dL_law_345 4 rfl ?_
  refine x_iconst C dL_law_347 1 (by decide) ?_
  refine x_iadd C dL_law_348 ?_
  refine x_sld C xs0 ⟨by omega, by omega⟩ (by omega) dL_law_349 ?_
  refine x_topv (show sc (Int.toNat (((i : Nat) : Int) + 1)) = p1 from hp1.symm) ?_
  refine x_aload_n C dL_law_350 0 rfl ?_
  refine x_iload C dL_law_351 4 rfl ?_
  refine x_iconst C dL_law_353 2 (by decide) ?_
  refine x_iadd C dL_law_354 ?_
  refine x_sld C xs0 ⟨by omega, by omega⟩ (by omega) dL_law_355 ?_
  refine x_topv (show sc (Int.toNat (((i : Nat) : Int) + 2)) = p2 from hp2.symm) ?_
  refine x_callV C (n := 2) (qc := (RX8, TX8, 38)) (As := [vI p1, vI p2]) (rest := []) (c_X8_setStart hO1.1 (hSi.mk1 hC) (by omega) (by omega)) gL_law_X8_setStart (by decide +kernel) (hO1.1.1 0 0 (lm0 (by decide))) rfl rfl rfl rfl (Nat.le_of_ble_eq_true rfl) ⟨by decide, by decide⟩ ⟨by dsimp only; omega, by dsimp only; omega⟩ dL_law_356 (fun rv2 h2 hp2 => ?_)
  obtain ⟨r, m1, rfl, hM, hPR⟩ := hp2
  obtain ⟨a1, a2, a3, a4⟩ := hA r m1 hPR
  obtain ⟨hR2, hO2⟩ := hO1.mp hR1 hM
  refine x_istore C (ls' := [(0, .ref b), (1, .ref (ad 0 0)), (2, .ref (am 0 0)), (3, .ref ao), (4, vI ((i : Nat) : Int))] ++ [(5, vI k), (6, vI r)]) dL_law_359 (by decide) rfl ?_
  refine x_aload_n C dL_law_361 2 rfl ?_
  refine x_callV C (n := 0) (qc := (RX8, TX8, 38)) (As := []) (rest := []) (c_X8_thrown hO2.1) gL_law_X8_thrown (by decide +kernel) (hO2.1.1 0 0 (lm0 (by decide))) rfl rfl rfl rfl (Nat.le_of_ble_eq_true rfl) ⟨by decide, by decide⟩ ⟨by dsimp only; omega, by dsimp only; omega⟩ dL_law_362 (fun rv3 h3 hp3 => ?_)
  obtain ⟨rfl, rfl⟩ := hp3
  refine x_topv (show m1 0 0 0 = k from a1) ?_
  refine x_iload C dL_law_365 5 rfl ?_
  refine x_icmp_eq (tgt := 372) C dL_law_367 (by decide) (by omega) (by omega) (fun _ => ?_) (fun z1 => absurd rfl z1)
  refine x_iload C dL_law_372 5 rfl ?_
  refine x_if_ne (tgt := 389) C dL_law_374 (by decide) (by omega) (fun z1 => ?_) (fun z1 => ?_)
  · refine x_goto (tgt := 2166) C dL_law_389 (by decide) ?_
    refine x_sub [0, 1, 2, 3, 4] (ls' := [(0, .ref b), (1, .ref (ad 0 0)), (2, .ref (am 0 0)), (3, .ref ao), (4, vI ((i : Nat) : Int))]) rfl ?_
    refine x_widen (m1 := n1 + 500) (m2 := n2 + 3000) (by dsimp only; omega) (by dsimp only; omega) ?_
    exact K _ ⟨ad1, c1, L1, W1, am, m1, fo1, hR2, hO2, hx1, rfl, a4, a2, hB1⟩
  · refine x_aload_n C dL_law_377 3 rfl ?_
    refine x_iconst C dL_law_378 0 (by decide) ?_
    refine x_lald C hO2.2.1 ⟨by decide, by decide⟩ (by decide) dL_law_379 ?_
    refine x_iload C dL_law_380 6 rfl ?_
    refine x_i2l C dL_law_382 ?_
    refine x_lcmp C dL_law_383 (a3 (by omega)) ?_
    refine x_if_eq (tgt := 389) C dL_law_384 (by decide) (by omega) (fun _ => ?_) (fun z2 => absurd rfl z2)
    refine x_goto (tgt := 2166) C dL_law_389 (by decide) ?_
    refine x_sub [0, 1, 2, 3, 4] (ls' := [(0, .ref b), (1, .ref (ad 0 0)), (2, .ref (am 0 0)), (3, .ref ao), (4, vI ((i : Nat) : Int))]) rfl ?_
    refine x_widen (m1 := n1 + 500) (m2 := n2 + 3000) (by dsimp only; omega) (by dsimp only; omega) ?_
    exact K _ ⟨ad1, c1, L1, W1, am, m1, fo1, hR2, hO2, hx1, rfl, a4, a2, hB1⟩

set_option maxRecDepth 100000 in
set_option maxHeartbeats 4000000 in
theorem lc_undo {κ : KX} {D : va_G} {A : Nat → Prop} {nm : String} (C : CX κ "LedgeLevelsLaw" nm cL_law wsL_law { frames := 12, cells := 601024, slots := 7293034, locals := 438 } D A 7) (kn : KN κ) {b x mm ao nS : Nat} {sc : Nat → Int} (xs0 : XS κ b nS sc) {h : vh} {t i n1 n2 : Nat} (hS : Sy D x mm ao h t) (ht : t < 512) (hi : i + 3 < nS) (hnS : nS ≤ 2048) (hsc : ∀ j, -2147483648 ≤ sc j ∧ sc j ≤ 2147483647) (hn : n1 + 500 ≤ 601024 ∧ n2 + 3000 ≤ 7293034) (K : ∀ h9, Sy D x mm ao h9 (t + 1) → X κ (n1 + 500) (n2 + 3000) h9 [(0, .ref b), (1, .ref x), (2, .ref mm), (3, .ref ao), (4, vI ((i : Nat) : Int))] 2166 []) : X κ n1 n2 h [(0, .ref b), (1, .ref x), (2, .ref mm), (3, .ref ao), (4, vI ((i : Nat) : Int))] 392 [] := by
  obtain ⟨ad, c, L, W, am, m, fo, hR, hO, rfl, rfl, hC, hSi, hB⟩ := hS
  obtain ⟨p1, hp1⟩ : ∃ p9, p9 = sc (Int.toNat (((i : Nat) : Int) + 1)) := ⟨_, rfl⟩
  have hr1 : -2147483648 ≤ p1 ∧ p1 ≤ 2147483647 := by rw [hp1]; exact hsc _
  have hb3 := hB.2.2
  refine x_aload_n C dL_law_392 1 rfl ?_
  refine x_aload_n C dL_law_393 0 rfl ?_
  refine x_iload C dL_law_394 4 rfl ?_
  refine x_iconst C dL_law_396 1 (by decide) ?_
  refine x_iadd C dL_law_397 ?_
  refine x_sld C xs0 ⟨by omega, by omega⟩ (by omega) dL_law_398 ?_
  refine x_topv (show sc (Int.toNat (((i : Nat) : Int) + 1)) = p1 from hp1.symm) ?_
  refine x_aload_n C dL_law_399 3 rfl ?_
  refine x_callSh C (n := 3) (As := [.ref (ad 0 0), vI p1, .ref ao]) (rest := []) (c_L_undo (ao := ao) (fo := fo) (c_X7_undo hR hC (by omega)) (hR.1 0 0 (lv0 (by decide))) (fun rv h9 hp => by obtain ⟨rfl, hcp, _⟩ := hp; exact ⟨_, rfl, (hO.fr hcp.2).2.1⟩) (fun E h9 hx => by obtain ⟨_, hx⟩ := hx; rcases hx with ⟨rfl, q⟩ | ⟨rfl, q⟩ | ⟨rfl, q⟩ <;> first | exact q.elim | exact rfl | exact Or.inl rfl | exact Or.inr rfl | exact Or.inr (Or.inl rfl) | exact Or.inr (Or.inr rfl))) kn gL_law_L_undo (by decide +kernel) rfl rfl rfl (Nat.le_of_ble_eq_true rfl) ⟨by decide, by decide⟩ ⟨by dsimp only; omega, by dsimp only; omega⟩ dL_law_400 (fun rv h1 hp => ?_)
  obtain ⟨k, ad1, c1, L1, W1, fo1, rfl, hk, hR1, hO1, hx1, hB1, hA⟩ := hr_undo hO rfl hR hC hSi hB rv h1 hp
  refine x_istore C (ls' := [(0, .ref b), (1, .ref (ad 0 0)), (2, .ref (am 0 0)), (3, .ref ao), (4, vI ((i : Nat) : Int))] ++ [(5, vI k)]) dL_law_403 (by decide) rfl ?_
  refine x_aload_n C dL_law_405 2 rfl ?_
  refine x_aload_n C dL_law_406 0 rfl ?_
  refine x_iload C dL_law_407 4 rfl ?_
  refine x_iconst C dL_law_409 1 (by decide) ?_
  refine x_iadd C dL_law_410 ?_
  refine x_sld C xs0 ⟨by omega, by omega⟩ (by omega) dL_law_411 ?_
  refine x_topv (show sc (Int.toNat (((i : Nat) : Int) + 1)) = p1 from hp1.symm) ?_
  refine x_callV C (n := 1) (qc := (RX8, TX8, 38)) (As := [vI p1]) (rest := []) (c_X8_undo hO1.1 (hSi.mk1 hC) (by omega) (hSi.un hC) (hSi.uc hC)) gL_law_X8_undo (by decide +kernel) (hO1.1.1 0 0 (lm0 (by decide))) rfl rfl rfl rfl (Nat.le_of_ble_eq_true rfl) ⟨by decide, by decide⟩ ⟨by dsimp only; omega, by dsimp only; omega⟩ dL_law_412 (fun rv2 h2 hp2 => ?_)
  obtain ⟨r, m1, rfl, hM, hPR⟩ := hp2
  obtain ⟨a1, a2, a3, a4⟩ := hA r m1 hPR
  obtain ⟨hR2, hO2⟩ := hO1.mp hR1 hM
  refine x_istore C (ls' := [(0, .ref b), (1, .ref (ad 0 0)), (2, .ref (am 0 0)), (3, .ref ao), (4, vI ((i : Nat) : Int))] ++ [(5, vI k), (6, vI r)]) dL_law_415 (by decide) rfl ?_
  refine x_aload_n C dL_law_417 2 rfl ?_
  refine x_callV C (n := 0) (qc := (RX8, TX8, 38)) (As := []) (rest := []) (c_X8_thrown hO2.1) gL_law_X8_thrown (by decide +kernel) (hO2.1.1 0 0 (lm0 (by decide))) rfl rfl rfl rfl (Nat.le_of_ble_eq_true rfl) ⟨by decide, by decide⟩ ⟨by dsimp only; omega, by dsimp only; omega⟩ dL_law_418 (fun rv3 h3 hp3 => ?_)
  obtain ⟨rfl, rfl⟩ := hp3
  refine x_topv (show m1 0 0 0 = k from a1) ?_
  refine x_iload C dL_law_421 5 rfl ?_
  refine x_icmp_eq (tgt := 428) C dL_law_423 (by decide) (by omega) (by omega) (fun _ => ?_) (fun z1 => absurd rfl z1)
  refine x_iload C dL_law_428 5 rfl ?_
  refine x_if_ne (tgt := 445) C dL_law_430 (by decide) (by omega) (fun z1 => ?_) (fun z1 => ?_)
  · refine x_goto (tgt := 2166) C dL_law_445 (by decide) ?_
    refine x_sub [0, 1, 2, 3, 4] (ls' := [(0, .ref b), (1, .ref (ad 0 0)), (2, .ref (am 0 0)), (3, .ref ao), (4, vI ((i : Nat) : Int))]) rfl ?_
    refine x_widen (m1 := n1 + 500) (m2 := n2 + 3000) (by dsimp only; omega) (by dsimp only; omega) ?_
    exact K _ ⟨ad1, c1, L1, W1, am, m1, fo1, hR2, hO2, hx1, rfl, a4, a2, hB1⟩
  · refine x_aload_n C dL_law_433 3 rfl ?_
    refine x_iconst C dL_law_434 0 (by decide) ?_
    refine x_lald C hO2.2.1 ⟨by decide, by decide⟩ (by decide) dL_law_435 ?_
    refine x_iload C dL_law_436 6 rfl ?_
    refine x_i2l C dL_law_438 ?_
    refine x_lcmp C dL_law_439 (a3 (by omega)) ?_
    refine x_if_eq (tgt := 445) C dL_law_440 (by decide) (by omega) (fun _ => ?_) (fun z2 => absurd rfl z2)
    refine x_goto (tgt := 2166) C dL_law_445 (by decide) ?_
    refine x_sub [0, 1, 2, 3, 4] (ls' := [(0, .ref b), (1, .ref (ad 0 0)), (2, .ref (am 0 0)), (3, .ref ao), (4, vI ((i : Nat) : Int))]) rfl ?_
    refine x_widen (m1 := n1 + 500) (m2 := n2 + 3000) (by dsimp only; omega) (by dsimp only; omega) ?_
    exact K _ ⟨ad1, c1, L1, W1, am, m1, fo1, hR2, hO2, hx1, rfl, a4, a2, hB1⟩

set_option maxRecDepth 100000 in
set_option maxHeartbeats 4000000 in
theorem lc_redo {κ : KX} {D : va_G} {A : Nat → Prop} {nm : String} (C : CX κ "LedgeLevelsLaw" nm cL_law wsL_law { frames := 12, cells := 601024, slots := 7293034, locals := 438 } D A 7) (kn : KN κ) {b x mm ao nS : Nat} {sc : Nat → Int} (xs0 : XS κ b nS sc) {h : vh} {t i n1 n2 : Nat} (hS : Sy D x mm ao h t) (ht : t < 512) (hi : i + 3 < nS) (hnS : nS ≤ 2048) (hsc : ∀ j, -2147483648 ≤ sc j ∧ sc j ≤ 2147483647) (hn : n1 + 500 ≤ 601024 ∧ n2 + 3000 ≤ 7293034) (K : ∀ h9, Sy D x mm ao h9 (t + 1) → X κ (n1 + 500) (n2 + 3000) h9 [(0, .ref b), (1, .ref x), (2, .ref mm), (3, .ref ao), (4, vI ((i : Nat) : Int))] 2166 []) : X κ n1 n2 h [(0, .ref b), (1, .ref x), (2, .ref mm), (3, .ref ao), (4, vI ((i : Nat) : Int))] 448 [] := by
  obtain ⟨ad, c, L, W, am, m, fo, hR, hO, rfl, rfl, hC, hSi, hB⟩ := hS
  obtain ⟨p1, hp1⟩ : ∃ p9, p9 = sc (Int.toNat (((i : Nat) : Int) + 1)) := ⟨_, rfl⟩
  have hr1 : -2147483648 ≤ p1 ∧ p1 ≤ 2147483647 := by rw [hp1]; exact hsc _
  have hb3 := hB.2.2
  refine x_aload_n C dL_law_448 1 rfl ?_
  refine x_aload_n C dL_law_449 0 rfl ?_
  refine x_iload C dL_law_450 4 rfl ?_
  refine x_iconst C dL_law_452 1 (by decide) ?_
  refine x_iadd C dL_law_453 ?_
  refine x_sld C xs0 ⟨by omega, by omega⟩ (by omega) dL_law_454 ?_
  refine x_topv (show sc (Int.toNat (((i : Nat) : Int) + 1)) = p1 from hp1.symm) ?_
  refine x_aload_n C dL_law_455 3 rfl ?_
  refine x_callSh C (n := 3) (As := [.ref (ad 0 0), vI p1, .ref ao]) (rest := []) (c_L_redo (ao := ao) (fo := fo) (c_X7_redo hR hC (by omega)) (hR.1 0 0 (lv0 (by decide))) (fun rv h9 hp => by obtain ⟨rfl, hcp, _⟩ := hp; exact ⟨_, rfl, (hO.fr hcp.2).2.1⟩) (fun E h9 hx => by obtain ⟨_, hx⟩ := hx; rcases hx with ⟨rfl, q⟩ | ⟨rfl, q⟩ | ⟨rfl, q⟩ <;> first | exact q.elim | exact rfl | exact Or.inl rfl | exact Or.inr rfl | exact Or.inr (Or.inl rfl) | exact Or.inr (Or.inr rfl))) kn gL_law_L_redo (by decide +kernel) rfl rfl rfl (Nat.le_of_ble_eq_true rfl) ⟨by decide, by decide⟩ ⟨by dsimp only; omega, by dsimp only; omega⟩ dL_law_456 (fun rv h1 hp => ?_)
  obtain ⟨k, ad1, c1, L1, W1, fo1, rfl, hk, hR1, hO1, hx1, hB1, hA⟩ := hr_redo hO rfl hR hC hSi hB rv h1 hp
  refine x_istore C (ls' := [(0, .ref b), (1, .ref (ad 0 0)), (2, .ref (am 0 0)), (3, .ref ao), (4, vI ((i : Nat) : Int))] ++ [(5, vI k)]) dL_law_459 (by decide) rfl ?_
  refine x_aload_n C dL_law_461 2 rfl ?_
  refine x_aload_n C dL_law_462 0 rfl ?_
  refine x_iload C dL_law_463 4 rfl ?_
  refine x_iconst C dL_law_465 1 (by decide) ?_
  refine x_iadd C dL_law_466 ?_
  refine x_sld C xs0 ⟨by omega, by omega⟩ (by omega) dL_law_467 ?_
  refine x_topv (show sc (Int.toNat (((i : Nat) : Int) + 1)) = p1 from hp1.symm) ?_
  refine x_callV C (n := 1) (qc := (RX8, TX8, 38)) (As := [vI p1]) (rest := []) (c_X8_redo hO1.1 (hSi.mk1 hC) (by omega) (hSi.un hC) (hSi.rc hC)) gL_law_X8_redo (by decide +kernel) (hO1.1.1 0 0 (lm0 (by decide))) rfl rfl rfl rfl (Nat.le_of_ble_eq_true rfl) ⟨by decide, by decide⟩ ⟨by dsimp only; omega, by dsimp only; omega⟩ dL_law_468 (fun rv2 h2 hp2 => ?_)
  obtain ⟨r, m1, rfl, hM, hPR⟩ := hp2
  obtain ⟨a1, a2, a3, a4⟩ := hA r m1 hPR
  obtain ⟨hR2, hO2⟩ := hO1.mp hR1 hM
  refine x_istore C (ls' := [(0, .ref b), (1, .ref (ad 0 0)), (2, .ref (am 0 0)), (3, .ref ao), (4, vI ((i : Nat) : Int))] ++ [(5, vI k), (6, vI r)]) dL_law_471 (by decide) rfl ?_
  refine x_aload_n C dL_law_473 2 rfl ?_
  refine x_callV C (n := 0) (qc := (RX8, TX8, 38)) (As := []) (rest := []) (c_X8_thrown hO2.1) gL_law_X8_thrown (by decide +kernel) (hO2.1.1 0 0 (lm0 (by decide))) rfl rfl rfl rfl (Nat.le_of_ble_eq_true rfl) ⟨by decide, by decide⟩ ⟨by dsimp only; omega, by dsimp only; omega⟩ dL_law_474 (fun rv3 h3 hp3 => ?_)
  obtain ⟨rfl, rfl⟩ := hp3
  refine x_topv (show m1 0 0 0 = k from a1) ?_
  refine x_iload C dL_law_477 5 rfl ?_
  refine x_icmp_eq (tgt := 484) C dL_law_479 (by decide) (by omega) (by omega) (fun _ => ?_) (fun z1 => absurd rfl z1)
  refine x_iload C dL_law_484 5 rfl ?_
  refine x_if_ne (tgt := 501) C dL_law_486 (by decide) (by omega) (fun z1 => ?_) (fun z1 => ?_)
  · refine x_goto (tgt := 2166) C dL_law_501 (by decide) ?_
    refine x_sub [0, 1, 2, 3, 4] (ls' := [(0, .ref b), (1, .ref (ad 0 0)), (2, .ref (am 0 0)), (3, .ref ao), (4, vI ((i : Nat) : Int))]) rfl ?_
    refine x_widen (m1 := n1 + 500) (m2 := n2 + 3000) (by dsimp only; omega) (by dsimp only; omega) ?_
    exact K _ ⟨ad1, c1, L1, W1, am, m1, fo1, hR2, hO2, hx1, rfl, a4, a2, hB1⟩
  · refine x_aload_n C dL_law_489 3 rfl ?_
    refine x_iconst C dL_law_490 0 (by decide) ?_
    refine x_lald C hO2.2.1 ⟨by decide, by decide⟩ (by decide) dL_law_491 ?_
    refine x_iload C dL_law_492 6 rfl ?_
    refine x_i2l C dL_law_494 ?_
    refine x_lcmp C dL_law_495 (a3 (by omega)) ?_
    refine x_if_eq (tgt := 501) C dL_law_496 (by decide) (by omega) (fun _ => ?_) (fun z2 => absurd rfl z2)
    refine x_goto (tgt := 2166) C dL_law_501 (by decide) ?_
    refine x_sub [0, 1, 2, 3, 4] (ls' := [(0, .ref b), (1, .ref (ad 0 0)), (2, .ref (am 0 0)), (3, .ref ao), (4, vI ((i : Nat) : Int))]) rfl ?_
    refine x_widen (m1 := n1 + 500) (m2 := n2 + 3000) (by dsimp only; omega) (by dsimp only; omega) ?_
    exact K _ ⟨ad1, c1, L1, W1, am, m1, fo1, hR2, hO2, hx1, rfl, a4, a2, hB1⟩

set_option maxRecDepth 100000 in
set_option maxHeartbeats 4000000 in
theorem lc_setSpring {κ : KX} {D : va_G} {A : Nat → Prop} {nm : String} (C : CX κ "LedgeLevelsLaw" nm cL_law wsL_law { frames := 12, cells := 601024, slots := 7293034, locals := 438 } D A 7) (kn : KN κ) {b x mm ao nS : Nat} {sc : Nat → Int} (xs0 : XS κ b nS sc) {h : vh} {t i n1 n2 : Nat} (hS : Sy D x mm ao h t) (ht : t < 512) (hi : i + 3 < nS) (hnS : nS ≤ 2048) (hsc : ∀ j, -2147483648 ≤ sc j ∧ sc j ≤ 2147483647) (hn : n1 + 500 ≤ 601024 ∧ n2 + 3000 ≤ 7293034) (K : ∀ h9, Sy D x mm ao h9 (t + 1) → X κ (n1 + 500) (n2 + 3000) h9 [(0, .ref b), (1, .ref x), (2, .ref mm), (3, .ref ao), (4, vI ((i : Nat) : Int))] 2166 []) : X κ n1 n2 h [(0, .ref b), (1, .ref x), (2, .ref mm), (3, .ref ao), (4, vI ((i : Nat) : Int))] 504 [] := by
  obtain ⟨ad, c, L, W, am, m, fo, hR, hO, rfl, rfl, hC, hSi, hB⟩ := hS
  obtain ⟨p1, hp1⟩ : ∃ p9, p9 = sc (Int.toNat (((i : Nat) : Int) + 1)) := ⟨_, rfl⟩
  have hr1 : -2147483648 ≤ p1 ∧ p1 ≤ 2147483647 := by rw [hp1]; exact hsc _
  obtain ⟨p2, hp2⟩ : ∃ p9, p9 = sc (Int.toNat (((i : Nat) : Int) + 2)) := ⟨_, rfl⟩
  have hr2 : -2147483648 ≤ p2 ∧ p2 ≤ 2147483647 := by rw [hp2]; exact hsc _
  have hb3 := hB.2.2
  refine x_aload_n C dL_law_504 1 rfl ?_
  refine x_aload_n C dL_law_505 0 rfl ?_
  refine x_iload C dL_law_506 4 rfl ?_
  refine x_iconst C dL_law_508 1 (by decide) ?_
  refine x_iadd C dL_law_509 ?_
  refine x_sld C xs0 ⟨by omega, by omega⟩ (by omega) dL_law_510 ?_
  refine x_topv (show sc (Int.toNat (((i : Nat) : Int) + 1)) = p1 from hp1.symm) ?_
  refine x_aload_n C dL_law_511 0 rfl ?_
  refine x_iload C dL_law_512 4 rfl ?_
  refine x_iconst C dL_law_514 2 (by decide) ?_
  refine x_iadd C dL_law_515 ?_
  refine x_sld C xs0 ⟨by omega, by omega⟩ (by omega) dL_law_516 ?_
  refine x_topv (show sc (Int.toNat (((i : Nat) : Int) + 2)) = p2 from hp2.symm) ?_
  refine x_aload_n C dL_law_517 3 rfl ?_
  refine x_callSh C (n := 4) (As := [.ref (ad 0 0), vI p1, vI p2, .ref ao]) (rest := []) (c_L_setSpring (ao := ao) (fo := fo) (c_X7_setSpring hR hC (hB.oks (by omega)) (by omega) (by omega) (by omega)) (hR.1 0 0 (lv0 (by decide))) (fun rv h9 hp => by obtain ⟨y0, y1, rfl, hcp, _⟩ := hp; exact ⟨_, rfl, (hO.fr hcp.2).2.1⟩) (fun E h9 hx => by obtain ⟨_, hx⟩ := hx; rcases hx with ⟨rfl, q⟩ | ⟨rfl, q⟩ | ⟨rfl, q⟩ <;> first | exact q.elim | exact rfl | exact Or.inl rfl | exact Or.inr rfl | exact Or.inr (Or.inl rfl) | exact Or.inr (Or.inr rfl))) kn gL_law_L_setSpring (by decide +kernel) rfl rfl rfl (Nat.le_of_ble_eq_true rfl) ⟨by decide, by decide⟩ ⟨by dsimp only; omega, by dsimp only; omega⟩ dL_law_518 (fun rv h1 hp => ?_)
  obtain ⟨k, ad1, c1, L1, W1, fo1, rfl, hk, hR1, hO1, hx1, hB1, hA⟩ := hr_setSpring hO rfl hR hC hSi hB rv h1 hp
  refine x_istore C (ls' := [(0, .ref b), (1, .ref (ad 0 0)), (2, .ref (am 0 0)), (3, .ref ao), (4, vI ((i : Nat) : Int))] ++ [(5, vI k)]) dL_law_521 (by decide) rfl ?_
  refine x_aload_n C dL_law_523 2 rfl ?_
  refine x_aload_n C dL_law_524 0 rfl ?_
  refine x_iload C dL_law_525 4 rfl ?_
  refine x_iconst C dL_law_527 1 (by decide) ?_
  refine x_iadd C dL_law_528 ?_
  refine x_sld C xs0 ⟨by omega, by omega⟩ (by omega) dL_law_529 ?_
  refine x_topv (show sc (Int.toNat (((i : Nat) : Int) + 1)) = p1 from hp1.symm) ?_
  refine x_aload_n C dL_law_530 0 rfl ?_
  refine x_iload C dL_law_531 4 rfl ?_
  refine x_iconst C dL_law_533 2 (by decide) ?_
  refine x_iadd C dL_law_534 ?_
  refine x_sld C xs0 ⟨by omega, by omega⟩ (by omega) dL_law_535 ?_
  refine x_topv (show sc (Int.toNat (((i : Nat) : Int) + 2)) = p2 from hp2.symm) ?_
  refine x_callV C (n := 2) (qc := (RX8, TX8, 38)) (As := [vI p1, vI p2]) (rest := []) (c_X8_setSpring hO1.1 (hSi.mk1 hC) (by omega) (by omega) (hSi.g4 hC) (hSi.pf hC) (hSi.g16 hC) hSi.kw hSi.gk (hSi.ss hC) (hSi.fr hC) (hSi.rb hC)) gL_law_X8_setSpring (by decide +kernel) (hO1.1.1 0 0 (lm0 (by decide))) rfl rfl rfl rfl (Nat.le_of_ble_eq_true rfl) ⟨by decide, by decide⟩ ⟨by dsimp only; omega, by dsimp only; omega⟩ dL_law_536 (fun rv2 h2 hp2 => ?_)
  obtain ⟨r, m1, rfl, hM, hPR⟩ := hp2
  obtain ⟨a1, a2, a3, a4⟩ := hA r m1 hPR
  obtain ⟨hR2, hO2⟩ := hO1.mp hR1 hM
  refine x_istore C (ls' := [(0, .ref b), (1, .ref (ad 0 0)), (2, .ref (am 0 0)), (3, .ref ao), (4, vI ((i : Nat) : Int))] ++ [(5, vI k), (6, vI r)]) dL_law_539 (by decide) rfl ?_
  refine x_aload_n C dL_law_541 2 rfl ?_
  refine x_callV C (n := 0) (qc := (RX8, TX8, 38)) (As := []) (rest := []) (c_X8_thrown hO2.1) gL_law_X8_thrown (by decide +kernel) (hO2.1.1 0 0 (lm0 (by decide))) rfl rfl rfl rfl (Nat.le_of_ble_eq_true rfl) ⟨by decide, by decide⟩ ⟨by dsimp only; omega, by dsimp only; omega⟩ dL_law_542 (fun rv3 h3 hp3 => ?_)
  obtain ⟨rfl, rfl⟩ := hp3
  refine x_topv (show m1 0 0 0 = k from a1) ?_
  refine x_iload C dL_law_545 5 rfl ?_
  refine x_icmp_eq (tgt := 552) C dL_law_547 (by decide) (by omega) (by omega) (fun _ => ?_) (fun z1 => absurd rfl z1)
  refine x_iload C dL_law_552 5 rfl ?_
  refine x_if_ne (tgt := 569) C dL_law_554 (by decide) (by omega) (fun z1 => ?_) (fun z1 => ?_)
  · refine x_goto (tgt := 2166) C dL_law_569 (by decide) ?_
    refine x_sub [0, 1, 2, 3, 4] (ls' := [(0, .ref b), (1, .ref (ad 0 0)), (2, .ref (am 0 0)), (3, .ref ao), (4, vI ((i : Nat) : Int))]) rfl ?_
    refine x_widen (m1 := n1 + 500) (m2 := n2 + 3000) (by dsimp only; omega) (by dsimp only; omega) ?_
    exact K _ ⟨ad1, c1, L1, W1, am, m1, fo1, hR2, hO2, hx1, rfl, a4, a2, hB1⟩
  · refine x_aload_n C dL_law_557 3 rfl ?_
    refine x_iconst C dL_law_558 0 (by decide) ?_
    refine x_lald C hO2.2.1 ⟨by decide, by decide⟩ (by decide) dL_law_559 ?_
    refine x_iload C dL_law_560 6 rfl ?_
    refine x_i2l C dL_law_562 ?_
    refine x_lcmp C dL_law_563 (a3 (by omega)) ?_
    refine x_if_eq (tgt := 569) C dL_law_564 (by decide) (by omega) (fun _ => ?_) (fun z2 => absurd rfl z2)
    refine x_goto (tgt := 2166) C dL_law_569 (by decide) ?_
    refine x_sub [0, 1, 2, 3, 4] (ls' := [(0, .ref b), (1, .ref (ad 0 0)), (2, .ref (am 0 0)), (3, .ref ao), (4, vI ((i : Nat) : Int))]) rfl ?_
    refine x_widen (m1 := n1 + 500) (m2 := n2 + 3000) (by dsimp only; omega) (by dsimp only; omega) ?_
    exact K _ ⟨ad1, c1, L1, W1, am, m1, fo1, hR2, hO2, hx1, rfl, a4, a2, hB1⟩

