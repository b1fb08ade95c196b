theorem dL_law_360 : decode cL_law 360 = .ok (.aload 4, 2) := by decide +kernel
theorem dL_law_362 : decode cL_law 362 = .ok (.iconst 4, 1) := by decide +kernel
theorem dL_law_363 : decode cL_law 363 = .ok (.iload 22, 2) := by decide +kernel
theorem dL_law_365 : decode cL_law 365 = .ok (.imul, 1) := by decide +kernel
theorem dL_law_366 : decode cL_law 366 = .ok (.iconst 1, 1) := by decide +kernel
theorem dL_law_367 : decode cL_law 367 = .ok (.iadd, 1) := by decide +kernel
theorem dL_law_368 : decode cL_law 368 = .ok (.iaload, 1) := by decide +kernel
theorem dL_law_369 : decode cL_law 369 = .ok (.istore 24, 2) := by decide +kernel
theorem dL_law_371 : decode cL_law 371 = .ok (.aload 4, 2) := by decide +kernel
theorem dL_law_373 : decode cL_law 373 = .ok (.iconst 4, 1) := by decide +kernel
theorem dL_law_374 : decode cL_law 374 = .ok (.iload 22, 2) := by decide +kernel
theorem dL_law_376 : decode cL_law 376 = .ok (.imul, 1) := by decide +kernel
theorem dL_law_377 : decode cL_law 377 = .ok (.iconst 1, 1) := by decide +kernel
theorem dL_law_378 : decode cL_law 378 = .ok (.iadd, 1) := by decide +kernel
theorem dL_law_379 : decode cL_law 379 = .ok (.iload 23, 2) := by decide +kernel
theorem dL_law_381 : decode cL_law 381 = .ok (.iastore, 1) := by decide +kernel
theorem dL_law_382 : decode cL_law 382 = .ok (.aload 4, 2) := by decide +kernel
theorem dL_law_384 : decode cL_law 384 = .ok (.iconst 4, 1) := by decide +kernel
theorem dL_law_385 : decode cL_law 385 = .ok (.iload 22, 2) := by decide +kernel
theorem dL_law_387 : decode cL_law 387 = .ok (.imul, 1) := by decide +kernel
theorem dL_law_388 : decode cL_law 388 = .ok (.iconst 2, 1) := by decide +kernel
theorem dL_law_389 : decode cL_law 389 = .ok (.iadd, 1) := by decide +kernel
theorem dL_law_390 : decode cL_law 390 = .ok (.bipush (-2), 2) := by decide +kernel
theorem dL_law_392 : decode cL_law 392 = .ok (.iastore, 1) := by decide +kernel
theorem dL_law_393 : decode cL_law 393 = .ok (.aload_n 1, 1) := by decide +kernel
theorem dL_law_394 : decode cL_law 394 = .ok (.iload 22, 2) := by decide +kernel
theorem dL_law_396 : decode cL_law 396 = .ok (.iload 23, 2) := by decide +kernel
set_option maxRecDepth 20000 in
theorem ggL_law_X7_setStart : GoodIn wsL_law wsX7_setStart := goodIn_ca (goodIn_r _ [335, 154, 155, 156, 2, 157, 82, 83, 13, 158, 159, 160, 161, 126, 127, 584, 585, 586, 587, 588, 589, 561, 562, 563, 564, 565, 566, 567] (by decide +kernel) (by decide +kernel)) (goodIn_sub (fun _ h => List.mem_append_left _ (List.mem_append_left _ (List.mem_append_right _ h))) (by decide +kernel))
set_option maxRecDepth 20000 in
theorem gL_law_X7_setStart : GoodIn wsL_law (wsV RL 180 RX7 yX7_setStart wsX7_setStart) := goodIn_app (goodIn_of _ (by decide +kernel)) ggL_law_X7_setStart
theorem dL_law_398 : decode cL_law 398 = .ok (.invokevirtual 180, 3) := by decide +kernel
theorem dL_law_401 : decode cL_law 401 = .ok (.iload 24, 2) := by decide +kernel
theorem dL_law_403 : decode cL_law 403 = .ok (.if_icmp .ne 7, 3) := by decide +kernel
theorem dL_law_406 : decode cL_law 406 = .ok (.iconst 1, 1) := by decide +kernel
theorem dL_law_407 : decode cL_law 407 = .ok (.goto 4, 3) := by decide +kernel
theorem dL_law_411 : decode cL_law 411 = .ok (.istore 21, 2) := by decide +kernel
theorem dL_law_413 : decode cL_law 413 = .ok (.goto 552, 3) := by decide +kernel
theorem dL_law_296 : decode cL_law 296 = .ok (.iload 19, 2) := by decide +kernel
theorem dL_law_298 : decode cL_law 298 = .ok (.iconst 5, 1) := by decide +kernel
theorem dL_law_299 : decode cL_law 299 = .ok (.ishr, 1) := by decide +kernel
theorem dL_law_300 : decode cL_law 300 = .ok (.aload_n 2, 1) := by decide +kernel
theorem dL_law_301 : decode cL_law 301 = .ok (.iconst 0, 1) := by decide +kernel
theorem dL_law_302 : decode cL_law 302 = .ok (.iaload, 1) := by decide +kernel
set_option maxRecDepth 20000 in
theorem ggL_law_L_low : GoodIn wsL_law wsL_low := goodIn_r _ [68, 69] (by decide +kernel) (by decide +kernel)
set_option maxRecDepth 20000 in
theorem gL_law_L_low : GoodIn wsL_law (va_wsS RL 78 yL_low wsL_low) := goodIn_app (goodIn_of _ (by decide +kernel)) ggL_law_L_low
theorem dL_law_303 : decode cL_law 303 = .ok (.invokestatic 78, 3) := by decide +kernel
theorem dL_law_306 : decode cL_law 306 = .ok (.istore 22, 2) := by decide +kernel
theorem dL_law_308 : decode cL_law 308 = .ok (.iload 19, 2) := by decide +kernel
theorem dL_law_310 : decode cL_law 310 = .ok (.bipush 8, 2) := by decide +kernel
theorem dL_law_312 : decode cL_law 312 = .ok (.ishr, 1) := by decide +kernel
theorem dL_law_313 : decode cL_law 313 = .ok (.iload 19, 2) := by decide +kernel
theorem dL_law_315 : decode cL_law 315 = .ok (.bipush 14, 2) := by decide +kernel
theorem dL_law_317 : decode cL_law 317 = .ok (.ishr, 1) := by decide +kernel
theorem dL_law_318 : decode cL_law 318 = .ok (.iconst 2, 1) := by decide +kernel
theorem dL_law_319 : decode cL_law 319 = .ok (.invokestatic 78, 3) := by decide +kernel
theorem dL_law_322 : decode cL_law 322 = .ok (.ifCond .ne 8, 3) := by decide +kernel
theorem dL_law_330 : decode cL_law 330 = .ok (.bipush 12, 2) := by decide +kernel
theorem dL_law_332 : decode cL_law 332 = .ok (.invokestatic 78, 3) := by decide +kernel
theorem dL_law_335 : decode cL_law 335 = .ok (.istore 23, 2) := by decide +kernel
theorem dL_law_337 : decode cL_law 337 = .ok (.iload 23, 2) := by decide +kernel
theorem dL_law_339 : decode cL_law 339 = .ok (.iload 19, 2) := by decide +kernel
theorem dL_law_341 : decode cL_law 341 = .ok (.bipush 14, 2) := by decide +kernel
theorem dL_law_343 : decode cL_law 343 = .ok (.ishr, 1) := by decide +kernel
theorem dL_law_344 : decode cL_law 344 = .ok (.iconst 2, 1) := by decide +kernel
theorem dL_law_345 : decode cL_law 345 = .ok (.invokestatic 78, 3) := by decide +kernel
theorem dL_law_348 : decode cL_law 348 = .ok (.ifCond .ne 7, 3) := by decide +kernel
theorem dL_law_355 : decode cL_law 355 = .ok (.bipush 72, 2) := by decide +kernel
theorem dL_law_357 : decode cL_law 357 = .ok (.iadd, 1) := by decide +kernel
theorem dL_law_358 : decode cL_law 358 = .ok (.istore 23, 2) := by decide +kernel
theorem dL_law_351 : decode cL_law 351 = .ok (.iconst 0, 1) := by decide +kernel
theorem dL_law_352 : decode cL_law 352 = .ok (.goto 5, 3) := by decide +kernel
theorem dL_law_325 : decode cL_law 325 = .ok (.bipush 96, 2) := by decide +kernel
theorem dL_law_327 : decode cL_law 327 = .ok (.goto 5, 3) := by decide +kernel
theorem dL_law_758 : decode cL_law 758 = .ok (.iload 19, 2) := by decide +kernel
theorem dL_law_760 : decode cL_law 760 = .ok (.iconst 5, 1) := by decide +kernel
theorem dL_law_761 : decode cL_law 761 = .ok (.ishr, 1) := by decide +kernel
theorem dL_law_762 : decode cL_law 762 = .ok (.aload_n 2, 1) := by decide +kernel
theorem dL_law_763 : decode cL_law 763 = .ok (.iconst 0, 1) := by decide +kernel
theorem dL_law_764 : decode cL_law 764 = .ok (.iaload, 1) := by decide +kernel
theorem dL_law_765 : decode cL_law 765 = .ok (.invokestatic 78, 3) := by decide +kernel
theorem dL_law_768 : decode cL_law 768 = .ok (.istore 22, 2) := by decide +kernel
theorem dL_law_770 : decode cL_law 770 = .ok (.aload 4, 2) := by decide +kernel
theorem dL_law_772 : decode cL_law 772 = .ok (.iconst 4, 1) := by decide +kernel
theorem dL_law_773 : decode cL_law 773 = .ok (.iload 22, 2) := by decide +kernel
theorem dL_law_775 : decode cL_law 775 = .ok (.imul, 1) := by decide +kernel
theorem dL_law_776 : decode cL_law 776 = .ok (.iconst 2, 1) := by decide +kernel
theorem dL_law_777 : decode cL_law 777 = .ok (.iadd, 1) := by decide +kernel
theorem dL_law_778 : decode cL_law 778 = .ok (.aload 4, 2) := by decide +kernel
theorem dL_law_780 : decode cL_law 780 = .ok (.iconst 4, 1) := by decide +kernel
theorem dL_law_781 : decode cL_law 781 = .ok (.iload 22, 2) := by decide +kernel
theorem dL_law_783 : decode cL_law 783 = .ok (.imul, 1) := by decide +kernel
theorem dL_law_784 : decode cL_law 784 = .ok (.iconst 1, 1) := by decide +kernel
theorem dL_law_785 : decode cL_law 785 = .ok (.iadd, 1) := by decide +kernel
theorem dL_law_786 : decode cL_law 786 = .ok (.iaload, 1) := by decide +kernel
theorem dL_law_787 : decode cL_law 787 = .ok (.bipush 6, 2) := by decide +kernel
theorem dL_law_789 : decode cL_law 789 = .ok (.iload 22, 2) := by decide +kernel
theorem dL_law_791 : decode cL_law 791 = .ok (.imul, 1) := by decide +kernel
theorem dL_law_792 : decode cL_law 792 = .ok (.aload_n 2, 1) := by decide +kernel
theorem dL_law_793 : decode cL_law 793 = .ok (.aload_n 3, 1) := by decide +kernel
theorem dL_law_794 : decode cL_law 794 = .ok (.aload 11, 2) := by decide +kernel
theorem dL_law_796 : decode cL_law 796 = .ok (.aload 12, 2) := by decide +kernel
theorem dL_law_798 : decode cL_law 798 = .ok (.aload 13, 2) := by decide +kernel
theorem dL_law_800 : decode cL_law 800 = .ok (.aload 14, 2) := by decide +kernel
theorem dL_law_802 : decode cL_law 802 = .ok (.aload 15, 2) := by decide +kernel
theorem dL_law_804 : decode cL_law 804 = .ok (.aload 16, 2) := by decide +kernel
theorem dL_law_806 : decode cL_law 806 = .ok (.aload 17, 2) := by decide +kernel
set_option maxRecDepth 20000 in
theorem ggL_law_L_search : GoodIn wsL_law wsL_search := goodIn_r _ [341, 342, 74, 141, 142, 62, 143, 138, 139, 140, 73, 343, 344, 345, 346, 347, 348, 349, 350, 351, 352, 353, 354, 355, 356, 357, 358, 359, 360] (by decide +kernel) (by decide +kernel)
set_option maxRecDepth 20000 in
theorem gL_law_L_search : GoodIn wsL_law (va_wsS RL 187 yL_search wsL_search) := goodIn_app (goodIn_of _ (by decide +kernel)) ggL_law_L_search
theorem dL_law_808 : decode cL_law 808 = .ok (.invokestatic 187, 3) := by decide +kernel
theorem dL_law_811 : decode cL_law 811 = .ok (.iastore, 1) := by decide +kernel
theorem dL_law_812 : decode cL_law 812 = .ok (.aload_n 1, 1) := by decide +kernel
theorem dL_law_813 : decode cL_law 813 = .ok (.iload 22, 2) := by decide +kernel
set_option maxRecDepth 20000 in
theorem ggL_law_X7_prove : GoodIn wsL_law wsX7_prove := goodIn_ca (goodIn_r _ [422, 21, 154, 155, 156, 2, 157, 82, 83, 13, 372, 373, 374, 20, 375, 40, 35, 36, 376, 377, 378, 379, 34, 33, 380, 276, 277, 39, 278, 46, 47, 48, 279, 280, 281, 282, 45, 126, 127, 283, 163, 164, 98, 165, 111, 284, 285, 286, 287, 112, 381, 382, 383, 384, 385, 386, 387, 388, 389, 390, 391, 392, 31, 393, 394, 395, 396, 30, 397, 398, 399, 400, 401, 402, 403, 404, 405, 406, 407, 408, 409, 313, 314, 315, 316, 317, 318, 319, 410, 309, 310, 311, 312, 320, 321, 322, 323, 324, 325, 326, 327, 328, 329, 330, 331, 49, 561, 562, 563, 564, 565, 566, 567, 584, 585, 586, 587, 588, 589, 568, 569, 570, 571, 572, 573, 574, 579, 580, 581, 582, 583, 590, 591, 592] (by decide +kernel) (by decide +kernel)) (goodIn_sub (fun _ h => List.mem_append_left _ (List.mem_append_left _ (List.mem_append_right _ h))) (by decide +kernel))
set_option maxRecDepth 20000 in
theorem gL_law_X7_prove : GoodIn wsL_law (wsV RL 194 RX7 yX7_prove wsX7_prove) := goodIn_app (goodIn_of _ (by decide +kernel)) ggL_law_X7_prove
theorem dL_law_815 : decode cL_law 815 = .ok (.invokevirtual 194, 3) := by decide +kernel
theorem dL_law_818 : decode cL_law 818 = .ok (.aload 4, 2) := by decide +kernel
theorem dL_law_820 : decode cL_law 820 = .ok (.iconst 4, 1) := by decide +kernel
theorem dL_law_821 : decode cL_law 821 = .ok (.iload 22, 2) := by decide +kernel
theorem dL_law_823 : decode cL_law 823 = .ok (.imul, 1) := by decide +kernel
theorem dL_law_824 : decode cL_law 824 = .ok (.iconst 2, 1) := by decide +kernel
theorem dL_law_825 : decode cL_law 825 = .ok (.iadd, 1) := by decide +kernel
theorem dL_law_826 : decode cL_law 826 = .ok (.iaload, 1) := by decide +kernel
theorem dL_law_827 : decode cL_law 827 = .ok (.if_icmp .ne 36, 3) := by decide +kernel
theorem dL_law_830 : decode cL_law 830 = .ok (.aload_n 1, 1) := by decide +kernel
theorem dL_law_831 : decode cL_law 831 = .ok (.iload 22, 2) := by decide +kernel
theorem dL_law_833 : decode cL_law 833 = .ok (.iload 19, 2) := by decide +kernel
theorem dL_law_835 : decode cL_law 835 = .ok (.bipush 8, 2) := by decide +kernel
theorem dL_law_837 : decode cL_law 837 = .ok (.ishr, 1) := by decide +kernel
theorem dL_law_838 : decode cL_law 838 = .ok (.iconst 4, 1) := by decide +kernel
theorem dL_law_839 : decode cL_law 839 = .ok (.invokestatic 78, 3) := by decide +kernel
theorem dL_law_842 : decode cL_law 842 = .ok (.aload 4, 2) := by decide +kernel
theorem dL_law_844 : decode cL_law 844 = .ok (.iconst 4, 1) := by decide +kernel
theorem dL_law_845 : decode cL_law 845 = .ok (.iload 22, 2) := by decide +kernel
theorem dL_law_847 : decode cL_law 847 = .ok (.imul, 1) := by decide +kernel
theorem dL_law_848 : decode cL_law 848 = .ok (.iconst 2, 1) := by decide +kernel
theorem dL_law_849 : decode cL_law 849 = .ok (.iadd, 1) := by decide +kernel
theorem dL_law_850 : decode cL_law 850 = .ok (.iaload, 1) := by decide +kernel
theorem dL_law_851 : decode cL_law 851 = .ok (.aload 17, 2) := by decide +kernel
set_option maxRecDepth 20000 in
theorem ggL_law_L_tells : GoodIn wsL_law wsL_tells := goodIn_ca (goodIn_ca (goodIn_r _ [425, 426, 427, 428, 2, 429, 21, 154, 155, 156, 157, 82, 83, 13, 372, 373, 374, 20, 375, 40, 35, 36, 376, 377, 378, 379, 34, 33, 380, 276, 277, 39, 278, 46, 47, 48, 279, 280, 281, 282, 45, 126, 127, 283, 163, 164, 98, 165, 111, 284, 285, 286, 287, 112, 381, 382, 383, 384, 385, 386, 387, 388, 389, 390, 391, 392, 31, 393, 394, 395, 396, 30, 397, 398, 399, 400, 401, 402, 403, 404, 405, 406, 407, 408, 409, 313, 314, 315, 316, 317, 318, 319, 410, 309, 310, 311, 312, 320, 321, 322, 323, 324, 325, 326, 327, 328, 329, 330, 331, 49, 430, 431, 432, 433, 434, 435, 436, 437, 438, 439, 440, 441, 442, 443, 444, 445, 152, 153, 446, 447, 448, 449, 450, 451, 452, 453, 561, 562, 563, 564, 565, 566, 567, 584, 585, 586, 587, 588, 589, 568, 569, 570, 571, 572, 573, 574, 579, 580, 581, 582, 583, 590, 591, 592] (by decide +kernel) (by decide +kernel)) (goodIn_sub (fun _ h => List.mem_append_left _ (List.mem_append_left _ (List.mem_append_right _ h))) (by decide +kernel))) (goodIn_sub (fun _ h => List.mem_append_right _ h) (by decide +kernel))
set_option maxRecDepth 20000 in
theorem gL_law_L_tells : GoodIn wsL_law (va_wsS RL 197 yL_tells wsL_tells) := goodIn_app (goodIn_of _ (by decide +kernel)) ggL_law_L_tells
theorem dL_law_853 : decode cL_law 853 = .ok (.invokestatic 197, 3) := by decide +kernel
theorem dL_law_856 : decode cL_law 856 = .ok (.ifCond .eq 7, 3) := by decide +kernel
theorem dL_law_859 : decode cL_law 859 = .ok (.iconst 1, 1) := by decide +kernel
theorem dL_law_860 : decode cL_law 860 = .ok (.goto 4, 3) := by decide +kernel
theorem dL_law_864 : decode cL_law 864 = .ok (.istore 21, 2) := by decide +kernel
theorem dL_law_866 : decode cL_law 866 = .ok (.goto 99, 3) := by decide +kernel
theorem dL_law_173 : decode cL_law 173 = .ok (.iload 19, 2) := by decide +kernel
theorem dL_law_175 : decode cL_law 175 = .ok (.iconst 5, 1) := by decide +kernel
theorem dL_law_176 : decode cL_law 176 = .ok (.ishr, 1) := by decide +kernel
theorem dL_law_177 : decode cL_law 177 = .ok (.iconst 3, 1) := by decide +kernel
theorem dL_law_178 : decode cL_law 178 = .ok (.invokestatic 78, 3) := by decide +kernel
theorem dL_law_181 : decode cL_law 181 = .ok (.istore 22, 2) := by decide +kernel
theorem dL_law_183 : decode cL_law 183 = .ok (.bipush 84, 2) := by decide +kernel
theorem dL_law_185 : decode cL_law 185 = .ok (.istore 23, 2) := by decide +kernel
theorem dL_law_187 : decode cL_law 187 = .ok (.iload 23, 2) := by decide +kernel
theorem dL_law_189 : decode cL_law 189 = .ok (.bipush 96, 2) := by decide +kernel
theorem dL_law_191 : decode cL_law 191 = .ok (.if_icmp .ge 22, 3) := by decide +kernel
theorem dL_law_213 : decode cL_law 213 = .ok (.aload_n 1, 1) := by decide +kernel
theorem dL_law_214 : decode cL_law 214 = .ok (.iload 22, 2) := by decide +kernel
set_option maxRecDepth 20000 in
theorem ggL_law_X7_begin : GoodIn wsL_law wsX7_begin := goodIn_ca (goodIn_ca (goodIn_r _ [78, 22, 79, 80, 2, 81, 82, 83, 84, 85, 86, 87, 88, 89, 13, 12, 90, 91, 92, 93, 94, 95, 9, 10, 96, 97, 98, 99, 100, 101, 102, 103, 104, 105, 106, 107, 108, 109, 110, 3, 111, 112, 113, 114, 115, 116, 117, 118, 119, 120, 121, 122, 123, 124, 125, 126, 127, 128, 129, 130, 131, 584, 585, 586, 587, 588, 589, 561, 562, 563, 564, 565, 566, 567, 590, 591, 592, 593, 594, 595, 596, 597] (by decide +kernel) (by decide +kernel)) (goodIn_sub (fun _ h => List.mem_append_left _ (List.mem_append_left _ (List.mem_append_right _ h))) (by decide +kernel))) (goodIn_sub (fun _ h => List.mem_append_left _ (List.mem_append_right _ h)) (by decide +kernel))
set_option maxRecDepth 20000 in
theorem gL_law_X7_begin : GoodIn wsL_law (wsV RL 174 RX7 yX7_begin wsX7_begin) := goodIn_app (goodIn_of _ (by decide +kernel)) ggL_law_X7_begin
theorem dL_law_216 : decode cL_law 216 = .ok (.invokevirtual 174, 3) := by decide +kernel
theorem dL_law_219 : decode cL_law 219 = .ok (.iload 22, 2) := by decide +kernel
theorem dL_law_221 : decode cL_law 221 = .ok (.bipush 72, 2) := by decide +kernel
theorem dL_law_223 : decode cL_law 223 = .ok (.iconst (-1), 1) := by decide +kernel
theorem dL_law_224 : decode cL_law 224 = .ok (.aload_n 2, 1) := by decide +kernel
theorem dL_law_225 : decode cL_law 225 = .ok (.aload 4, 2) := by decide +kernel
set_option maxRecDepth 20000 in
theorem ggL_law_L_begins : GoodIn wsL_law wsL_begins := goodIn_r _ [134] (by decide +kernel) (by decide +kernel)
set_option maxRecDepth 20000 in
theorem gL_law_L_begins : GoodIn wsL_law (va_wsS RL 89 yL_begins wsL_begins) := goodIn_app (goodIn_of _ (by decide +kernel)) ggL_law_L_begins
theorem dL_law_227 : decode cL_law 227 = .ok (.invokestatic 89, 3) := by decide +kernel
theorem dL_law_230 : decode cL_law 230 = .ok (.if_icmp .ne 7, 3) := by decide +kernel
theorem dL_law_233 : decode cL_law 233 = .ok (.iconst 1, 1) := by decide +kernel
theorem dL_law_234 : decode cL_law 234 = .ok (.goto 4, 3) := by decide +kernel
theorem dL_law_238 : decode cL_law 238 = .ok (.istore 21, 2) := by decide +kernel
theorem dL_law_240 : decode cL_law 240 = .ok (.goto 725, 3) := by decide +kernel
theorem dL_law_194 : decode cL_law 194 = .ok (.aload_n 3, 1) := by decide +kernel
theorem dL_law_195 : decode cL_law 195 = .ok (.bipush 6, 2) := by decide +kernel
theorem dL_law_197 : decode cL_law 197 = .ok (.aload_n 2, 1) := by decide +kernel
theorem dL_law_198 : decode cL_law 198 = .ok (.iconst 0, 1) := by decide +kernel
theorem dL_law_199 : decode cL_law 199 = .ok (.iaload, 1) := by decide +kernel
theorem dL_law_200 : decode cL_law 200 = .ok (.imul, 1) := by decide +kernel
theorem dL_law_201 : decode cL_law 201 = .ok (.iload 23, 2) := by decide +kernel
theorem dL_law_203 : decode cL_law 203 = .ok (.iconst 1, 1) := by decide +kernel
set_option maxRecDepth 20000 in
theorem ggL_law_L_put : GoodIn wsL_law wsL_put := goodIn_r _ [72, 73, 74] (by decide +kernel) (by decide +kernel)
set_option maxRecDepth 20000 in
theorem gL_law_L_put : GoodIn wsL_law (va_wsS RL 81 yL_put wsL_put) := goodIn_app (goodIn_of _ (by decide +kernel)) ggL_law_L_put
theorem dL_law_204 : decode cL_law 204 = .ok (.invokestatic 81, 3) := by decide +kernel
theorem dL_law_207 : decode cL_law 207 = .ok (.iinc 23 1, 3) := by decide +kernel
theorem dL_law_210 : decode cL_law 210 = .ok (.goto (-23), 3) := by decide +kernel

/-! ===== the law: begin, setStart, prove ===== -/
theorem fu2_e {f : Nat → Int} {k : Nat} {a b : Int} : ∀ j, fu (fu f (4 * k + 1) a) (4 * k + 2) b j = if j = 4 * k + 1 then a else if j = 4 * k + 2 then b else f j := fun j => by
  unfold fu
  by_cases q : j = 4 * k + 2
  · rw [if_pos q, if_neg (by omega), if_pos q]
  · rw [if_neg q]
    by_cases r : j = 4 * k + 1
    · rw [if_pos r, if_pos r]
    · rw [if_neg r, if_neg r, if_neg q]
theorem fu1_e {f : Nat → Int} {k : Nat} {b : Int} : ∀ j, fu f (4 * k + 2) b j = if j = 4 * k + 1 then f (4 * k + 1) else if j = 4 * k + 2 then b else f j := fun j => by
  unfold fu
  by_cases q : j = 4 * k + 2
  · rw [if_pos q, if_neg (by omega)]
  · rw [if_neg q]
    by_cases r : j = 4 * k + 1
    · rw [if_pos r, r]
    · rw [if_neg r]
theorem gB_s {g g2 : Nat → Int64} {L z : Nat} (h : ∀ i, i < 10 → ∀ y, y < 96 → gk g2 (6 * i) y = if i = L ∧ 84 ≤ y ∧ y < z then 1 else gk g (6 * i) y) (hz : 84 ≤ z ∧ z < 96) : ∀ i, i < 10 → ∀ y, y < 96 → gk (gput g2 (6 * L) z 1) (6 * i) y = if i = L ∧ 84 ≤ y ∧ y < z + 1 then 1 else gk g (6 * i) y := fun i hi y hy => by
  rw [gk_gput hz.2 hy (by decide), h i hi y hy]
  by_cases q : i = L ∧ y = z
  · rw [if_pos q, if_pos (by omega)]; rfl
  · rw [if_neg q]
    by_cases r : i = L ∧ 84 ≤ y ∧ y < z
    · rw [if_pos r, if_pos (by omega)]
    · rw [if_neg r, if_neg (by omega)]


set_option maxRecDepth 100000 in
set_option maxHeartbeats 20000000 in
theorem lb_setStart {κ : KX} {D : va_G} {A : Nat → Prop} {nm : String} (C : CX κ "LedgeLevelsLaw" nm cL_law wsL_law { frames := 12, cells := 600130, slots := 7301080, locals := 472 } D A 28) (kn : KN κ) {b x t turn n1 n2 act : Nat} {ar : Nat → Nat} {zz : Int32} {h : vh} (hai : ∀ i j, i < 16 → j < 16 → ar i = ar j → i = j) (ht : t ≤ 10000) (hrm : n1 + 1000 ≤ 600130 ∧ n2 + 6000 ≤ 7301080) {m : CS} {L W : Nat} {q : Nat → Int} {g : Nat → Int64} {l0 u v n w p r : Nat → Int} (hSy : Sy D x ar m L W t h) (hEX : EX m) (hPK : PK m L W q g l0 u v n w p r) (hAR : AR D ar q g l0 u v n w p r h) (hSC : SC D ar h) (hL : 0 < L) (K : ∀ h9, WD D x ar (t + 10) h9 → X κ (n1 + 500) (n2 + 3000) h9 [(0, .ref b), (1, .ref x), (2, .ref (ar 0)), (3, .ref (ar 1)), (4, .ref (ar 2)), (5, .ref (ar 3)), (6, .ref (ar 4)), (7, .ref (ar 5)), (8, .ref (ar 6)), (9, .ref (ar 7)), (10, .ref (ar 8)), (11, .ref (ar 9)), (12, .ref (ar 10)), (13, .ref (ar 11)), (14, .ref (ar 12)), (15, .ref (ar 13)), (16, .ref (ar 14)), (17, .ref (ar 15)), (18, vI ((turn : Nat) : Int)), (19, .int zz), (20, vI ((act : Nat) : Int)), (21, vI 1)] 965 []) : X κ n1 n2 h [(0, .ref b), (1, .ref x), (2, .ref (ar 0)), (3, .ref (ar 1)), (4, .ref (ar 2)), (5, .ref (ar 3)), (6, .ref (ar 4)), (7, .ref (ar 5)), (8, .ref (ar 6)), (9, .ref (ar 7)), (10, .ref (ar 8)), (11, .ref (ar 9)), (12, .ref (ar 10)), (13, .ref (ar 11)), (14, .ref (ar 12)), (15, .ref (ar 13)), (16, .ref (ar 14)), (17, .ref (ar 15)), (18, vI ((turn : Nat) : Int)), (19, .int zz), (20, vI ((act : Nat) : Int)), (21, vI 1)] 296 [] := by
  have hiz : nq (D.1 20) (D.1 21) := cx_iz C
  obtain ⟨hq, hg, hl0, hu, hv, hn, hw, hp, hr⟩ := hAR
  obtain ⟨⟨hL5, hW5, hq0, hq1⟩, hqs, hPL, hPN, hPW, hPU, hPP⟩ := id hPK
  have hEB := hSy.eb hPK
  obtain ⟨hz8, hz21, hm2, hm14⟩ := hSy.zero
  obtain ⟨k, hk⟩ : ∃ k : Nat, k = lowF (zz >>> ((iI 5) &&& 31)) ((L : Nat) : Int) := ⟨_, rfl⟩
  have hkL : k < L := by
    have := lowF_lt (v := zz >>> ((iI 5) &&& 31)) (n := ((L : Nat) : Int)) (by omega)
    omega
  obtain ⟨hA7, hf8, hst, hpr, hau⟩ := hSy.lev hPK hkL
  obtain ⟨k1, k2, k3, k4, k5, _⟩ := hPL k hkL
  have E41 : Int.toNat (4 * ((k : Nat) : Int) + 1) = 4 * k + 1 := by omega
  have E42 : Int.toNat (4 * ((k : Nat) : Int) + 2) = 4 * k + 2 := by omega
  have E6K : (6 * ((k : Nat) : Int)).toNat = 6 * k := by omega
  have hst5 : 0 ≤ m 5 0 k ∧ m 5 0 k ≤ 95 := by rw [← k2]; exact hst
  have CT : ∀ (to : Nat)   (hto : to < 96), X κ n1 n2 h [(0, .ref b), (1, .ref x), (2, .ref (ar 0)), (3, .ref (ar 1)), (4, .ref (ar 2)), (5, .ref (ar 3)), (6, .ref (ar 4)), (7, .ref (ar 5)), (8, .ref (ar 6)), (9, .ref (ar 7)), (10, .ref (ar 8)), (11, .ref (ar 9)), (12, .ref (ar 10)), (13, .ref (ar 11)), (14, .ref (ar 12)), (15, .ref (ar 13)), (16, .ref (ar 14)), (17, .ref (ar 15)), (18, vI ((turn : Nat) : Int)), (19, .int zz), (20, vI ((act : Nat) : Int)), (21, vI 1), (22, vI ((k : Nat) : Int)), (23, vI ((to : Nat) : Int))] 360 [] := by
    intro to hto
    refine x_aload C dL_law_360 4 rfl ?_
    refine x_iconst C dL_law_362 4 (by decide) ?_
    refine x_iload C dL_law_363 22 rfl ?_
    refine x_imul C dL_law_365 ?_
    refine x_iconst C dL_law_366 1 (by decide) ?_
    refine x_iadd C dL_law_367 ?_
    refine x_iald C hl0 ⟨by omega, by omega⟩ (by decide) dL_law_368 ?_
    refine x_topv (show l0 (Int.toNat ((4 * (((k : Nat) : Int))) + 1)) = m 5 0 k from by rw [E41]; exact k2) ?_
    refine x_istore C (ls' := [(0, .ref b), (1, .ref x), (2, .ref (ar 0)), (3, .ref (ar 1)), (4, .ref (ar 2)), (5, .ref (ar 3)), (6, .ref (ar 4)), (7, .ref (ar 5)), (8, .ref (ar 6)), (9, .ref (ar 7)), (10, .ref (ar 8)), (11, .ref (ar 9)), (12, .ref (ar 10)), (13, .ref (ar 11)), (14, .ref (ar 12)), (15, .ref (ar 13)), (16, .ref (ar 14)), (17, .ref (ar 15)), (18, vI ((turn : Nat) : Int)), (19, .int zz), (20, vI ((act : Nat) : Int)), (21, vI 1), (22, vI ((k : Nat) : Int)), (23, vI ((to : Nat) : Int)), (24, vI (m 5 0 k))]) dL_law_369 (by decide) rfl ?_
    refine x_aload C dL_law_371 4 rfl ?_
    refine x_iconst C dL_law_373 4 (by decide) ?_
    refine x_iload C dL_law_374 22 rfl ?_
    refine x_imul C dL_law_376 ?_
    refine x_iconst C dL_law_377 1 (by decide) ?_
    refine x_iadd C dL_law_378 ?_
    refine x_iload C dL_law_379 23 rfl ?_
    refine x_iast C hl0 ⟨by omega, by omega⟩ (by decide) dL_law_381 (x_hn (fun h2 e3 => ?_))
    have f4 : h2 (ar 2) = some (eI D 20 (fu l0 (Int.toNat ((4 * (((k : Nat) : Int))) + 1)) (((to : Nat) : Int)))) := by rw [e3]; exact hu_s
    refine x_aload C dL_law_382 4 rfl ?_
    refine x_iconst C dL_law_384 4 (by decide) ?_
    refine x_iload C dL_law_385 22 rfl ?_
    refine x_imul C dL_law_387 ?_
    refine x_iconst C dL_law_388 2 (by decide) ?_
    refine x_iadd C dL_law_389 ?_
    refine x_bipush C dL_law_390 (-2) (by decide) ?_
    refine x_iast C f4 ⟨by omega, by omega⟩ (by decide) dL_law_392 (x_hn (fun h5 e6 => ?_))
    have f7 : h5 (ar 2) = some (eI D 20 (fu (fu l0 (Int.toNat ((4 * (((k : Nat) : Int))) + 1)) (((to : Nat) : Int))) (Int.toNat ((4 * (((k : Nat) : Int))) + 2)) ((-2)))) := by rw [e6]; exact hu_s
    have f8 : h5 (ar 2) = some (eI D 20 (fu (fu l0 (4 * k + 1) ((to : Nat) : Int)) (4 * k + 2) (-2))) := by have q9 := f7; rw [E41] at q9; rw [E42] at q9; exact q9
    refine x_aload_n C dL_law_393 1 rfl ?_
    refine x_iload C dL_law_394 22 rfl ?_
    refine x_iload C dL_law_396 23 rfl ?_
    have hSy9 : Sy D x ar m L W t h5 := by rw [e6, e3]; repeat (first | exact hSy | exact hSyL | exact hSy8 | refine Sy.off ?_ (by decide))
    have hSC9 : SC D ar h5 := by rw [e6, e3]; repeat (first | exact hSC | exact hSCL | exact hSC8 | refine SC.off hai ?_ (by decide))
    have f9 : h2 (ar 0) = some (eI D 5 q) := by rw [e3, hu_n (ari hai (i := 0) (j := 2) (by decide) (by decide) (by decide))]; exact hq
    have f10 : h5 (ar 0) = some (eI D 5 q) := by rw [e6, hu_n (ari hai (i := 0) (j := 2) (by decide) (by decide) (by decide))]; exact f9
    have f11 : h2 (ar 1) = some (eJ D 60 g) := by rw [e3, hu_n (ari hai (i := 1) (j := 2) (by decide) (by decide) (by decide))]; exact hg
    have f12 : h5 (ar 1) = some (eJ D 60 g) := by rw [e6, hu_n (ari hai (i := 1) (j := 2) (by decide) (by decide) (by decide))]; exact f11
    have f13 : h2 (ar 3) = some (eI D 60 u) := by rw [e3, hu_n (ari hai (i := 3) (j := 2) (by decide) (by decide) (by decide))]; exact hu
    have f14 : h5 (ar 3) = some (eI D 60 u) := by rw [e6, hu_n (ari hai (i := 3) (j := 2) (by decide) (by decide) (by decide))]; exact f13
    have f15 : h2 (ar 4) = some (eI D 60 v) := by rw [e3, hu_n (ari hai (i := 4) (j := 2) (by decide) (by decide) (by decide))]; exact hv
    have f16 : h5 (ar 4) = some (eI D 60 v) := by rw [e6, hu_n (ari hai (i := 4) (j := 2) (by decide) (by decide) (by decide))]; exact f15
    have f17 : h2 (ar 5) = some (eI D 10 n) := by rw [e3, hu_n (ari hai (i := 5) (j := 2) (by decide) (by decide) (by decide))]; exact hn
    have f18 : h5 (ar 5) = some (eI D 10 n) := by rw [e6, hu_n (ari hai (i := 5) (j := 2) (by decide) (by decide) (by decide))]; exact f17
    have f19 : h2 (ar 6) = some (eI D 25 w) := by rw [e3, hu_n (ari hai (i := 6) (j := 2) (by decide) (by decide) (by decide))]; exact hw
    have f20 : h5 (ar 6) = some (eI D 25 w) := by rw [e6, hu_n (ari hai (i := 6) (j := 2) (by decide) (by decide) (by decide))]; exact f19
    have f21 : h2 (ar 7) = some (eI D 15 p) := by rw [e3, hu_n (ari hai (i := 7) (j := 2) (by decide) (by decide) (by decide))]; exact hp
    have f22 : h5 (ar 7) = some (eI D 15 p) := by rw [e6, hu_n (ari hai (i := 7) (j := 2) (by decide) (by decide) (by decide))]; exact f21
    have f23 : h2 (ar 8) = some (eI D 18 r) := by rw [e3, hu_n (ari hai (i := 8) (j := 2) (by decide) (by decide) (by decide))]; exact hr
    have f24 : h5 (ar 8) = some (eI D 18 r) := by rw [e6, hu_n (ari hai (i := 8) (j := 2) (by decide) (by decide) (by decide))]; exact f23
    have hAR9 : AR D ar q g (fu (fu l0 (4 * k + 1) ((to : Nat) : Int)) (4 * k + 2) (-2)) u v n w p r h5 := ⟨f10, f12, f8, f14, f16, f18, f20, f22, f24⟩
    obtain ⟨P9, X9, hM9, hX9, hP9⟩ := k_setStart (l := kl κ) (A := A) hSy9 (u := k) (z := ((to : Nat) : Int)) hkL (by omega)
    obtain ⟨fs9, ho9⟩ := hSy9.obj
    refine x_callVx C (n := 2) (qc := (RX7, TX7, 7)) (As := [vI ((k : Nat) : Int), vI ((to : Nat) : Int)]) (rest := []) hM9 gL_law_X7_setStart (by decide +kernel) ho9 rfl rfl rfl rfl (Nat.le_of_ble_eq_true rfl) ⟨by decide, by decide⟩ ⟨(by first | omega | (dsimp only; omega)), (by first | omega | (dsimp only; omega))⟩ dL_law_398 hX9 (fun rv9 h25 hp9 => ?_)
    have hk9 := hP9 rv9 h25 hp9
    obtain ⟨rfl, hS9, hkp9⟩ := hk9
    obtain ⟨f26, f27, f28, f29, f30, f31, f32, f33, f34⟩ := hAR9.kp hkp9
    refine x_iload C dL_law_401 24 rfl ?_
    refine x_icmp_ne (tgt := 410) C dL_law_403 (by decide) (by omega) (by omega) (fun c35 => ?_) (fun c35 => ?_)
    · exfalso; omega
    · skip
      refine x_iconst C dL_law_406 1 (by decide) ?_
      refine x_goto (tgt := 411) C dL_law_407 (by decide) ?_
      refine x_istore C (ls' := [(0, .ref b), (1, .ref x), (2, .ref (ar 0)), (3, .ref (ar 1)), (4, .ref (ar 2)), (5, .ref (ar 3)), (6, .ref (ar 4)), (7, .ref (ar 5)), (8, .ref (ar 6)), (9, .ref (ar 7)), (10, .ref (ar 8)), (11, .ref (ar 9)), (12, .ref (ar 10)), (13, .ref (ar 11)), (14, .ref (ar 12)), (15, .ref (ar 13)), (16, .ref (ar 14)), (17, .ref (ar 15)), (18, vI ((turn : Nat) : Int)), (19, .int zz), (20, vI ((act : Nat) : Int)), (21, vI 1), (22, vI ((k : Nat) : Int)), (23, vI ((to : Nat) : Int)), (24, vI (m 5 0 k))]) dL_law_411 (by decide) rfl ?_
      refine x_goto (tgt := 965) C dL_law_413 (by decide) ?_
      refine x_sub [0, 1, 2, 3, 4, 5, 6, 7, 8, 9, 10, 11, 12, 13, 14, 15, 16, 17, 18, 19, 20, 21] (ls' := [(0, .ref b), (1, .ref x), (2, .ref (ar 0)), (3, .ref (ar 1)), (4, .ref (ar 2)), (5, .ref (ar 3)), (6, .ref (ar 4)), (7, .ref (ar 5)), (8, .ref (ar 6)), (9, .ref (ar 7)), (10, .ref (ar 8)), (11, .ref (ar 9)), (12, .ref (ar 10)), (13, .ref (ar 11)), (14, .ref (ar 12)), (15, .ref (ar 13)), (16, .ref (ar 14)), (17, .ref (ar 15)), (18, vI ((turn : Nat) : Int)), (19, .int zz), (20, vI ((act : Nat) : Int)), (21, vI 1)]) rfl ?_
      refine x_widen (m1 := n1 + 500) (m2 := n2 + 3000) (by first | omega | (dsimp only; omega)) (by first | omega | (dsimp only; omega)) ?_
      exact K h25 (⟨_, L, W, _, _, _, _, _, _, _, _, _, hS9.le (by omega), hEX.o (fun j9 hj9 => (cu_n (by omega)).trans (cu_n (by omega))), PK.lv hPK hEB hkL rfl rfl (fun j9 y1 y2 => (cu_n (by omega)).trans (cu_n (by omega))) fu2_e, hAR9.kp hkp9, hSC9.kp hkp9⟩)
  refine x_iload C dL_law_296 19 rfl ?_
  refine x_iconst C dL_law_298 5 (by decide) ?_
  refine x_ishr C dL_law_299 _ rfl ?_
  refine x_aload_n C dL_law_300 2 rfl ?_
  refine x_iconst C dL_law_301 0 (by decide) ?_
  refine x_iald C hq ⟨by omega, by omega⟩ (by decide) dL_law_302 ?_
  refine x_topv (show q (Int.toNat 0) = ((L : Nat) : Int) from by exact hq0) ?_
  refine x_callSJ C (n := 2) (As := [.int (zz >>> ((iI 5) &&& 31)), vI ((L : Nat) : Int)]) (rest := []) (c_L_low (by omega)) gL_law_L_low (by decide +kernel) rfl rfl rfl (Nat.le_of_ble_eq_true rfl) ⟨by decide, by decide⟩ ⟨(by first | omega | (dsimp only; omega)), (by first | omega | (dsimp only; omega))⟩ dL_law_303 (fun rv36 h37 hp38 => ?_)
  obtain ⟨rfl, e39, hr_303⟩ := hp38
  obtain rfl := e39.symm
  refine x_topv (show ((lowF (zz >>> ((iI 5) &&& 31)) (((L : Nat) : Int)) : Nat) : Int) = ((k : Nat) : Int) from by rw [hk]) ?_
  refine x_istore C (ls' := [(0, .ref b), (1, .ref x), (2, .ref (ar 0)), (3, .ref (ar 1)), (4, .ref (ar 2)), (5, .ref (ar 3)), (6, .ref (ar 4)), (7, .ref (ar 5)), (8, .ref (ar 6)), (9, .ref (ar 7)), (10, .ref (ar 8)), (11, .ref (ar 9)), (12, .ref (ar 10)), (13, .ref (ar 11)), (14, .ref (ar 12)), (15, .ref (ar 13)), (16, .ref (ar 14)), (17, .ref (ar 15)), (18, vI ((turn : Nat) : Int)), (19, .int zz), (20, vI ((act : Nat) : Int)), (21, vI 1), (22, vI ((k : Nat) : Int))]) dL_law_306 (by decide) rfl ?_
  refine x_iload C dL_law_308 19 rfl ?_
  refine x_bipush C dL_law_310 8 (by decide) ?_
  refine x_ishr C dL_law_312 _ rfl ?_
  refine x_iload C dL_law_313 19 rfl ?_
  refine x_bipush C dL_law_315 14 (by decide) ?_
  refine x_ishr C dL_law_317 _ rfl ?_
  refine x_iconst C dL_law_318 2 (by decide) ?_
  refine x_callSJ C (n := 2) (As := [.int (zz >>> ((iI 14) &&& 31)), vI 2]) (rest := [.int (zz >>> ((iI 8) &&& 31))]) (c_L_low (by omega)) gL_law_L_low (by decide +kernel) rfl rfl rfl (Nat.le_of_ble_eq_true rfl) ⟨by decide, by decide⟩ ⟨(by first | omega | (dsimp only; omega)), (by first | omega | (dsimp only; omega))⟩ dL_law_319 (fun rv40 h41 hp42 => ?_)
  obtain ⟨rfl, e43, hr_319⟩ := hp42
  obtain rfl := e43.symm
  refine x_if_ne (tgt := 330) C dL_law_322 (by decide) (by omega) (fun c44 => ?_) (fun c44 => ?_)
  · skip
    refine x_bipush C dL_law_330 12 (by decide) ?_
    refine x_callSJ C (n := 2) (As := [.int (zz >>> ((iI 8) &&& 31)), vI 12]) (rest := []) (c_L_low (by omega)) gL_law_L_low (by decide +kernel) rfl rfl rfl (Nat.le_of_ble_eq_true rfl) ⟨by decide, by decide⟩ ⟨(by first | omega | (dsimp only; omega)), (by first | omega | (dsimp only; omega))⟩ dL_law_332 (fun rv45 h46 hp47 => ?_)
    obtain ⟨rfl, e48, hr_332⟩ := hp47
    obtain rfl := e48.symm
    refine x_istore C (ls' := [(0, .ref b), (1, .ref x), (2, .ref (ar 0)), (3, .ref (ar 1)), (4, .ref (ar 2)), (5, .ref (ar 3)), (6, .ref (ar 4)), (7, .ref (ar 5)), (8, .ref (ar 6)), (9, .ref (ar 7)), (10, .ref (ar 8)), (11, .ref (ar 9)), (12, .ref (ar 10)), (13, .ref (ar 11)), (14, .ref (ar 12)), (15, .ref (ar 13)), (16, .ref (ar 14)), (17, .ref (ar 15)), (18, vI ((turn : Nat) : Int)), (19, .int zz), (20, vI ((act : Nat) : Int)), (21, vI 1), (22, vI ((k : Nat) : Int)), (23, vI ((lowF (zz >>> ((iI 8) &&& 31)) 12 : Nat) : Int))]) dL_law_335 (by decide) rfl ?_
    refine x_iload C dL_law_337 23 rfl ?_
    refine x_iload C dL_law_339 19 rfl ?_
    refine x_bipush C dL_law_341 14 (by decide) ?_
    refine x_ishr C dL_law_343 _ rfl ?_
    refine x_iconst C dL_law_344 2 (by decide) ?_
    refine x_callSJ C (n := 2) (As := [.int (zz >>> ((iI 14) &&& 31)), vI 2]) (rest := [vI ((lowF (zz >>> ((iI 8) &&& 31)) 12 : Nat) : Int)]) (c_L_low (by omega)) gL_law_L_low (by decide +kernel) rfl rfl rfl (Nat.le_of_ble_eq_true rfl) ⟨by decide, by decide⟩ ⟨(by first | omega | (dsimp only; omega)), (by first | omega | (dsimp only; omega))⟩ dL_law_345 (fun rv49 h50 hp51 => ?_)
    obtain ⟨rfl, e52, hr_345⟩ := hp51
    obtain rfl := e52.symm
    refine x_if_ne (tgt := 355) C dL_law_348 (by decide) (by omega) (fun c53 => ?_) (fun c53 => ?_)
    · skip
      refine x_bipush C dL_law_355 72 (by decide) ?_
      refine x_iadd C dL_law_357 ?_
      refine x_istore C (ls' := [(0, .ref b), (1, .ref x), (2, .ref (ar 0)), (3, .ref (ar 1)), (4, .ref (ar 2)), (5, .ref (ar 3)), (6, .ref (ar 4)), (7, .ref (ar 5)), (8, .ref (ar 6)), (9, .ref (ar 7)), (10, .ref (ar 8)), (11, .ref (ar 9)), (12, .ref (ar 10)), (13, .ref (ar 11)), (14, .ref (ar 12)), (15, .ref (ar 13)), (16, .ref (ar 14)), (17, .ref (ar 15)), (18, vI ((turn : Nat) : Int)), (19, .int zz), (20, vI ((act : Nat) : Int)), (21, vI 1), (22, vI ((k : Nat) : Int)), (23, vI ((((lowF (zz >>> ((iI 8) &&& 31)) 12 : Nat) : Int)) + 72))]) dL_law_358 (by decide) rfl ?_
      exact CT ((lowF (zz >>> ((iI 8) &&& 31)) 12) + 72) (by omega)
    · skip
      refine x_iconst C dL_law_351 0 (by decide) ?_
      refine x_goto (tgt := 357) C dL_law_352 (by decide) ?_
      refine x_iadd C dL_law_357 ?_
      refine x_istore C (ls' := [(0, .ref b), (1, .ref x), (2, .ref (ar 0)), (3, .ref (ar 1)), (4, .ref (ar 2)), (5, .ref (ar 3)), (6, .ref (ar 4)), (7, .ref (ar 5)), (8, .ref (ar 6)), (9, .ref (ar 7)), (10, .ref (ar 8)), (11, .ref (ar 9)), (12, .ref (ar 10)), (13, .ref (ar 11)), (14, .ref (ar 12)), (15, .ref (ar 13)), (16, .ref (ar 14)), (17, .ref (ar 15)), (18, vI ((turn : Nat) : Int)), (19, .int zz), (20, vI ((act : Nat) : Int)), (21, vI 1), (22, vI ((k : Nat) : Int)), (23, vI ((((lowF (zz >>> ((iI 8) &&& 31)) 12 : Nat) : Int)) + 0))]) dL_law_358 (by decide) rfl ?_
      exact CT ((lowF (zz >>> ((iI 8) &&& 31)) 12) + 0) (by omega)
  · skip
    refine x_bipush C dL_law_325 96 (by decide) ?_
    refine x_goto (tgt := 332) C dL_law_327 (by decide) ?_
    refine x_callSJ C (n := 2) (As := [.int (zz >>> ((iI 8) &&& 31)), vI 96]) (rest := []) (c_L_low (by omega)) gL_law_L_low (by decide +kernel) rfl rfl rfl (Nat.le_of_ble_eq_true rfl) ⟨by decide, by decide⟩ ⟨(by first | omega | (dsimp only; omega)), (by first | omega | (dsimp only; omega))⟩ dL_law_332 (fun rv54 h55 hp56 => ?_)
    obtain ⟨rfl, e57, hr_332⟩ := hp56
    obtain rfl := e57.symm
    refine x_istore C (ls' := [(0, .ref b), (1, .ref x), (2, .ref (ar 0)), (3, .ref (ar 1)), (4, .ref (ar 2)), (5, .ref (ar 3)), (6, .ref (ar 4)), (7, .ref (ar 5)), (8, .ref (ar 6)), (9, .ref (ar 7)), (10, .ref (ar 8)), (11, .ref (ar 9)), (12, .ref (ar 10)), (13, .ref (ar 11)), (14, .ref (ar 12)), (15, .ref (ar 13)), (16, .ref (ar 14)), (17, .ref (ar 15)), (18, vI ((turn : Nat) : Int)), (19, .int zz), (20, vI ((act : Nat) : Int)), (21, vI 1), (22, vI ((k : Nat) : Int)), (23, vI ((lowF (zz >>> ((iI 8) &&& 31)) 96 : Nat) : Int))]) dL_law_335 (by decide) rfl ?_
    refine x_iload C dL_law_337 23 rfl ?_
    refine x_iload C dL_law_339 19 rfl ?_
    refine x_bipush C dL_law_341 14 (by decide) ?_
    refine x_ishr C dL_law_343 _ rfl ?_
    refine x_iconst C dL_law_344 2 (by decide) ?_
    refine x_callSJ C (n := 2) (As := [.int (zz >>> ((iI 14) &&& 31)), vI 2]) (rest := [vI ((lowF (zz >>> ((iI 8) &&& 31)) 96 : Nat) : Int)]) (c_L_low (by omega)) gL_law_L_low (by decide +kernel) rfl rfl rfl (Nat.le_of_ble_eq_true rfl) ⟨by decide, by decide⟩ ⟨(by first | omega | (dsimp only; omega)), (by first | omega | (dsimp only; omega))⟩ dL_law_345 (fun rv58 h59 hp60 => ?_)
    obtain ⟨rfl, e61, hr_345⟩ := hp60
    obtain rfl := e61.symm
    refine x_if_ne (tgt := 355) C dL_law_348 (by decide) (by omega) (fun c62 => ?_) (fun c62 => ?_)
    · skip
      refine x_bipush C dL_law_355 72 (by decide) ?_
      refine x_iadd C dL_law_357 ?_
      refine x_istore C (ls' := [(0, .ref b), (1, .ref x), (2, .ref (ar 0)), (3, .ref (ar 1)), (4, .ref (ar 2)), (5, .ref (ar 3)), (6, .ref (ar 4)), (7, .ref (ar 5)), (8, .ref (ar 6)), (9, .ref (ar 7)), (10, .ref (ar 8)), (11, .ref (ar 9)), (12, .ref (ar 10)), (13, .ref (ar 11)), (14, .ref (ar 12)), (15, .ref (ar 13)), (16, .ref (ar 14)), (17, .ref (ar 15)), (18, vI ((turn : Nat) : Int)), (19, .int zz), (20, vI ((act : Nat) : Int)), (21, vI 1), (22, vI ((k : Nat) : Int)), (23, vI ((((lowF (zz >>> ((iI 8) &&& 31)) 96 : Nat) : Int)) + 72))]) dL_law_358 (by decide) rfl ?_
      exact CT ((lowF (zz >>> ((iI 8) &&& 31)) 96) + 72) (by omega)
    · skip
      refine x_iconst C dL_law_351 0 (by decide) ?_
      refine x_goto (tgt := 357) C dL_law_352 (by decide) ?_
      refine x_iadd C dL_law_357 ?_
      refine x_istore C (ls' := [(0, .ref b), (1, .ref x), (2, .ref (ar 0)), (3, .ref (ar 1)), (4, .ref (ar 2)), (5, .ref (ar 3)), (6, .ref (ar 4)), (7, .ref (ar 5)), (8, .ref (ar 6)), (9, .ref (ar 7)), (10, .ref (ar 8)), (11, .ref (ar 9)), (12, .ref (ar 10)), (13, .ref (ar 11)), (14, .ref (ar 12)), (15, .ref (ar 13)), (16, .ref (ar 14)), (17, .ref (ar 15)), (18, vI ((turn : Nat) : Int)), (19, .int zz), (20, vI ((act : Nat) : Int)), (21, vI 1), (22, vI ((k : Nat) : Int)), (23, vI ((((lowF (zz >>> ((iI 8) &&& 31)) 96 : Nat) : Int)) + 0))]) dL_law_358 (by decide) rfl ?_
      exact CT ((lowF (zz >>> ((iI 8) &&& 31)) 96) + 0) (by omega)


set_option maxRecDepth 100000 in
set_option maxHeartbeats 20000000 in
theorem lb_prove {κ : KX} {D : va_G} {A : Nat → Prop} {nm : String} (C : CX κ "LedgeLevelsLaw" nm cL_law wsL_law { frames := 12, cells := 600130, slots := 7301080, locals := 472 } D A 28) (kn : KN κ) {b x t turn n1 n2 act : Nat} {ar : Nat → Nat} {zz : Int32} {h : vh} (hai : ∀ i j, i < 16 → j < 16 → ar i = ar j → i = j) (ht : t ≤ 10000) (hrm : n1 + 1000 ≤ 600130 ∧ n2 + 6000 ≤ 7301080) {m : CS} {L W : Nat} {q : Nat → Int} {g : Nat → Int64} {l0 u v n w p r : Nat → Int} (hSy : Sy D x ar m L W t h) (hEX : EX m) (hPK : PK m L W q g l0 u v n w p r) (hAR : AR D ar q g l0 u v n w p r h) (hSC : SC D ar h) (hL : 0 < L) (K : ∀ h9, WD D x ar (t + 10) h9 → X κ (n1 + 500) (n2 + 3000) h9 [(0, .ref b), (1, .ref x), (2, .ref (ar 0)), (3, .ref (ar 1)), (4, .ref (ar 2)), (5, .ref (ar 3)), (6, .ref (ar 4)), (7, .ref (ar 5)), (8, .ref (ar 6)), (9, .ref (ar 7)), (10, .ref (ar 8)), (11, .ref (ar 9)), (12, .ref (ar 10)), (13, .ref (ar 11)), (14, .ref (ar 12)), (15, .ref (ar 13)), (16, .ref (ar 14)), (17, .ref (ar 15)), (18, vI ((turn : Nat) : Int)), (19, .int zz), (20, vI ((act : Nat) : Int)), (21, vI 1)] 965 []) : X κ n1 n2 h [(0, .ref b), (1, .ref x), (2, .ref (ar 0)), (3, .ref (ar 1)), (4, .ref (ar 2)), (5, .ref (ar 3)), (6, .ref (ar 4)), (7, .ref (ar 5)), (8, .ref (ar 6)), (9, .ref (ar 7)), (10, .ref (ar 8)), (11, .ref (ar 9)), (12, .ref (ar 10)), (13, .ref (ar 11)), (14, .ref (ar 12)), (15, .ref (ar 13)), (16, .ref (ar 14)), (17, .ref (ar 15)), (18, vI ((turn : Nat) : Int)), (19, .int zz), (20, vI ((act : Nat) : Int)), (21, vI 1)] 758 [] := by
  have hiz : nq (D.1 20) (D.1 21) := cx_iz C
  obtain ⟨hq, hg, hl0, hu, hv, hn, hw, hp, hr⟩ := hAR
  obtain ⟨za, zb, zc, zd, ze, zf, zm, hza, hzb, hzc, hzd, hze, hzf, hzm⟩ := hSC
  have hSC : SC D ar h := ⟨za, zb, zc, zd, ze, zf, zm, hza, hzb, hzc, hzd, hze, hzf, hzm⟩
  obtain ⟨⟨hL5, hW5, hq0, hq1⟩, hqs, hPL, hPN, hPW, hPU, hPP⟩ := id hPK
  have hEB := hSy.eb hPK
  obtain ⟨hz8, hz21, hm2, hm14⟩ := hSy.zero
  obtain ⟨k, hk⟩ : ∃ k : Nat, k = lowF (zz >>> ((iI 5) &&& 31)) ((L : Nat) : Int) := ⟨_, rfl⟩
  have hkL : k < L := by
    have := lowF_lt (v := zz >>> ((iI 5) &&& 31)) (n := ((L : Nat) : Int)) (by omega)
    omega
  obtain ⟨hA7, hf8, hst, hpr, hau⟩ := hSy.lev hPK hkL
  obtain ⟨k1, k2, k3, k4, k5, _⟩ := hPL k hkL
  have E41 : Int.toNat (4 * ((k : Nat) : Int) + 1) = 4 * k + 1 := by omega
  have E42 : Int.toNat (4 * ((k : Nat) : Int) + 2) = 4 * k + 2 := by omega
  have E6K : (6 * ((k : Nat) : Int)).toNat = 6 * k := by omega
  have hst5 : 0 ≤ m 5 0 k ∧ m 5 0 k ≤ 95 := by rw [← k2]; exact hst
  obtain ⟨hss, _⟩ := hSy.str
  refine x_iload C dL_law_758 19 rfl ?_
  refine x_iconst C dL_law_760 5 (by decide) ?_
  refine x_ishr C dL_law_761 _ rfl ?_
  refine x_aload_n C dL_law_762 2 rfl ?_
  refine x_iconst C dL_law_763 0 (by decide) ?_
  refine x_iald C hq ⟨by omega, by omega⟩ (by decide) dL_law_764 ?_
  refine x_topv (show q (Int.toNat 0) = ((L : Nat) : Int) from by exact hq0) ?_
  refine x_callSJ C (n := 2) (As := [.int (zz >>> ((iI 5) &&& 31)), vI ((L : Nat) : Int)]) (rest := []) (c_L_low (by omega)) gL_law_L_low (by decide +kernel) rfl rfl rfl (Nat.le_of_ble_eq_true rfl) ⟨by decide, by decide⟩ ⟨(by first | omega | (dsimp only; omega)), (by first | omega | (dsimp only; omega))⟩ dL_law_765 (fun rv1 h2 hp3 => ?_)
  obtain ⟨rfl, e4, hr_765⟩ := hp3
  obtain rfl := e4.symm
  refine x_topv (show ((lowF (zz >>> ((iI 5) &&& 31)) (((L : Nat) : Int)) : Nat) : Int) = ((k : Nat) : Int) from by rw [hk]) ?_
  refine x_istore C (ls' := [(0, .ref b), (1, .ref x), (2, .ref (ar 0)), (3, .ref (ar 1)), (4, .ref (ar 2)), (5, .ref (ar 3)), (6, .ref (ar 4)), (7, .ref (ar 5)), (8, .ref (ar 6)), (9, .ref (ar 7)), (10, .ref (ar 8)), (11, .ref (ar 9)), (12, .ref (ar 10)), (13, .ref (ar 11)), (14, .ref (ar 12)), (15, .ref (ar 13)), (16, .ref (ar 14)), (17, .ref (ar 15)), (18, vI ((turn : Nat) : Int)), (19, .int zz), (20, vI ((act : Nat) : Int)), (21, vI 1), (22, vI ((k : Nat) : Int))]) dL_law_768 (by decide) rfl ?_
  refine x_aload C dL_law_770 4 rfl ?_
  refine x_iconst C dL_law_772 4 (by decide) ?_
  refine x_iload C dL_law_773 22 rfl ?_
  refine x_imul C dL_law_775 ?_
  refine x_iconst C dL_law_776 2 (by decide) ?_
  refine x_iadd C dL_law_777 ?_
  refine x_aload C dL_law_778 4 rfl ?_
  refine x_iconst C dL_law_780 4 (by decide) ?_
  refine x_iload C dL_law_781 22 rfl ?_
  refine x_imul C dL_law_783 ?_
  refine x_iconst C dL_law_784 1 (by decide) ?_
  refine x_iadd C dL_law_785 ?_
  refine x_iald C hl0 ⟨by omega, by omega⟩ (by decide) dL_law_786 ?_
  refine x_topv (show l0 (Int.toNat ((4 * (((k : Nat) : Int))) + 1)) = m 5 0 k from by rw [E41]; exact k2) ?_
  refine x_bipush C dL_law_787 6 (by decide) ?_
  refine x_iload C dL_law_789 22 rfl ?_
  refine x_imul C dL_law_791 ?_
  refine x_aload_n C dL_law_792 2 rfl ?_
  refine x_aload_n C dL_law_793 3 rfl ?_
  refine x_aload C dL_law_794 11 rfl ?_
  refine x_aload C dL_law_796 12 rfl ?_
  refine x_aload C dL_law_798 13 rfl ?_
  refine x_aload C dL_law_800 14 rfl ?_
  refine x_aload C dL_law_802 15 rfl ?_
  refine x_aload C dL_law_804 16 rfl ?_
  refine x_aload C dL_law_806 17 rfl ?_
  refine x_callSJ C (n := 11) (As := [vI (m 5 0 k), vI (6 * (((k : Nat) : Int))), .ref (ar 0), .ref (ar 1), .ref (ar 9), .ref (ar 10), .ref (ar 11), .ref (ar 12), .ref (ar 13), .ref (ar 14), .ref (ar 15)]) (rest := [vI ((4 * (((k : Nat) : Int))) + 2), .ref (ar 2)]) (c_L_search (S := (m 1 0)) hg hq hza hzb hzc hzd hze hzf hzm (by omega) (by omega) (hPK.qs) (hss) (by rw [E6K]; exact hA7) (by rw [E6K]; exact hf8) (ari hai (by decide) (by decide) (by decide)) (ari hai (by decide) (by decide) (by decide)) (ari hai (by decide) (by decide) (by decide)) (ari hai (by decide) (by decide) (by decide)) (ari hai (by decide) (by decide) (by decide)) (ari hai (by decide) (by decide) (by decide)) (ari hai (by decide) (by decide) (by decide)) (ari hai (by decide) (by decide) (by decide)) (ari hai (by decide) (by decide) (by decide)) (ari hai (by decide) (by decide) (by decide)) (ari hai (by decide) (by decide) (by decide)) (ari hai (by decide) (by decide) (by decide)) (ari hai (by decide) (by decide) (by decide)) (ari hai (by decide) (by decide) (by decide)) (ari hai (by decide) (by decide) (by decide))) gL_law_L_search (by decide +kernel) rfl rfl rfl (Nat.le_of_ble_eq_true rfl) ⟨by decide, by decide⟩ ⟨(by first | omega | (dsimp only; omega)), (by first | omega | (dsimp only; omega))⟩ dL_law_808 (fun rv5 h6 hp7 => ?_)
  obtain ⟨ya, yb, yc, yd, ye, yf, ym, w9, rfl, ⟨ga, gb, gc, gd, ge, gf, gm⟩, hfr9, hwr9, hFn9, hSn9⟩ := hp7
  have hSC8 : SC D ar h6 := ⟨ya, yb, yc, yd, ye, yf, ym, ga, gb, gc, gd, ge, gf, gm⟩
  have hAR8 := AR.fr hai (show AR D ar q g l0 u v n w p r h from ⟨hq, hg, hl0, hu, hv, hn, hw, hp, hr⟩) hfr9
  have hSy8 : Sy D x ar m L W t h6 := Sy.fr (h := h) (by repeat (first | exact hSy | exact hSyL | refine Sy.off ?_ (by decide))) hfr9
  obtain ⟨f9, f10, f11, f12, f13, f14, f15, f16, f17⟩ := id hAR8
  rw [E6K] at hFn9 hSn9
  have hFd9 : FdR m (rwM (m 4 0) (96 * k)) (m 5 0 k) w9 := by
    unfold FdR
    rw [hPK.gl hkL, hEX.1, hEX.2.1, lyG_0g]
    exact hFn9
  have hSd9 : ∀ z : Nat, z < 96 → (Ms ym z ↔ SnR m (rwM (m 4 0) (96 * k)) (m 5 0 k) z) := fun z hz => by
    unfold SnR
    rw [hPK.gl hkL, hEX.1, hEX.2.1, lyG_0g]
    exact hSn9 z hz
  refine x_iast C f11 ⟨by omega, by omega⟩ (by decide) dL_law_811 (x_hn (fun h18 e19 => ?_))
  have f20 : h18 (ar 2) = some (eI D 20 (fu l0 (Int.toNat ((4 * (((k : Nat) : Int))) + 2)) w9)) := by rw [e19]; exact hu_s
  have f21 : h18 (ar 2) = some (eI D 20 (fu l0 (4 * k + 2) w9)) := by have q9 := f20; rw [E42] at q9; exact q9
  refine x_aload_n C dL_law_812 1 rfl ?_
  refine x_iload C dL_law_813 22 rfl ?_
  have hSy9 : Sy D x ar m L W t h18 := by rw [e19]; repeat (first | exact hSy | exact hSyL | exact hSy8 | refine Sy.off ?_ (by decide))
  have hSC9 : SC D ar h18 := by rw [e19]; repeat (first | exact hSC | exact hSCL | exact hSC8 | refine SC.off hai ?_ (by decide))
  have f22 : h18 (ar 0) = some (eI D 5 q) := by rw [e19, hu_n (ari hai (i := 0) (j := 2) (by decide) (by decide) (by decide))]; exact f9
  have f23 : h18 (ar 1) = some (eJ D 60 g) := by rw [e19, hu_n (ari hai (i := 1) (j := 2) (by decide) (by decide) (by decide))]; exact f10
  have f24 : h18 (ar 3) = some (eI D 60 u) := by rw [e19, hu_n (ari hai (i := 3) (j := 2) (by decide) (by decide) (by decide))]; exact f12
  have f25 : h18 (ar 4) = some (eI D 60 v) := by rw [e19, hu_n (ari hai (i := 4) (j := 2) (by decide) (by decide) (by decide))]; exact f13
  have f26 : h18 (ar 5) = some (eI D 10 n) := by rw [e19, hu_n (ari hai (i := 5) (j := 2) (by decide) (by decide) (by decide))]; exact f14
  have f27 : h18 (ar 6) = some (eI D 25 w) := by rw [e19, hu_n (ari hai (i := 6) (j := 2) (by decide) (by decide) (by decide))]; exact f15
  have f28 : h18 (ar 7) = some (eI D 15 p) := by rw [e19, hu_n (ari hai (i := 7) (j := 2) (by decide) (by decide) (by decide))]; exact f16
  have f29 : h18 (ar 8) = some (eI D 18 r) := by rw [e19, hu_n (ari hai (i := 8) (j := 2) (by decide) (by decide) (by decide))]; exact f17
  have hAR9 : AR D ar q g (fu l0 (4 * k + 2) w9) u v n w p r h18 := ⟨f22, f23, f21, f24, f25, f26, f27, f28, f29⟩
  have f30 : h18 (ar 9) = some (eJ D 64 ya) := by rw [e19, hu_n (ari hai (i := 9) (j := 2) (by decide) (by decide) (by decide))]; exact ga
  have f31 : h18 (ar 10) = some (eJ D 64 yb) := by rw [e19, hu_n (ari hai (i := 10) (j := 2) (by decide) (by decide) (by decide))]; exact gb
  have f32 : h18 (ar 11) = some (eJ D 64 yc) := by rw [e19, hu_n (ari hai (i := 11) (j := 2) (by decide) (by decide) (by decide))]; exact gc
  have f33 : h18 (ar 12) = some (eJ D 64 yd) := by rw [e19, hu_n (ari hai (i := 12) (j := 2) (by decide) (by decide) (by decide))]; exact gd
  have f34 : h18 (ar 13) = some (eJ D 64 ye) := by rw [e19, hu_n (ari hai (i := 13) (j := 2) (by decide) (by decide) (by decide))]; exact ge
  have f35 : h18 (ar 14) = some (eJ D 64 yf) := by rw [e19, hu_n (ari hai (i := 14) (j := 2) (by decide) (by decide) (by decide))]; exact gf
  have f36 : h18 (ar 15) = some (eJ D 2 ym) := by rw [e19, hu_n (ari hai (i := 15) (j := 2) (by decide) (by decide) (by decide))]; exact gm
  obtain ⟨P9, X9, hM9, hX9, hP9⟩ := k_prove (l := kl κ) (A := A) hSy9 (u := k) (r := w9) hkL (by omega) hFd9 (by omega)
  obtain ⟨fs9, ho9⟩ := hSy9.obj
  refine x_callVx C (n := 1) (qc := (RX7, TX7, 7)) (As := [vI ((k : Nat) : Int)]) (rest := []) hM9 gL_law_X7_prove (by decide +kernel) ho9 rfl rfl rfl rfl (Nat.le_of_ble_eq_true rfl) ⟨by decide, by decide⟩ ⟨(by first | omega | (dsimp only; omega)), (by first | omega | (dsimp only; omega))⟩ dL_law_815 hX9 (fun rv9 h37 hp9 => ?_)
  have hk9 := hP9 rv9 h37 hp9
  obtain ⟨rfl, hS9, hkp9⟩ := hk9
  obtain ⟨f38, f39, f40, f41, f42, f43, f44, f45, f46⟩ := hAR9.kp hkp9
  have f47 := hkp9 9 (by decide) _ f30
  have f48 := hkp9 10 (by decide) _ f31
  have f49 := hkp9 11 (by decide) _ f32
  have f50 := hkp9 12 (by decide) _ f33
  have f51 := hkp9 13 (by decide) _ f34
  have f52 := hkp9 14 (by decide) _ f35
  have f53 := hkp9 15 (by decide) _ f36
  refine x_aload C dL_law_818 4 rfl ?_
  refine x_iconst C dL_law_820 4 (by decide) ?_
  refine x_iload C dL_law_821 22 rfl ?_
  refine x_imul C dL_law_823 ?_
  refine x_iconst C dL_law_824 2 (by decide) ?_
  refine x_iadd C dL_law_825 ?_
  refine x_iald C f40 ⟨by omega, by omega⟩ (by decide) dL_law_826 ?_
  refine x_topv (show (fu l0 (4 * k + 2) w9) (Int.toNat ((4 * (((k : Nat) : Int))) + 2)) = w9 from by rw [E42, fu_s]) ?_
  refine x_icmp_ne (tgt := 863) C dL_law_827 (by decide) (by omega) (by omega) (fun c54 => ?_) (fun c54 => ?_)
  · exfalso; omega
  · skip
    obtain ⟨bb, hbb⟩ : ∃ bb : Nat, bb = lowF (zz >>> ((iI 8) &&& 31)) 4 := ⟨_, rfl⟩
    have hbb4 : bb < 4 := by
      have := lowF_lt (v := zz >>> ((iI 8) &&& 31)) (n := 4) (by omega)
      omega
    refine x_aload_n C dL_law_830 1 rfl ?_
    refine x_iload C dL_law_831 22 rfl ?_
    refine x_iload C dL_law_833 19 rfl ?_
    refine x_bipush C dL_law_835 8 (by decide) ?_
    refine x_ishr C dL_law_837 _ rfl ?_
    refine x_iconst C dL_law_838 4 (by decide) ?_
    refine x_callSJ C (n := 2) (As := [.int (zz >>> ((iI 8) &&& 31)), vI 4]) (rest := [vI ((k : Nat) : Int), .ref x]) (c_L_low (by omega)) gL_law_L_low (by decide +kernel) rfl rfl rfl (Nat.le_of_ble_eq_true rfl) ⟨by decide, by decide⟩ ⟨(by first | omega | (dsimp only; omega)), (by first | omega | (dsimp only; omega))⟩ dL_law_839 (fun rv55 h56 hp57 => ?_)
    obtain ⟨rfl, e58, hr_839⟩ := hp57
    obtain rfl := e58.symm
    refine x_topv (show ((lowF (zz >>> ((iI 8) &&& 31)) 4 : Nat) : Int) = ((bb : Nat) : Int) from by rw [hbb]) ?_
    refine x_aload C dL_law_842 4 rfl ?_
    refine x_iconst C dL_law_844 4 (by decide) ?_
    refine x_iload C dL_law_845 22 rfl ?_
    refine x_imul C dL_law_847 ?_
    refine x_iconst C dL_law_848 2 (by decide) ?_
    refine x_iadd C dL_law_849 ?_
    refine x_iald C f40 ⟨by omega, by omega⟩ (by decide) dL_law_850 ?_
    refine x_topv (show (fu l0 (4 * k + 2) w9) (Int.toNat ((4 * (((k : Nat) : Int))) + 2)) = w9 from by rw [E42, fu_s]) ?_
    refine x_aload C dL_law_851 17 rfl ?_
    refine x_callSJ C (n := 5) (As := [.ref x, vI ((k : Nat) : Int), vI ((bb : Nat) : Int), vI w9, .ref (ar 15)]) (rest := []) (c_L_tells (m := (cu m 6 0 (fu (m 6 0) k w9))) (L := L) (W := W) (t := (t + 1)) f53 (hS9) (by omega) (hkL) (by omega) (by omega) (hFd9) (hSd9)) gL_law_L_tells (by decide +kernel) rfl rfl rfl (Nat.le_of_ble_eq_true rfl) ⟨by decide, by decide⟩ ⟨(by first | omega | (dsimp only; omega)), (by first | omega | (dsimp only; omega))⟩ dL_law_853 (fun rv59 h60 hp61 => ?_)
    obtain ⟨rfl, hS8, hkp8⟩ := hp61
    refine x_if_eq (tgt := 863) C dL_law_856 (by decide) (by omega) (fun c63 => ?_) (fun c63 => ?_)
    · exfalso; omega
    · skip
      refine x_iconst C dL_law_859 1 (by decide) ?_
      refine x_goto (tgt := 864) C dL_law_860 (by decide) ?_
      refine x_istore C (ls' := [(0, .ref b), (1, .ref x), (2, .ref (ar 0)), (3, .ref (ar 1)), (4, .ref (ar 2)), (5, .ref (ar 3)), (6, .ref (ar 4)), (7, .ref (ar 5)), (8, .ref (ar 6)), (9, .ref (ar 7)), (10, .ref (ar 8)), (11, .ref (ar 9)), (12, .ref (ar 10)), (13, .ref (ar 11)), (14, .ref (ar 12)), (15, .ref (ar 13)), (16, .ref (ar 14)), (17, .ref (ar 15)), (18, vI ((turn : Nat) : Int)), (19, .int zz), (20, vI ((act : Nat) : Int)), (21, vI 1), (22, vI ((k : Nat) : Int))]) dL_law_864 (by decide) rfl ?_
      refine x_goto (tgt := 965) C dL_law_866 (by decide) ?_
      refine x_sub [0, 1, 2, 3, 4, 5, 6, 7, 8, 9, 10, 11, 12, 13, 14, 15, 16, 17, 18, 19, 20, 21] (ls' := [(0, .ref b), (1, .ref x), (2, .ref (ar 0)), (3, .ref (ar 1)), (4, .ref (ar 2)), (5, .ref (ar 3)), (6, .ref (ar 4)), (7, .ref (ar 5)), (8, .ref (ar 6)), (9, .ref (ar 7)), (10, .ref (ar 8)), (11, .ref (ar 9)), (12, .ref (ar 10)), (13, .ref (ar 11)), (14, .ref (ar 12)), (15, .ref (ar 13)), (16, .ref (ar 14)), (17, .ref (ar 15)), (18, vI ((turn : Nat) : Int)), (19, .int zz), (20, vI ((act : Nat) : Int)), (21, vI 1)]) rfl ?_
      refine x_widen (m1 := n1 + 500) (m2 := n2 + 3000) (by first | omega | (dsimp only; omega)) (by first | omega | (dsimp only; omega)) ?_
      exact K h60 (⟨_, L, W, _, _, _, _, _, _, _, _, _, hS8.le (by omega), hEX.o (fun j9 hj9 => cu_n (by omega)), PK.lv (a := m 5 0 k) (m' := cu m 6 0 (fu (m 6 0) k w9)) hPK hEB hkL (by rw [fu_self]; rfl) rfl (fun j9 y1 y2 => cu_n (by omega)) (fun j9 => by rw [fu1_e j9, k2]), (hAR9.kp hkp9).kp hkp8, (hSC9.kp hkp9).kp hkp8⟩)


set_option maxRecDepth 100000 in
set_option maxHeartbeats 20000000 in
theorem lb_begin {κ : KX} {D : va_G} {A : Nat → Prop} {nm : String} (C : CX κ "LedgeLevelsLaw" nm cL_law wsL_law { frames := 12, cells := 600130, slots := 7301080, locals := 472 } D A 28) (kn : KN κ) {b x t turn n1 n2 act : Nat} {ar : Nat → Nat} {zz : Int32} {h : vh} (hai : ∀ i j, i < 16 → j < 16 → ar i = ar j → i = j) (ht : t ≤ 10000) (hrm : n1 + 1000 ≤ 600130 ∧ n2 + 6000 ≤ 7301080) {m : CS} {L W : Nat} {q : Nat → Int} {g : Nat → Int64} {l0 u v n w p r : Nat → Int} (hSy : Sy D x ar m L W t h) (hEX : EX m) (hPK : PK m L W q g l0 u v n w p r) (hAR : AR D ar q g l0 u v n w p r h) (hSC : SC D ar h) (hL : L < 5) (K : ∀ h9, WD D x ar (t + 10) h9 → X κ (n1 + 500) (n2 + 3000) h9 [(0, .ref b), (1, .ref x), (2, .ref (ar 0)), (3, .ref (ar 1)), (4, .ref (ar 2)), (5, .ref (ar 3)), (6, .ref (ar 4)), (7, .ref (ar 5)), (8, .ref (ar 6)), (9, .ref (ar 7)), (10, .ref (ar 8)), (11, .ref (ar 9)), (12, .ref (ar 10)), (13, .ref (ar 11)), (14, .ref (ar 12)), (15, .ref (ar 13)), (16, .ref (ar 14)), (17, .ref (ar 15)), (18, vI ((turn : Nat) : Int)), (19, .int zz), (20, vI ((act : Nat) : Int)), (21, vI 1)] 965 []) : X κ n1 n2 h [(0, .ref b), (1, .ref x), (2, .ref (ar 0)), (3, .ref (ar 1)), (4, .ref (ar 2)), (5, .ref (ar 3)), (6, .ref (ar 4)), (7, .ref (ar 5)), (8, .ref (ar 6)), (9, .ref (ar 7)), (10, .ref (ar 8)), (11, .ref (ar 9)), (12, .ref (ar 10)), (13, .ref (ar 11)), (14, .ref (ar 12)), (15, .ref (ar 13)), (16, .ref (ar 14)), (17, .ref (ar 15)), (18, vI ((turn : Nat) : Int)), (19, .int zz), (20, vI ((act : Nat) : Int)), (21, vI 1)] 173 [] := by
  have hiz : nq (D.1 20) (D.1 21) := cx_iz C
  obtain ⟨hq, hg, hl0, hu, hv, hn, hw, hp, hr⟩ := hAR
  obtain ⟨⟨hL5, hW5, hq0, hq1⟩, hqs, hPL, hPN, hPW, hPU, hPP⟩ := id hPK
  have hEB := hSy.eb hPK
  obtain ⟨hz8, hz21, hm2, hm14⟩ := hSy.zero
  obtain ⟨pn, hpn⟩ : ∃ pn : Nat, pn = lowF (zz >>> ((iI 5) &&& 31)) 3 := ⟨_, rfl⟩
  have hpn3 : pn < 3 := by
    have := lowF_lt (v := zz >>> ((iI 5) &&& 31)) (n := 3) (by omega)
    omega
  have E6L : (6 * ((L : Nat) : Int)).toNat = 6 * L := by omega
  refine x_iload C dL_law_173 19 rfl ?_
  refine x_iconst C dL_law_175 5 (by decide) ?_
  refine x_ishr C dL_law_176 _ rfl ?_
  refine x_iconst C dL_law_177 3 (by decide) ?_
  refine x_callSJ C (n := 2) (As := [.int (zz >>> ((iI 5) &&& 31)), vI 3]) (rest := []) (c_L_low (by omega)) gL_law_L_low (by decide +kernel) rfl rfl rfl (Nat.le_of_ble_eq_true rfl) ⟨by decide, by decide⟩ ⟨(by first | omega | (dsimp only; omega)), (by first | omega | (dsimp only; omega))⟩ dL_law_178 (fun rv1 h2 hp3 => ?_)
  obtain ⟨rfl, e4, hr_178⟩ := hp3
  obtain rfl := e4.symm
  refine x_topv (show ((lowF (zz >>> ((iI 5) &&& 31)) 3 : Nat) : Int) = ((pn : Nat) : Int) from by rw [hpn]) ?_
  refine x_istore C (ls' := [(0, .ref b), (1, .ref x), (2, .ref (ar 0)), (3, .ref (ar 1)), (4, .ref (ar 2)), (5, .ref (ar 3)), (6, .ref (ar 4)), (7, .ref (ar 5)), (8, .ref (ar 6)), (9, .ref (ar 7)), (10, .ref (ar 8)), (11, .ref (ar 9)), (12, .ref (ar 10)), (13, .ref (ar 11)), (14, .ref (ar 12)), (15, .ref (ar 13)), (16, .ref (ar 14)), (17, .ref (ar 15)), (18, vI ((turn : Nat) : Int)), (19, .int zz), (20, vI ((act : Nat) : Int)), (21, vI 1), (22, vI ((pn : Nat) : Int))]) dL_law_181 (by decide) rfl ?_
  refine x_bipush C dL_law_183 84 (by decide) ?_
  refine x_istore C (ls' := [(0, .ref b), (1, .ref x), (2, .ref (ar 0)), (3, .ref (ar 1)), (4, .ref (ar 2)), (5, .ref (ar 3)), (6, .ref (ar 4)), (7, .ref (ar 5)), (8, .ref (ar 6)), (9, .ref (ar 7)), (10, .ref (ar 8)), (11, .ref (ar 9)), (12, .ref (ar 10)), (13, .ref (ar 11)), (14, .ref (ar 12)), (15, .ref (ar 13)), (16, .ref (ar 14)), (17, .ref (ar 15)), (18, vI ((turn : Nat) : Int)), (19, .int zz), (20, vI ((act : Nat) : Int)), (21, vI 1), (22, vI ((pn : Nat) : Int)), (23, vI 84)]) dL_law_185 (by decide) rfl ?_
  have CB : ∀ (N : Nat) (z : Nat) (g2 : Nat → Int64) (h5 : vh)  (uq : h5 (ar 0) = some (eI D 5 q)) (ug : h5 (ar 1) = some (eJ D 60 g2)) (ul0 : h5 (ar 2) = some (eI D 20 l0)) (uu : h5 (ar 3) = some (eI D 60 u)) (uv : h5 (ar 4) = some (eI D 60 v)) (un : h5 (ar 5) = some (eI D 10 n)) (uw : h5 (ar 6) = some (eI D 25 w)) (up : h5 (ar 7) = some (eI D 15 p)) (ur : h5 (ar 8) = some (eI D 18 r)) (hz : 84 ≤ z ∧ z ≤ 96) (hN : 96 - z < N) (hg2 : ∀ i, i < 10 → ∀ y, y < 96 → gk g2 (6 * i) y = if i = L ∧ 84 ≤ y ∧ y < z then 1 else gk g (6 * i) y) (hSyL : Sy D x ar m L W t h5) (hSCL : SC D ar h5), X κ (n1 + 0) (n2 + 0) h5 [(0, .ref b), (1, .ref x), (2, .ref (ar 0)), (3, .ref (ar 1)), (4, .ref (ar 2)), (5, .ref (ar 3)), (6, .ref (ar 4)), (7, .ref (ar 5)), (8, .ref (ar 6)), (9, .ref (ar 7)), (10, .ref (ar 8)), (11, .ref (ar 9)), (12, .ref (ar 10)), (13, .ref (ar 11)), (14, .ref (ar 12)), (15, .ref (ar 13)), (16, .ref (ar 14)), (17, .ref (ar 15)), (18, vI ((turn : Nat) : Int)), (19, .int zz), (20, vI ((act : Nat) : Int)), (21, vI 1), (22, vI ((pn : Nat) : Int)), (23, vI ((z : Nat) : Int))] 187 [] := by
    intro N
    induction N with
    | zero => intro z g2 h5 uq ug ul0 uu uv un uw up ur hz hN hg2 hSyL hSCL; exfalso; omega
    | succ N ihCB =>
      intro z g2 h5 uq ug ul0 uu uv un uw up ur hz hN hg2 hSyL hSCL
      refine x_iload C dL_law_187 23 rfl ?_
      refine x_bipush C dL_law_189 96 (by decide) ?_
      refine x_icmp_ge (tgt := 213) C dL_law_191 (by decide) (by omega) (by omega) (fun c6 => ?_) (fun c6 => ?_)
      · skip
        refine x_aload_n C dL_law_213 1 rfl ?_
        refine x_iload C dL_law_214 22 rfl ?_
        have hSy9 : Sy D x ar m L W t h5 := by repeat (first | exact hSy | exact hSyL | exact hSy8 | refine Sy.off ?_ (by decide))
        have hSC9 : SC D ar h5 := by repeat (first | exact hSC | exact hSCL | exact hSC8 | refine SC.off hai ?_ (by decide))
        have hAR9 : AR D ar q g2 l0 u v n w p r h5 := ⟨uq, ug, ul0, uu, uv, un, uw, up, ur⟩
        have hz9 : z = 96 := by omega
        rw [hz9] at hg2
        obtain ⟨P9, X9, hM9, hX9, hP9⟩ := k_begin (l := kl κ) (A := A) hSy9 (p := ((pn : Nat) : Int)) (by omega) (by omega) (hAR9.live hSC9)
        obtain ⟨fs9, ho9⟩ := hSy9.obj
        refine x_callVx C (n := 1) (qc := (RX7, TX7, 7)) (As := [vI ((pn : Nat) : Int)]) (rest := []) hM9 gL_law_X7_begin (by decide +kernel) ho9 rfl rfl rfl rfl (Nat.le_of_ble_eq_true rfl) ⟨by decide, by decide⟩ ⟨(by first | omega | (dsimp only; omega)), (by first | omega | (dsimp only; omega))⟩ dL_law_216 hX9 (fun rv9 h7 hp9 => ?_)
        have hk9 := hP9 rv9 h7 hp9
        obtain ⟨rfl, hS9, hkp9⟩ := hk9
        obtain ⟨f8, f9, f10, f11, f12, f13, f14, f15, f16⟩ := hAR9.kp hkp9
        refine x_iload C dL_law_219 22 rfl ?_
        refine x_bipush C dL_law_221 72 (by decide) ?_
        refine x_iconst C dL_law_223 (-1) (by decide) ?_
        refine x_aload_n C dL_law_224 2 rfl ?_
        refine x_aload C dL_law_225 4 rfl ?_
        refine x_callSJ C (n := 5) (As := [vI ((pn : Nat) : Int), vI 72, vI (-1), .ref (ar 0), .ref (ar 2)]) (rest := [vI ((L : Nat) : Int)]) (c_L_begins (n := L) f8 f10 (⟨hq0, by omega⟩)) gL_law_L_begins (by decide +kernel) rfl rfl rfl (Nat.le_of_ble_eq_true rfl) ⟨by decide, by decide⟩ ⟨(by first | omega | (dsimp only; omega)), (by first | omega | (dsimp only; omega))⟩ dL_law_227 (fun rv17 h18 hp19 => ?_)
        obtain ⟨rfl, e20⟩ := hp19
        have f21 : h18 (ar 0) = some (eI D 5 (fu q 0 (((L + 1 : Nat)) : Int))) := by rw [e20]; exact hu_s
        have f22 : h18 (ar 2) = some (eI D 20 (lB l0 L (((pn : Nat) : Int)) 72 ((-1)))) := by rw [e20, hu_n (ari hai (i := 2) (j := 0) (by decide) (by decide) (by decide))]; exact hu_s
        refine x_icmp_ne (tgt := 237) C dL_law_230 (by decide) (by omega) (by omega) (fun c23 => ?_) (fun c23 => ?_)
        · exfalso; omega
        · skip
          refine x_iconst C dL_law_233 1 (by decide) ?_
          refine x_goto (tgt := 238) C dL_law_234 (by decide) ?_
          refine x_istore C (ls' := [(0, .ref b), (1, .ref x), (2, .ref (ar 0)), (3, .ref (ar 1)), (4, .ref (ar 2)), (5, .ref (ar 3)), (6, .ref (ar 4)), (7, .ref (ar 5)), (8, .ref (ar 6)), (9, .ref (ar 7)), (10, .ref (ar 8)), (11, .ref (ar 9)), (12, .ref (ar 10)), (13, .ref (ar 11)), (14, .ref (ar 12)), (15, .ref (ar 13)), (16, .ref (ar 14)), (17, .ref (ar 15)), (18, vI ((turn : Nat) : Int)), (19, .int zz), (20, vI ((act : Nat) : Int)), (21, vI 1), (22, vI ((pn : Nat) : Int)), (23, vI ((z : Nat) : Int))]) dL_law_238 (by decide) rfl ?_
          refine x_goto (tgt := 965) C dL_law_240 (by decide) ?_
          have f24 : h18 (ar 1) = some (eJ D 60 g2) := by rw [e20, hu_n (ari hai (i := 1) (j := 0) (by decide) (by decide) (by decide)), hu_n (ari hai (i := 1) (j := 2) (by decide) (by decide) (by decide))]; exact f9
          have f25 : h18 (ar 3) = some (eI D 60 u) := by rw [e20, hu_n (ari hai (i := 3) (j := 0) (by decide) (by decide) (by decide)), hu_n (ari hai (i := 3) (j := 2) (by decide) (by decide) (by decide))]; exact f11
          have f26 : h18 (ar 4) = some (eI D 60 v) := by rw [e20, hu_n (ari hai (i := 4) (j := 0) (by decide) (by decide) (by decide)), hu_n (ari hai (i := 4) (j := 2) (by decide) (by decide) (by decide))]; exact f12
          have f27 : h18 (ar 5) = some (eI D 10 n) := by rw [e20, hu_n (ari hai (i := 5) (j := 0) (by decide) (by decide) (by decide)), hu_n (ari hai (i := 5) (j := 2) (by decide) (by decide) (by decide))]; exact f13
          have f28 : h18 (ar 6) = some (eI D 25 w) := by rw [e20, hu_n (ari hai (i := 6) (j := 0) (by decide) (by decide) (by decide)), hu_n (ari hai (i := 6) (j := 2) (by decide) (by decide) (by decide))]; exact f14
          have f29 : h18 (ar 7) = some (eI D 15 p) := by rw [e20, hu_n (ari hai (i := 7) (j := 0) (by decide) (by decide) (by decide)), hu_n (ari hai (i := 7) (j := 2) (by decide) (by decide) (by decide))]; exact f15
          have f30 : h18 (ar 8) = some (eI D 18 r) := by rw [e20, hu_n (ari hai (i := 8) (j := 0) (by decide) (by decide) (by decide)), hu_n (ari hai (i := 8) (j := 2) (by decide) (by decide) (by decide))]; exact f16
          have hSy7 : Sy D x ar (opN (cu m 4 0 (rowG (m 4 0) (96 * (m 0 0 2).toNat) (fun j => if j < 84 then 0 else 1) 96)) ((pn : Nat) : Int) 72 (-1)) (L + 1) W (t + 1) h18 := by rw [e20]; repeat (first | exact hS9 | refine Sy.off ?_ (by decide))
          have hSC7 : SC D ar h18 := by rw [e20]; repeat (first | exact hSC9.kp hkp9 | refine SC.off hai ?_ (by decide))
          refine x_sub [0, 1, 2, 3, 4, 5, 6, 7, 8, 9, 10, 11, 12, 13, 14, 15, 16, 17, 18, 19, 20, 21] (ls' := [(0, .ref b), (1, .ref x), (2, .ref (ar 0)), (3, .ref (ar 1)), (4, .ref (ar 2)), (5, .ref (ar 3)), (6, .ref (ar 4)), (7, .ref (ar 5)), (8, .ref (ar 6)), (9, .ref (ar 7)), (10, .ref (ar 8)), (11, .ref (ar 9)), (12, .ref (ar 10)), (13, .ref (ar 11)), (14, .ref (ar 12)), (15, .ref (ar 13)), (16, .ref (ar 14)), (17, .ref (ar 15)), (18, vI ((turn : Nat) : Int)), (19, .int zz), (20, vI ((act : Nat) : Int)), (21, vI 1)]) rfl ?_
          refine x_widen (m1 := n1 + 500) (m2 := n2 + 3000) (by first | omega | (dsimp only; omega)) (by first | omega | (dsimp only; omega)) ?_
          exact K h18 (⟨_, L + 1, W, _, _, _, _, _, _, _, _, _, hSy7.le (by omega), hEX.op, PK.op hPK hEB (by omega) hm2 (hz8 L (Nat.le_refl _)) (f := fun j => if j < 84 then 0 else 1) (fun y9 hy9 => by rw [hg2 L (by omega) y9 hy9]; by_cases q9 : y9 < 84; exact (if_neg (by omega)).trans (((hPN L (Nat.le_refl _) (by omega)).2.2 y9 hy9).trans (if_pos q9).symm); exact (if_pos ⟨rfl, by omega, hy9⟩).trans (if_neg q9).symm) (fun i9 h1 h2 y9 hy9 => by rw [hg2 i9 h1 y9 hy9, if_neg (by omega)]), ⟨f21, f24, f22, f25, f26, f27, f28, f29, f30⟩, hSC7⟩)
      · skip
        refine x_aload_n C dL_law_194 3 rfl ?_
        refine x_bipush C dL_law_195 6 (by decide) ?_
        refine x_aload_n C dL_law_197 2 rfl ?_
        refine x_iconst C dL_law_198 0 (by decide) ?_
        refine x_iald C uq ⟨by omega, by omega⟩ (by decide) dL_law_199 ?_
        refine x_topv (show q (Int.toNat 0) = ((L : Nat) : Int) from by exact hq0) ?_
        refine x_imul C dL_law_200 ?_
        refine x_iload C dL_law_201 23 rfl ?_
        refine x_iconst C dL_law_203 1 (by decide) ?_
        refine x_callSJ C (n := 4) (As := [.ref (ar 1), vI (6 * (((L : Nat) : Int))), vI ((z : Nat) : Int), vI 1]) (rest := []) (c_L_put (k := (1 : Int)) ug (by omega) (by omega) (by omega)) gL_law_L_put (by decide +kernel) rfl rfl rfl (Nat.le_of_ble_eq_true rfl) ⟨by decide, by decide⟩ ⟨(by first | omega | (dsimp only; omega)), (by first | omega | (dsimp only; omega))⟩ dL_law_204 (fun rv31 h32 hp33 => ?_)
        obtain ⟨rfl, e34⟩ := hp33
        have f35 : h32 (ar 1) = some (eJ D 60 (gput g2 (6 * (((L : Nat) : Int))).toNat z ((1 : Int)).toNat)) := by rw [e34]; exact hu_s
        have f36 : h32 (ar 1) = some (eJ D 60 (gput g2 (6 * L) z 1)) := by have q9 := f35; rw [E6L] at q9; exact q9
        refine x_iinc C (x := ((z : Nat) : Int)) (ls' := [(0, .ref b), (1, .ref x), (2, .ref (ar 0)), (3, .ref (ar 1)), (4, .ref (ar 2)), (5, .ref (ar 3)), (6, .ref (ar 4)), (7, .ref (ar 5)), (8, .ref (ar 6)), (9, .ref (ar 7)), (10, .ref (ar 8)), (11, .ref (ar 9)), (12, .ref (ar 10)), (13, .ref (ar 11)), (14, .ref (ar 12)), (15, .ref (ar 13)), (16, .ref (ar 14)), (17, .ref (ar 15)), (18, vI ((turn : Nat) : Int)), (19, .int zz), (20, vI ((act : Nat) : Int)), (21, vI 1), (22, vI ((pn : Nat) : Int)), (23, vI ((((z : Nat) : Int)) + 1))]) dL_law_207 23 rfl (by decide) rfl ?_
        refine x_goto (tgt := 187) C dL_law_210 (by decide) ?_
        have f37 : h32 (ar 0) = some (eI D 5 q) := by rw [e34, hu_n (ari hai (i := 0) (j := 1) (by decide) (by decide) (by decide))]; exact uq
        have f38 : h32 (ar 2) = some (eI D 20 l0) := by rw [e34, hu_n (ari hai (i := 2) (j := 1) (by decide) (by decide) (by decide))]; exact ul0
        have f39 : h32 (ar 3) = some (eI D 60 u) := by rw [e34, hu_n (ari hai (i := 3) (j := 1) (by decide) (by decide) (by decide))]; exact uu
        have f40 : h32 (ar 4) = some (eI D 60 v) := by rw [e34, hu_n (ari hai (i := 4) (j := 1) (by decide) (by decide) (by decide))]; exact uv
        have f41 : h32 (ar 5) = some (eI D 10 n) := by rw [e34, hu_n (ari hai (i := 5) (j := 1) (by decide) (by decide) (by decide))]; exact un
        have f42 : h32 (ar 6) = some (eI D 25 w) := by rw [e34, hu_n (ari hai (i := 6) (j := 1) (by decide) (by decide) (by decide))]; exact uw
        have f43 : h32 (ar 7) = some (eI D 15 p) := by rw [e34, hu_n (ari hai (i := 7) (j := 1) (by decide) (by decide) (by decide))]; exact up
        have f44 : h32 (ar 8) = some (eI D 18 r) := by rw [e34, hu_n (ari hai (i := 8) (j := 1) (by decide) (by decide) (by decide))]; exact ur
        exact ihCB (z + 1) (gput g2 (6 * L) z 1) h32 f37 f36 f38 f39 f40 f41 f42 f43 f44 (by omega) (by omega) (gB_s hg2 (by omega)) (by rw [e34]; repeat (first | exact hSy | exact hSyL | exact hSy8 | refine Sy.off ?_ (by decide))) (by rw [e34]; repeat (first | exact hSC | exact hSCL | exact hSC8 | refine SC.off hai ?_ (by decide)))
  exact CB (13) 84 g h hq hg hl0 hu hv hn hw hp hr (by omega) (by omega) (fun i9 _ y9 _ => (if_neg (by omega)).symm) (hSy) (hSC)

