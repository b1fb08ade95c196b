/-! ===== the words of edits, exchange and runs are the law's ===== -/
theorem gi_app {big a b : List Cond} (ha : GoodIn big a) (hb : GoodIn big b) : GoodIn big (a ++ b) := fun w h => (List.mem_append.mp h).elim (ha w) (hb w)
theorem gi_cons {big a : List Cond} {w0 : Cond} (h0 : GoodIn big [w0]) (ha : GoodIn big a) : GoodIn big (w0 :: a) := fun w h => (List.mem_cons.mp h).elim (fun e => h0 w (List.mem_singleton.mpr e)) (ha w)

set_option maxRecDepth 20000 in
theorem gi_edits_0 : GoodIn wsL_law [Cond.code yL_edits cL_edits 15 (some .boolean)] := goodIn_r _ [137] (by decide +kernel) (by decide +kernel)

set_option maxRecDepth 20000 in
theorem gi_edits_1 : GoodIn wsL_law wsL_edits_r1 := goodIn_r _ [66, 67, 62, 68, 69, 138, 139, 140, 73, 141, 142, 143, 70, 71, 72, 74, 144, 145, 146, 147, 148, 149, 150, 2] (by decide +kernel) (by decide +kernel)

set_option maxRecDepth 20000 in
theorem gi_edits_2 : GoodIn wsL_law wsL_edits_r2 := goodIn_r _ [151, 152, 153, 88, 89, 154, 155, 156, 157, 82, 83, 13, 158, 159, 160, 161, 126, 127, 162, 163, 164, 98, 165, 111] (by decide +kernel) (by decide +kernel)

set_option maxRecDepth 20000 in
theorem gi_edits_3 : GoodIn wsL_law wsL_edits_r3 := goodIn_r _ [166, 167, 168, 169, 113, 170, 171, 172, 173, 174, 175, 176, 177, 178, 179, 102, 180, 120, 117, 118, 119, 121, 181, 182] (by decide +kernel) (by decide +kernel)

set_option maxRecDepth 20000 in
theorem gi_edits_4 : GoodIn wsL_law wsL_edits_r4 := goodIn_r _ [183, 184, 185, 186, 187, 91, 188, 99, 105, 189, 123, 124, 125, 128, 129, 130, 131, 112, 190, 191, 192, 193, 194, 195] (by decide +kernel) (by decide +kernel)

set_option maxRecDepth 20000 in
theorem gi_edits_5 : GoodIn wsL_law wsL_edits_r5 := goodIn_r _ [196, 197, 198, 199, 200, 201, 202, 203, 204, 205, 206, 207, 208, 209, 210, 211, 212, 213, 214, 215, 216, 217, 218, 219] (by decide +kernel) (by decide +kernel)

set_option maxRecDepth 20000 in
theorem gi_edits_6 : GoodIn wsL_law wsL_edits_r6 := goodIn_r _ [220, 221, 222, 223, 224, 225, 23, 15, 14, 226, 227, 228, 229, 230, 231, 9, 10, 232, 97, 233, 3, 234, 235, 236] (by decide +kernel) (by decide +kernel)

set_option maxRecDepth 20000 in
theorem gi_edits_7 : GoodIn wsL_law wsL_edits_r7 := goodIn_r _ [237, 238, 239, 240, 108, 109, 110, 241, 242, 243, 244, 245, 246, 247, 248, 249, 250, 22, 251, 252, 253, 254, 79, 80] (by decide +kernel) (by decide +kernel)

set_option maxRecDepth 20000 in
theorem gi_edits_8 : GoodIn wsL_law wsL_edits_r8 := goodIn_r _ [81, 255, 256, 257, 84, 85, 86, 87, 12, 90, 92, 93, 94, 95, 96, 100, 101, 103, 104, 106, 107, 114, 115, 116] (by decide +kernel) (by decide +kernel)

set_option maxRecDepth 20000 in
theorem gi_edits_9 : GoodIn wsL_law wsL_edits_r9 := goodIn_r _ [258, 259, 260, 261, 262, 263, 264, 265, 266, 267, 268, 269, 270, 17, 271, 272, 273, 25, 274, 54, 56, 58, 275, 276] (by decide +kernel) (by decide +kernel)

set_option maxRecDepth 20000 in
theorem gi_edits_10 : GoodIn wsL_law wsL_edits_r10 := goodIn_r _ [277, 39, 278, 46, 47, 48, 279, 280, 281, 282, 45, 283, 284, 285, 286, 287, 288, 289, 290, 291, 55, 292, 293, 294] (by decide +kernel) (by decide +kernel)

set_option maxRecDepth 20000 in
theorem gi_edits_11 : GoodIn wsL_law wsL_edits_r11 := goodIn_r _ [295, 296, 297, 298, 299, 300, 301, 302, 303, 304, 305, 306, 307, 308, 309, 310, 311, 312, 313, 314, 315, 316, 317, 318] (by decide +kernel) (by decide +kernel)

set_option maxRecDepth 20000 in
theorem gi_edits_12 : GoodIn wsL_law wsL_edits_r12 := goodIn_r _ [319, 320, 321, 322, 323, 324, 325, 326, 327, 328, 329, 330, 331, 49] (by decide +kernel) (by decide +kernel)

set_option maxRecDepth 20000 in
theorem gi_edits_x3 : GoodIn wsL_law wsX30 := goodIn_r _ [584, 585, 586, 587, 588, 589] (by decide +kernel) (by decide +kernel)

set_option maxRecDepth 20000 in
theorem gi_edits_x7 : GoodIn wsL_law wsX70 := goodIn_r _ [561, 562, 563, 564, 565, 566, 567] (by decide +kernel) (by decide +kernel)

set_option maxRecDepth 20000 in
theorem gi_edits_x1 : GoodIn wsL_law wsX10 := goodIn_r _ [590, 591, 592] (by decide +kernel) (by decide +kernel)

set_option maxRecDepth 20000 in
theorem gi_edits_x2 : GoodIn wsL_law wsX20 := goodIn_r _ [593, 594, 595, 596, 597] (by decide +kernel) (by decide +kernel)

set_option maxRecDepth 20000 in
theorem gi_edits_x6 : GoodIn wsL_law wsX60 := goodIn_r _ [598, 599, 600, 601, 602, 603, 604, 605] (by decide +kernel) (by decide +kernel)

set_option maxRecDepth 20000 in
theorem gi_edits_x4 : GoodIn wsL_law wsX40 := goodIn_r _ [575, 576, 577, 578] (by decide +kernel) (by decide +kernel)

set_option maxRecDepth 20000 in
theorem gi_edits_x0 : GoodIn wsL_law wsX00 := goodIn_r _ [579, 580, 581, 582, 583] (by decide +kernel) (by decide +kernel)

set_option maxRecDepth 20000 in
theorem ggL_law_L_edits : GoodIn wsL_law wsL_edits := gi_cons gi_edits_0 (gi_app (gi_app (gi_app (gi_app (gi_app (gi_app (gi_app (gi_app (gi_app (gi_app (gi_app gi_edits_1 (gi_app gi_edits_2 (gi_app gi_edits_3 (gi_app gi_edits_4 (gi_app gi_edits_5 (gi_app gi_edits_6 (gi_app gi_edits_7 (gi_app gi_edits_8 (gi_app gi_edits_9 (gi_app gi_edits_10 (gi_app gi_edits_11 (gi_edits_12)))))))))))) gi_edits_x3) gi_edits_x7) gi_edits_x1) gi_edits_x2) gi_edits_x6) gi_edits_x4) gi_edits_x0) (goodIn_sub (fun _ h => List.mem_append_right _ h) (by decide +kernel))) (goodIn_sub (fun _ h => List.mem_append_left _ (List.mem_append_right _ h)) (by decide +kernel))) (goodIn_sub (fun _ h => List.mem_append_left _ (List.mem_append_left _ (List.mem_append_right _ h))) (by decide +kernel)))

set_option maxRecDepth 20000 in
theorem gi_exchange_0 : GoodIn wsL_law [Cond.code yL_exchange cL_exchange 12 (some .boolean)] := goodIn_r _ [456] (by decide +kernel) (by decide +kernel)

set_option maxRecDepth 20000 in
theorem gi_exchange_1 : GoodIn wsL_law wsL_exchange_r1 := goodIn_r _ [66, 67, 62, 68, 69, 144, 145, 146, 147, 148, 149, 150, 2, 151, 152, 153, 88, 89, 154, 155, 156, 157, 82, 83] (by decide +kernel) (by decide +kernel)

set_option maxRecDepth 20000 in
theorem gi_exchange_2 : GoodIn wsL_law wsL_exchange_r2 := goodIn_r _ [13, 158, 159, 160, 161, 126, 127, 162, 163, 164, 98, 165, 111, 166, 167, 168, 169, 113, 170, 171, 172, 173, 174, 175] (by decide +kernel) (by decide +kernel)

set_option maxRecDepth 20000 in
theorem gi_exchange_3 : GoodIn wsL_law wsL_exchange_r3 := goodIn_r _ [176, 177, 178, 179, 102, 180, 120, 117, 118, 119, 121, 181, 182, 183, 184, 185, 186, 187, 91, 188, 99, 105, 189, 123] (by decide +kernel) (by decide +kernel)

set_option maxRecDepth 20000 in
theorem gi_exchange_4 : GoodIn wsL_law wsL_exchange_r4 := goodIn_r _ [124, 125, 128, 129, 130, 131, 112, 190, 191, 192, 193, 194, 195, 196, 197, 198, 199, 200, 201, 202, 203, 204, 205, 206] (by decide +kernel) (by decide +kernel)

set_option maxRecDepth 20000 in
theorem gi_exchange_5 : GoodIn wsL_law wsL_exchange_r5 := goodIn_r _ [207, 208, 209, 210, 211, 212, 213, 214, 215, 216, 217, 218, 219, 220, 221, 222, 223, 224, 225, 23, 15, 14, 226, 227] (by decide +kernel) (by decide +kernel)

set_option maxRecDepth 20000 in
theorem gi_exchange_6 : GoodIn wsL_law wsL_exchange_r6 := goodIn_r _ [228, 229, 230, 231, 9, 10, 232, 97, 233, 3, 234, 235, 236, 237, 238, 239, 240, 108, 109, 110, 241, 242, 243, 244] (by decide +kernel) (by decide +kernel)

set_option maxRecDepth 20000 in
theorem gi_exchange_7 : GoodIn wsL_law wsL_exchange_r7 := goodIn_r _ [245, 246, 247, 248, 249, 250, 22, 251, 252, 253, 254, 79, 80, 81, 255, 256, 257, 84, 85, 86, 87, 12, 90, 92] (by decide +kernel) (by decide +kernel)

set_option maxRecDepth 20000 in
theorem gi_exchange_8 : GoodIn wsL_law wsL_exchange_r8 := goodIn_r _ [93, 94, 95, 96, 100, 101, 103, 104, 106, 107, 114, 115, 116, 258, 259, 260, 261, 262, 263, 264, 265, 266, 267, 268] (by decide +kernel) (by decide +kernel)

set_option maxRecDepth 20000 in
theorem gi_exchange_9 : GoodIn wsL_law wsL_exchange_r9 := goodIn_r _ [269, 270, 17, 271, 272, 273, 25, 274, 54, 56, 58, 275, 276, 277, 39, 278, 46, 47, 48, 279, 280, 281, 282, 45] (by decide +kernel) (by decide +kernel)

set_option maxRecDepth 20000 in
theorem gi_exchange_10 : GoodIn wsL_law wsL_exchange_r10 := goodIn_r _ [283, 284, 285, 286, 287, 288, 289, 290, 291, 55, 292, 293, 294, 295, 296, 297, 298, 299, 300, 301, 302, 303, 304, 305] (by decide +kernel) (by decide +kernel)

set_option maxRecDepth 20000 in
theorem gi_exchange_11 : GoodIn wsL_law wsL_exchange_r11 := goodIn_r _ [306, 307, 308, 309, 310, 311, 312, 313, 314, 315, 316, 317, 318, 319, 320, 321, 322, 323, 324, 325, 326, 327, 328, 329] (by decide +kernel) (by decide +kernel)

set_option maxRecDepth 20000 in
theorem gi_exchange_12 : GoodIn wsL_law wsL_exchange_r12 := goodIn_r _ [330, 331, 49, 132, 133, 134] (by decide +kernel) (by decide +kernel)

set_option maxRecDepth 20000 in
theorem gi_exchange_x3 : GoodIn wsL_law wsX30 := goodIn_r _ [584, 585, 586, 587, 588, 589] (by decide +kernel) (by decide +kernel)

set_option maxRecDepth 20000 in
theorem gi_exchange_x7 : GoodIn wsL_law wsX70 := goodIn_r _ [561, 562, 563, 564, 565, 566, 567] (by decide +kernel) (by decide +kernel)

set_option maxRecDepth 20000 in
theorem gi_exchange_x1 : GoodIn wsL_law wsX10 := goodIn_r _ [590, 591, 592] (by decide +kernel) (by decide +kernel)

set_option maxRecDepth 20000 in
theorem gi_exchange_x2 : GoodIn wsL_law wsX20 := goodIn_r _ [593, 594, 595, 596, 597] (by decide +kernel) (by decide +kernel)

set_option maxRecDepth 20000 in
theorem gi_exchange_x6 : GoodIn wsL_law wsX60 := goodIn_r _ [598, 599, 600, 601, 602, 603, 604, 605] (by decide +kernel) (by decide +kernel)

set_option maxRecDepth 20000 in
theorem gi_exchange_x4 : GoodIn wsL_law wsX40 := goodIn_r _ [575, 576, 577, 578] (by decide +kernel) (by decide +kernel)

set_option maxRecDepth 20000 in
theorem gi_exchange_x0 : GoodIn wsL_law wsX00 := goodIn_r _ [579, 580, 581, 582, 583] (by decide +kernel) (by decide +kernel)

set_option maxRecDepth 20000 in
theorem ggL_law_L_exchange : GoodIn wsL_law wsL_exchange := gi_cons gi_exchange_0 (gi_app (gi_app (gi_app (gi_app (gi_app (gi_app (gi_app (gi_app (gi_app (gi_app (gi_app gi_exchange_1 (gi_app gi_exchange_2 (gi_app gi_exchange_3 (gi_app gi_exchange_4 (gi_app gi_exchange_5 (gi_app gi_exchange_6 (gi_app gi_exchange_7 (gi_app gi_exchange_8 (gi_app gi_exchange_9 (gi_app gi_exchange_10 (gi_app gi_exchange_11 (gi_exchange_12)))))))))))) gi_exchange_x3) gi_exchange_x7) gi_exchange_x1) gi_exchange_x2) gi_exchange_x6) gi_exchange_x4) gi_exchange_x0) (goodIn_sub (fun _ h => List.mem_append_right _ h) (by decide +kernel))) (goodIn_sub (fun _ h => List.mem_append_left _ (List.mem_append_right _ h)) (by decide +kernel))) (goodIn_sub (fun _ h => List.mem_append_left _ (List.mem_append_left _ (List.mem_append_right _ h))) (by decide +kernel)))

set_option maxRecDepth 20000 in
theorem gi_runs_0 : GoodIn wsL_law [Cond.code yL_runs cL_runs 15 (some .boolean)] := goodIn_r _ [459] (by decide +kernel) (by decide +kernel)

set_option maxRecDepth 20000 in
theorem gi_runs_1 : GoodIn wsL_law wsL_runs_r1 := goodIn_r _ [66, 67, 62, 68, 69, 343, 344, 345, 346, 347, 348, 342, 138, 139, 140, 73, 141, 142, 143, 460, 461, 462, 144, 145] (by decide +kernel) (by decide +kernel)

set_option maxRecDepth 20000 in
theorem gi_runs_2 : GoodIn wsL_law wsL_runs_r2 := goodIn_r _ [146, 147, 148, 149, 150, 2, 151, 152, 153, 88, 89, 154, 155, 156, 157, 82, 83, 13, 158, 159, 160, 161, 126, 127] (by decide +kernel) (by decide +kernel)

set_option maxRecDepth 20000 in
theorem gi_runs_3 : GoodIn wsL_law wsL_runs_r3 := goodIn_r _ [162, 163, 164, 98, 165, 111, 166, 167, 168, 169, 113, 170, 171, 172, 173, 174, 175, 176, 177, 178, 179, 102, 180, 120] (by decide +kernel) (by decide +kernel)

set_option maxRecDepth 20000 in
theorem gi_runs_4 : GoodIn wsL_law wsL_runs_r4 := goodIn_r _ [117, 118, 119, 121, 181, 182, 183, 184, 185, 186, 187, 91, 188, 99, 105, 189, 123, 124, 125, 128, 129, 130, 131, 112] (by decide +kernel) (by decide +kernel)

set_option maxRecDepth 20000 in
theorem gi_runs_5 : GoodIn wsL_law wsL_runs_r5 := goodIn_r _ [190, 191, 192, 193, 194, 195, 196, 197, 198, 199, 200, 201, 202, 203, 204, 205, 206, 207, 208, 209, 210, 211, 212, 213] (by decide +kernel) (by decide +kernel)

set_option maxRecDepth 20000 in
theorem gi_runs_6 : GoodIn wsL_law wsL_runs_r6 := goodIn_r _ [214, 215, 216, 217, 218, 219, 220, 221, 222, 223, 224, 225, 23, 15, 14, 226, 227, 228, 229, 230, 231, 9, 10, 232] (by decide +kernel) (by decide +kernel)

set_option maxRecDepth 20000 in
theorem gi_runs_7 : GoodIn wsL_law wsL_runs_r7 := goodIn_r _ [97, 233, 3, 234, 235, 236, 237, 238, 239, 240, 108, 109, 110, 241, 242, 243, 244, 245, 246, 247, 248, 249, 250, 22] (by decide +kernel) (by decide +kernel)

set_option maxRecDepth 20000 in
theorem gi_runs_8 : GoodIn wsL_law wsL_runs_r8 := goodIn_r _ [251, 252, 253, 254, 79, 80, 81, 255, 256, 257, 84, 85, 86, 87, 12, 90, 92, 93, 94, 95, 96, 100, 101, 103] (by decide +kernel) (by decide +kernel)

set_option maxRecDepth 20000 in
theorem gi_runs_9 : GoodIn wsL_law wsL_runs_r9 := goodIn_r _ [104, 106, 107, 114, 115, 116, 258, 259, 260, 261, 262, 263, 264, 265, 266, 267, 268, 269, 270, 17, 271, 272, 273, 25] (by decide +kernel) (by decide +kernel)

set_option maxRecDepth 20000 in
theorem gi_runs_10 : GoodIn wsL_law wsL_runs_r10 := goodIn_r _ [274, 54, 56, 58, 275, 276, 277, 39, 278, 46, 47, 48, 279, 280, 281, 282, 45, 283, 284, 285, 286, 287, 288, 289] (by decide +kernel) (by decide +kernel)

set_option maxRecDepth 20000 in
theorem gi_runs_11 : GoodIn wsL_law wsL_runs_r11 := goodIn_r _ [290, 291, 55, 292, 293, 294, 295, 296, 297, 298, 299, 300, 301, 302, 303, 304, 305, 306, 307, 308, 309, 310, 311, 312] (by decide +kernel) (by decide +kernel)

set_option maxRecDepth 20000 in
theorem gi_runs_12 : GoodIn wsL_law wsL_runs_r12 := goodIn_r _ [313, 314, 315, 316, 317, 318, 319, 320, 321, 322, 323, 324, 325, 326, 327, 328, 329, 330, 331, 49, 355, 356, 357, 358] (by decide +kernel) (by decide +kernel)

set_option maxRecDepth 20000 in
theorem gi_runs_13 : GoodIn wsL_law wsL_runs_r13 := goodIn_r _ [359, 360] (by decide +kernel) (by decide +kernel)

set_option maxRecDepth 20000 in
theorem gi_runs_x3 : GoodIn wsL_law wsX30 := goodIn_r _ [584, 585, 586, 587, 588, 589] (by decide +kernel) (by decide +kernel)

set_option maxRecDepth 20000 in
theorem gi_runs_x7 : GoodIn wsL_law wsX70 := goodIn_r _ [561, 562, 563, 564, 565, 566, 567] (by decide +kernel) (by decide +kernel)

set_option maxRecDepth 20000 in
theorem gi_runs_x1 : GoodIn wsL_law wsX10 := goodIn_r _ [590, 591, 592] (by decide +kernel) (by decide +kernel)

set_option maxRecDepth 20000 in
theorem gi_runs_x2 : GoodIn wsL_law wsX20 := goodIn_r _ [593, 594, 595, 596, 597] (by decide +kernel) (by decide +kernel)

set_option maxRecDepth 20000 in
theorem gi_runs_x6 : GoodIn wsL_law wsX60 := goodIn_r _ [598, 599, 600, 601, 602, 603, 604, 605] (by decide +kernel) (by decide +kernel)

set_option maxRecDepth 20000 in
theorem gi_runs_x4 : GoodIn wsL_law wsX40 := goodIn_r _ [575, 576, 577, 578] (by decide +kernel) (by decide +kernel)

set_option maxRecDepth 20000 in
theorem gi_runs_x0 : GoodIn wsL_law wsX00 := goodIn_r _ [579, 580, 581, 582, 583] (by decide +kernel) (by decide +kernel)

set_option maxRecDepth 20000 in
theorem ggL_law_L_runs : GoodIn wsL_law wsL_runs := gi_cons gi_runs_0 (gi_app (gi_app (gi_app (gi_app (gi_app (gi_app (gi_app (gi_app (gi_app (gi_app (gi_app gi_runs_1 (gi_app gi_runs_2 (gi_app gi_runs_3 (gi_app gi_runs_4 (gi_app gi_runs_5 (gi_app gi_runs_6 (gi_app gi_runs_7 (gi_app gi_runs_8 (gi_app gi_runs_9 (gi_app gi_runs_10 (gi_app gi_runs_11 (gi_app gi_runs_12 (gi_runs_13))))))))))))) gi_runs_x3) gi_runs_x7) gi_runs_x1) gi_runs_x2) gi_runs_x6) gi_runs_x4) gi_runs_x0) (goodIn_sub (fun _ h => List.mem_append_right _ h) (by decide +kernel))) (goodIn_sub (fun _ h => List.mem_append_left _ (List.mem_append_right _ h)) (by decide +kernel))) (goodIn_sub (fun _ h => List.mem_append_left _ (List.mem_append_left _ (List.mem_append_right _ h))) (by decide +kernel)))

