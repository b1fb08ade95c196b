theorem dL_cell_0 : decode cL_cell 0 = .ok (.iload_n 1, 1) := by decide +kernel
theorem dL_cell_1 : decode cL_cell 1 = .ok (.aload_n 0, 1) := by decide +kernel
theorem dL_cell_2 : decode cL_cell 2 = .ok (.arraylength, 1) := by decide +kernel
theorem dL_cell_3 : decode cL_cell 3 = .ok (.if_icmp .ge 9, 3) := by decide +kernel
theorem dL_cell_6 : decode cL_cell 6 = .ok (.aload_n 0, 1) := by decide +kernel
theorem dL_cell_7 : decode cL_cell 7 = .ok (.iload_n 1, 1) := by decide +kernel
theorem dL_cell_8 : decode cL_cell 8 = .ok (.iaload, 1) := by decide +kernel
theorem dL_cell_9 : decode cL_cell 9 = .ok (.goto 13, 3) := by decide +kernel
theorem dL_cell_12 : decode cL_cell 12 = .ok (.ldc 7, 2) := by decide +kernel
theorem dL_cell_14 : decode cL_cell 14 = .ok (.iload_n 1, 1) := by decide +kernel
theorem dL_cell_15 : decode cL_cell 15 = .ok (.bipush 15, 2) := by decide +kernel
theorem dL_cell_17 : decode cL_cell 17 = .ok (.iadd, 1) := by decide +kernel
theorem dL_cell_18 : decode cL_cell 18 = .ok (.imul, 1) := by decide +kernel
theorem dL_cell_19 : decode cL_cell 19 = .ok (.ldc 8, 2) := by decide +kernel
theorem dL_cell_21 : decode cL_cell 21 = .ok (.iadd, 1) := by decide +kernel
theorem dL_cell_22 : decode cL_cell 22 = .ok (.ireturn, 1) := by decide +kernel
theorem dL_low_0 : decode cL_low 0 = .ok (.iload_n 0, 1) := by decide +kernel
theorem dL_low_1 : decode cL_low 1 = .ok (.ldc 9, 2) := by decide +kernel
theorem dL_low_3 : decode cL_low 3 = .ok (.iand, 1) := by decide +kernel
theorem dL_low_4 : decode cL_low 4 = .ok (.iload_n 1, 1) := by decide +kernel
theorem dL_low_5 : decode cL_low 5 = .ok (.irem, 1) := by decide +kernel
theorem dL_low_6 : decode cL_low 6 = .ok (.ireturn, 1) := by decide +kernel
set_option maxRecDepth 20000 in
theorem ggL_calls_X7_set : GoodIn wsL_calls wsX7_set := goodIn_ca (goodIn_ca (goodIn_ca (goodIn_r _ [6, 7, 8, 9, 10, 11, 12, 13, 5, 14, 15, 16, 17, 18, 19, 20, 21, 22, 23, 24, 25, 26, 27, 28, 29, 30, 31, 32, 33, 34, 35, 36, 37, 38, 39, 40, 41, 42, 43, 44, 45, 46, 47, 48, 49, 50, 51, 52, 53, 54, 55, 56, 57, 58, 59, 60, 61, 62, 63, 64, 65, 66, 67, 68, 69, 70, 71, 260, 261, 262, 263, 264, 265, 266, 267, 268, 269, 270, 271, 272, 273, 274, 275, 276, 277, 278, 279, 280] (by decide +kernel) (by decide +kernel)) (goodIn_sub (fun _ h => List.mem_cons_of_mem _ (List.mem_append_left _ (List.mem_append_left _ (List.mem_append_right _ h)))) (by decide +kernel))) (goodIn_sub (fun _ h => List.mem_cons_of_mem _ (List.mem_append_left _ (List.mem_append_right _ h))) (by decide +kernel))) (goodIn_sub (fun _ h => List.mem_cons_of_mem _ (List.mem_append_right _ h)) (by decide +kernel))
set_option maxRecDepth 20000 in
theorem gL_calls_X7_set : GoodIn wsL_calls (wsV RL 10 RX7 yX7_set wsX7_set) := goodIn_app (goodIn_of _ (by decide +kernel)) ggL_calls_X7_set
set_option maxRecDepth 20000 in
theorem ggL_calls_X7_undo : GoodIn wsL_calls wsX7_undo := goodIn_ca (goodIn_ca (goodIn_r _ [75, 9, 10, 11, 12, 13, 5, 14, 15, 16, 17, 76, 77, 78, 45, 79, 47, 51, 80, 81, 82, 83, 48, 84, 85, 86, 87, 88, 89, 90, 91, 49, 56, 57, 58, 59, 60, 61, 62, 63, 64, 65, 27, 66, 29, 22, 23, 67, 68, 69, 70, 71, 34, 260, 261, 262, 263, 264, 265, 276, 277, 278, 279, 280, 266, 267, 268, 269, 270, 271, 272, 273, 274, 275] (by decide +kernel) (by decide +kernel)) (goodIn_sub (fun _ h => List.mem_cons_of_mem _ (List.mem_append_left _ (List.mem_append_right _ h))) (by decide +kernel))) (goodIn_sub (fun _ h => List.mem_cons_of_mem _ (List.mem_append_right _ h)) (by decide +kernel))
set_option maxRecDepth 20000 in
theorem gL_calls_X7_undo : GoodIn wsL_calls (wsV RL 16 RX7 yX7_undo wsX7_undo) := goodIn_app (goodIn_of _ (by decide +kernel)) ggL_calls_X7_undo
set_option maxRecDepth 20000 in
theorem ggL_calls_X7_redo : GoodIn wsL_calls wsX7_redo := goodIn_ca (goodIn_ca (goodIn_r _ [95, 9, 10, 11, 12, 13, 5, 14, 15, 16, 17, 80, 81, 82, 45, 83, 48, 47, 84, 85, 86, 87, 96, 97, 98, 99, 50, 56, 57, 58, 59, 60, 61, 62, 63, 64, 65, 27, 66, 29, 22, 23, 67, 68, 69, 70, 71, 34, 100, 101, 102, 103, 51, 260, 261, 262, 263, 264, 265, 276, 277, 278, 279, 280, 266, 267, 268, 269, 270, 271, 272, 273, 274, 275] (by decide +kernel) (by decide +kernel)) (goodIn_sub (fun _ h => List.mem_cons_of_mem _ (List.mem_append_left _ (List.mem_append_right _ h))) (by decide +kernel))) (goodIn_sub (fun _ h => List.mem_cons_of_mem _ (List.mem_append_right _ h)) (by decide +kernel))
set_option maxRecDepth 20000 in
theorem gL_calls_X7_redo : GoodIn wsL_calls (wsV RL 20 RX7 yX7_redo wsX7_redo) := goodIn_app (goodIn_of _ (by decide +kernel)) ggL_calls_X7_redo
set_option maxRecDepth 20000 in
theorem ggL_calls_X7_offer : GoodIn wsL_calls wsX7_offer := goodIn_ca (goodIn_ca (goodIn_r _ [107, 9, 10, 108, 109, 110, 111, 112, 11, 12, 13, 5, 14, 15, 16, 17, 113, 114, 115, 116, 117, 118, 119, 120, 27, 121, 122, 123, 124, 125, 126, 127, 128, 129, 130, 131, 132, 29, 71, 34, 133, 134, 135, 136, 137, 25, 26, 28, 138, 64, 65, 66, 22, 23, 67, 68, 69, 70, 260, 261, 262, 263, 264, 265, 266, 267, 268, 269, 270, 271, 272, 281, 282, 283, 284, 285, 286, 287, 288, 273, 274, 275] (by decide +kernel) (by decide +kernel)) (goodIn_sub (fun _ h => List.mem_cons_of_mem _ (List.mem_append_left _ (List.mem_append_right _ h))) (by decide +kernel))) (goodIn_sub (fun _ h => List.mem_cons_of_mem _ (List.mem_append_right _ h)) (by decide +kernel))
set_option maxRecDepth 20000 in
theorem gL_calls_X7_offer : GoodIn wsL_calls (wsV RL 23 RX7 yX7_offer wsX7_offer) := goodIn_app (goodIn_of _ (by decide +kernel)) ggL_calls_X7_offer
set_option maxRecDepth 20000 in
theorem ggL_calls_X7_copy : GoodIn wsL_calls wsX7_copy := goodIn_ca (goodIn_ca (goodIn_r _ [142, 143, 144, 145, 146, 5, 147, 15, 16, 109, 148, 149, 150, 151, 152, 153, 9, 10, 154, 155, 156, 157, 17, 158, 159, 59, 160, 161, 162, 163, 117, 118, 164, 120, 27, 61, 165, 166, 45, 167, 168, 62, 169, 170, 130, 131, 132, 122, 29, 71, 34, 171, 172, 173, 48, 49, 50, 47, 51, 174, 134, 135, 136, 137, 25, 26, 28, 138, 64, 65, 66, 22, 23, 67, 68, 69, 70, 260, 261, 262, 263, 264, 265, 281, 282, 283, 284, 285, 286, 287, 288, 266, 267, 268, 269, 270, 271, 272, 273, 274, 275, 276, 277, 278, 279, 280] (by decide +kernel) (by decide +kernel)) (goodIn_sub (fun _ h => List.mem_cons_of_mem _ (List.mem_append_right _ h)) (by decide +kernel))) (goodIn_sub (fun _ h => List.mem_cons_of_mem _ (List.mem_append_left _ (List.mem_append_right _ h))) (by decide +kernel))
set_option maxRecDepth 20000 in
theorem gL_calls_X7_copy : GoodIn wsL_calls (wsV RL 26 RX7 yX7_copy wsX7_copy) := goodIn_app (goodIn_of _ (by decide +kernel)) ggL_calls_X7_copy
set_option maxRecDepth 20000 in
theorem ggL_calls_X7_star : GoodIn wsL_calls wsX7_star := goodIn_ca (goodIn_ca (goodIn_ca (goodIn_r _ [178, 7, 8, 9, 10, 144, 145, 146, 5, 147, 15, 16, 109, 148, 149, 150, 151, 152, 153, 281, 282, 283, 284, 285, 286, 287, 288, 266, 267, 268, 269, 270, 271, 272] (by decide +kernel) (by decide +kernel)) (goodIn_sub (fun _ h => List.mem_cons_of_mem _ (List.mem_append_left _ (List.mem_append_left _ (List.mem_append_right _ h)))) (by decide +kernel))) (goodIn_sub (fun _ h => List.mem_cons_of_mem _ (List.mem_append_left _ (List.mem_append_right _ h))) (by decide +kernel))) (goodIn_sub (fun _ h => List.mem_cons_of_mem _ (List.mem_append_right _ h)) (by decide +kernel))
set_option maxRecDepth 20000 in
theorem gL_calls_X7_star : GoodIn wsL_calls (wsV RL 30 RX7 yX7_star wsX7_star) := goodIn_app (goodIn_of _ (by decide +kernel)) ggL_calls_X7_star
set_option maxRecDepth 20000 in
theorem ggL_calls_X7_run : GoodIn wsL_calls wsX7_run := goodIn_ca (goodIn_ca (goodIn_r _ [182, 183, 184, 185, 5, 186, 15, 16, 187, 144, 145, 146, 147, 109, 151, 152, 153, 9, 10, 188, 189, 190, 191, 192, 193, 194, 195, 196, 197, 198, 199, 200, 201, 202, 203, 204, 205, 206, 207, 208, 22, 23, 209, 25, 26, 27, 28, 29, 210, 211, 212, 213, 71, 214, 215, 216, 217, 218, 219, 220, 221, 112, 222, 124, 223, 224, 225, 226, 266, 267, 268, 269, 270, 271, 272, 281, 282, 283, 284, 285, 286, 287, 288, 289, 290, 291, 292, 293, 294, 295, 296, 297, 273, 274, 275] (by decide +kernel) (by decide +kernel)) (goodIn_sub (fun _ h => List.mem_cons_of_mem _ (List.mem_append_right _ h)) (by decide +kernel))) (goodIn_sub (fun _ h => List.mem_cons_of_mem _ (List.mem_append_left _ (List.mem_append_right _ h))) (by decide +kernel))
set_option maxRecDepth 20000 in
theorem gL_calls_X7_run : GoodIn wsL_calls (wsV RL 33 RX7 yX7_run wsX7_run) := goodIn_app (goodIn_of _ (by decide +kernel)) ggL_calls_X7_run
set_option maxRecDepth 20000 in
theorem ggL_calls_X7_step : GoodIn wsL_calls wsX7_step := goodIn_ca (goodIn_ca (goodIn_ca (goodIn_r _ [230, 7, 8, 9, 10, 183, 184, 185, 5, 186, 15, 16, 187, 231, 232, 233, 191, 234, 193, 194, 195, 235, 236, 237, 199, 238, 201, 203, 239, 240, 241, 242, 208, 243, 244, 245, 246, 202, 209, 25, 26, 27, 28, 29, 247, 248, 249, 250, 204, 205, 206, 207, 22, 23, 210, 211, 212, 213, 71, 251, 252, 253, 254, 255, 256, 257, 258, 259, 214, 215, 216, 217, 218, 219, 220, 221, 112, 222, 124, 223, 224, 225, 226, 289, 290, 291, 292, 266, 267, 268, 269, 270, 271, 272, 281, 282, 283, 284, 285, 286, 287, 288, 293, 294, 295, 296, 297, 273, 274, 275] (by decide +kernel) (by decide +kernel)) (goodIn_sub (fun _ h => List.mem_cons_of_mem _ (List.mem_append_left _ (List.mem_append_left _ (List.mem_append_right _ h)))) (by decide +kernel))) (goodIn_sub (fun _ h => List.mem_cons_of_mem _ (List.mem_append_left _ (List.mem_append_right _ h))) (by decide +kernel))) (goodIn_sub (fun _ h => List.mem_cons_of_mem _ (List.mem_append_right _ h)) (by decide +kernel))
set_option maxRecDepth 20000 in
theorem gL_calls_X7_step : GoodIn wsL_calls (wsV RL 36 RX7 yX7_step wsX7_step) := goodIn_app (goodIn_of _ (by decide +kernel)) ggL_calls_X7_step
theorem dL_calls_0 : decode cL_calls 0 = .ok (.iload_n 1, 1) := by decide +kernel
theorem dL_calls_1 : decode cL_calls 1 = .ok (.ifCond .ne 14, 3) := by decide +kernel
theorem dL_calls_4 : decode cL_calls 4 = .ok (.aload_n 0, 1) := by decide +kernel
theorem dL_calls_5 : decode cL_calls 5 = .ok (.iload_n 2, 1) := by decide +kernel
theorem dL_calls_6 : decode cL_calls 6 = .ok (.iload_n 3, 1) := by decide +kernel
theorem dL_calls_7 : decode cL_calls 7 = .ok (.iload 4, 2) := by decide +kernel
theorem dL_calls_9 : decode cL_calls 9 = .ok (.invokevirtual 10, 3) := by decide +kernel
theorem dL_calls_12 : decode cL_calls 12 = .ok (.goto 93, 3) := by decide +kernel
theorem dL_calls_15 : decode cL_calls 15 = .ok (.iload_n 1, 1) := by decide +kernel
theorem dL_calls_16 : decode cL_calls 16 = .ok (.iconst 1, 1) := by decide +kernel
theorem dL_calls_17 : decode cL_calls 17 = .ok (.if_icmp .ne 11, 3) := by decide +kernel
theorem dL_calls_20 : decode cL_calls 20 = .ok (.aload_n 0, 1) := by decide +kernel
theorem dL_calls_21 : decode cL_calls 21 = .ok (.iload_n 2, 1) := by decide +kernel
theorem dL_calls_22 : decode cL_calls 22 = .ok (.invokevirtual 16, 3) := by decide +kernel
theorem dL_calls_25 : decode cL_calls 25 = .ok (.goto 80, 3) := by decide +kernel
theorem dL_calls_28 : decode cL_calls 28 = .ok (.iload_n 1, 1) := by decide +kernel
theorem dL_calls_29 : decode cL_calls 29 = .ok (.iconst 2, 1) := by decide +kernel
theorem dL_calls_30 : decode cL_calls 30 = .ok (.if_icmp .ne 11, 3) := by decide +kernel
theorem dL_calls_33 : decode cL_calls 33 = .ok (.aload_n 0, 1) := by decide +kernel
theorem dL_calls_34 : decode cL_calls 34 = .ok (.iload_n 2, 1) := by decide +kernel
theorem dL_calls_35 : decode cL_calls 35 = .ok (.invokevirtual 20, 3) := by decide +kernel
theorem dL_calls_38 : decode cL_calls 38 = .ok (.goto 67, 3) := by decide +kernel
theorem dL_calls_41 : decode cL_calls 41 = .ok (.iload_n 1, 1) := by decide +kernel
theorem dL_calls_42 : decode cL_calls 42 = .ok (.iconst 3, 1) := by decide +kernel
theorem dL_calls_43 : decode cL_calls 43 = .ok (.if_icmp .ne 11, 3) := by decide +kernel
theorem dL_calls_46 : decode cL_calls 46 = .ok (.aload_n 0, 1) := by decide +kernel
theorem dL_calls_47 : decode cL_calls 47 = .ok (.iload_n 2, 1) := by decide +kernel
theorem dL_calls_48 : decode cL_calls 48 = .ok (.invokevirtual 23, 3) := by decide +kernel
theorem dL_calls_51 : decode cL_calls 51 = .ok (.goto 54, 3) := by decide +kernel
theorem dL_calls_54 : decode cL_calls 54 = .ok (.iload_n 1, 1) := by decide +kernel
theorem dL_calls_55 : decode cL_calls 55 = .ok (.iconst 4, 1) := by decide +kernel
theorem dL_calls_56 : decode cL_calls 56 = .ok (.if_icmp .ne 12, 3) := by decide +kernel
theorem dL_calls_59 : decode cL_calls 59 = .ok (.aload_n 0, 1) := by decide +kernel
theorem dL_calls_60 : decode cL_calls 60 = .ok (.iload_n 2, 1) := by decide +kernel
theorem dL_calls_61 : decode cL_calls 61 = .ok (.iload_n 3, 1) := by decide +kernel
theorem dL_calls_62 : decode cL_calls 62 = .ok (.invokevirtual 26, 3) := by decide +kernel
theorem dL_calls_65 : decode cL_calls 65 = .ok (.goto 40, 3) := by decide +kernel
theorem dL_calls_68 : decode cL_calls 68 = .ok (.iload_n 1, 1) := by decide +kernel
theorem dL_calls_69 : decode cL_calls 69 = .ok (.iconst 5, 1) := by decide +kernel
theorem dL_calls_70 : decode cL_calls 70 = .ok (.if_icmp .ne 14, 3) := by decide +kernel
theorem dL_calls_73 : decode cL_calls 73 = .ok (.aload_n 0, 1) := by decide +kernel
theorem dL_calls_74 : decode cL_calls 74 = .ok (.iload_n 2, 1) := by decide +kernel
theorem dL_calls_75 : decode cL_calls 75 = .ok (.iload_n 3, 1) := by decide +kernel
theorem dL_calls_76 : decode cL_calls 76 = .ok (.iload 4, 2) := by decide +kernel
theorem dL_calls_78 : decode cL_calls 78 = .ok (.invokevirtual 30, 3) := by decide +kernel
theorem dL_calls_81 : decode cL_calls 81 = .ok (.goto 24, 3) := by decide +kernel
theorem dL_calls_84 : decode cL_calls 84 = .ok (.iload_n 1, 1) := by decide +kernel
theorem dL_calls_85 : decode cL_calls 85 = .ok (.bipush 6, 2) := by decide +kernel
theorem dL_calls_87 : decode cL_calls 87 = .ok (.if_icmp .ne 12, 3) := by decide +kernel
theorem dL_calls_90 : decode cL_calls 90 = .ok (.aload_n 0, 1) := by decide +kernel
theorem dL_calls_91 : decode cL_calls 91 = .ok (.iload_n 2, 1) := by decide +kernel
theorem dL_calls_92 : decode cL_calls 92 = .ok (.iload_n 3, 1) := by decide +kernel
theorem dL_calls_93 : decode cL_calls 93 = .ok (.invokevirtual 33, 3) := by decide +kernel
theorem dL_calls_96 : decode cL_calls 96 = .ok (.goto 9, 3) := by decide +kernel
theorem dL_calls_99 : decode cL_calls 99 = .ok (.aload_n 0, 1) := by decide +kernel
theorem dL_calls_100 : decode cL_calls 100 = .ok (.iload_n 2, 1) := by decide +kernel
theorem dL_calls_101 : decode cL_calls 101 = .ok (.iload_n 3, 1) := by decide +kernel
theorem dL_calls_102 : decode cL_calls 102 = .ok (.invokevirtual 36, 3) := by decide +kernel
theorem dL_calls_105 : decode cL_calls 105 = .ok (.ireturn, 1) := by decide +kernel
theorem dL_calls_106 : decode cL_calls 106 = .ok (.astore 5, 2) := by decide +kernel
theorem dL_calls_108 : decode cL_calls 108 = .ok (.bipush (-5), 2) := by decide +kernel
theorem dL_calls_110 : decode cL_calls 110 = .ok (.ireturn, 1) := by decide +kernel
theorem dL_get_0 : decode cL_get 0 = .ok (.aload_n 0, 1) := by decide +kernel
theorem dL_get_1 : decode cL_get 1 = .ok (.iload_n 1, 1) := by decide +kernel
theorem dL_get_2 : decode cL_get 2 = .ok (.iload_n 2, 1) := by decide +kernel
theorem dL_get_3 : decode cL_get 3 = .ok (.bipush 16, 2) := by decide +kernel
theorem dL_get_5 : decode cL_get 5 = .ok (.idiv, 1) := by decide +kernel
theorem dL_get_6 : decode cL_get 6 = .ok (.iadd, 1) := by decide +kernel
theorem dL_get_7 : decode cL_get 7 = .ok (.laload, 1) := by decide +kernel
theorem dL_get_8 : decode cL_get 8 = .ok (.iconst 4, 1) := by decide +kernel
theorem dL_get_9 : decode cL_get 9 = .ok (.iload_n 2, 1) := by decide +kernel
theorem dL_get_10 : decode cL_get 10 = .ok (.bipush 16, 2) := by decide +kernel
theorem dL_get_12 : decode cL_get 12 = .ok (.irem, 1) := by decide +kernel
theorem dL_get_13 : decode cL_get 13 = .ok (.imul, 1) := by decide +kernel
theorem dL_get_14 : decode cL_get 14 = .ok (.lshr, 1) := by decide +kernel
theorem dL_get_15 : decode cL_get 15 = .ok (.ldc2_w 41, 3) := by decide +kernel
theorem dL_get_18 : decode cL_get 18 = .ok (.land, 1) := by decide +kernel
theorem dL_get_19 : decode cL_get 19 = .ok (.l2i, 1) := by decide +kernel
theorem dL_get_20 : decode cL_get 20 = .ok (.ireturn, 1) := by decide +kernel
theorem dL_put_0 : decode cL_put 0 = .ok (.iconst 4, 1) := by decide +kernel
theorem dL_put_1 : decode cL_put 1 = .ok (.iload_n 2, 1) := by decide +kernel
theorem dL_put_2 : decode cL_put 2 = .ok (.bipush 16, 2) := by decide +kernel
theorem dL_put_4 : decode cL_put 4 = .ok (.irem, 1) := by decide +kernel
theorem dL_put_5 : decode cL_put 5 = .ok (.imul, 1) := by decide +kernel
theorem dL_put_6 : decode cL_put 6 = .ok (.istore 4, 2) := by decide +kernel
theorem dL_put_8 : decode cL_put 8 = .ok (.aload_n 0, 1) := by decide +kernel
theorem dL_put_9 : decode cL_put 9 = .ok (.iload_n 1, 1) := by decide +kernel
theorem dL_put_10 : decode cL_put 10 = .ok (.iload_n 2, 1) := by decide +kernel
theorem dL_put_11 : decode cL_put 11 = .ok (.bipush 16, 2) := by decide +kernel
theorem dL_put_13 : decode cL_put 13 = .ok (.idiv, 1) := by decide +kernel
theorem dL_put_14 : decode cL_put 14 = .ok (.iadd, 1) := by decide +kernel
theorem dL_put_15 : decode cL_put 15 = .ok (.aload_n 0, 1) := by decide +kernel
theorem dL_put_16 : decode cL_put 16 = .ok (.iload_n 1, 1) := by decide +kernel
theorem dL_put_17 : decode cL_put 17 = .ok (.iload_n 2, 1) := by decide +kernel
theorem dL_put_18 : decode cL_put 18 = .ok (.bipush 16, 2) := by decide +kernel
theorem dL_put_20 : decode cL_put 20 = .ok (.idiv, 1) := by decide +kernel
theorem dL_put_21 : decode cL_put 21 = .ok (.iadd, 1) := by decide +kernel
theorem dL_put_22 : decode cL_put 22 = .ok (.laload, 1) := by decide +kernel
theorem dL_put_23 : decode cL_put 23 = .ok (.ldc2_w 41, 3) := by decide +kernel
theorem dL_put_26 : decode cL_put 26 = .ok (.iload 4, 2) := by decide +kernel
theorem dL_put_28 : decode cL_put 28 = .ok (.lshl, 1) := by decide +kernel
theorem dL_put_29 : decode cL_put 29 = .ok (.ldc2_w 43, 3) := by decide +kernel
theorem dL_put_32 : decode cL_put 32 = .ok (.lxor, 1) := by decide +kernel
theorem dL_put_33 : decode cL_put 33 = .ok (.land, 1) := by decide +kernel
theorem dL_put_34 : decode cL_put 34 = .ok (.iload_n 3, 1) := by decide +kernel
theorem dL_put_35 : decode cL_put 35 = .ok (.i2l, 1) := by decide +kernel
theorem dL_put_36 : decode cL_put 36 = .ok (.iload 4, 2) := by decide +kernel
theorem dL_put_38 : decode cL_put 38 = .ok (.lshl, 1) := by decide +kernel
theorem dL_put_39 : decode cL_put 39 = .ok (.lor, 1) := by decide +kernel
theorem dL_put_40 : decode cL_put 40 = .ok (.lastore, 1) := by decide +kernel
theorem dL_put_41 : decode cL_put 41 = .ok (.return_, 1) := by decide +kernel
set_option maxRecDepth 20000 in
theorem ggL_keys_L_get : GoodIn wsL_keys wsL_get := goodIn_r _ [4, 5] (by decide +kernel) (by decide +kernel)
set_option maxRecDepth 20000 in
theorem gL_keys_L_get : GoodIn wsL_keys (va_wsS RL 45 yL_get wsL_get) := goodIn_app (goodIn_of _ (by decide +kernel)) ggL_keys_L_get
theorem dL_keys_0 : decode cL_keys 0 = .ok (.iconst 0, 1) := by decide +kernel
theorem dL_keys_1 : decode cL_keys 1 = .ok (.istore_n 3, 1) := by decide +kernel
theorem dL_keys_2 : decode cL_keys 2 = .ok (.iconst 0, 1) := by decide +kernel
theorem dL_keys_3 : decode cL_keys 3 = .ok (.istore 4, 2) := by decide +kernel
theorem dL_keys_5 : decode cL_keys 5 = .ok (.iload 4, 2) := by decide +kernel
theorem dL_keys_7 : decode cL_keys 7 = .ok (.iload_n 2, 1) := by decide +kernel
theorem dL_keys_8 : decode cL_keys 8 = .ok (.if_icmp .ge 30, 3) := by decide +kernel
theorem dL_keys_11 : decode cL_keys 11 = .ok (.iload_n 3, 1) := by decide +kernel
theorem dL_keys_12 : decode cL_keys 12 = .ok (.aload_n 0, 1) := by decide +kernel
theorem dL_keys_13 : decode cL_keys 13 = .ok (.iload_n 1, 1) := by decide +kernel
theorem dL_keys_14 : decode cL_keys 14 = .ok (.iload 4, 2) := by decide +kernel
theorem dL_keys_16 : decode cL_keys 16 = .ok (.invokestatic 45, 3) := by decide +kernel
theorem dL_keys_19 : decode cL_keys 19 = .ok (.iconst 2, 1) := by decide +kernel
theorem dL_keys_20 : decode cL_keys 20 = .ok (.if_icmp .ne 9, 3) := by decide +kernel
theorem dL_keys_23 : decode cL_keys 23 = .ok (.iload_n 3, 1) := by decide +kernel
theorem dL_keys_24 : decode cL_keys 24 = .ok (.iconst 1, 1) := by decide +kernel
theorem dL_keys_25 : decode cL_keys 25 = .ok (.iadd, 1) := by decide +kernel
theorem dL_keys_26 : decode cL_keys 26 = .ok (.goto 4, 3) := by decide +kernel
theorem dL_keys_29 : decode cL_keys 29 = .ok (.iconst 0, 1) := by decide +kernel
theorem dL_keys_30 : decode cL_keys 30 = .ok (.iadd, 1) := by decide +kernel
theorem dL_keys_31 : decode cL_keys 31 = .ok (.istore_n 3, 1) := by decide +kernel
theorem dL_keys_32 : decode cL_keys 32 = .ok (.iinc 4 1, 3) := by decide +kernel
theorem dL_keys_35 : decode cL_keys 35 = .ok (.goto (-30), 3) := by decide +kernel
theorem dL_keys_38 : decode cL_keys 38 = .ok (.iload_n 3, 1) := by decide +kernel
theorem dL_keys_39 : decode cL_keys 39 = .ok (.ireturn, 1) := by decide +kernel
set_option maxRecDepth 20000 in
theorem ggL_solid_L_get : GoodIn wsL_solid wsL_get := goodIn_r _ [4, 5] (by decide +kernel) (by decide +kernel)
set_option maxRecDepth 20000 in
theorem gL_solid_L_get : GoodIn wsL_solid (va_wsS RL 45 yL_get wsL_get) := goodIn_app (goodIn_of _ (by decide +kernel)) ggL_solid_L_get
theorem dL_solid_0 : decode cL_solid 0 = .ok (.aload 4, 2) := by decide +kernel
theorem dL_solid_2 : decode cL_solid 2 = .ok (.iload_n 3, 1) := by decide +kernel
theorem dL_solid_3 : decode cL_solid 3 = .ok (.iload_n 0, 1) := by decide +kernel
theorem dL_solid_4 : decode cL_solid 4 = .ok (.invokestatic 45, 3) := by decide +kernel
theorem dL_solid_7 : decode cL_solid 7 = .ok (.istore 5, 2) := by decide +kernel
theorem dL_solid_9 : decode cL_solid 9 = .ok (.iload 5, 2) := by decide +kernel
theorem dL_solid_11 : decode cL_solid 11 = .ok (.iconst 1, 1) := by decide +kernel
theorem dL_solid_12 : decode cL_solid 12 = .ok (.if_icmp .eq 20, 3) := by decide +kernel
theorem dL_solid_15 : decode cL_solid 15 = .ok (.iload 5, 2) := by decide +kernel
theorem dL_solid_17 : decode cL_solid 17 = .ok (.iconst 5, 1) := by decide +kernel
theorem dL_solid_18 : decode cL_solid 18 = .ok (.if_icmp .gt 14, 3) := by decide +kernel
theorem dL_solid_21 : decode cL_solid 21 = .ok (.iload 5, 2) := by decide +kernel
theorem dL_solid_23 : decode cL_solid 23 = .ok (.iconst 3, 1) := by decide +kernel
theorem dL_solid_24 : decode cL_solid 24 = .ok (.if_icmp .ne 12, 3) := by decide +kernel
theorem dL_solid_27 : decode cL_solid 27 = .ok (.iload_n 1, 1) := by decide +kernel
theorem dL_solid_28 : decode cL_solid 28 = .ok (.iload_n 2, 1) := by decide +kernel
theorem dL_solid_29 : decode cL_solid 29 = .ok (.if_icmp .eq 7, 3) := by decide +kernel
theorem dL_solid_32 : decode cL_solid 32 = .ok (.iconst 1, 1) := by decide +kernel
theorem dL_solid_33 : decode cL_solid 33 = .ok (.goto 4, 3) := by decide +kernel
theorem dL_solid_36 : decode cL_solid 36 = .ok (.iconst 0, 1) := by decide +kernel
theorem dL_solid_37 : decode cL_solid 37 = .ok (.ireturn, 1) := by decide +kernel
set_option maxRecDepth 20000 in
theorem ggL_comes_L_get : GoodIn wsL_comes wsL_get := goodIn_r _ [5, 6] (by decide +kernel) (by decide +kernel)
set_option maxRecDepth 20000 in
theorem gL_comes_L_get : GoodIn wsL_comes (va_wsS RL 45 yL_get wsL_get) := goodIn_app (goodIn_of _ (by decide +kernel)) ggL_comes_L_get
set_option maxRecDepth 20000 in
theorem ggL_comes_L_keys : GoodIn wsL_comes wsL_keys := goodIn_r _ [9, 2, 3, 4, 5, 6] (by decide +kernel) (by decide +kernel)
set_option maxRecDepth 20000 in
theorem gL_comes_L_keys : GoodIn wsL_comes (va_wsS RL 51 yL_keys wsL_keys) := goodIn_app (goodIn_of _ (by decide +kernel)) ggL_comes_L_keys
theorem dL_comes_0 : decode cL_comes 0 = .ok (.aload 4, 2) := by decide +kernel
theorem dL_comes_2 : decode cL_comes 2 = .ok (.iload_n 3, 1) := by decide +kernel
theorem dL_comes_3 : decode cL_comes 3 = .ok (.iload_n 0, 1) := by decide +kernel
theorem dL_comes_4 : decode cL_comes 4 = .ok (.invokestatic 45, 3) := by decide +kernel
theorem dL_comes_7 : decode cL_comes 7 = .ok (.istore 5, 2) := by decide +kernel
theorem dL_comes_9 : decode cL_comes 9 = .ok (.iload 5, 2) := by decide +kernel
theorem dL_comes_11 : decode cL_comes 11 = .ok (.iconst 2, 1) := by decide +kernel
theorem dL_comes_12 : decode cL_comes 12 = .ok (.if_icmp .ne 17, 3) := by decide +kernel
theorem dL_comes_15 : decode cL_comes 15 = .ok (.iload_n 2, 1) := by decide +kernel
theorem dL_comes_16 : decode cL_comes 16 = .ok (.aload 4, 2) := by decide +kernel
theorem dL_comes_18 : decode cL_comes 18 = .ok (.iload_n 3, 1) := by decide +kernel
theorem dL_comes_19 : decode cL_comes 19 = .ok (.iload_n 0, 1) := by decide +kernel
theorem dL_comes_20 : decode cL_comes 20 = .ok (.invokestatic 51, 3) := by decide +kernel
theorem dL_comes_23 : decode cL_comes 23 = .ok (.iconst 1, 1) := by decide +kernel
theorem dL_comes_24 : decode cL_comes 24 = .ok (.iadd, 1) := by decide +kernel
theorem dL_comes_25 : decode cL_comes 25 = .ok (.ior, 1) := by decide +kernel
theorem dL_comes_26 : decode cL_comes 26 = .ok (.goto 4, 3) := by decide +kernel
theorem dL_comes_29 : decode cL_comes 29 = .ok (.iload_n 2, 1) := by decide +kernel
theorem dL_comes_30 : decode cL_comes 30 = .ok (.istore 6, 2) := by decide +kernel
theorem dL_comes_32 : decode cL_comes 32 = .ok (.iload_n 0, 1) := by decide +kernel
theorem dL_comes_33 : decode cL_comes 33 = .ok (.sipush 128, 3) := by decide +kernel
theorem dL_comes_36 : decode cL_comes 36 = .ok (.iload_n 1, 1) := by decide +kernel
theorem dL_comes_37 : decode cL_comes 37 = .ok (.iconst 4, 1) := by decide +kernel
theorem dL_comes_38 : decode cL_comes 38 = .ok (.iadd, 1) := by decide +kernel
theorem dL_comes_39 : decode cL_comes 39 = .ok (.imul, 1) := by decide +kernel
theorem dL_comes_40 : decode cL_comes 40 = .ok (.iadd, 1) := by decide +kernel
theorem dL_comes_41 : decode cL_comes 41 = .ok (.sipush 1024, 3) := by decide +kernel
theorem dL_comes_44 : decode cL_comes 44 = .ok (.iload 6, 2) := by decide +kernel
theorem dL_comes_46 : decode cL_comes 46 = .ok (.imul, 1) := by decide +kernel
theorem dL_comes_47 : decode cL_comes 47 = .ok (.iadd, 1) := by decide +kernel
theorem dL_comes_48 : decode cL_comes 48 = .ok (.iload 5, 2) := by decide +kernel
theorem dL_comes_50 : decode cL_comes 50 = .ok (.iconst 4, 1) := by decide +kernel
theorem dL_comes_51 : decode cL_comes 51 = .ok (.if_icmp .ne 8, 3) := by decide +kernel
theorem dL_comes_54 : decode cL_comes 54 = .ok (.ldc 54, 2) := by decide +kernel
theorem dL_comes_56 : decode cL_comes 56 = .ok (.goto 16, 3) := by decide +kernel
theorem dL_comes_59 : decode cL_comes 59 = .ok (.iload 5, 2) := by decide +kernel
theorem dL_comes_61 : decode cL_comes 61 = .ok (.iconst 5, 1) := by decide +kernel
theorem dL_comes_62 : decode cL_comes 62 = .ok (.if_icmp .ne 9, 3) := by decide +kernel
theorem dL_comes_65 : decode cL_comes 65 = .ok (.sipush 16384, 3) := by decide +kernel
theorem dL_comes_68 : decode cL_comes 68 = .ok (.goto 4, 3) := by decide +kernel
theorem dL_comes_71 : decode cL_comes 71 = .ok (.iconst 0, 1) := by decide +kernel
theorem dL_comes_72 : decode cL_comes 72 = .ok (.iadd, 1) := by decide +kernel
theorem dL_comes_73 : decode cL_comes 73 = .ok (.ireturn, 1) := by decide +kernel
set_option maxRecDepth 20000 in
theorem ggL_step_L_solid : GoodIn wsL_step wsL_solid := goodIn_r _ [5, 6, 7, 4, 8, 9] (by decide +kernel) (by decide +kernel)
set_option maxRecDepth 20000 in
theorem gL_step_L_solid : GoodIn wsL_step (va_wsS RL 55 yL_solid wsL_solid) := goodIn_app (goodIn_of _ (by decide +kernel)) ggL_step_L_solid
set_option maxRecDepth 20000 in
theorem ggL_step_L_comes : GoodIn wsL_step wsL_comes := goodIn_r _ [12, 1, 6, 7, 4, 8, 9, 13, 14, 15] (by decide +kernel) (by decide +kernel)
set_option maxRecDepth 20000 in
theorem gL_step_L_comes : GoodIn wsL_step (va_wsS RL 59 yL_comes wsL_comes) := goodIn_app (goodIn_of _ (by decide +kernel)) ggL_step_L_comes
set_option maxRecDepth 20000 in
theorem ggL_step_L_get : GoodIn wsL_step wsL_get := goodIn_r _ [8, 9] (by decide +kernel) (by decide +kernel)
set_option maxRecDepth 20000 in
theorem gL_step_L_get : GoodIn wsL_step (va_wsS RL 45 yL_get wsL_get) := goodIn_app (goodIn_of _ (by decide +kernel)) ggL_step_L_get
theorem dL_step_0 : decode cL_step 0 = .ok (.iload_n 0, 1) := by decide +kernel
theorem dL_step_1 : decode cL_step 1 = .ok (.sipush 128, 3) := by decide +kernel
theorem dL_step_4 : decode cL_step 4 = .ok (.irem, 1) := by decide +kernel
theorem dL_step_5 : decode cL_step 5 = .ok (.istore 6, 2) := by decide +kernel
theorem dL_step_7 : decode cL_step 7 = .ok (.iload_n 0, 1) := by decide +kernel
theorem dL_step_8 : decode cL_step 8 = .ok (.sipush 128, 3) := by decide +kernel
theorem dL_step_11 : decode cL_step 11 = .ok (.idiv, 1) := by decide +kernel
theorem dL_step_12 : decode cL_step 12 = .ok (.bipush 8, 2) := by decide +kernel
theorem dL_step_14 : decode cL_step 14 = .ok (.irem, 1) := by decide +kernel
theorem dL_step_15 : decode cL_step 15 = .ok (.iconst 4, 1) := by decide +kernel
theorem dL_step_16 : decode cL_step 16 = .ok (.isub, 1) := by decide +kernel
theorem dL_step_17 : decode cL_step 17 = .ok (.istore 7, 2) := by decide +kernel
theorem dL_step_19 : decode cL_step 19 = .ok (.iload_n 0, 1) := by decide +kernel
theorem dL_step_20 : decode cL_step 20 = .ok (.sipush 1024, 3) := by decide +kernel
theorem dL_step_23 : decode cL_step 23 = .ok (.idiv, 1) := by decide +kernel
theorem dL_step_24 : decode cL_step 24 = .ok (.bipush 8, 2) := by decide +kernel
theorem dL_step_26 : decode cL_step 26 = .ok (.irem, 1) := by decide +kernel
theorem dL_step_27 : decode cL_step 27 = .ok (.istore 8, 2) := by decide +kernel
theorem dL_step_29 : decode cL_step 29 = .ok (.iload 7, 2) := by decide +kernel
theorem dL_step_31 : decode cL_step 31 = .ok (.ifCond .lt 40, 3) := by decide +kernel
theorem dL_step_34 : decode cL_step 34 = .ok (.iload 6, 2) := by decide +kernel
theorem dL_step_36 : decode cL_step 36 = .ok (.bipush 84, 2) := by decide +kernel
theorem dL_step_38 : decode cL_step 38 = .ok (.if_icmp .ge 33, 3) := by decide +kernel
theorem dL_step_41 : decode cL_step 41 = .ok (.iload 6, 2) := by decide +kernel
theorem dL_step_43 : decode cL_step 43 = .ok (.bipush 12, 2) := by decide +kernel
theorem dL_step_45 : decode cL_step 45 = .ok (.iadd, 1) := by decide +kernel
theorem dL_step_46 : decode cL_step 46 = .ok (.iload 8, 2) := by decide +kernel
theorem dL_step_48 : decode cL_step 48 = .ok (.iload_n 2, 1) := by decide +kernel
theorem dL_step_49 : decode cL_step 49 = .ok (.iload_n 3, 1) := by decide +kernel
theorem dL_step_50 : decode cL_step 50 = .ok (.aload 5, 2) := by decide +kernel
theorem dL_step_52 : decode cL_step 52 = .ok (.invokestatic 55, 3) := by decide +kernel
theorem dL_step_55 : decode cL_step 55 = .ok (.ifCond .eq 16, 3) := by decide +kernel
theorem dL_step_58 : decode cL_step 58 = .ok (.iload_n 1, 1) := by decide +kernel
theorem dL_step_59 : decode cL_step 59 = .ok (.iconst 3, 1) := by decide +kernel
theorem dL_step_60 : decode cL_step 60 = .ok (.if_icmp .ge 7, 3) := by decide +kernel
theorem dL_step_63 : decode cL_step 63 = .ok (.iconst 0, 1) := by decide +kernel
theorem dL_step_64 : decode cL_step 64 = .ok (.goto 5, 3) := by decide +kernel
theorem dL_step_67 : decode cL_step 67 = .ok (.bipush (-2), 2) := by decide +kernel
theorem dL_step_69 : decode cL_step 69 = .ok (.istore 7, 2) := by decide +kernel
theorem dL_step_71 : decode cL_step 71 = .ok (.iload 6, 2) := by decide +kernel
theorem dL_step_73 : decode cL_step 73 = .ok (.iload 7, 2) := by decide +kernel
theorem dL_step_75 : decode cL_step 75 = .ok (.iload 8, 2) := by decide +kernel
theorem dL_step_77 : decode cL_step 77 = .ok (.iload_n 3, 1) := by decide +kernel
theorem dL_step_78 : decode cL_step 78 = .ok (.aload 5, 2) := by decide +kernel
theorem dL_step_80 : decode cL_step 80 = .ok (.invokestatic 59, 3) := by decide +kernel
theorem dL_step_83 : decode cL_step 83 = .ok (.sipush 16384, 3) := by decide +kernel
theorem dL_step_86 : decode cL_step 86 = .ok (.irem, 1) := by decide +kernel
theorem dL_step_87 : decode cL_step 87 = .ok (.istore 9, 2) := by decide +kernel
theorem dL_step_89 : decode cL_step 89 = .ok (.iload_n 1, 1) := by decide +kernel
theorem dL_step_90 : decode cL_step 90 = .ok (.iconst 3, 1) := by decide +kernel
theorem dL_step_91 : decode cL_step 91 = .ok (.irem, 1) := by decide +kernel
theorem dL_step_92 : decode cL_step 92 = .ok (.iconst 1, 1) := by decide +kernel
theorem dL_step_93 : decode cL_step 93 = .ok (.isub, 1) := by decide +kernel
theorem dL_step_94 : decode cL_step 94 = .ok (.istore 10, 2) := by decide +kernel
theorem dL_step_96 : decode cL_step 96 = .ok (.iload 6, 2) := by decide +kernel
theorem dL_step_98 : decode cL_step 98 = .ok (.bipush 12, 2) := by decide +kernel
theorem dL_step_100 : decode cL_step 100 = .ok (.irem, 1) := by decide +kernel
theorem dL_step_101 : decode cL_step 101 = .ok (.iload 10, 2) := by decide +kernel
theorem dL_step_103 : decode cL_step 103 = .ok (.iadd, 1) := by decide +kernel
theorem dL_step_104 : decode cL_step 104 = .ok (.istore 11, 2) := by decide +kernel
theorem dL_step_106 : decode cL_step 106 = .ok (.iload 10, 2) := by decide +kernel
theorem dL_step_108 : decode cL_step 108 = .ok (.ifCond .eq 49, 3) := by decide +kernel
theorem dL_step_111 : decode cL_step 111 = .ok (.iload 11, 2) := by decide +kernel
theorem dL_step_113 : decode cL_step 113 = .ok (.ifCond .lt 44, 3) := by decide +kernel
theorem dL_step_116 : decode cL_step 116 = .ok (.iload 11, 2) := by decide +kernel
theorem dL_step_118 : decode cL_step 118 = .ok (.bipush 12, 2) := by decide +kernel
theorem dL_step_120 : decode cL_step 120 = .ok (.if_icmp .ge 37, 3) := by decide +kernel
theorem dL_step_123 : decode cL_step 123 = .ok (.iload 6, 2) := by decide +kernel
theorem dL_step_125 : decode cL_step 125 = .ok (.iload 10, 2) := by decide +kernel
theorem dL_step_127 : decode cL_step 127 = .ok (.iadd, 1) := by decide +kernel
theorem dL_step_128 : decode cL_step 128 = .ok (.iload 8, 2) := by decide +kernel
theorem dL_step_130 : decode cL_step 130 = .ok (.iload_n 2, 1) := by decide +kernel
theorem dL_step_131 : decode cL_step 131 = .ok (.iload_n 3, 1) := by decide +kernel
theorem dL_step_132 : decode cL_step 132 = .ok (.aload 5, 2) := by decide +kernel
theorem dL_step_134 : decode cL_step 134 = .ok (.invokestatic 55, 3) := by decide +kernel
theorem dL_step_137 : decode cL_step 137 = .ok (.ifCond .ne 20, 3) := by decide +kernel
theorem dL_step_140 : decode cL_step 140 = .ok (.iload 6, 2) := by decide +kernel
theorem dL_step_142 : decode cL_step 142 = .ok (.iload 10, 2) := by decide +kernel
theorem dL_step_144 : decode cL_step 144 = .ok (.iadd, 1) := by decide +kernel
theorem dL_step_145 : decode cL_step 145 = .ok (.iload 7, 2) := by decide +kernel
theorem dL_step_147 : decode cL_step 147 = .ok (.iload 8, 2) := by decide +kernel
theorem dL_step_149 : decode cL_step 149 = .ok (.iload_n 3, 1) := by decide +kernel
theorem dL_step_150 : decode cL_step 150 = .ok (.aload 5, 2) := by decide +kernel
theorem dL_step_152 : decode cL_step 152 = .ok (.invokestatic 59, 3) := by decide +kernel
theorem dL_step_155 : decode cL_step 155 = .ok (.istore 9, 2) := by decide +kernel
theorem dL_step_157 : decode cL_step 157 = .ok (.iload 7, 2) := by decide +kernel
theorem dL_step_159 : decode cL_step 159 = .ok (.ifCond .ge 8, 3) := by decide +kernel
theorem dL_step_162 : decode cL_step 162 = .ok (.bipush (-12), 2) := by decide +kernel
theorem dL_step_164 : decode cL_step 164 = .ok (.goto 5, 3) := by decide +kernel
theorem dL_step_167 : decode cL_step 167 = .ok (.bipush 12, 2) := by decide +kernel
theorem dL_step_169 : decode cL_step 169 = .ok (.istore 12, 2) := by decide +kernel
theorem dL_step_171 : decode cL_step 171 = .ok (.iload 7, 2) := by decide +kernel
theorem dL_step_173 : decode cL_step 173 = .ok (.ifCond .ge 9, 3) := by decide +kernel
theorem dL_step_176 : decode cL_step 176 = .ok (.iload 7, 2) := by decide +kernel
theorem dL_step_178 : decode cL_step 178 = .ok (.ineg, 1) := by decide +kernel
theorem dL_step_179 : decode cL_step 179 = .ok (.goto 5, 3) := by decide +kernel
theorem dL_step_182 : decode cL_step 182 = .ok (.iload 7, 2) := by decide +kernel
theorem dL_step_184 : decode cL_step 184 = .ok (.istore 13, 2) := by decide +kernel
theorem dL_step_186 : decode cL_step 186 = .ok (.iload 13, 2) := by decide +kernel
theorem dL_step_188 : decode cL_step 188 = .ok (.ifCond .le 138, 3) := by decide +kernel
theorem dL_step_191 : decode cL_step 191 = .ok (.iload 9, 2) := by decide +kernel
theorem dL_step_193 : decode cL_step 193 = .ok (.sipush 16384, 3) := by decide +kernel
theorem dL_step_196 : decode cL_step 196 = .ok (.if_icmp .ge 130, 3) := by decide +kernel
theorem dL_step_199 : decode cL_step 199 = .ok (.iload 9, 2) := by decide +kernel
theorem dL_step_201 : decode cL_step 201 = .ok (.sipush 128, 3) := by decide +kernel
theorem dL_step_204 : decode cL_step 204 = .ok (.irem, 1) := by decide +kernel
theorem dL_step_205 : decode cL_step 205 = .ok (.iload 12, 2) := by decide +kernel
theorem dL_step_207 : decode cL_step 207 = .ok (.iadd, 1) := by decide +kernel
theorem dL_step_208 : decode cL_step 208 = .ok (.istore 14, 2) := by decide +kernel
theorem dL_step_210 : decode cL_step 210 = .ok (.iload 9, 2) := by decide +kernel
theorem dL_step_212 : decode cL_step 212 = .ok (.sipush 1024, 3) := by decide +kernel
theorem dL_step_215 : decode cL_step 215 = .ok (.idiv, 1) := by decide +kernel
theorem dL_step_216 : decode cL_step 216 = .ok (.bipush 8, 2) := by decide +kernel
theorem dL_step_218 : decode cL_step 218 = .ok (.irem, 1) := by decide +kernel
theorem dL_step_219 : decode cL_step 219 = .ok (.istore 15, 2) := by decide +kernel
theorem dL_step_221 : decode cL_step 221 = .ok (.iload 14, 2) := by decide +kernel
theorem dL_step_223 : decode cL_step 223 = .ok (.bipush 95, 2) := by decide +kernel
theorem dL_step_225 : decode cL_step 225 = .ok (.if_icmp .le 9, 3) := by decide +kernel
theorem dL_step_228 : decode cL_step 228 = .ok (.iload 9, 2) := by decide +kernel
theorem dL_step_230 : decode cL_step 230 = .ok (.ldc 54, 2) := by decide +kernel
theorem dL_step_232 : decode cL_step 232 = .ok (.iadd, 1) := by decide +kernel
theorem dL_step_233 : decode cL_step 233 = .ok (.ireturn, 1) := by decide +kernel
theorem dL_step_234 : decode cL_step 234 = .ok (.iload 14, 2) := by decide +kernel
theorem dL_step_236 : decode cL_step 236 = .ok (.ifCond .lt 17, 3) := by decide +kernel
theorem dL_step_239 : decode cL_step 239 = .ok (.iload 14, 2) := by decide +kernel
theorem dL_step_241 : decode cL_step 241 = .ok (.iload 15, 2) := by decide +kernel
theorem dL_step_243 : decode cL_step 243 = .ok (.iload_n 2, 1) := by decide +kernel
theorem dL_step_244 : decode cL_step 244 = .ok (.iload_n 3, 1) := by decide +kernel
theorem dL_step_245 : decode cL_step 245 = .ok (.aload 5, 2) := by decide +kernel
theorem dL_step_247 : decode cL_step 247 = .ok (.invokestatic 55, 3) := by decide +kernel
theorem dL_step_250 : decode cL_step 250 = .ok (.ifCond .eq 56, 3) := by decide +kernel
theorem dL_step_253 : decode cL_step 253 = .ok (.iload 14, 2) := by decide +kernel
theorem dL_step_255 : decode cL_step 255 = .ok (.ifCond .lt 8, 3) := by decide +kernel
theorem dL_step_258 : decode cL_step 258 = .ok (.iload 12, 2) := by decide +kernel
theorem dL_step_260 : decode cL_step 260 = .ok (.ifCond .ge 7, 3) := by decide +kernel
theorem dL_step_263 : decode cL_step 263 = .ok (.iconst 0, 1) := by decide +kernel
theorem dL_step_264 : decode cL_step 264 = .ok (.goto 11, 3) := by decide +kernel
theorem dL_step_267 : decode cL_step 267 = .ok (.aload 5, 2) := by decide +kernel
theorem dL_step_269 : decode cL_step 269 = .ok (.iload_n 3, 1) := by decide +kernel
theorem dL_step_270 : decode cL_step 270 = .ok (.iload 14, 2) := by decide +kernel
theorem dL_step_272 : decode cL_step 272 = .ok (.invokestatic 45, 3) := by decide +kernel
theorem dL_step_275 : decode cL_step 275 = .ok (.istore 16, 2) := by decide +kernel
theorem dL_step_277 : decode cL_step 277 = .ok (.iload 9, 2) := by decide +kernel
theorem dL_step_279 : decode cL_step 279 = .ok (.sipush 128, 3) := by decide +kernel
theorem dL_step_282 : decode cL_step 282 = .ok (.iload 16, 2) := by decide +kernel
theorem dL_step_284 : decode cL_step 284 = .ok (.iconst 5, 1) := by decide +kernel
theorem dL_step_285 : decode cL_step 285 = .ok (.if_icmp .le 14, 3) := by decide +kernel
theorem dL_step_288 : decode cL_step 288 = .ok (.aload 4, 2) := by decide +kernel
theorem dL_step_290 : decode cL_step 290 = .ok (.iload 16, 2) := by decide +kernel
theorem dL_step_292 : decode cL_step 292 = .ok (.iconst 4, 1) := by decide +kernel
theorem dL_step_293 : decode cL_step 293 = .ok (.isub, 1) := by decide +kernel
theorem dL_step_294 : decode cL_step 294 = .ok (.iaload, 1) := by decide +kernel
theorem dL_step_295 : decode cL_step 295 = .ok (.ineg, 1) := by decide +kernel
theorem dL_step_296 : decode cL_step 296 = .ok (.goto 4, 3) := by decide +kernel
theorem dL_step_299 : decode cL_step 299 = .ok (.iconst 0, 1) := by decide +kernel
theorem dL_step_300 : decode cL_step 300 = .ok (.iload 7, 2) := by decide +kernel
theorem dL_step_302 : decode cL_step 302 = .ok (.isub, 1) := by decide +kernel
theorem dL_step_303 : decode cL_step 303 = .ok (.imul, 1) := by decide +kernel
theorem dL_step_304 : decode cL_step 304 = .ok (.iadd, 1) := by decide +kernel
theorem dL_step_305 : decode cL_step 305 = .ok (.ireturn, 1) := by decide +kernel
theorem dL_step_306 : decode cL_step 306 = .ok (.iload 14, 2) := by decide +kernel
theorem dL_step_308 : decode cL_step 308 = .ok (.iload 7, 2) := by decide +kernel
theorem dL_step_310 : decode cL_step 310 = .ok (.iload 15, 2) := by decide +kernel
theorem dL_step_312 : decode cL_step 312 = .ok (.iload_n 3, 1) := by decide +kernel
theorem dL_step_313 : decode cL_step 313 = .ok (.aload 5, 2) := by decide +kernel
theorem dL_step_315 : decode cL_step 315 = .ok (.invokestatic 59, 3) := by decide +kernel
theorem dL_step_318 : decode cL_step 318 = .ok (.istore 9, 2) := by decide +kernel
theorem dL_step_320 : decode cL_step 320 = .ok (.iinc 13 (-1), 3) := by decide +kernel
theorem dL_step_323 : decode cL_step 323 = .ok (.goto (-137), 3) := by decide +kernel
theorem dL_step_326 : decode cL_step 326 = .ok (.iload 9, 2) := by decide +kernel
theorem dL_step_328 : decode cL_step 328 = .ok (.sipush 16384, 3) := by decide +kernel
theorem dL_step_331 : decode cL_step 331 = .ok (.if_icmp .ge 9, 3) := by decide +kernel
theorem dL_step_334 : decode cL_step 334 = .ok (.iload 7, 2) := by decide +kernel
theorem dL_step_336 : decode cL_step 336 = .ok (.iconst 3, 1) := by decide +kernel
theorem dL_step_337 : decode cL_step 337 = .ok (.if_icmp .ne 8, 3) := by decide +kernel
theorem dL_step_340 : decode cL_step 340 = .ok (.iload 9, 2) := by decide +kernel
theorem dL_step_342 : decode cL_step 342 = .ok (.goto 9, 3) := by decide +kernel
theorem dL_step_345 : decode cL_step 345 = .ok (.iload 9, 2) := by decide +kernel
theorem dL_step_347 : decode cL_step 347 = .ok (.sipush 128, 3) := by decide +kernel
theorem dL_step_350 : decode cL_step 350 = .ok (.iadd, 1) := by decide +kernel
theorem dL_step_351 : decode cL_step 351 = .ok (.ireturn, 1) := by decide +kernel
set_option maxRecDepth 20000 in
theorem ggL_start_L_comes : GoodIn wsL_start wsL_comes := goodIn_r _ [4, 5, 6, 7, 3, 8, 9, 10, 11, 12] (by decide +kernel) (by decide +kernel)
set_option maxRecDepth 20000 in
theorem gL_start_L_comes : GoodIn wsL_start (va_wsS RL 59 yL_comes wsL_comes) := goodIn_app (goodIn_of _ (by decide +kernel)) ggL_start_L_comes
theorem dL_start_0 : decode cL_start 0 = .ok (.iload_n 0, 1) := by decide +kernel
theorem dL_start_1 : decode cL_start 1 = .ok (.iconst 0, 1) := by decide +kernel
theorem dL_start_2 : decode cL_start 2 = .ok (.iconst 0, 1) := by decide +kernel
theorem dL_start_3 : decode cL_start 3 = .ok (.iload_n 1, 1) := by decide +kernel
theorem dL_start_4 : decode cL_start 4 = .ok (.aload_n 2, 1) := by decide +kernel
theorem dL_start_5 : decode cL_start 5 = .ok (.invokestatic 59, 3) := by decide +kernel
theorem dL_start_8 : decode cL_start 8 = .ok (.ireturn, 1) := by decide +kernel
theorem dL_marks_0 : decode cL_marks 0 = .ok (.iload_n 0, 1) := by decide +kernel
theorem dL_marks_1 : decode cL_marks 1 = .ok (.sipush 128, 3) := by decide +kernel
theorem dL_marks_4 : decode cL_marks 4 = .ok (.irem, 1) := by decide +kernel
theorem dL_marks_5 : decode cL_marks 5 = .ok (.istore_n 3, 1) := by decide +kernel
theorem dL_marks_6 : decode cL_marks 6 = .ok (.iload_n 0, 1) := by decide +kernel
theorem dL_marks_7 : decode cL_marks 7 = .ok (.sipush 128, 3) := by decide +kernel
theorem dL_marks_10 : decode cL_marks 10 = .ok (.idiv, 1) := by decide +kernel
theorem dL_marks_11 : decode cL_marks 11 = .ok (.bipush 64, 2) := by decide +kernel
theorem dL_marks_13 : decode cL_marks 13 = .ok (.irem, 1) := by decide +kernel
theorem dL_marks_14 : decode cL_marks 14 = .ok (.istore 4, 2) := by decide +kernel
theorem dL_marks_16 : decode cL_marks 16 = .ok (.iload 4, 2) := by decide +kernel
theorem dL_marks_18 : decode cL_marks 18 = .ok (.bipush 8, 2) := by decide +kernel
theorem dL_marks_20 : decode cL_marks 20 = .ok (.irem, 1) := by decide +kernel
theorem dL_marks_21 : decode cL_marks 21 = .ok (.bipush 8, 2) := by decide +kernel
theorem dL_marks_23 : decode cL_marks 23 = .ok (.imul, 1) := by decide +kernel
theorem dL_marks_24 : decode cL_marks 24 = .ok (.iload 4, 2) := by decide +kernel
theorem dL_marks_26 : decode cL_marks 26 = .ok (.bipush 8, 2) := by decide +kernel
theorem dL_marks_28 : decode cL_marks 28 = .ok (.idiv, 1) := by decide +kernel
theorem dL_marks_29 : decode cL_marks 29 = .ok (.iadd, 1) := by decide +kernel
theorem dL_marks_30 : decode cL_marks 30 = .ok (.istore 4, 2) := by decide +kernel
theorem dL_marks_32 : decode cL_marks 32 = .ok (.aload_n 1, 1) := by decide +kernel
theorem dL_marks_33 : decode cL_marks 33 = .ok (.iload 4, 2) := by decide +kernel
theorem dL_marks_35 : decode cL_marks 35 = .ok (.dup2, 1) := by decide +kernel
theorem dL_marks_36 : decode cL_marks 36 = .ok (.laload, 1) := by decide +kernel
theorem dL_marks_37 : decode cL_marks 37 = .ok (.iload_n 3, 1) := by decide +kernel
theorem dL_marks_38 : decode cL_marks 38 = .ok (.bipush 48, 2) := by decide +kernel
theorem dL_marks_40 : decode cL_marks 40 = .ok (.if_icmp .ge 9, 3) := by decide +kernel
theorem dL_marks_43 : decode cL_marks 43 = .ok (.lconst 1, 1) := by decide +kernel
theorem dL_marks_44 : decode cL_marks 44 = .ok (.iload_n 3, 1) := by decide +kernel
theorem dL_marks_45 : decode cL_marks 45 = .ok (.lshl, 1) := by decide +kernel
theorem dL_marks_46 : decode cL_marks 46 = .ok (.goto 4, 3) := by decide +kernel
theorem dL_marks_49 : decode cL_marks 49 = .ok (.lconst 0, 1) := by decide +kernel
theorem dL_marks_50 : decode cL_marks 50 = .ok (.lor, 1) := by decide +kernel
theorem dL_marks_51 : decode cL_marks 51 = .ok (.lastore, 1) := by decide +kernel
theorem dL_marks_52 : decode cL_marks 52 = .ok (.aload_n 2, 1) := by decide +kernel
theorem dL_marks_53 : decode cL_marks 53 = .ok (.iload 4, 2) := by decide +kernel
theorem dL_marks_55 : decode cL_marks 55 = .ok (.dup2, 1) := by decide +kernel
theorem dL_marks_56 : decode cL_marks 56 = .ok (.laload, 1) := by decide +kernel
theorem dL_marks_57 : decode cL_marks 57 = .ok (.iload_n 3, 1) := by decide +kernel
theorem dL_marks_58 : decode cL_marks 58 = .ok (.bipush 48, 2) := by decide +kernel
theorem dL_marks_60 : decode cL_marks 60 = .ok (.if_icmp .ge 7, 3) := by decide +kernel
theorem dL_marks_63 : decode cL_marks 63 = .ok (.lconst 0, 1) := by decide +kernel
theorem dL_marks_64 : decode cL_marks 64 = .ok (.goto 9, 3) := by decide +kernel
theorem dL_marks_67 : decode cL_marks 67 = .ok (.lconst 1, 1) := by decide +kernel
theorem dL_marks_68 : decode cL_marks 68 = .ok (.iload_n 3, 1) := by decide +kernel
theorem dL_marks_69 : decode cL_marks 69 = .ok (.bipush 48, 2) := by decide +kernel
theorem dL_marks_71 : decode cL_marks 71 = .ok (.isub, 1) := by decide +kernel
theorem dL_marks_72 : decode cL_marks 72 = .ok (.lshl, 1) := by decide +kernel
theorem dL_marks_73 : decode cL_marks 73 = .ok (.lor, 1) := by decide +kernel
theorem dL_marks_74 : decode cL_marks 74 = .ok (.lastore, 1) := by decide +kernel
theorem dL_marks_75 : decode cL_marks 75 = .ok (.return_, 1) := by decide +kernel
set_option maxRecDepth 20000 in
theorem ggL_spreads_L_step : GoodIn wsL_spreads wsL_step := goodIn_r _ [5, 1, 6, 7, 4, 8, 9, 10, 11, 12, 13, 14, 15, 16, 17, 18] (by decide +kernel) (by decide +kernel)
set_option maxRecDepth 20000 in
theorem gL_spreads_L_step : GoodIn wsL_spreads (va_wsS RL 63 yL_step wsL_step) := goodIn_app (goodIn_of _ (by decide +kernel)) ggL_spreads_L_step
set_option maxRecDepth 20000 in
theorem ggL_spreads_L_marks : GoodIn wsL_spreads wsL_marks := goodIn_r _ [21] (by decide +kernel) (by decide +kernel)
set_option maxRecDepth 20000 in
theorem gL_spreads_L_marks : GoodIn wsL_spreads (va_wsS RL 66 yL_marks wsL_marks) := goodIn_app (goodIn_of _ (by decide +kernel)) ggL_spreads_L_marks
theorem dL_spreads_0 : decode cL_spreads 0 = .ok (.iconst 0, 1) := by decide +kernel
theorem dL_spreads_1 : decode cL_spreads 1 = .ok (.istore 9, 2) := by decide +kernel
theorem dL_spreads_3 : decode cL_spreads 3 = .ok (.iconst 0, 1) := by decide +kernel
theorem dL_spreads_4 : decode cL_spreads 4 = .ok (.istore 10, 2) := by decide +kernel
theorem dL_spreads_6 : decode cL_spreads 6 = .ok (.iload 10, 2) := by decide +kernel
theorem dL_spreads_8 : decode cL_spreads 8 = .ok (.bipush 64, 2) := by decide +kernel
theorem dL_spreads_10 : decode cL_spreads 10 = .ok (.if_icmp .ge 193, 3) := by decide +kernel
theorem dL_spreads_13 : decode cL_spreads 13 = .ok (.iconst 0, 1) := by decide +kernel
theorem dL_spreads_14 : decode cL_spreads 14 = .ok (.istore 11, 2) := by decide +kernel
theorem dL_spreads_16 : decode cL_spreads 16 = .ok (.iload 11, 2) := by decide +kernel
theorem dL_spreads_18 : decode cL_spreads 18 = .ok (.bipush 96, 2) := by decide +kernel
theorem dL_spreads_20 : decode cL_spreads 20 = .ok (.if_icmp .ge 177, 3) := by decide +kernel
theorem dL_spreads_23 : decode cL_spreads 23 = .ok (.iload 11, 2) := by decide +kernel
theorem dL_spreads_25 : decode cL_spreads 25 = .ok (.bipush 48, 2) := by decide +kernel
theorem dL_spreads_27 : decode cL_spreads 27 = .ok (.if_icmp .ge 16, 3) := by decide +kernel
theorem dL_spreads_30 : decode cL_spreads 30 = .ok (.aload 4, 2) := by decide +kernel
theorem dL_spreads_32 : decode cL_spreads 32 = .ok (.iload 10, 2) := by decide +kernel
theorem dL_spreads_34 : decode cL_spreads 34 = .ok (.laload, 1) := by decide +kernel
theorem dL_spreads_35 : decode cL_spreads 35 = .ok (.iload 11, 2) := by decide +kernel
theorem dL_spreads_37 : decode cL_spreads 37 = .ok (.lshr, 1) := by decide +kernel
theorem dL_spreads_38 : decode cL_spreads 38 = .ok (.lconst 1, 1) := by decide +kernel
theorem dL_spreads_39 : decode cL_spreads 39 = .ok (.land, 1) := by decide +kernel
theorem dL_spreads_40 : decode cL_spreads 40 = .ok (.goto 16, 3) := by decide +kernel
theorem dL_spreads_43 : decode cL_spreads 43 = .ok (.aload 5, 2) := by decide +kernel
theorem dL_spreads_45 : decode cL_spreads 45 = .ok (.iload 10, 2) := by decide +kernel
theorem dL_spreads_47 : decode cL_spreads 47 = .ok (.laload, 1) := by decide +kernel
theorem dL_spreads_48 : decode cL_spreads 48 = .ok (.iload 11, 2) := by decide +kernel
theorem dL_spreads_50 : decode cL_spreads 50 = .ok (.bipush 48, 2) := by decide +kernel
theorem dL_spreads_52 : decode cL_spreads 52 = .ok (.isub, 1) := by decide +kernel
theorem dL_spreads_53 : decode cL_spreads 53 = .ok (.lshr, 1) := by decide +kernel
theorem dL_spreads_54 : decode cL_spreads 54 = .ok (.lconst 1, 1) := by decide +kernel
theorem dL_spreads_55 : decode cL_spreads 55 = .ok (.land, 1) := by decide +kernel
theorem dL_spreads_56 : decode cL_spreads 56 = .ok (.lstore 12, 2) := by decide +kernel
theorem dL_spreads_58 : decode cL_spreads 58 = .ok (.iconst 0, 1) := by decide +kernel
theorem dL_spreads_59 : decode cL_spreads 59 = .ok (.istore 14, 2) := by decide +kernel
theorem dL_spreads_61 : decode cL_spreads 61 = .ok (.iload 14, 2) := by decide +kernel
theorem dL_spreads_63 : decode cL_spreads 63 = .ok (.bipush 6, 2) := by decide +kernel
theorem dL_spreads_65 : decode cL_spreads 65 = .ok (.if_icmp .ge 126, 3) := by decide +kernel
theorem dL_spreads_68 : decode cL_spreads 68 = .ok (.lload 12, 2) := by decide +kernel
theorem dL_spreads_70 : decode cL_spreads 70 = .ok (.lconst 1, 1) := by decide +kernel
theorem dL_spreads_71 : decode cL_spreads 71 = .ok (.lcmp, 1) := by decide +kernel
theorem dL_spreads_72 : decode cL_spreads 72 = .ok (.ifCond .ne 119, 3) := by decide +kernel
theorem dL_spreads_75 : decode cL_spreads 75 = .ok (.iload 11, 2) := by decide +kernel
theorem dL_spreads_77 : decode cL_spreads 77 = .ok (.sipush 128, 3) := by decide +kernel
theorem dL_spreads_80 : decode cL_spreads 80 = .ok (.iload 10, 2) := by decide +kernel
theorem dL_spreads_82 : decode cL_spreads 82 = .ok (.bipush 8, 2) := by decide +kernel
theorem dL_spreads_84 : decode cL_spreads 84 = .ok (.idiv, 1) := by decide +kernel
theorem dL_spreads_85 : decode cL_spreads 85 = .ok (.imul, 1) := by decide +kernel
theorem dL_spreads_86 : decode cL_spreads 86 = .ok (.iadd, 1) := by decide +kernel
theorem dL_spreads_87 : decode cL_spreads 87 = .ok (.sipush 1024, 3) := by decide +kernel
theorem dL_spreads_90 : decode cL_spreads 90 = .ok (.iload 10, 2) := by decide +kernel
theorem dL_spreads_92 : decode cL_spreads 92 = .ok (.bipush 8, 2) := by decide +kernel
theorem dL_spreads_94 : decode cL_spreads 94 = .ok (.irem, 1) := by decide +kernel
theorem dL_spreads_95 : decode cL_spreads 95 = .ok (.imul, 1) := by decide +kernel
theorem dL_spreads_96 : decode cL_spreads 96 = .ok (.iadd, 1) := by decide +kernel
theorem dL_spreads_97 : decode cL_spreads 97 = .ok (.iload 14, 2) := by decide +kernel
theorem dL_spreads_99 : decode cL_spreads 99 = .ok (.iload_n 0, 1) := by decide +kernel
theorem dL_spreads_100 : decode cL_spreads 100 = .ok (.iload_n 1, 1) := by decide +kernel
theorem dL_spreads_101 : decode cL_spreads 101 = .ok (.aload_n 2, 1) := by decide +kernel
theorem dL_spreads_102 : decode cL_spreads 102 = .ok (.aload_n 3, 1) := by decide +kernel
theorem dL_spreads_103 : decode cL_spreads 103 = .ok (.invokestatic 63, 3) := by decide +kernel
theorem dL_spreads_106 : decode cL_spreads 106 = .ok (.istore 15, 2) := by decide +kernel
theorem dL_spreads_108 : decode cL_spreads 108 = .ok (.iload 15, 2) := by decide +kernel
theorem dL_spreads_110 : decode cL_spreads 110 = .ok (.ldc 54, 2) := by decide +kernel
theorem dL_spreads_112 : decode cL_spreads 112 = .ok (.if_icmp .ge 29, 3) := by decide +kernel
theorem dL_spreads_115 : decode cL_spreads 115 = .ok (.iload 15, 2) := by decide +kernel
theorem dL_spreads_117 : decode cL_spreads 117 = .ok (.sipush 128, 3) := by decide +kernel
theorem dL_spreads_120 : decode cL_spreads 120 = .ok (.irem, 1) := by decide +kernel
theorem dL_spreads_121 : decode cL_spreads 121 = .ok (.istore 16, 2) := by decide +kernel
theorem dL_spreads_123 : decode cL_spreads 123 = .ok (.aload 8, 2) := by decide +kernel
theorem dL_spreads_125 : decode cL_spreads 125 = .ok (.iload 16, 2) := by decide +kernel
theorem dL_spreads_127 : decode cL_spreads 127 = .ok (.bipush 48, 2) := by decide +kernel
theorem dL_spreads_129 : decode cL_spreads 129 = .ok (.idiv, 1) := by decide +kernel
theorem dL_spreads_130 : decode cL_spreads 130 = .ok (.dup2, 1) := by decide +kernel
theorem dL_spreads_131 : decode cL_spreads 131 = .ok (.laload, 1) := by decide +kernel
theorem dL_spreads_132 : decode cL_spreads 132 = .ok (.lconst 1, 1) := by decide +kernel
theorem dL_spreads_133 : decode cL_spreads 133 = .ok (.iload 16, 2) := by decide +kernel
theorem dL_spreads_135 : decode cL_spreads 135 = .ok (.bipush 48, 2) := by decide +kernel
theorem dL_spreads_137 : decode cL_spreads 137 = .ok (.irem, 1) := by decide +kernel
theorem dL_spreads_138 : decode cL_spreads 138 = .ok (.lshl, 1) := by decide +kernel
theorem dL_spreads_139 : decode cL_spreads 139 = .ok (.lor, 1) := by decide +kernel
theorem dL_spreads_140 : decode cL_spreads 140 = .ok (.lastore, 1) := by decide +kernel
theorem dL_spreads_141 : decode cL_spreads 141 = .ok (.iload 15, 2) := by decide +kernel
theorem dL_spreads_143 : decode cL_spreads 143 = .ok (.sipush 16384, 3) := by decide +kernel
theorem dL_spreads_146 : decode cL_spreads 146 = .ok (.if_icmp .ge 12, 3) := by decide +kernel
theorem dL_spreads_149 : decode cL_spreads 149 = .ok (.iload 15, 2) := by decide +kernel
theorem dL_spreads_151 : decode cL_spreads 151 = .ok (.aload 6, 2) := by decide +kernel
theorem dL_spreads_153 : decode cL_spreads 153 = .ok (.aload 7, 2) := by decide +kernel
theorem dL_spreads_155 : decode cL_spreads 155 = .ok (.invokestatic 66, 3) := by decide +kernel
theorem dL_spreads_158 : decode cL_spreads 158 = .ok (.iload 9, 2) := by decide +kernel
theorem dL_spreads_160 : decode cL_spreads 160 = .ok (.ifCond .ne 18, 3) := by decide +kernel
theorem dL_spreads_163 : decode cL_spreads 163 = .ok (.iload 15, 2) := by decide +kernel
theorem dL_spreads_165 : decode cL_spreads 165 = .ok (.sipush 16384, 3) := by decide +kernel
theorem dL_spreads_168 : decode cL_spreads 168 = .ok (.if_icmp .lt 14, 3) := by decide +kernel
theorem dL_spreads_171 : decode cL_spreads 171 = .ok (.iload 15, 2) := by decide +kernel
theorem dL_spreads_173 : decode cL_spreads 173 = .ok (.ldc 54, 2) := by decide +kernel
theorem dL_spreads_175 : decode cL_spreads 175 = .ok (.if_icmp .ge 7, 3) := by decide +kernel
theorem dL_spreads_178 : decode cL_spreads 178 = .ok (.iconst 1, 1) := by decide +kernel
theorem dL_spreads_179 : decode cL_spreads 179 = .ok (.goto 4, 3) := by decide +kernel
theorem dL_spreads_182 : decode cL_spreads 182 = .ok (.iconst 0, 1) := by decide +kernel
theorem dL_spreads_183 : decode cL_spreads 183 = .ok (.istore 9, 2) := by decide +kernel
theorem dL_spreads_185 : decode cL_spreads 185 = .ok (.iinc 14 1, 3) := by decide +kernel
theorem dL_spreads_188 : decode cL_spreads 188 = .ok (.goto (-127), 3) := by decide +kernel
theorem dL_spreads_191 : decode cL_spreads 191 = .ok (.iinc 11 1, 3) := by decide +kernel
theorem dL_spreads_194 : decode cL_spreads 194 = .ok (.goto (-178), 3) := by decide +kernel
theorem dL_spreads_197 : decode cL_spreads 197 = .ok (.iinc 10 1, 3) := by decide +kernel
theorem dL_spreads_200 : decode cL_spreads 200 = .ok (.goto (-194), 3) := by decide +kernel
theorem dL_spreads_203 : decode cL_spreads 203 = .ok (.iload 9, 2) := by decide +kernel
theorem dL_spreads_205 : decode cL_spreads 205 = .ok (.ireturn, 1) := by decide +kernel
set_option maxRecDepth 20000 in
theorem ggL_search_L_keys : GoodIn wsL_search wsL_keys := goodIn_r _ [6, 7, 8, 5, 9, 10] (by decide +kernel) (by decide +kernel)
set_option maxRecDepth 20000 in
theorem gL_search_L_keys : GoodIn wsL_search (va_wsS RL 51 yL_keys wsL_keys) := goodIn_app (goodIn_of _ (by decide +kernel)) ggL_search_L_keys
set_option maxRecDepth 20000 in
theorem ggL_search_L_start : GoodIn wsL_search wsL_start := goodIn_r _ [13, 14, 15, 5, 16, 1, 7, 8, 9, 10, 3, 4, 6] (by decide +kernel) (by decide +kernel)
set_option maxRecDepth 20000 in
theorem gL_search_L_start : GoodIn wsL_search (va_wsS RL 70 yL_start wsL_start) := goodIn_app (goodIn_of _ (by decide +kernel)) ggL_search_L_start
set_option maxRecDepth 20000 in
theorem ggL_search_L_marks : GoodIn wsL_search wsL_marks := goodIn_r _ [19] (by decide +kernel) (by decide +kernel)
set_option maxRecDepth 20000 in
theorem gL_search_L_marks : GoodIn wsL_search (va_wsS RL 66 yL_marks wsL_marks) := goodIn_app (goodIn_of _ (by decide +kernel)) ggL_search_L_marks
set_option maxRecDepth 20000 in
theorem ggL_search_L_spreads : GoodIn wsL_search wsL_spreads := goodIn_r _ [22, 1, 23, 24, 5, 25, 26, 27, 28, 7, 8, 9, 10, 14, 15, 16, 3, 4, 6, 17, 18, 19] (by decide +kernel) (by decide +kernel)
set_option maxRecDepth 20000 in
theorem gL_search_L_spreads : GoodIn wsL_search (va_wsS RL 74 yL_spreads wsL_spreads) := goodIn_app (goodIn_of _ (by decide +kernel)) ggL_search_L_spreads
theorem dL_search_0 : decode cL_search 0 = .ok (.aload_n 3, 1) := by decide +kernel
theorem dL_search_1 : decode cL_search 1 = .ok (.iload_n 1, 1) := by decide +kernel
theorem dL_search_2 : decode cL_search 2 = .ok (.bipush 96, 2) := by decide +kernel
theorem dL_search_4 : decode cL_search 4 = .ok (.invokestatic 51, 3) := by decide +kernel
theorem dL_search_7 : decode cL_search 7 = .ok (.istore 11, 2) := by decide +kernel
theorem dL_search_9 : decode cL_search 9 = .ok (.iload_n 0, 1) := by decide +kernel
theorem dL_search_10 : decode cL_search 10 = .ok (.iload_n 1, 1) := by decide +kernel
theorem dL_search_11 : decode cL_search 11 = .ok (.aload_n 3, 1) := by decide +kernel
theorem dL_search_12 : decode cL_search 12 = .ok (.invokestatic 70, 3) := by decide +kernel
theorem dL_search_15 : decode cL_search 15 = .ok (.istore 12, 2) := by decide +kernel
theorem dL_search_17 : decode cL_search 17 = .ok (.iconst 0, 1) := by decide +kernel
theorem dL_search_18 : decode cL_search 18 = .ok (.istore 13, 2) := by decide +kernel
theorem dL_search_20 : decode cL_search 20 = .ok (.iload 13, 2) := by decide +kernel
theorem dL_search_22 : decode cL_search 22 = .ok (.bipush 64, 2) := by decide +kernel
theorem dL_search_24 : decode cL_search 24 = .ok (.if_icmp .ge 33, 3) := by decide +kernel
theorem dL_search_27 : decode cL_search 27 = .ok (.aload 4, 2) := by decide +kernel
theorem dL_search_29 : decode cL_search 29 = .ok (.iload 13, 2) := by decide +kernel
theorem dL_search_31 : decode cL_search 31 = .ok (.lconst 0, 1) := by decide +kernel
theorem dL_search_32 : decode cL_search 32 = .ok (.lastore, 1) := by decide +kernel
theorem dL_search_33 : decode cL_search 33 = .ok (.aload 5, 2) := by decide +kernel
theorem dL_search_35 : decode cL_search 35 = .ok (.iload 13, 2) := by decide +kernel
theorem dL_search_37 : decode cL_search 37 = .ok (.lconst 0, 1) := by decide +kernel
theorem dL_search_38 : decode cL_search 38 = .ok (.lastore, 1) := by decide +kernel
theorem dL_search_39 : decode cL_search 39 = .ok (.aload 8, 2) := by decide +kernel
theorem dL_search_41 : decode cL_search 41 = .ok (.iload 13, 2) := by decide +kernel
theorem dL_search_43 : decode cL_search 43 = .ok (.lconst 0, 1) := by decide +kernel
theorem dL_search_44 : decode cL_search 44 = .ok (.lastore, 1) := by decide +kernel
theorem dL_search_45 : decode cL_search 45 = .ok (.aload 9, 2) := by decide +kernel
theorem dL_search_47 : decode cL_search 47 = .ok (.iload 13, 2) := by decide +kernel
theorem dL_search_49 : decode cL_search 49 = .ok (.lconst 0, 1) := by decide +kernel
theorem dL_search_50 : decode cL_search 50 = .ok (.lastore, 1) := by decide +kernel
theorem dL_search_51 : decode cL_search 51 = .ok (.iinc 13 1, 3) := by decide +kernel
theorem dL_search_54 : decode cL_search 54 = .ok (.goto (-34), 3) := by decide +kernel
theorem dL_search_57 : decode cL_search 57 = .ok (.aload 10, 2) := by decide +kernel
theorem dL_search_59 : decode cL_search 59 = .ok (.iconst 0, 1) := by decide +kernel
theorem dL_search_60 : decode cL_search 60 = .ok (.lconst 0, 1) := by decide +kernel
theorem dL_search_61 : decode cL_search 61 = .ok (.lastore, 1) := by decide +kernel
theorem dL_search_62 : decode cL_search 62 = .ok (.aload 10, 2) := by decide +kernel
theorem dL_search_64 : decode cL_search 64 = .ok (.iconst 1, 1) := by decide +kernel
theorem dL_search_65 : decode cL_search 65 = .ok (.lconst 0, 1) := by decide +kernel
theorem dL_search_66 : decode cL_search 66 = .ok (.lastore, 1) := by decide +kernel
theorem dL_search_67 : decode cL_search 67 = .ok (.iload 12, 2) := by decide +kernel
theorem dL_search_69 : decode cL_search 69 = .ok (.ldc 54, 2) := by decide +kernel
theorem dL_search_71 : decode cL_search 71 = .ok (.if_icmp .lt 5, 3) := by decide +kernel
theorem dL_search_74 : decode cL_search 74 = .ok (.iconst (-1), 1) := by decide +kernel
theorem dL_search_75 : decode cL_search 75 = .ok (.ireturn, 1) := by decide +kernel
theorem dL_search_76 : decode cL_search 76 = .ok (.aload 10, 2) := by decide +kernel
theorem dL_search_78 : decode cL_search 78 = .ok (.iload_n 0, 1) := by decide +kernel
theorem dL_search_79 : decode cL_search 79 = .ok (.bipush 48, 2) := by decide +kernel
theorem dL_search_81 : decode cL_search 81 = .ok (.idiv, 1) := by decide +kernel
theorem dL_search_82 : decode cL_search 82 = .ok (.lconst 1, 1) := by decide +kernel
theorem dL_search_83 : decode cL_search 83 = .ok (.iload_n 0, 1) := by decide +kernel
theorem dL_search_84 : decode cL_search 84 = .ok (.bipush 48, 2) := by decide +kernel
theorem dL_search_86 : decode cL_search 86 = .ok (.irem, 1) := by decide +kernel
theorem dL_search_87 : decode cL_search 87 = .ok (.lshl, 1) := by decide +kernel
theorem dL_search_88 : decode cL_search 88 = .ok (.lastore, 1) := by decide +kernel
theorem dL_search_89 : decode cL_search 89 = .ok (.iload 12, 2) := by decide +kernel
theorem dL_search_91 : decode cL_search 91 = .ok (.sipush 16384, 3) := by decide +kernel
theorem dL_search_94 : decode cL_search 94 = .ok (.if_icmp .lt 5, 3) := by decide +kernel
theorem dL_search_97 : decode cL_search 97 = .ok (.iconst 0, 1) := by decide +kernel
theorem dL_search_98 : decode cL_search 98 = .ok (.ireturn, 1) := by decide +kernel
theorem dL_search_99 : decode cL_search 99 = .ok (.iload 12, 2) := by decide +kernel
theorem dL_search_101 : decode cL_search 101 = .ok (.aload 8, 2) := by decide +kernel
theorem dL_search_103 : decode cL_search 103 = .ok (.aload 9, 2) := by decide +kernel
theorem dL_search_105 : decode cL_search 105 = .ok (.invokestatic 66, 3) := by decide +kernel
theorem dL_search_108 : decode cL_search 108 = .ok (.iconst (-1), 1) := by decide +kernel
theorem dL_search_109 : decode cL_search 109 = .ok (.istore 13, 2) := by decide +kernel
theorem dL_search_111 : decode cL_search 111 = .ok (.iconst 1, 1) := by decide +kernel
theorem dL_search_112 : decode cL_search 112 = .ok (.istore 14, 2) := by decide +kernel
theorem dL_search_114 : decode cL_search 114 = .ok (.iconst 1, 1) := by decide +kernel
theorem dL_search_115 : decode cL_search 115 = .ok (.istore 15, 2) := by decide +kernel
theorem dL_search_117 : decode cL_search 117 = .ok (.iload 14, 2) := by decide +kernel
theorem dL_search_119 : decode cL_search 119 = .ok (.ifCond .eq 177, 3) := by decide +kernel
theorem dL_search_122 : decode cL_search 122 = .ok (.iconst 0, 1) := by decide +kernel
theorem dL_search_123 : decode cL_search 123 = .ok (.istore 14, 2) := by decide +kernel
theorem dL_search_125 : decode cL_search 125 = .ok (.iconst 0, 1) := by decide +kernel
theorem dL_search_126 : decode cL_search 126 = .ok (.istore 16, 2) := by decide +kernel
theorem dL_search_128 : decode cL_search 128 = .ok (.iload 16, 2) := by decide +kernel
theorem dL_search_130 : decode cL_search 130 = .ok (.bipush 64, 2) := by decide +kernel
theorem dL_search_132 : decode cL_search 132 = .ok (.if_icmp .ge 119, 3) := by decide +kernel
theorem dL_search_135 : decode cL_search 135 = .ok (.aload 6, 2) := by decide +kernel
theorem dL_search_137 : decode cL_search 137 = .ok (.iload 16, 2) := by decide +kernel
theorem dL_search_139 : decode cL_search 139 = .ok (.aload 8, 2) := by decide +kernel
theorem dL_search_141 : decode cL_search 141 = .ok (.iload 16, 2) := by decide +kernel
theorem dL_search_143 : decode cL_search 143 = .ok (.laload, 1) := by decide +kernel
theorem dL_search_144 : decode cL_search 144 = .ok (.aload 4, 2) := by decide +kernel
theorem dL_search_146 : decode cL_search 146 = .ok (.iload 16, 2) := by decide +kernel
theorem dL_search_148 : decode cL_search 148 = .ok (.laload, 1) := by decide +kernel
theorem dL_search_149 : decode cL_search 149 = .ok (.ldc2_w 43, 3) := by decide +kernel
theorem dL_search_152 : decode cL_search 152 = .ok (.lxor, 1) := by decide +kernel
theorem dL_search_153 : decode cL_search 153 = .ok (.land, 1) := by decide +kernel
theorem dL_search_154 : decode cL_search 154 = .ok (.lastore, 1) := by decide +kernel
theorem dL_search_155 : decode cL_search 155 = .ok (.aload 7, 2) := by decide +kernel
theorem dL_search_157 : decode cL_search 157 = .ok (.iload 16, 2) := by decide +kernel
theorem dL_search_159 : decode cL_search 159 = .ok (.aload 9, 2) := by decide +kernel
theorem dL_search_161 : decode cL_search 161 = .ok (.iload 16, 2) := by decide +kernel
theorem dL_search_163 : decode cL_search 163 = .ok (.laload, 1) := by decide +kernel
theorem dL_search_164 : decode cL_search 164 = .ok (.aload 5, 2) := by decide +kernel
theorem dL_search_166 : decode cL_search 166 = .ok (.iload 16, 2) := by decide +kernel
theorem dL_search_168 : decode cL_search 168 = .ok (.laload, 1) := by decide +kernel
theorem dL_search_169 : decode cL_search 169 = .ok (.ldc2_w 43, 3) := by decide +kernel
theorem dL_search_172 : decode cL_search 172 = .ok (.lxor, 1) := by decide +kernel
theorem dL_search_173 : decode cL_search 173 = .ok (.land, 1) := by decide +kernel
theorem dL_search_174 : decode cL_search 174 = .ok (.lastore, 1) := by decide +kernel
theorem dL_search_175 : decode cL_search 175 = .ok (.aload 4, 2) := by decide +kernel
theorem dL_search_177 : decode cL_search 177 = .ok (.iload 16, 2) := by decide +kernel
theorem dL_search_179 : decode cL_search 179 = .ok (.dup2, 1) := by decide +kernel
theorem dL_search_180 : decode cL_search 180 = .ok (.laload, 1) := by decide +kernel
theorem dL_search_181 : decode cL_search 181 = .ok (.aload 8, 2) := by decide +kernel
theorem dL_search_183 : decode cL_search 183 = .ok (.iload 16, 2) := by decide +kernel
theorem dL_search_185 : decode cL_search 185 = .ok (.laload, 1) := by decide +kernel
theorem dL_search_186 : decode cL_search 186 = .ok (.lor, 1) := by decide +kernel
theorem dL_search_187 : decode cL_search 187 = .ok (.lastore, 1) := by decide +kernel
theorem dL_search_188 : decode cL_search 188 = .ok (.aload 5, 2) := by decide +kernel
theorem dL_search_190 : decode cL_search 190 = .ok (.iload 16, 2) := by decide +kernel
theorem dL_search_192 : decode cL_search 192 = .ok (.dup2, 1) := by decide +kernel
theorem dL_search_193 : decode cL_search 193 = .ok (.laload, 1) := by decide +kernel
theorem dL_search_194 : decode cL_search 194 = .ok (.aload 9, 2) := by decide +kernel
theorem dL_search_196 : decode cL_search 196 = .ok (.iload 16, 2) := by decide +kernel
theorem dL_search_198 : decode cL_search 198 = .ok (.laload, 1) := by decide +kernel
theorem dL_search_199 : decode cL_search 199 = .ok (.lor, 1) := by decide +kernel
theorem dL_search_200 : decode cL_search 200 = .ok (.lastore, 1) := by decide +kernel
theorem dL_search_201 : decode cL_search 201 = .ok (.aload 8, 2) := by decide +kernel
theorem dL_search_203 : decode cL_search 203 = .ok (.iload 16, 2) := by decide +kernel
theorem dL_search_205 : decode cL_search 205 = .ok (.lconst 0, 1) := by decide +kernel
theorem dL_search_206 : decode cL_search 206 = .ok (.lastore, 1) := by decide +kernel
theorem dL_search_207 : decode cL_search 207 = .ok (.aload 9, 2) := by decide +kernel
theorem dL_search_209 : decode cL_search 209 = .ok (.iload 16, 2) := by decide +kernel
theorem dL_search_211 : decode cL_search 211 = .ok (.lconst 0, 1) := by decide +kernel
theorem dL_search_212 : decode cL_search 212 = .ok (.lastore, 1) := by decide +kernel
theorem dL_search_213 : decode cL_search 213 = .ok (.iload 14, 2) := by decide +kernel
theorem dL_search_215 : decode cL_search 215 = .ok (.ifCond .ne 23, 3) := by decide +kernel
theorem dL_search_218 : decode cL_search 218 = .ok (.aload 6, 2) := by decide +kernel
theorem dL_search_220 : decode cL_search 220 = .ok (.iload 16, 2) := by decide +kernel
theorem dL_search_222 : decode cL_search 222 = .ok (.laload, 1) := by decide +kernel
theorem dL_search_223 : decode cL_search 223 = .ok (.lconst 0, 1) := by decide +kernel
theorem dL_search_224 : decode cL_search 224 = .ok (.lcmp, 1) := by decide +kernel
theorem dL_search_225 : decode cL_search 225 = .ok (.ifCond .ne 13, 3) := by decide +kernel
theorem dL_search_228 : decode cL_search 228 = .ok (.aload 7, 2) := by decide +kernel
theorem dL_search_230 : decode cL_search 230 = .ok (.iload 16, 2) := by decide +kernel
theorem dL_search_232 : decode cL_search 232 = .ok (.laload, 1) := by decide +kernel
theorem dL_search_233 : decode cL_search 233 = .ok (.lconst 0, 1) := by decide +kernel
theorem dL_search_234 : decode cL_search 234 = .ok (.lcmp, 1) := by decide +kernel
theorem dL_search_235 : decode cL_search 235 = .ok (.ifCond .eq 7, 3) := by decide +kernel
theorem dL_search_238 : decode cL_search 238 = .ok (.iconst 1, 1) := by decide +kernel
theorem dL_search_239 : decode cL_search 239 = .ok (.goto 4, 3) := by decide +kernel
theorem dL_search_242 : decode cL_search 242 = .ok (.iconst 0, 1) := by decide +kernel
theorem dL_search_243 : decode cL_search 243 = .ok (.istore 14, 2) := by decide +kernel
theorem dL_search_245 : decode cL_search 245 = .ok (.iinc 16 1, 3) := by decide +kernel
theorem dL_search_248 : decode cL_search 248 = .ok (.goto (-120), 3) := by decide +kernel
theorem dL_search_251 : decode cL_search 251 = .ok (.iload 11, 2) := by decide +kernel
theorem dL_search_253 : decode cL_search 253 = .ok (.iload_n 1, 1) := by decide +kernel
theorem dL_search_254 : decode cL_search 254 = .ok (.aload_n 2, 1) := by decide +kernel
theorem dL_search_255 : decode cL_search 255 = .ok (.aload_n 3, 1) := by decide +kernel
theorem dL_search_256 : decode cL_search 256 = .ok (.aload 6, 2) := by decide +kernel
theorem dL_search_258 : decode cL_search 258 = .ok (.aload 7, 2) := by decide +kernel
theorem dL_search_260 : decode cL_search 260 = .ok (.aload 8, 2) := by decide +kernel
theorem dL_search_262 : decode cL_search 262 = .ok (.aload 9, 2) := by decide +kernel
theorem dL_search_264 : decode cL_search 264 = .ok (.aload 10, 2) := by decide +kernel
theorem dL_search_266 : decode cL_search 266 = .ok (.invokestatic 74, 3) := by decide +kernel
theorem dL_search_269 : decode cL_search 269 = .ok (.istore 16, 2) := by decide +kernel
theorem dL_search_271 : decode cL_search 271 = .ok (.iload 16, 2) := by decide +kernel
theorem dL_search_273 : decode cL_search 273 = .ok (.ifCond .eq 13, 3) := by decide +kernel
theorem dL_search_276 : decode cL_search 276 = .ok (.iload 13, 2) := by decide +kernel
theorem dL_search_278 : decode cL_search 278 = .ok (.ifCond .ge 8, 3) := by decide +kernel
theorem dL_search_281 : decode cL_search 281 = .ok (.iload 15, 2) := by decide +kernel
theorem dL_search_283 : decode cL_search 283 = .ok (.goto 5, 3) := by decide +kernel
theorem dL_search_286 : decode cL_search 286 = .ok (.iload 13, 2) := by decide +kernel
theorem dL_search_288 : decode cL_search 288 = .ok (.istore 13, 2) := by decide +kernel
theorem dL_search_290 : decode cL_search 290 = .ok (.iinc 15 1, 3) := by decide +kernel
theorem dL_search_293 : decode cL_search 293 = .ok (.goto (-176), 3) := by decide +kernel
theorem dL_search_296 : decode cL_search 296 = .ok (.iload 13, 2) := by decide +kernel
theorem dL_search_298 : decode cL_search 298 = .ok (.ireturn, 1) := by decide +kernel
set_option maxRecDepth 20000 in
theorem ggL_has_L_get : GoodIn wsL_has wsL_get := goodIn_r _ [4, 5] (by decide +kernel) (by decide +kernel)
set_option maxRecDepth 20000 in
theorem gL_has_L_get : GoodIn wsL_has (va_wsS RL 45 yL_get wsL_get) := goodIn_app (goodIn_of _ (by decide +kernel)) ggL_has_L_get
theorem dL_has_0 : decode cL_has 0 = .ok (.iconst 0, 1) := by decide +kernel
theorem dL_has_1 : decode cL_has 1 = .ok (.istore_n 3, 1) := by decide +kernel
theorem dL_has_2 : decode cL_has 2 = .ok (.iconst 0, 1) := by decide +kernel
theorem dL_has_3 : decode cL_has 3 = .ok (.istore 4, 2) := by decide +kernel
theorem dL_has_5 : decode cL_has 5 = .ok (.iload 4, 2) := by decide +kernel
theorem dL_has_7 : decode cL_has 7 = .ok (.bipush 96, 2) := by decide +kernel
theorem dL_has_9 : decode cL_has 9 = .ok (.if_icmp .ge 30, 3) := by decide +kernel
theorem dL_has_12 : decode cL_has 12 = .ok (.iload_n 3, 1) := by decide +kernel
theorem dL_has_13 : decode cL_has 13 = .ok (.ifCond .ne 14, 3) := by decide +kernel
theorem dL_has_16 : decode cL_has 16 = .ok (.aload_n 2, 1) := by decide +kernel
theorem dL_has_17 : decode cL_has 17 = .ok (.iload_n 1, 1) := by decide +kernel
theorem dL_has_18 : decode cL_has 18 = .ok (.iload 4, 2) := by decide +kernel
theorem dL_has_20 : decode cL_has 20 = .ok (.invokestatic 45, 3) := by decide +kernel
theorem dL_has_23 : decode cL_has 23 = .ok (.iload_n 0, 1) := by decide +kernel
theorem dL_has_24 : decode cL_has 24 = .ok (.if_icmp .ne 7, 3) := by decide +kernel
theorem dL_has_27 : decode cL_has 27 = .ok (.iconst 1, 1) := by decide +kernel
theorem dL_has_28 : decode cL_has 28 = .ok (.goto 4, 3) := by decide +kernel
theorem dL_has_31 : decode cL_has 31 = .ok (.iconst 0, 1) := by decide +kernel
theorem dL_has_32 : decode cL_has 32 = .ok (.istore_n 3, 1) := by decide +kernel
theorem dL_has_33 : decode cL_has 33 = .ok (.iinc 4 1, 3) := by decide +kernel
theorem dL_has_36 : decode cL_has 36 = .ok (.goto (-31), 3) := by decide +kernel
theorem dL_has_39 : decode cL_has 39 = .ok (.iload_n 3, 1) := by decide +kernel
theorem dL_has_40 : decode cL_has 40 = .ok (.ireturn, 1) := by decide +kernel
set_option maxRecDepth 20000 in
theorem ggL_edits_L_low : GoodIn wsL_edits wsL_low := goodIn_r _ [4, 5] (by decide +kernel) (by decide +kernel)
set_option maxRecDepth 20000 in
theorem gL_edits_L_low : GoodIn wsL_edits (va_wsS RL 78 yL_low wsL_low) := goodIn_app (goodIn_of _ (by decide +kernel)) ggL_edits_L_low
set_option maxRecDepth 20000 in
theorem ggL_edits_L_get : GoodIn wsL_edits wsL_get := goodIn_r _ [8, 9] (by decide +kernel) (by decide +kernel)
set_option maxRecDepth 20000 in
theorem gL_edits_L_get : GoodIn wsL_edits (va_wsS RL 45 yL_get wsL_get) := goodIn_app (goodIn_of _ (by decide +kernel)) ggL_edits_L_get
set_option maxRecDepth 20000 in
theorem ggL_edits_L_keys : GoodIn wsL_edits wsL_keys := goodIn_r _ [12, 6, 7, 3, 8, 9] (by decide +kernel) (by decide +kernel)
set_option maxRecDepth 20000 in
theorem gL_edits_L_keys : GoodIn wsL_edits (va_wsS RL 51 yL_keys wsL_keys) := goodIn_app (goodIn_of _ (by decide +kernel)) ggL_edits_L_keys
set_option maxRecDepth 20000 in
theorem ggL_edits_L_put : GoodIn wsL_edits wsL_put := goodIn_r _ [15, 9, 16] (by decide +kernel) (by decide +kernel)
set_option maxRecDepth 20000 in
theorem gL_edits_L_put : GoodIn wsL_edits (va_wsS RL 81 yL_put wsL_put) := goodIn_app (goodIn_of _ (by decide +kernel)) ggL_edits_L_put
set_option maxRecDepth 20000 in
theorem ggL_edits_L_calls : GoodIn wsL_edits wsL_calls := goodIn_ca (goodIn_ca (goodIn_ca (goodIn_r _ [19, 20, 21, 22, 23, 24, 25, 26, 27, 28, 29, 30, 31, 32, 33, 34, 35, 36, 37, 38, 39, 40, 41, 42, 43, 44, 45, 46, 47, 48, 49, 50, 51, 52, 53, 54, 55, 56, 57, 58, 59, 60, 61, 62, 63, 64, 65, 66, 67, 68, 69, 70, 71, 72, 73, 74, 75, 76, 77, 78, 79, 80, 81, 82, 83, 84, 85, 86, 87, 88, 89, 90, 91, 92, 93, 94, 95, 96, 97, 98, 99, 100, 101, 102, 103, 104, 105, 106, 107, 108, 109, 110, 111, 112, 113, 114, 115, 116, 117, 118, 119, 120, 121, 122, 123, 124, 125, 126, 127, 128, 129, 130, 131, 132, 133, 134, 135, 136, 137, 138, 139, 140, 141, 142, 143, 144, 145, 146, 147, 148, 149, 150, 151, 152, 153, 154, 155, 156, 157, 158, 159, 160, 161, 162, 163, 164, 165, 166, 167, 168, 169, 170, 171, 172, 173, 174, 175, 176, 177, 178, 179, 180, 181, 182, 183, 184, 185, 186, 187, 188, 189, 190, 191, 192, 193, 194, 195, 196, 197, 198, 199, 200, 201, 202, 203, 204, 205, 206, 207, 208, 209, 210, 211, 212, 213, 214, 215, 216, 217, 218, 219, 220, 221, 222, 223, 224, 225, 226, 227, 228, 229, 230, 231, 232, 233, 234, 235, 236, 237, 238, 239, 240, 241, 242, 243, 244, 245, 246, 247, 248, 249, 250, 251, 252, 253, 254, 255, 256, 257, 258, 259, 260, 261, 262, 263, 264, 265, 266, 267, 268, 269, 270, 271, 272, 273, 274, 275, 276, 277, 278, 279, 280, 281, 282, 283, 284, 285, 286, 287, 288, 289, 290, 291, 292, 293, 294, 295, 296, 297, 298, 299, 300, 301, 302, 303, 304, 305, 306, 307, 308, 309, 310, 311, 312, 313, 314, 315, 316] (by decide +kernel) (by decide +kernel)) (goodIn_sub (fun _ h => List.mem_cons_of_mem _ (List.mem_append_left _ (List.mem_append_left _ (List.mem_append_right _ h)))) (by decide +kernel))) (goodIn_sub (fun _ h => List.mem_cons_of_mem _ (List.mem_append_left _ (List.mem_append_right _ h))) (by decide +kernel))) (goodIn_sub (fun _ h => List.mem_cons_of_mem _ (List.mem_append_right _ h)) (by decide +kernel))
set_option maxRecDepth 20000 in
theorem gL_edits_L_calls : GoodIn wsL_edits (va_wsS RL 85 yL_calls wsL_calls) := goodIn_app (goodIn_of _ (by decide +kernel)) ggL_edits_L_calls
theorem dL_edits_0 : decode cL_edits 0 = .ok (.iload_n 2, 1) := by decide +kernel
theorem dL_edits_1 : decode cL_edits 1 = .ok (.aload_n 3, 1) := by decide +kernel
theorem dL_edits_2 : decode cL_edits 2 = .ok (.iconst 0, 1) := by decide +kernel
theorem dL_edits_3 : decode cL_edits 3 = .ok (.iaload, 1) := by decide +kernel
theorem dL_edits_4 : decode cL_edits 4 = .ok (.invokestatic 78, 3) := by decide +kernel
theorem dL_edits_7 : decode cL_edits 7 = .ok (.istore 9, 2) := by decide +kernel
theorem dL_edits_9 : decode cL_edits 9 = .ok (.iload_n 1, 1) := by decide +kernel
theorem dL_edits_10 : decode cL_edits 10 = .ok (.ifCond .ne 253, 3) := by decide +kernel
theorem dL_edits_13 : decode cL_edits 13 = .ok (.iload_n 2, 1) := by decide +kernel
theorem dL_edits_14 : decode cL_edits 14 = .ok (.iconst 3, 1) := by decide +kernel
theorem dL_edits_15 : decode cL_edits 15 = .ok (.ishr, 1) := by decide +kernel
theorem dL_edits_16 : decode cL_edits 16 = .ok (.iload_n 2, 1) := by decide +kernel
theorem dL_edits_17 : decode cL_edits 17 = .ok (.bipush 11, 2) := by decide +kernel
theorem dL_edits_19 : decode cL_edits 19 = .ok (.ishr, 1) := by decide +kernel
theorem dL_edits_20 : decode cL_edits 20 = .ok (.iconst 3, 1) := by decide +kernel
theorem dL_edits_21 : decode cL_edits 21 = .ok (.invokestatic 78, 3) := by decide +kernel
theorem dL_edits_24 : decode cL_edits 24 = .ok (.ifCond .ne 8, 3) := by decide +kernel
theorem dL_edits_27 : decode cL_edits 27 = .ok (.bipush 96, 2) := by decide +kernel
theorem dL_edits_29 : decode cL_edits 29 = .ok (.goto 5, 3) := by decide +kernel
theorem dL_edits_32 : decode cL_edits 32 = .ok (.bipush 48, 2) := by decide +kernel
theorem dL_edits_34 : decode cL_edits 34 = .ok (.invokestatic 78, 3) := by decide +kernel
theorem dL_edits_37 : decode cL_edits 37 = .ok (.istore 10, 2) := by decide +kernel
theorem dL_edits_39 : decode cL_edits 39 = .ok (.iload 10, 2) := by decide +kernel
theorem dL_edits_41 : decode cL_edits 41 = .ok (.iload_n 2, 1) := by decide +kernel
theorem dL_edits_42 : decode cL_edits 42 = .ok (.bipush 11, 2) := by decide +kernel
theorem dL_edits_44 : decode cL_edits 44 = .ok (.ishr, 1) := by decide +kernel
theorem dL_edits_45 : decode cL_edits 45 = .ok (.iconst 3, 1) := by decide +kernel
theorem dL_edits_46 : decode cL_edits 46 = .ok (.invokestatic 78, 3) := by decide +kernel
theorem dL_edits_49 : decode cL_edits 49 = .ok (.ifCond .ne 7, 3) := by decide +kernel
theorem dL_edits_52 : decode cL_edits 52 = .ok (.iconst 0, 1) := by decide +kernel
theorem dL_edits_53 : decode cL_edits 53 = .ok (.goto 5, 3) := by decide +kernel
theorem dL_edits_56 : decode cL_edits 56 = .ok (.bipush 48, 2) := by decide +kernel
theorem dL_edits_58 : decode cL_edits 58 = .ok (.iadd, 1) := by decide +kernel
theorem dL_edits_59 : decode cL_edits 59 = .ok (.istore 10, 2) := by decide +kernel
theorem dL_edits_61 : decode cL_edits 61 = .ok (.iload_n 2, 1) := by decide +kernel
theorem dL_edits_62 : decode cL_edits 62 = .ok (.iconst 5, 1) := by decide +kernel
theorem dL_edits_63 : decode cL_edits 63 = .ok (.ishr, 1) := by decide +kernel
theorem dL_edits_64 : decode cL_edits 64 = .ok (.bipush 9, 2) := by decide +kernel
theorem dL_edits_66 : decode cL_edits 66 = .ok (.invokestatic 78, 3) := by decide +kernel
theorem dL_edits_69 : decode cL_edits 69 = .ok (.istore 11, 2) := by decide +kernel
theorem dL_edits_71 : decode cL_edits 71 = .ok (.aload 4, 2) := by decide +kernel
theorem dL_edits_73 : decode cL_edits 73 = .ok (.bipush 6, 2) := by decide +kernel
theorem dL_edits_75 : decode cL_edits 75 = .ok (.iload 9, 2) := by decide +kernel
theorem dL_edits_77 : decode cL_edits 77 = .ok (.imul, 1) := by decide +kernel
theorem dL_edits_78 : decode cL_edits 78 = .ok (.iload 10, 2) := by decide +kernel
theorem dL_edits_80 : decode cL_edits 80 = .ok (.invokestatic 45, 3) := by decide +kernel
theorem dL_edits_83 : decode cL_edits 83 = .ok (.istore 12, 2) := by decide +kernel
theorem dL_edits_85 : decode cL_edits 85 = .ok (.aload 4, 2) := by decide +kernel
theorem dL_edits_87 : decode cL_edits 87 = .ok (.bipush 6, 2) := by decide +kernel
theorem dL_edits_89 : decode cL_edits 89 = .ok (.iload 9, 2) := by decide +kernel
theorem dL_edits_91 : decode cL_edits 91 = .ok (.imul, 1) := by decide +kernel
theorem dL_edits_92 : decode cL_edits 92 = .ok (.bipush 96, 2) := by decide +kernel
theorem dL_edits_94 : decode cL_edits 94 = .ok (.invokestatic 51, 3) := by decide +kernel
theorem dL_edits_97 : decode cL_edits 97 = .ok (.istore 13, 2) := by decide +kernel
theorem dL_edits_99 : decode cL_edits 99 = .ok (.iload 11, 2) := by decide +kernel
theorem dL_edits_101 : decode cL_edits 101 = .ok (.iconst 2, 1) := by decide +kernel
theorem dL_edits_102 : decode cL_edits 102 = .ok (.if_icmp .ne 16, 3) := by decide +kernel
theorem dL_edits_105 : decode cL_edits 105 = .ok (.iload 12, 2) := by decide +kernel
theorem dL_edits_107 : decode cL_edits 107 = .ok (.iconst 2, 1) := by decide +kernel
theorem dL_edits_108 : decode cL_edits 108 = .ok (.if_icmp .eq 10, 3) := by decide +kernel
theorem dL_edits_111 : decode cL_edits 111 = .ok (.iload 13, 2) := by decide +kernel
theorem dL_edits_113 : decode cL_edits 113 = .ok (.bipush 7, 2) := by decide +kernel
theorem dL_edits_115 : decode cL_edits 115 = .ok (.if_icmp .ge 7, 3) := by decide +kernel
theorem dL_edits_118 : decode cL_edits 118 = .ok (.iconst 1, 1) := by decide +kernel
theorem dL_edits_119 : decode cL_edits 119 = .ok (.goto 4, 3) := by decide +kernel
theorem dL_edits_122 : decode cL_edits 122 = .ok (.iconst 0, 1) := by decide +kernel
theorem dL_edits_123 : decode cL_edits 123 = .ok (.istore 14, 2) := by decide +kernel
theorem dL_edits_125 : decode cL_edits 125 = .ok (.aload 8, 2) := by decide +kernel
theorem dL_edits_127 : decode cL_edits 127 = .ok (.iload 9, 2) := by decide +kernel
theorem dL_edits_129 : decode cL_edits 129 = .ok (.iaload, 1) := by decide +kernel
theorem dL_edits_130 : decode cL_edits 130 = .ok (.bipush 12, 2) := by decide +kernel
theorem dL_edits_132 : decode cL_edits 132 = .ok (.if_icmp .eq 22, 3) := by decide +kernel
theorem dL_edits_135 : decode cL_edits 135 = .ok (.iload 10, 2) := by decide +kernel
theorem dL_edits_137 : decode cL_edits 137 = .ok (.aload 5, 2) := by decide +kernel
theorem dL_edits_139 : decode cL_edits 139 = .ok (.iconst 4, 1) := by decide +kernel
theorem dL_edits_140 : decode cL_edits 140 = .ok (.iload 9, 2) := by decide +kernel
theorem dL_edits_142 : decode cL_edits 142 = .ok (.imul, 1) := by decide +kernel
theorem dL_edits_143 : decode cL_edits 143 = .ok (.iconst 1, 1) := by decide +kernel
theorem dL_edits_144 : decode cL_edits 144 = .ok (.iadd, 1) := by decide +kernel
theorem dL_edits_145 : decode cL_edits 145 = .ok (.iaload, 1) := by decide +kernel
theorem dL_edits_146 : decode cL_edits 146 = .ok (.if_icmp .ne 10, 3) := by decide +kernel
theorem dL_edits_149 : decode cL_edits 149 = .ok (.iload 11, 2) := by decide +kernel
theorem dL_edits_151 : decode cL_edits 151 = .ok (.ifCond .eq 5, 3) := by decide +kernel
theorem dL_edits_154 : decode cL_edits 154 = .ok (.iconst 1, 1) := by decide +kernel
theorem dL_edits_155 : decode cL_edits 155 = .ok (.ireturn, 1) := by decide +kernel
theorem dL_edits_156 : decode cL_edits 156 = .ok (.iload 14, 2) := by decide +kernel
theorem dL_edits_158 : decode cL_edits 158 = .ok (.ifCond .eq 73, 3) := by decide +kernel
theorem dL_edits_161 : decode cL_edits 161 = .ok (.aload 4, 2) := by decide +kernel
theorem dL_edits_163 : decode cL_edits 163 = .ok (.bipush 6, 2) := by decide +kernel
theorem dL_edits_165 : decode cL_edits 165 = .ok (.iload 9, 2) := by decide +kernel
theorem dL_edits_167 : decode cL_edits 167 = .ok (.imul, 1) := by decide +kernel
theorem dL_edits_168 : decode cL_edits 168 = .ok (.iload 10, 2) := by decide +kernel
theorem dL_edits_170 : decode cL_edits 170 = .ok (.iload 11, 2) := by decide +kernel
theorem dL_edits_172 : decode cL_edits 172 = .ok (.invokestatic 81, 3) := by decide +kernel
theorem dL_edits_175 : decode cL_edits 175 = .ok (.aload 6, 2) := by decide +kernel
theorem dL_edits_177 : decode cL_edits 177 = .ok (.bipush 12, 2) := by decide +kernel
theorem dL_edits_179 : decode cL_edits 179 = .ok (.iload 9, 2) := by decide +kernel
theorem dL_edits_181 : decode cL_edits 181 = .ok (.imul, 1) := by decide +kernel
theorem dL_edits_182 : decode cL_edits 182 = .ok (.aload 8, 2) := by decide +kernel
theorem dL_edits_184 : decode cL_edits 184 = .ok (.iload 9, 2) := by decide +kernel
theorem dL_edits_186 : decode cL_edits 186 = .ok (.iaload, 1) := by decide +kernel
theorem dL_edits_187 : decode cL_edits 187 = .ok (.iadd, 1) := by decide +kernel
theorem dL_edits_188 : decode cL_edits 188 = .ok (.bipush 100, 2) := by decide +kernel
theorem dL_edits_190 : decode cL_edits 190 = .ok (.iload 10, 2) := by decide +kernel
theorem dL_edits_192 : decode cL_edits 192 = .ok (.imul, 1) := by decide +kernel
theorem dL_edits_193 : decode cL_edits 193 = .ok (.bipush 10, 2) := by decide +kernel
theorem dL_edits_195 : decode cL_edits 195 = .ok (.iload 12, 2) := by decide +kernel
theorem dL_edits_197 : decode cL_edits 197 = .ok (.imul, 1) := by decide +kernel
theorem dL_edits_198 : decode cL_edits 198 = .ok (.iadd, 1) := by decide +kernel
theorem dL_edits_199 : decode cL_edits 199 = .ok (.iload 11, 2) := by decide +kernel
theorem dL_edits_201 : decode cL_edits 201 = .ok (.iadd, 1) := by decide +kernel
theorem dL_edits_202 : decode cL_edits 202 = .ok (.iastore, 1) := by decide +kernel
theorem dL_edits_203 : decode cL_edits 203 = .ok (.aload 8, 2) := by decide +kernel
theorem dL_edits_205 : decode cL_edits 205 = .ok (.iload 9, 2) := by decide +kernel
theorem dL_edits_207 : decode cL_edits 207 = .ok (.dup2, 1) := by decide +kernel
theorem dL_edits_208 : decode cL_edits 208 = .ok (.iaload, 1) := by decide +kernel
theorem dL_edits_209 : decode cL_edits 209 = .ok (.iconst 1, 1) := by decide +kernel
theorem dL_edits_210 : decode cL_edits 210 = .ok (.iadd, 1) := by decide +kernel
theorem dL_edits_211 : decode cL_edits 211 = .ok (.iastore, 1) := by decide +kernel
theorem dL_edits_212 : decode cL_edits 212 = .ok (.aload 8, 2) := by decide +kernel
theorem dL_edits_214 : decode cL_edits 214 = .ok (.iconst 5, 1) := by decide +kernel
theorem dL_edits_215 : decode cL_edits 215 = .ok (.iload 9, 2) := by decide +kernel
theorem dL_edits_217 : decode cL_edits 217 = .ok (.iadd, 1) := by decide +kernel
theorem dL_edits_218 : decode cL_edits 218 = .ok (.iconst 0, 1) := by decide +kernel
theorem dL_edits_219 : decode cL_edits 219 = .ok (.iastore, 1) := by decide +kernel
theorem dL_edits_220 : decode cL_edits 220 = .ok (.aload 5, 2) := by decide +kernel
theorem dL_edits_222 : decode cL_edits 222 = .ok (.iconst 4, 1) := by decide +kernel
theorem dL_edits_223 : decode cL_edits 223 = .ok (.iload 9, 2) := by decide +kernel
theorem dL_edits_225 : decode cL_edits 225 = .ok (.imul, 1) := by decide +kernel
theorem dL_edits_226 : decode cL_edits 226 = .ok (.iconst 2, 1) := by decide +kernel
theorem dL_edits_227 : decode cL_edits 227 = .ok (.iadd, 1) := by decide +kernel
theorem dL_edits_228 : decode cL_edits 228 = .ok (.bipush (-2), 2) := by decide +kernel
theorem dL_edits_230 : decode cL_edits 230 = .ok (.iastore, 1) := by decide +kernel
theorem dL_edits_231 : decode cL_edits 231 = .ok (.aload_n 0, 1) := by decide +kernel
theorem dL_edits_232 : decode cL_edits 232 = .ok (.iconst 0, 1) := by decide +kernel
theorem dL_edits_233 : decode cL_edits 233 = .ok (.iload 9, 2) := by decide +kernel
theorem dL_edits_235 : decode cL_edits 235 = .ok (.iload 10, 2) := by decide +kernel
theorem dL_edits_237 : decode cL_edits 237 = .ok (.iload 11, 2) := by decide +kernel
theorem dL_edits_239 : decode cL_edits 239 = .ok (.invokestatic 85, 3) := by decide +kernel
theorem dL_edits_242 : decode cL_edits 242 = .ok (.iload 14, 2) := by decide +kernel
theorem dL_edits_244 : decode cL_edits 244 = .ok (.ifCond .eq 8, 3) := by decide +kernel
theorem dL_edits_247 : decode cL_edits 247 = .ok (.iload 12, 2) := by decide +kernel
theorem dL_edits_249 : decode cL_edits 249 = .ok (.goto 5, 3) := by decide +kernel
theorem dL_edits_252 : decode cL_edits 252 = .ok (.bipush (-5), 2) := by decide +kernel
theorem dL_edits_254 : decode cL_edits 254 = .ok (.if_icmp .ne 7, 3) := by decide +kernel
theorem dL_edits_257 : decode cL_edits 257 = .ok (.iconst 1, 1) := by decide +kernel
theorem dL_edits_258 : decode cL_edits 258 = .ok (.goto 4, 3) := by decide +kernel
theorem dL_edits_261 : decode cL_edits 261 = .ok (.iconst 0, 1) := by decide +kernel
theorem dL_edits_262 : decode cL_edits 262 = .ok (.ireturn, 1) := by decide +kernel
theorem dL_edits_263 : decode cL_edits 263 = .ok (.iload_n 1, 1) := by decide +kernel
theorem dL_edits_264 : decode cL_edits 264 = .ok (.iconst 1, 1) := by decide +kernel
theorem dL_edits_265 : decode cL_edits 265 = .ok (.if_icmp .ne 8, 3) := by decide +kernel
theorem dL_edits_268 : decode cL_edits 268 = .ok (.iload 9, 2) := by decide +kernel
theorem dL_edits_270 : decode cL_edits 270 = .ok (.goto 7, 3) := by decide +kernel
theorem dL_edits_273 : decode cL_edits 273 = .ok (.iconst 5, 1) := by decide +kernel
theorem dL_edits_274 : decode cL_edits 274 = .ok (.iload 9, 2) := by decide +kernel
theorem dL_edits_276 : decode cL_edits 276 = .ok (.iadd, 1) := by decide +kernel
theorem dL_edits_277 : decode cL_edits 277 = .ok (.istore 10, 2) := by decide +kernel
theorem dL_edits_279 : decode cL_edits 279 = .ok (.aload 8, 2) := by decide +kernel
theorem dL_edits_281 : decode cL_edits 281 = .ok (.iload 10, 2) := by decide +kernel
theorem dL_edits_283 : decode cL_edits 283 = .ok (.iaload, 1) := by decide +kernel
theorem dL_edits_284 : decode cL_edits 284 = .ok (.ifCond .ne 23, 3) := by decide +kernel
theorem dL_edits_287 : decode cL_edits 287 = .ok (.aload_n 0, 1) := by decide +kernel
theorem dL_edits_288 : decode cL_edits 288 = .ok (.iload_n 1, 1) := by decide +kernel
theorem dL_edits_289 : decode cL_edits 289 = .ok (.iload 9, 2) := by decide +kernel
theorem dL_edits_291 : decode cL_edits 291 = .ok (.iconst 0, 1) := by decide +kernel
theorem dL_edits_292 : decode cL_edits 292 = .ok (.iconst 0, 1) := by decide +kernel
theorem dL_edits_293 : decode cL_edits 293 = .ok (.invokestatic 85, 3) := by decide +kernel
theorem dL_edits_296 : decode cL_edits 296 = .ok (.bipush (-5), 2) := by decide +kernel
theorem dL_edits_298 : decode cL_edits 298 = .ok (.if_icmp .ne 7, 3) := by decide +kernel
theorem dL_edits_301 : decode cL_edits 301 = .ok (.iconst 1, 1) := by decide +kernel
theorem dL_edits_302 : decode cL_edits 302 = .ok (.goto 4, 3) := by decide +kernel
theorem dL_edits_305 : decode cL_edits 305 = .ok (.iconst 0, 1) := by decide +kernel
theorem dL_edits_306 : decode cL_edits 306 = .ok (.ireturn, 1) := by decide +kernel
theorem dL_edits_307 : decode cL_edits 307 = .ok (.aload 8, 2) := by decide +kernel
theorem dL_edits_309 : decode cL_edits 309 = .ok (.iload 10, 2) := by decide +kernel
theorem dL_edits_311 : decode cL_edits 311 = .ok (.dup2, 1) := by decide +kernel
theorem dL_edits_312 : decode cL_edits 312 = .ok (.iaload, 1) := by decide +kernel
theorem dL_edits_313 : decode cL_edits 313 = .ok (.iconst 1, 1) := by decide +kernel
theorem dL_edits_314 : decode cL_edits 314 = .ok (.isub, 1) := by decide +kernel
theorem dL_edits_315 : decode cL_edits 315 = .ok (.iastore, 1) := by decide +kernel
theorem dL_edits_316 : decode cL_edits 316 = .ok (.iload_n 1, 1) := by decide +kernel
theorem dL_edits_317 : decode cL_edits 317 = .ok (.iconst 1, 1) := by decide +kernel
theorem dL_edits_318 : decode cL_edits 318 = .ok (.if_icmp .ne 20, 3) := by decide +kernel
theorem dL_edits_321 : decode cL_edits 321 = .ok (.aload 6, 2) := by decide +kernel
theorem dL_edits_323 : decode cL_edits 323 = .ok (.bipush 12, 2) := by decide +kernel
theorem dL_edits_325 : decode cL_edits 325 = .ok (.iload 9, 2) := by decide +kernel
theorem dL_edits_327 : decode cL_edits 327 = .ok (.imul, 1) := by decide +kernel
theorem dL_edits_328 : decode cL_edits 328 = .ok (.aload 8, 2) := by decide +kernel
theorem dL_edits_330 : decode cL_edits 330 = .ok (.iload 10, 2) := by decide +kernel
theorem dL_edits_332 : decode cL_edits 332 = .ok (.iaload, 1) := by decide +kernel
theorem dL_edits_333 : decode cL_edits 333 = .ok (.iadd, 1) := by decide +kernel
theorem dL_edits_334 : decode cL_edits 334 = .ok (.iaload, 1) := by decide +kernel
theorem dL_edits_335 : decode cL_edits 335 = .ok (.goto 17, 3) := by decide +kernel
theorem dL_edits_338 : decode cL_edits 338 = .ok (.aload 7, 2) := by decide +kernel
theorem dL_edits_340 : decode cL_edits 340 = .ok (.bipush 12, 2) := by decide +kernel
theorem dL_edits_342 : decode cL_edits 342 = .ok (.iload 9, 2) := by decide +kernel
theorem dL_edits_344 : decode cL_edits 344 = .ok (.imul, 1) := by decide +kernel
theorem dL_edits_345 : decode cL_edits 345 = .ok (.aload 8, 2) := by decide +kernel
theorem dL_edits_347 : decode cL_edits 347 = .ok (.iload 10, 2) := by decide +kernel
theorem dL_edits_349 : decode cL_edits 349 = .ok (.iaload, 1) := by decide +kernel
theorem dL_edits_350 : decode cL_edits 350 = .ok (.iadd, 1) := by decide +kernel
theorem dL_edits_351 : decode cL_edits 351 = .ok (.iaload, 1) := by decide +kernel
theorem dL_edits_352 : decode cL_edits 352 = .ok (.istore 11, 2) := by decide +kernel
theorem dL_edits_354 : decode cL_edits 354 = .ok (.bipush 12, 2) := by decide +kernel
theorem dL_edits_356 : decode cL_edits 356 = .ok (.iload 9, 2) := by decide +kernel
theorem dL_edits_358 : decode cL_edits 358 = .ok (.imul, 1) := by decide +kernel
theorem dL_edits_359 : decode cL_edits 359 = .ok (.aload 8, 2) := by decide +kernel
theorem dL_edits_361 : decode cL_edits 361 = .ok (.iconst 5, 1) := by decide +kernel
theorem dL_edits_362 : decode cL_edits 362 = .ok (.iconst 2, 1) := by decide +kernel
theorem dL_edits_363 : decode cL_edits 363 = .ok (.iload 9, 2) := by decide +kernel
theorem dL_edits_365 : decode cL_edits 365 = .ok (.imul, 1) := by decide +kernel
theorem dL_edits_366 : decode cL_edits 366 = .ok (.iadd, 1) := by decide +kernel
theorem dL_edits_367 : decode cL_edits 367 = .ok (.iload 10, 2) := by decide +kernel
theorem dL_edits_369 : decode cL_edits 369 = .ok (.isub, 1) := by decide +kernel
theorem dL_edits_370 : decode cL_edits 370 = .ok (.iaload, 1) := by decide +kernel
theorem dL_edits_371 : decode cL_edits 371 = .ok (.iadd, 1) := by decide +kernel
theorem dL_edits_372 : decode cL_edits 372 = .ok (.istore 12, 2) := by decide +kernel
theorem dL_edits_374 : decode cL_edits 374 = .ok (.aload 6, 2) := by decide +kernel
theorem dL_edits_376 : decode cL_edits 376 = .ok (.iload_n 1, 1) := by decide +kernel
theorem dL_edits_377 : decode cL_edits 377 = .ok (.iconst 1, 1) := by decide +kernel
theorem dL_edits_378 : decode cL_edits 378 = .ok (.if_icmp .ne 11, 3) := by decide +kernel
theorem dL_edits_381 : decode cL_edits 381 = .ok (.bipush 12, 2) := by decide +kernel
theorem dL_edits_383 : decode cL_edits 383 = .ok (.iload 9, 2) := by decide +kernel
theorem dL_edits_385 : decode cL_edits 385 = .ok (.imul, 1) := by decide +kernel
theorem dL_edits_386 : decode cL_edits 386 = .ok (.goto 5, 3) := by decide +kernel
theorem dL_edits_389 : decode cL_edits 389 = .ok (.iload 12, 2) := by decide +kernel
theorem dL_edits_391 : decode cL_edits 391 = .ok (.iload_n 1, 1) := by decide +kernel
theorem dL_edits_392 : decode cL_edits 392 = .ok (.iconst 1, 1) := by decide +kernel
theorem dL_edits_393 : decode cL_edits 393 = .ok (.if_icmp .ne 14, 3) := by decide +kernel
theorem dL_edits_396 : decode cL_edits 396 = .ok (.aload 6, 2) := by decide +kernel
theorem dL_edits_398 : decode cL_edits 398 = .ok (.bipush 12, 2) := by decide +kernel
theorem dL_edits_400 : decode cL_edits 400 = .ok (.iload 9, 2) := by decide +kernel
theorem dL_edits_402 : decode cL_edits 402 = .ok (.imul, 1) := by decide +kernel
theorem dL_edits_403 : decode cL_edits 403 = .ok (.iaload, 1) := by decide +kernel
theorem dL_edits_404 : decode cL_edits 404 = .ok (.goto 5, 3) := by decide +kernel
theorem dL_edits_407 : decode cL_edits 407 = .ok (.iload 11, 2) := by decide +kernel
theorem dL_edits_409 : decode cL_edits 409 = .ok (.iastore, 1) := by decide +kernel
theorem dL_edits_410 : decode cL_edits 410 = .ok (.aload 7, 2) := by decide +kernel
theorem dL_edits_412 : decode cL_edits 412 = .ok (.iload_n 1, 1) := by decide +kernel
theorem dL_edits_413 : decode cL_edits 413 = .ok (.iconst 1, 1) := by decide +kernel
theorem dL_edits_414 : decode cL_edits 414 = .ok (.if_icmp .ne 8, 3) := by decide +kernel
theorem dL_edits_417 : decode cL_edits 417 = .ok (.iload 12, 2) := by decide +kernel
theorem dL_edits_419 : decode cL_edits 419 = .ok (.goto 8, 3) := by decide +kernel
theorem dL_edits_422 : decode cL_edits 422 = .ok (.bipush 12, 2) := by decide +kernel
theorem dL_edits_424 : decode cL_edits 424 = .ok (.iload 9, 2) := by decide +kernel
theorem dL_edits_426 : decode cL_edits 426 = .ok (.imul, 1) := by decide +kernel
theorem dL_edits_427 : decode cL_edits 427 = .ok (.iload_n 1, 1) := by decide +kernel
theorem dL_edits_428 : decode cL_edits 428 = .ok (.iconst 1, 1) := by decide +kernel
theorem dL_edits_429 : decode cL_edits 429 = .ok (.if_icmp .ne 8, 3) := by decide +kernel
theorem dL_edits_432 : decode cL_edits 432 = .ok (.iload 11, 2) := by decide +kernel
theorem dL_edits_434 : decode cL_edits 434 = .ok (.goto 11, 3) := by decide +kernel
theorem dL_edits_437 : decode cL_edits 437 = .ok (.aload 7, 2) := by decide +kernel
theorem dL_edits_439 : decode cL_edits 439 = .ok (.bipush 12, 2) := by decide +kernel
theorem dL_edits_441 : decode cL_edits 441 = .ok (.iload 9, 2) := by decide +kernel
theorem dL_edits_443 : decode cL_edits 443 = .ok (.imul, 1) := by decide +kernel
theorem dL_edits_444 : decode cL_edits 444 = .ok (.iaload, 1) := by decide +kernel
theorem dL_edits_445 : decode cL_edits 445 = .ok (.iastore, 1) := by decide +kernel
theorem dL_edits_446 : decode cL_edits 446 = .ok (.aload 8, 2) := by decide +kernel
theorem dL_edits_448 : decode cL_edits 448 = .ok (.iconst 5, 1) := by decide +kernel
theorem dL_edits_449 : decode cL_edits 449 = .ok (.iconst 2, 1) := by decide +kernel
theorem dL_edits_450 : decode cL_edits 450 = .ok (.iload 9, 2) := by decide +kernel
theorem dL_edits_452 : decode cL_edits 452 = .ok (.imul, 1) := by decide +kernel
theorem dL_edits_453 : decode cL_edits 453 = .ok (.iadd, 1) := by decide +kernel
theorem dL_edits_454 : decode cL_edits 454 = .ok (.iload 10, 2) := by decide +kernel
theorem dL_edits_456 : decode cL_edits 456 = .ok (.isub, 1) := by decide +kernel
theorem dL_edits_457 : decode cL_edits 457 = .ok (.dup2, 1) := by decide +kernel
theorem dL_edits_458 : decode cL_edits 458 = .ok (.iaload, 1) := by decide +kernel
theorem dL_edits_459 : decode cL_edits 459 = .ok (.iconst 1, 1) := by decide +kernel
theorem dL_edits_460 : decode cL_edits 460 = .ok (.iadd, 1) := by decide +kernel
theorem dL_edits_461 : decode cL_edits 461 = .ok (.iastore, 1) := by decide +kernel
theorem dL_edits_462 : decode cL_edits 462 = .ok (.aload 4, 2) := by decide +kernel
theorem dL_edits_464 : decode cL_edits 464 = .ok (.bipush 6, 2) := by decide +kernel
theorem dL_edits_466 : decode cL_edits 466 = .ok (.iload 9, 2) := by decide +kernel
theorem dL_edits_468 : decode cL_edits 468 = .ok (.imul, 1) := by decide +kernel
theorem dL_edits_469 : decode cL_edits 469 = .ok (.iload 11, 2) := by decide +kernel
theorem dL_edits_471 : decode cL_edits 471 = .ok (.bipush 100, 2) := by decide +kernel
theorem dL_edits_473 : decode cL_edits 473 = .ok (.idiv, 1) := by decide +kernel
theorem dL_edits_474 : decode cL_edits 474 = .ok (.iload_n 1, 1) := by decide +kernel
theorem dL_edits_475 : decode cL_edits 475 = .ok (.iconst 1, 1) := by decide +kernel
theorem dL_edits_476 : decode cL_edits 476 = .ok (.if_icmp .ne 14, 3) := by decide +kernel
theorem dL_edits_479 : decode cL_edits 479 = .ok (.iload 11, 2) := by decide +kernel
theorem dL_edits_481 : decode cL_edits 481 = .ok (.bipush 10, 2) := by decide +kernel
theorem dL_edits_483 : decode cL_edits 483 = .ok (.idiv, 1) := by decide +kernel
theorem dL_edits_484 : decode cL_edits 484 = .ok (.bipush 10, 2) := by decide +kernel
theorem dL_edits_486 : decode cL_edits 486 = .ok (.irem, 1) := by decide +kernel
theorem dL_edits_487 : decode cL_edits 487 = .ok (.goto 8, 3) := by decide +kernel
theorem dL_edits_490 : decode cL_edits 490 = .ok (.iload 11, 2) := by decide +kernel
theorem dL_edits_492 : decode cL_edits 492 = .ok (.bipush 10, 2) := by decide +kernel
theorem dL_edits_494 : decode cL_edits 494 = .ok (.irem, 1) := by decide +kernel
theorem dL_edits_495 : decode cL_edits 495 = .ok (.invokestatic 81, 3) := by decide +kernel
theorem dL_edits_498 : decode cL_edits 498 = .ok (.aload 5, 2) := by decide +kernel
theorem dL_edits_500 : decode cL_edits 500 = .ok (.iconst 4, 1) := by decide +kernel
theorem dL_edits_501 : decode cL_edits 501 = .ok (.iload 9, 2) := by decide +kernel
theorem dL_edits_503 : decode cL_edits 503 = .ok (.imul, 1) := by decide +kernel
theorem dL_edits_504 : decode cL_edits 504 = .ok (.iconst 2, 1) := by decide +kernel
theorem dL_edits_505 : decode cL_edits 505 = .ok (.iadd, 1) := by decide +kernel
theorem dL_edits_506 : decode cL_edits 506 = .ok (.bipush (-2), 2) := by decide +kernel
theorem dL_edits_508 : decode cL_edits 508 = .ok (.iastore, 1) := by decide +kernel
theorem dL_edits_509 : decode cL_edits 509 = .ok (.aload_n 0, 1) := by decide +kernel
theorem dL_edits_510 : decode cL_edits 510 = .ok (.iload_n 1, 1) := by decide +kernel
theorem dL_edits_511 : decode cL_edits 511 = .ok (.iload 9, 2) := by decide +kernel
theorem dL_edits_513 : decode cL_edits 513 = .ok (.iconst 0, 1) := by decide +kernel
theorem dL_edits_514 : decode cL_edits 514 = .ok (.iconst 0, 1) := by decide +kernel
theorem dL_edits_515 : decode cL_edits 515 = .ok (.invokestatic 85, 3) := by decide +kernel
theorem dL_edits_518 : decode cL_edits 518 = .ok (.iload 11, 2) := by decide +kernel
theorem dL_edits_520 : decode cL_edits 520 = .ok (.bipush 100, 2) := by decide +kernel
theorem dL_edits_522 : decode cL_edits 522 = .ok (.idiv, 1) := by decide +kernel
theorem dL_edits_523 : decode cL_edits 523 = .ok (.if_icmp .ne 7, 3) := by decide +kernel
theorem dL_edits_526 : decode cL_edits 526 = .ok (.iconst 1, 1) := by decide +kernel
theorem dL_edits_527 : decode cL_edits 527 = .ok (.goto 4, 3) := by decide +kernel
theorem dL_edits_530 : decode cL_edits 530 = .ok (.iconst 0, 1) := by decide +kernel
theorem dL_edits_531 : decode cL_edits 531 = .ok (.ireturn, 1) := by decide +kernel
theorem dL_begins_0 : decode cL_begins 0 = .ok (.iconst 4, 1) := by decide +kernel
theorem dL_begins_1 : decode cL_begins 1 = .ok (.aload_n 3, 1) := by decide +kernel
theorem dL_begins_2 : decode cL_begins 2 = .ok (.iconst 0, 1) := by decide +kernel
theorem dL_begins_3 : decode cL_begins 3 = .ok (.iaload, 1) := by decide +kernel
theorem dL_begins_4 : decode cL_begins 4 = .ok (.imul, 1) := by decide +kernel
theorem dL_begins_5 : decode cL_begins 5 = .ok (.istore 5, 2) := by decide +kernel
theorem dL_begins_7 : decode cL_begins 7 = .ok (.aload 4, 2) := by decide +kernel
theorem dL_begins_9 : decode cL_begins 9 = .ok (.iload 5, 2) := by decide +kernel
theorem dL_begins_11 : decode cL_begins 11 = .ok (.iload_n 0, 1) := by decide +kernel
theorem dL_begins_12 : decode cL_begins 12 = .ok (.iastore, 1) := by decide +kernel
theorem dL_begins_13 : decode cL_begins 13 = .ok (.aload 4, 2) := by decide +kernel
theorem dL_begins_15 : decode cL_begins 15 = .ok (.iload 5, 2) := by decide +kernel
theorem dL_begins_17 : decode cL_begins 17 = .ok (.iconst 1, 1) := by decide +kernel
theorem dL_begins_18 : decode cL_begins 18 = .ok (.iadd, 1) := by decide +kernel
theorem dL_begins_19 : decode cL_begins 19 = .ok (.iload_n 1, 1) := by decide +kernel
theorem dL_begins_20 : decode cL_begins 20 = .ok (.iastore, 1) := by decide +kernel
theorem dL_begins_21 : decode cL_begins 21 = .ok (.aload 4, 2) := by decide +kernel
theorem dL_begins_23 : decode cL_begins 23 = .ok (.iload 5, 2) := by decide +kernel
theorem dL_begins_25 : decode cL_begins 25 = .ok (.iconst 2, 1) := by decide +kernel
theorem dL_begins_26 : decode cL_begins 26 = .ok (.iadd, 1) := by decide +kernel
theorem dL_begins_27 : decode cL_begins 27 = .ok (.bipush (-2), 2) := by decide +kernel
theorem dL_begins_29 : decode cL_begins 29 = .ok (.iastore, 1) := by decide +kernel
theorem dL_begins_30 : decode cL_begins 30 = .ok (.aload 4, 2) := by decide +kernel
theorem dL_begins_32 : decode cL_begins 32 = .ok (.iload 5, 2) := by decide +kernel
theorem dL_begins_34 : decode cL_begins 34 = .ok (.iconst 3, 1) := by decide +kernel
theorem dL_begins_35 : decode cL_begins 35 = .ok (.iadd, 1) := by decide +kernel
theorem dL_begins_36 : decode cL_begins 36 = .ok (.iload_n 2, 1) := by decide +kernel
theorem dL_begins_37 : decode cL_begins 37 = .ok (.iastore, 1) := by decide +kernel
theorem dL_begins_38 : decode cL_begins 38 = .ok (.aload_n 3, 1) := by decide +kernel
theorem dL_begins_39 : decode cL_begins 39 = .ok (.iconst 0, 1) := by decide +kernel
theorem dL_begins_40 : decode cL_begins 40 = .ok (.dup2, 1) := by decide +kernel
theorem dL_begins_41 : decode cL_begins 41 = .ok (.iaload, 1) := by decide +kernel
theorem dL_begins_42 : decode cL_begins 42 = .ok (.iconst 1, 1) := by decide +kernel
theorem dL_begins_43 : decode cL_begins 43 = .ok (.iadd, 1) := by decide +kernel
theorem dL_begins_44 : decode cL_begins 44 = .ok (.iastore, 1) := by decide +kernel
theorem dL_begins_45 : decode cL_begins 45 = .ok (.aload_n 3, 1) := by decide +kernel
theorem dL_begins_46 : decode cL_begins 46 = .ok (.iconst 0, 1) := by decide +kernel
theorem dL_begins_47 : decode cL_begins 47 = .ok (.iaload, 1) := by decide +kernel
theorem dL_begins_48 : decode cL_begins 48 = .ok (.iconst 1, 1) := by decide +kernel
theorem dL_begins_49 : decode cL_begins 49 = .ok (.isub, 1) := by decide +kernel
theorem dL_begins_50 : decode cL_begins 50 = .ok (.ireturn, 1) := by decide +kernel
set_option maxRecDepth 20000 in
theorem ggL_exchange_L_low : GoodIn wsL_exchange wsL_low := goodIn_r _ [4, 5] (by decide +kernel) (by decide +kernel)
set_option maxRecDepth 20000 in
theorem gL_exchange_L_low : GoodIn wsL_exchange (va_wsS RL 78 yL_low wsL_low) := goodIn_app (goodIn_of _ (by decide +kernel)) ggL_exchange_L_low
set_option maxRecDepth 20000 in
theorem ggL_exchange_L_calls : GoodIn wsL_exchange wsL_calls := goodIn_ca (goodIn_ca (goodIn_ca (goodIn_r _ [8, 9, 10, 11, 12, 13, 14, 15, 16, 17, 18, 19, 20, 21, 22, 23, 24, 25, 26, 27, 28, 29, 30, 31, 32, 33, 34, 35, 36, 37, 38, 39, 40, 41, 42, 43, 44, 45, 46, 47, 48, 49, 50, 51, 52, 53, 54, 55, 56, 57, 58, 59, 60, 61, 62, 63, 64, 65, 66, 67, 68, 69, 70, 71, 72, 73, 74, 75, 76, 77, 78, 79, 80, 81, 82, 83, 84, 85, 86, 87, 88, 89, 90, 91, 92, 93, 94, 95, 96, 97, 98, 99, 100, 101, 102, 103, 104, 105, 106, 107, 108, 109, 110, 111, 112, 113, 114, 115, 116, 117, 118, 119, 120, 121, 122, 123, 124, 125, 126, 127, 128, 129, 130, 131, 132, 133, 134, 135, 136, 137, 138, 139, 140, 141, 142, 143, 144, 145, 146, 147, 148, 149, 150, 151, 152, 153, 154, 155, 156, 157, 158, 159, 160, 161, 162, 163, 164, 165, 166, 167, 168, 169, 170, 171, 172, 173, 174, 175, 176, 177, 178, 179, 180, 181, 182, 183, 184, 185, 186, 187, 188, 189, 190, 191, 192, 193, 194, 195, 196, 197, 198, 199, 200, 201, 202, 203, 204, 205, 206, 207, 208, 209, 210, 211, 212, 213, 214, 215, 216, 217, 218, 219, 220, 221, 222, 223, 224, 225, 226, 227, 228, 229, 230, 231, 232, 233, 234, 235, 236, 237, 238, 239, 240, 241, 242, 243, 244, 245, 246, 247, 248, 249, 250, 251, 252, 253, 254, 255, 256, 257, 258, 259, 260, 261, 262, 263, 264, 265, 266, 267, 271, 272, 273, 274, 275, 276, 277, 278, 279, 280, 281, 282, 283, 284, 285, 286, 287, 288, 289, 290, 291, 292, 293, 294, 295, 296, 297, 298, 299, 300, 301, 302, 303, 304, 305, 306, 307, 308] (by decide +kernel) (by decide +kernel)) (goodIn_sub (fun _ h => List.mem_cons_of_mem _ (List.mem_append_left _ (List.mem_append_left _ (List.mem_append_right _ h)))) (by decide +kernel))) (goodIn_sub (fun _ h => List.mem_cons_of_mem _ (List.mem_append_left _ (List.mem_append_right _ h))) (by decide +kernel))) (goodIn_sub (fun _ h => List.mem_cons_of_mem _ (List.mem_append_right _ h)) (by decide +kernel))
set_option maxRecDepth 20000 in
theorem gL_exchange_L_calls : GoodIn wsL_exchange (va_wsS RL 85 yL_calls wsL_calls) := goodIn_app (goodIn_of _ (by decide +kernel)) ggL_exchange_L_calls
set_option maxRecDepth 20000 in
theorem ggL_exchange_L_begins : GoodIn wsL_exchange wsL_begins := goodIn_r _ [270] (by decide +kernel) (by decide +kernel)
set_option maxRecDepth 20000 in
theorem gL_exchange_L_begins : GoodIn wsL_exchange (va_wsS RL 89 yL_begins wsL_begins) := goodIn_app (goodIn_of _ (by decide +kernel)) ggL_exchange_L_begins
theorem dL_exchange_0 : decode cL_exchange 0 = .ok (.iload_n 1, 1) := by decide +kernel
theorem dL_exchange_1 : decode cL_exchange 1 = .ok (.ifCond .ne 194, 3) := by decide +kernel
theorem dL_exchange_4 : decode cL_exchange 4 = .ok (.iload_n 2, 1) := by decide +kernel
theorem dL_exchange_5 : decode cL_exchange 5 = .ok (.aload_n 3, 1) := by decide +kernel
theorem dL_exchange_6 : decode cL_exchange 6 = .ok (.iconst 0, 1) := by decide +kernel
theorem dL_exchange_7 : decode cL_exchange 7 = .ok (.iaload, 1) := by decide +kernel
theorem dL_exchange_8 : decode cL_exchange 8 = .ok (.invokestatic 78, 3) := by decide +kernel
theorem dL_exchange_11 : decode cL_exchange 11 = .ok (.istore 8, 2) := by decide +kernel
theorem dL_exchange_13 : decode cL_exchange 13 = .ok (.aload 5, 2) := by decide +kernel
theorem dL_exchange_15 : decode cL_exchange 15 = .ok (.iconst 4, 1) := by decide +kernel
theorem dL_exchange_16 : decode cL_exchange 16 = .ok (.iload 8, 2) := by decide +kernel
theorem dL_exchange_18 : decode cL_exchange 18 = .ok (.imul, 1) := by decide +kernel
theorem dL_exchange_19 : decode cL_exchange 19 = .ok (.iconst 2, 1) := by decide +kernel
theorem dL_exchange_20 : decode cL_exchange 20 = .ok (.iadd, 1) := by decide +kernel
theorem dL_exchange_21 : decode cL_exchange 21 = .ok (.iaload, 1) := by decide +kernel
theorem dL_exchange_22 : decode cL_exchange 22 = .ok (.ifCond .ge 8, 3) := by decide +kernel
theorem dL_exchange_25 : decode cL_exchange 25 = .ok (.bipush (-5), 2) := by decide +kernel
theorem dL_exchange_27 : decode cL_exchange 27 = .ok (.goto 6, 3) := by decide +kernel
theorem dL_exchange_30 : decode cL_exchange 30 = .ok (.aload_n 3, 1) := by decide +kernel
theorem dL_exchange_31 : decode cL_exchange 31 = .ok (.iconst 1, 1) := by decide +kernel
theorem dL_exchange_32 : decode cL_exchange 32 = .ok (.iaload, 1) := by decide +kernel
theorem dL_exchange_33 : decode cL_exchange 33 = .ok (.istore 9, 2) := by decide +kernel
theorem dL_exchange_35 : decode cL_exchange 35 = .ok (.aload_n 3, 1) := by decide +kernel
theorem dL_exchange_36 : decode cL_exchange 36 = .ok (.iconst 1, 1) := by decide +kernel
theorem dL_exchange_37 : decode cL_exchange 37 = .ok (.iaload, 1) := by decide +kernel
theorem dL_exchange_38 : decode cL_exchange 38 = .ok (.iconst 5, 1) := by decide +kernel
theorem dL_exchange_39 : decode cL_exchange 39 = .ok (.if_icmp .ne 5, 3) := by decide +kernel
theorem dL_exchange_42 : decode cL_exchange 42 = .ok (.iconst 1, 1) := by decide +kernel
theorem dL_exchange_43 : decode cL_exchange 43 = .ok (.ireturn, 1) := by decide +kernel
theorem dL_exchange_44 : decode cL_exchange 44 = .ok (.iload 9, 2) := by decide +kernel
theorem dL_exchange_46 : decode cL_exchange 46 = .ok (.ifCond .lt 129, 3) := by decide +kernel
theorem dL_exchange_49 : decode cL_exchange 49 = .ok (.iconst 0, 1) := by decide +kernel
theorem dL_exchange_50 : decode cL_exchange 50 = .ok (.istore 10, 2) := by decide +kernel
theorem dL_exchange_52 : decode cL_exchange 52 = .ok (.iload 10, 2) := by decide +kernel
theorem dL_exchange_54 : decode cL_exchange 54 = .ok (.bipush 6, 2) := by decide +kernel
theorem dL_exchange_56 : decode cL_exchange 56 = .ok (.if_icmp .ge 34, 3) := by decide +kernel
theorem dL_exchange_59 : decode cL_exchange 59 = .ok (.aload 4, 2) := by decide +kernel
theorem dL_exchange_61 : decode cL_exchange 61 = .ok (.bipush 30, 2) := by decide +kernel
theorem dL_exchange_63 : decode cL_exchange 63 = .ok (.bipush 6, 2) := by decide +kernel
theorem dL_exchange_65 : decode cL_exchange 65 = .ok (.iload 9, 2) := by decide +kernel
theorem dL_exchange_67 : decode cL_exchange 67 = .ok (.imul, 1) := by decide +kernel
theorem dL_exchange_68 : decode cL_exchange 68 = .ok (.iadd, 1) := by decide +kernel
theorem dL_exchange_69 : decode cL_exchange 69 = .ok (.iload 10, 2) := by decide +kernel
theorem dL_exchange_71 : decode cL_exchange 71 = .ok (.iadd, 1) := by decide +kernel
theorem dL_exchange_72 : decode cL_exchange 72 = .ok (.aload 4, 2) := by decide +kernel
theorem dL_exchange_74 : decode cL_exchange 74 = .ok (.bipush 6, 2) := by decide +kernel
theorem dL_exchange_76 : decode cL_exchange 76 = .ok (.iload 8, 2) := by decide +kernel
theorem dL_exchange_78 : decode cL_exchange 78 = .ok (.imul, 1) := by decide +kernel
theorem dL_exchange_79 : decode cL_exchange 79 = .ok (.iload 10, 2) := by decide +kernel
theorem dL_exchange_81 : decode cL_exchange 81 = .ok (.iadd, 1) := by decide +kernel
theorem dL_exchange_82 : decode cL_exchange 82 = .ok (.laload, 1) := by decide +kernel
theorem dL_exchange_83 : decode cL_exchange 83 = .ok (.lastore, 1) := by decide +kernel
theorem dL_exchange_84 : decode cL_exchange 84 = .ok (.iinc 10 1, 3) := by decide +kernel
theorem dL_exchange_87 : decode cL_exchange 87 = .ok (.goto (-35), 3) := by decide +kernel
theorem dL_exchange_90 : decode cL_exchange 90 = .ok (.aload 6, 2) := by decide +kernel
theorem dL_exchange_92 : decode cL_exchange 92 = .ok (.iconst 5, 1) := by decide +kernel
theorem dL_exchange_93 : decode cL_exchange 93 = .ok (.iload 9, 2) := by decide +kernel
theorem dL_exchange_95 : decode cL_exchange 95 = .ok (.imul, 1) := by decide +kernel
theorem dL_exchange_96 : decode cL_exchange 96 = .ok (.aload 5, 2) := by decide +kernel
theorem dL_exchange_98 : decode cL_exchange 98 = .ok (.iconst 4, 1) := by decide +kernel
theorem dL_exchange_99 : decode cL_exchange 99 = .ok (.iload 8, 2) := by decide +kernel
theorem dL_exchange_101 : decode cL_exchange 101 = .ok (.imul, 1) := by decide +kernel
theorem dL_exchange_102 : decode cL_exchange 102 = .ok (.iaload, 1) := by decide +kernel
theorem dL_exchange_103 : decode cL_exchange 103 = .ok (.iastore, 1) := by decide +kernel
theorem dL_exchange_104 : decode cL_exchange 104 = .ok (.aload 6, 2) := by decide +kernel
theorem dL_exchange_106 : decode cL_exchange 106 = .ok (.iconst 5, 1) := by decide +kernel
theorem dL_exchange_107 : decode cL_exchange 107 = .ok (.iload 9, 2) := by decide +kernel
theorem dL_exchange_109 : decode cL_exchange 109 = .ok (.imul, 1) := by decide +kernel
theorem dL_exchange_110 : decode cL_exchange 110 = .ok (.iconst 1, 1) := by decide +kernel
theorem dL_exchange_111 : decode cL_exchange 111 = .ok (.iadd, 1) := by decide +kernel
theorem dL_exchange_112 : decode cL_exchange 112 = .ok (.aload 5, 2) := by decide +kernel
theorem dL_exchange_114 : decode cL_exchange 114 = .ok (.iconst 4, 1) := by decide +kernel
theorem dL_exchange_115 : decode cL_exchange 115 = .ok (.iload 8, 2) := by decide +kernel
theorem dL_exchange_117 : decode cL_exchange 117 = .ok (.imul, 1) := by decide +kernel
theorem dL_exchange_118 : decode cL_exchange 118 = .ok (.iconst 1, 1) := by decide +kernel
theorem dL_exchange_119 : decode cL_exchange 119 = .ok (.iadd, 1) := by decide +kernel
theorem dL_exchange_120 : decode cL_exchange 120 = .ok (.iaload, 1) := by decide +kernel
theorem dL_exchange_121 : decode cL_exchange 121 = .ok (.iastore, 1) := by decide +kernel
theorem dL_exchange_122 : decode cL_exchange 122 = .ok (.aload 6, 2) := by decide +kernel
theorem dL_exchange_124 : decode cL_exchange 124 = .ok (.iconst 5, 1) := by decide +kernel
theorem dL_exchange_125 : decode cL_exchange 125 = .ok (.iload 9, 2) := by decide +kernel
theorem dL_exchange_127 : decode cL_exchange 127 = .ok (.imul, 1) := by decide +kernel
theorem dL_exchange_128 : decode cL_exchange 128 = .ok (.iconst 2, 1) := by decide +kernel
theorem dL_exchange_129 : decode cL_exchange 129 = .ok (.iadd, 1) := by decide +kernel
theorem dL_exchange_130 : decode cL_exchange 130 = .ok (.aload 5, 2) := by decide +kernel
theorem dL_exchange_132 : decode cL_exchange 132 = .ok (.iconst 4, 1) := by decide +kernel
theorem dL_exchange_133 : decode cL_exchange 133 = .ok (.iload 8, 2) := by decide +kernel
theorem dL_exchange_135 : decode cL_exchange 135 = .ok (.imul, 1) := by decide +kernel
theorem dL_exchange_136 : decode cL_exchange 136 = .ok (.iconst 2, 1) := by decide +kernel
theorem dL_exchange_137 : decode cL_exchange 137 = .ok (.iadd, 1) := by decide +kernel
theorem dL_exchange_138 : decode cL_exchange 138 = .ok (.iaload, 1) := by decide +kernel
theorem dL_exchange_139 : decode cL_exchange 139 = .ok (.iastore, 1) := by decide +kernel
theorem dL_exchange_140 : decode cL_exchange 140 = .ok (.aload 6, 2) := by decide +kernel
theorem dL_exchange_142 : decode cL_exchange 142 = .ok (.iconst 5, 1) := by decide +kernel
theorem dL_exchange_143 : decode cL_exchange 143 = .ok (.iload 9, 2) := by decide +kernel
theorem dL_exchange_145 : decode cL_exchange 145 = .ok (.imul, 1) := by decide +kernel
theorem dL_exchange_146 : decode cL_exchange 146 = .ok (.iconst 3, 1) := by decide +kernel
theorem dL_exchange_147 : decode cL_exchange 147 = .ok (.iadd, 1) := by decide +kernel
theorem dL_exchange_148 : decode cL_exchange 148 = .ok (.aload 5, 2) := by decide +kernel
theorem dL_exchange_150 : decode cL_exchange 150 = .ok (.iconst 4, 1) := by decide +kernel
theorem dL_exchange_151 : decode cL_exchange 151 = .ok (.iload 8, 2) := by decide +kernel
theorem dL_exchange_153 : decode cL_exchange 153 = .ok (.imul, 1) := by decide +kernel
theorem dL_exchange_154 : decode cL_exchange 154 = .ok (.iconst 3, 1) := by decide +kernel
theorem dL_exchange_155 : decode cL_exchange 155 = .ok (.iadd, 1) := by decide +kernel
theorem dL_exchange_156 : decode cL_exchange 156 = .ok (.iaload, 1) := by decide +kernel
theorem dL_exchange_157 : decode cL_exchange 157 = .ok (.iastore, 1) := by decide +kernel
theorem dL_exchange_158 : decode cL_exchange 158 = .ok (.aload 6, 2) := by decide +kernel
theorem dL_exchange_160 : decode cL_exchange 160 = .ok (.iconst 5, 1) := by decide +kernel
theorem dL_exchange_161 : decode cL_exchange 161 = .ok (.iload 9, 2) := by decide +kernel
theorem dL_exchange_163 : decode cL_exchange 163 = .ok (.imul, 1) := by decide +kernel
theorem dL_exchange_164 : decode cL_exchange 164 = .ok (.iconst 4, 1) := by decide +kernel
theorem dL_exchange_165 : decode cL_exchange 165 = .ok (.iadd, 1) := by decide +kernel
theorem dL_exchange_166 : decode cL_exchange 166 = .ok (.iconst (-1), 1) := by decide +kernel
theorem dL_exchange_167 : decode cL_exchange 167 = .ok (.iastore, 1) := by decide +kernel
theorem dL_exchange_168 : decode cL_exchange 168 = .ok (.aload_n 3, 1) := by decide +kernel
theorem dL_exchange_169 : decode cL_exchange 169 = .ok (.iconst 1, 1) := by decide +kernel
theorem dL_exchange_170 : decode cL_exchange 170 = .ok (.dup2, 1) := by decide +kernel
theorem dL_exchange_171 : decode cL_exchange 171 = .ok (.iaload, 1) := by decide +kernel
theorem dL_exchange_172 : decode cL_exchange 172 = .ok (.iconst 1, 1) := by decide +kernel
theorem dL_exchange_173 : decode cL_exchange 173 = .ok (.iadd, 1) := by decide +kernel
theorem dL_exchange_174 : decode cL_exchange 174 = .ok (.iastore, 1) := by decide +kernel
theorem dL_exchange_175 : decode cL_exchange 175 = .ok (.aload_n 0, 1) := by decide +kernel
theorem dL_exchange_176 : decode cL_exchange 176 = .ok (.iconst 3, 1) := by decide +kernel
theorem dL_exchange_177 : decode cL_exchange 177 = .ok (.iload 8, 2) := by decide +kernel
theorem dL_exchange_179 : decode cL_exchange 179 = .ok (.iconst 0, 1) := by decide +kernel
theorem dL_exchange_180 : decode cL_exchange 180 = .ok (.iconst 0, 1) := by decide +kernel
theorem dL_exchange_181 : decode cL_exchange 181 = .ok (.invokestatic 85, 3) := by decide +kernel
theorem dL_exchange_184 : decode cL_exchange 184 = .ok (.iload 9, 2) := by decide +kernel
theorem dL_exchange_186 : decode cL_exchange 186 = .ok (.if_icmp .ne 7, 3) := by decide +kernel
theorem dL_exchange_189 : decode cL_exchange 189 = .ok (.iconst 1, 1) := by decide +kernel
theorem dL_exchange_190 : decode cL_exchange 190 = .ok (.goto 4, 3) := by decide +kernel
theorem dL_exchange_193 : decode cL_exchange 193 = .ok (.iconst 0, 1) := by decide +kernel
theorem dL_exchange_194 : decode cL_exchange 194 = .ok (.ireturn, 1) := by decide +kernel
theorem dL_exchange_195 : decode cL_exchange 195 = .ok (.iload_n 2, 1) := by decide +kernel
theorem dL_exchange_196 : decode cL_exchange 196 = .ok (.aload_n 3, 1) := by decide +kernel
theorem dL_exchange_197 : decode cL_exchange 197 = .ok (.iconst 1, 1) := by decide +kernel
theorem dL_exchange_198 : decode cL_exchange 198 = .ok (.iaload, 1) := by decide +kernel
theorem dL_exchange_199 : decode cL_exchange 199 = .ok (.invokestatic 78, 3) := by decide +kernel
theorem dL_exchange_202 : decode cL_exchange 202 = .ok (.istore 8, 2) := by decide +kernel
theorem dL_exchange_204 : decode cL_exchange 204 = .ok (.iload_n 2, 1) := by decide +kernel
theorem dL_exchange_205 : decode cL_exchange 205 = .ok (.iconst 3, 1) := by decide +kernel
theorem dL_exchange_206 : decode cL_exchange 206 = .ok (.ishr, 1) := by decide +kernel
theorem dL_exchange_207 : decode cL_exchange 207 = .ok (.iconst 3, 1) := by decide +kernel
theorem dL_exchange_208 : decode cL_exchange 208 = .ok (.invokestatic 78, 3) := by decide +kernel
theorem dL_exchange_211 : decode cL_exchange 211 = .ok (.istore 9, 2) := by decide +kernel
theorem dL_exchange_213 : decode cL_exchange 213 = .ok (.iload_n 1, 1) := by decide +kernel
theorem dL_exchange_214 : decode cL_exchange 214 = .ok (.iconst 1, 1) := by decide +kernel
theorem dL_exchange_215 : decode cL_exchange 215 = .ok (.if_icmp .ne 117, 3) := by decide +kernel
theorem dL_exchange_218 : decode cL_exchange 218 = .ok (.aload_n 3, 1) := by decide +kernel
theorem dL_exchange_219 : decode cL_exchange 219 = .ok (.iconst 0, 1) := by decide +kernel
theorem dL_exchange_220 : decode cL_exchange 220 = .ok (.iaload, 1) := by decide +kernel
theorem dL_exchange_221 : decode cL_exchange 221 = .ok (.iconst 5, 1) := by decide +kernel
theorem dL_exchange_222 : decode cL_exchange 222 = .ok (.if_icmp .ne 5, 3) := by decide +kernel
theorem dL_exchange_225 : decode cL_exchange 225 = .ok (.iconst 1, 1) := by decide +kernel
theorem dL_exchange_226 : decode cL_exchange 226 = .ok (.ireturn, 1) := by decide +kernel
theorem dL_exchange_227 : decode cL_exchange 227 = .ok (.aload 6, 2) := by decide +kernel
theorem dL_exchange_229 : decode cL_exchange 229 = .ok (.iconst 5, 1) := by decide +kernel
theorem dL_exchange_230 : decode cL_exchange 230 = .ok (.iload 8, 2) := by decide +kernel
theorem dL_exchange_232 : decode cL_exchange 232 = .ok (.imul, 1) := by decide +kernel
theorem dL_exchange_233 : decode cL_exchange 233 = .ok (.iconst 2, 1) := by decide +kernel
theorem dL_exchange_234 : decode cL_exchange 234 = .ok (.iadd, 1) := by decide +kernel
theorem dL_exchange_235 : decode cL_exchange 235 = .ok (.iaload, 1) := by decide +kernel
theorem dL_exchange_236 : decode cL_exchange 236 = .ok (.ifCond .ge 8, 3) := by decide +kernel
theorem dL_exchange_239 : decode cL_exchange 239 = .ok (.bipush (-5), 2) := by decide +kernel
theorem dL_exchange_241 : decode cL_exchange 241 = .ok (.goto 22, 3) := by decide +kernel
theorem dL_exchange_244 : decode cL_exchange 244 = .ok (.iload 9, 2) := by decide +kernel
theorem dL_exchange_246 : decode cL_exchange 246 = .ok (.aload 6, 2) := by decide +kernel
theorem dL_exchange_248 : decode cL_exchange 248 = .ok (.iconst 5, 1) := by decide +kernel
theorem dL_exchange_249 : decode cL_exchange 249 = .ok (.iload 8, 2) := by decide +kernel
theorem dL_exchange_251 : decode cL_exchange 251 = .ok (.imul, 1) := by decide +kernel
theorem dL_exchange_252 : decode cL_exchange 252 = .ok (.iconst 1, 1) := by decide +kernel
theorem dL_exchange_253 : decode cL_exchange 253 = .ok (.iadd, 1) := by decide +kernel
theorem dL_exchange_254 : decode cL_exchange 254 = .ok (.iaload, 1) := by decide +kernel
theorem dL_exchange_255 : decode cL_exchange 255 = .ok (.iload 8, 2) := by decide +kernel
theorem dL_exchange_257 : decode cL_exchange 257 = .ok (.aload_n 3, 1) := by decide +kernel
theorem dL_exchange_258 : decode cL_exchange 258 = .ok (.aload 5, 2) := by decide +kernel
theorem dL_exchange_260 : decode cL_exchange 260 = .ok (.invokestatic 89, 3) := by decide +kernel
theorem dL_exchange_263 : decode cL_exchange 263 = .ok (.istore 10, 2) := by decide +kernel
theorem dL_exchange_265 : decode cL_exchange 265 = .ok (.iconst 0, 1) := by decide +kernel
theorem dL_exchange_266 : decode cL_exchange 266 = .ok (.istore 11, 2) := by decide +kernel
theorem dL_exchange_268 : decode cL_exchange 268 = .ok (.iload 11, 2) := by decide +kernel
theorem dL_exchange_270 : decode cL_exchange 270 = .ok (.bipush 6, 2) := by decide +kernel
theorem dL_exchange_272 : decode cL_exchange 272 = .ok (.if_icmp .ge 39, 3) := by decide +kernel
theorem dL_exchange_275 : decode cL_exchange 275 = .ok (.iload 10, 2) := by decide +kernel
theorem dL_exchange_277 : decode cL_exchange 277 = .ok (.ifCond .lt 34, 3) := by decide +kernel
theorem dL_exchange_280 : decode cL_exchange 280 = .ok (.aload 4, 2) := by decide +kernel
theorem dL_exchange_282 : decode cL_exchange 282 = .ok (.bipush 6, 2) := by decide +kernel
theorem dL_exchange_284 : decode cL_exchange 284 = .ok (.iload 10, 2) := by decide +kernel
theorem dL_exchange_286 : decode cL_exchange 286 = .ok (.imul, 1) := by decide +kernel
theorem dL_exchange_287 : decode cL_exchange 287 = .ok (.iload 11, 2) := by decide +kernel
theorem dL_exchange_289 : decode cL_exchange 289 = .ok (.iadd, 1) := by decide +kernel
theorem dL_exchange_290 : decode cL_exchange 290 = .ok (.aload 4, 2) := by decide +kernel
theorem dL_exchange_292 : decode cL_exchange 292 = .ok (.bipush 30, 2) := by decide +kernel
theorem dL_exchange_294 : decode cL_exchange 294 = .ok (.bipush 6, 2) := by decide +kernel
theorem dL_exchange_296 : decode cL_exchange 296 = .ok (.iload 8, 2) := by decide +kernel
theorem dL_exchange_298 : decode cL_exchange 298 = .ok (.imul, 1) := by decide +kernel
theorem dL_exchange_299 : decode cL_exchange 299 = .ok (.iadd, 1) := by decide +kernel
theorem dL_exchange_300 : decode cL_exchange 300 = .ok (.iload 11, 2) := by decide +kernel
theorem dL_exchange_302 : decode cL_exchange 302 = .ok (.iadd, 1) := by decide +kernel
theorem dL_exchange_303 : decode cL_exchange 303 = .ok (.laload, 1) := by decide +kernel
theorem dL_exchange_304 : decode cL_exchange 304 = .ok (.lastore, 1) := by decide +kernel
theorem dL_exchange_305 : decode cL_exchange 305 = .ok (.iinc 11 1, 3) := by decide +kernel
theorem dL_exchange_308 : decode cL_exchange 308 = .ok (.goto (-40), 3) := by decide +kernel
theorem dL_exchange_311 : decode cL_exchange 311 = .ok (.aload_n 0, 1) := by decide +kernel
theorem dL_exchange_312 : decode cL_exchange 312 = .ok (.iconst 4, 1) := by decide +kernel
theorem dL_exchange_313 : decode cL_exchange 313 = .ok (.iload 8, 2) := by decide +kernel
theorem dL_exchange_315 : decode cL_exchange 315 = .ok (.iload 9, 2) := by decide +kernel
theorem dL_exchange_317 : decode cL_exchange 317 = .ok (.iconst 0, 1) := by decide +kernel
theorem dL_exchange_318 : decode cL_exchange 318 = .ok (.invokestatic 85, 3) := by decide +kernel
theorem dL_exchange_321 : decode cL_exchange 321 = .ok (.iload 10, 2) := by decide +kernel
theorem dL_exchange_323 : decode cL_exchange 323 = .ok (.if_icmp .ne 7, 3) := by decide +kernel
theorem dL_exchange_326 : decode cL_exchange 326 = .ok (.iconst 1, 1) := by decide +kernel
theorem dL_exchange_327 : decode cL_exchange 327 = .ok (.goto 4, 3) := by decide +kernel
theorem dL_exchange_330 : decode cL_exchange 330 = .ok (.iconst 0, 1) := by decide +kernel
theorem dL_exchange_331 : decode cL_exchange 331 = .ok (.ireturn, 1) := by decide +kernel
theorem dL_exchange_332 : decode cL_exchange 332 = .ok (.iconst 1, 1) := by decide +kernel
theorem dL_exchange_333 : decode cL_exchange 333 = .ok (.iload_n 2, 1) := by decide +kernel
theorem dL_exchange_334 : decode cL_exchange 334 = .ok (.iconst 5, 1) := by decide +kernel
theorem dL_exchange_335 : decode cL_exchange 335 = .ok (.ishr, 1) := by decide +kernel
theorem dL_exchange_336 : decode cL_exchange 336 = .ok (.iconst 5, 1) := by decide +kernel
theorem dL_exchange_337 : decode cL_exchange 337 = .ok (.invokestatic 78, 3) := by decide +kernel
theorem dL_exchange_340 : decode cL_exchange 340 = .ok (.iadd, 1) := by decide +kernel
theorem dL_exchange_341 : decode cL_exchange 341 = .ok (.istore 10, 2) := by decide +kernel
theorem dL_exchange_343 : decode cL_exchange 343 = .ok (.aload 6, 2) := by decide +kernel
theorem dL_exchange_345 : decode cL_exchange 345 = .ok (.iconst 5, 1) := by decide +kernel
theorem dL_exchange_346 : decode cL_exchange 346 = .ok (.iload 8, 2) := by decide +kernel
theorem dL_exchange_348 : decode cL_exchange 348 = .ok (.imul, 1) := by decide +kernel
theorem dL_exchange_349 : decode cL_exchange 349 = .ok (.iconst 2, 1) := by decide +kernel
theorem dL_exchange_350 : decode cL_exchange 350 = .ok (.iadd, 1) := by decide +kernel
theorem dL_exchange_351 : decode cL_exchange 351 = .ok (.iaload, 1) := by decide +kernel
theorem dL_exchange_352 : decode cL_exchange 352 = .ok (.ifCond .lt 15, 3) := by decide +kernel
theorem dL_exchange_355 : decode cL_exchange 355 = .ok (.aload 6, 2) := by decide +kernel
theorem dL_exchange_357 : decode cL_exchange 357 = .ok (.iconst 5, 1) := by decide +kernel
theorem dL_exchange_358 : decode cL_exchange 358 = .ok (.iload 8, 2) := by decide +kernel
theorem dL_exchange_360 : decode cL_exchange 360 = .ok (.imul, 1) := by decide +kernel
theorem dL_exchange_361 : decode cL_exchange 361 = .ok (.iaload, 1) := by decide +kernel
theorem dL_exchange_362 : decode cL_exchange 362 = .ok (.iload 9, 2) := by decide +kernel
theorem dL_exchange_364 : decode cL_exchange 364 = .ok (.if_icmp .ne 8, 3) := by decide +kernel
theorem dL_exchange_367 : decode cL_exchange 367 = .ok (.bipush (-5), 2) := by decide +kernel
theorem dL_exchange_369 : decode cL_exchange 369 = .ok (.goto 13, 3) := by decide +kernel
theorem dL_exchange_372 : decode cL_exchange 372 = .ok (.aload 7, 2) := by decide +kernel
theorem dL_exchange_374 : decode cL_exchange 374 = .ok (.iconst 3, 1) := by decide +kernel
theorem dL_exchange_375 : decode cL_exchange 375 = .ok (.iload 8, 2) := by decide +kernel
theorem dL_exchange_377 : decode cL_exchange 377 = .ok (.imul, 1) := by decide +kernel
theorem dL_exchange_378 : decode cL_exchange 378 = .ok (.iload 9, 2) := by decide +kernel
theorem dL_exchange_380 : decode cL_exchange 380 = .ok (.iadd, 1) := by decide +kernel
theorem dL_exchange_381 : decode cL_exchange 381 = .ok (.iaload, 1) := by decide +kernel
theorem dL_exchange_382 : decode cL_exchange 382 = .ok (.istore 11, 2) := by decide +kernel
theorem dL_exchange_384 : decode cL_exchange 384 = .ok (.aload 7, 2) := by decide +kernel
theorem dL_exchange_386 : decode cL_exchange 386 = .ok (.iconst 3, 1) := by decide +kernel
theorem dL_exchange_387 : decode cL_exchange 387 = .ok (.iload 8, 2) := by decide +kernel
theorem dL_exchange_389 : decode cL_exchange 389 = .ok (.imul, 1) := by decide +kernel
theorem dL_exchange_390 : decode cL_exchange 390 = .ok (.iload 9, 2) := by decide +kernel
theorem dL_exchange_392 : decode cL_exchange 392 = .ok (.iadd, 1) := by decide +kernel
theorem dL_exchange_393 : decode cL_exchange 393 = .ok (.iload 11, 2) := by decide +kernel
theorem dL_exchange_395 : decode cL_exchange 395 = .ok (.ifCond .ge 16, 3) := by decide +kernel
theorem dL_exchange_398 : decode cL_exchange 398 = .ok (.aload 7, 2) := by decide +kernel
theorem dL_exchange_400 : decode cL_exchange 400 = .ok (.iconst 3, 1) := by decide +kernel
theorem dL_exchange_401 : decode cL_exchange 401 = .ok (.iload 8, 2) := by decide +kernel
theorem dL_exchange_403 : decode cL_exchange 403 = .ok (.imul, 1) := by decide +kernel
theorem dL_exchange_404 : decode cL_exchange 404 = .ok (.iload 9, 2) := by decide +kernel
theorem dL_exchange_406 : decode cL_exchange 406 = .ok (.iadd, 1) := by decide +kernel
theorem dL_exchange_407 : decode cL_exchange 407 = .ok (.iaload, 1) := by decide +kernel
theorem dL_exchange_408 : decode cL_exchange 408 = .ok (.goto 5, 3) := by decide +kernel
theorem dL_exchange_411 : decode cL_exchange 411 = .ok (.iload 10, 2) := by decide +kernel
theorem dL_exchange_413 : decode cL_exchange 413 = .ok (.iastore, 1) := by decide +kernel
theorem dL_exchange_414 : decode cL_exchange 414 = .ok (.aload_n 0, 1) := by decide +kernel
theorem dL_exchange_415 : decode cL_exchange 415 = .ok (.iconst 5, 1) := by decide +kernel
theorem dL_exchange_416 : decode cL_exchange 416 = .ok (.iload 8, 2) := by decide +kernel
theorem dL_exchange_418 : decode cL_exchange 418 = .ok (.iload 9, 2) := by decide +kernel
theorem dL_exchange_420 : decode cL_exchange 420 = .ok (.iload 10, 2) := by decide +kernel
theorem dL_exchange_422 : decode cL_exchange 422 = .ok (.invokestatic 85, 3) := by decide +kernel
theorem dL_exchange_425 : decode cL_exchange 425 = .ok (.iload 11, 2) := by decide +kernel
theorem dL_exchange_427 : decode cL_exchange 427 = .ok (.if_icmp .ne 7, 3) := by decide +kernel
theorem dL_exchange_430 : decode cL_exchange 430 = .ok (.iconst 1, 1) := by decide +kernel
theorem dL_exchange_431 : decode cL_exchange 431 = .ok (.goto 4, 3) := by decide +kernel
theorem dL_exchange_434 : decode cL_exchange 434 = .ok (.iconst 0, 1) := by decide +kernel
theorem dL_exchange_435 : decode cL_exchange 435 = .ok (.ireturn, 1) := by decide +kernel
theorem dL_lays_0 : decode cL_lays 0 = .ok (.bipush 6, 2) := by decide +kernel
theorem dL_lays_2 : decode cL_lays 2 = .ok (.iload_n 0, 1) := by decide +kernel
theorem dL_lays_3 : decode cL_lays 3 = .ok (.imul, 1) := by decide +kernel
theorem dL_lays_4 : decode cL_lays 4 = .ok (.istore 4, 2) := by decide +kernel
theorem dL_lays_6 : decode cL_lays 6 = .ok (.aload_n 3, 1) := by decide +kernel
theorem dL_lays_7 : decode cL_lays 7 = .ok (.iload 4, 2) := by decide +kernel
theorem dL_lays_9 : decode cL_lays 9 = .ok (.iload_n 1, 1) := by decide +kernel
theorem dL_lays_10 : decode cL_lays 10 = .ok (.ldc 54, 2) := by decide +kernel
theorem dL_lays_12 : decode cL_lays 12 = .ok (.if_icmp .lt 7, 3) := by decide +kernel
theorem dL_lays_15 : decode cL_lays 15 = .ok (.iconst 3, 1) := by decide +kernel
theorem dL_lays_16 : decode cL_lays 16 = .ok (.goto 15, 3) := by decide +kernel
theorem dL_lays_19 : decode cL_lays 19 = .ok (.iload_n 1, 1) := by decide +kernel
theorem dL_lays_20 : decode cL_lays 20 = .ok (.sipush 16384, 3) := by decide +kernel
theorem dL_lays_23 : decode cL_lays 23 = .ok (.if_icmp .lt 7, 3) := by decide +kernel
theorem dL_lays_26 : decode cL_lays 26 = .ok (.iconst 2, 1) := by decide +kernel
theorem dL_lays_27 : decode cL_lays 27 = .ok (.goto 4, 3) := by decide +kernel
theorem dL_lays_30 : decode cL_lays 30 = .ok (.iconst 1, 1) := by decide +kernel
theorem dL_lays_31 : decode cL_lays 31 = .ok (.iastore, 1) := by decide +kernel
theorem dL_lays_32 : decode cL_lays 32 = .ok (.aload_n 3, 1) := by decide +kernel
theorem dL_lays_33 : decode cL_lays 33 = .ok (.iload 4, 2) := by decide +kernel
theorem dL_lays_35 : decode cL_lays 35 = .ok (.iconst 2, 1) := by decide +kernel
theorem dL_lays_36 : decode cL_lays 36 = .ok (.iadd, 1) := by decide +kernel
theorem dL_lays_37 : decode cL_lays 37 = .ok (.iload_n 1, 1) := by decide +kernel
theorem dL_lays_38 : decode cL_lays 38 = .ok (.sipush 128, 3) := by decide +kernel
theorem dL_lays_41 : decode cL_lays 41 = .ok (.irem, 1) := by decide +kernel
theorem dL_lays_42 : decode cL_lays 42 = .ok (.iastore, 1) := by decide +kernel
theorem dL_lays_43 : decode cL_lays 43 = .ok (.aload_n 3, 1) := by decide +kernel
theorem dL_lays_44 : decode cL_lays 44 = .ok (.iload 4, 2) := by decide +kernel
theorem dL_lays_46 : decode cL_lays 46 = .ok (.iconst 3, 1) := by decide +kernel
theorem dL_lays_47 : decode cL_lays 47 = .ok (.iadd, 1) := by decide +kernel
theorem dL_lays_48 : decode cL_lays 48 = .ok (.iload_n 1, 1) := by decide +kernel
theorem dL_lays_49 : decode cL_lays 49 = .ok (.sipush 128, 3) := by decide +kernel
theorem dL_lays_52 : decode cL_lays 52 = .ok (.idiv, 1) := by decide +kernel
theorem dL_lays_53 : decode cL_lays 53 = .ok (.bipush 8, 2) := by decide +kernel
theorem dL_lays_55 : decode cL_lays 55 = .ok (.irem, 1) := by decide +kernel
theorem dL_lays_56 : decode cL_lays 56 = .ok (.iconst 4, 1) := by decide +kernel
theorem dL_lays_57 : decode cL_lays 57 = .ok (.isub, 1) := by decide +kernel
theorem dL_lays_58 : decode cL_lays 58 = .ok (.iastore, 1) := by decide +kernel
theorem dL_lays_59 : decode cL_lays 59 = .ok (.aload_n 3, 1) := by decide +kernel
theorem dL_lays_60 : decode cL_lays 60 = .ok (.iload 4, 2) := by decide +kernel
theorem dL_lays_62 : decode cL_lays 62 = .ok (.iconst 4, 1) := by decide +kernel
theorem dL_lays_63 : decode cL_lays 63 = .ok (.iadd, 1) := by decide +kernel
theorem dL_lays_64 : decode cL_lays 64 = .ok (.iload_n 1, 1) := by decide +kernel
theorem dL_lays_65 : decode cL_lays 65 = .ok (.sipush 1024, 3) := by decide +kernel
theorem dL_lays_68 : decode cL_lays 68 = .ok (.idiv, 1) := by decide +kernel
theorem dL_lays_69 : decode cL_lays 69 = .ok (.bipush 8, 2) := by decide +kernel
theorem dL_lays_71 : decode cL_lays 71 = .ok (.irem, 1) := by decide +kernel
theorem dL_lays_72 : decode cL_lays 72 = .ok (.iastore, 1) := by decide +kernel
theorem dL_lays_73 : decode cL_lays 73 = .ok (.iconst 5, 1) := by decide +kernel
theorem dL_lays_74 : decode cL_lays 74 = .ok (.aload_n 3, 1) := by decide +kernel
theorem dL_lays_75 : decode cL_lays 75 = .ok (.iload 4, 2) := by decide +kernel
theorem dL_lays_77 : decode cL_lays 77 = .ok (.iconst 1, 1) := by decide +kernel
theorem dL_lays_78 : decode cL_lays 78 = .ok (.iadd, 1) := by decide +kernel
theorem dL_lays_79 : decode cL_lays 79 = .ok (.iaload, 1) := by decide +kernel
theorem dL_lays_80 : decode cL_lays 80 = .ok (.imul, 1) := by decide +kernel
theorem dL_lays_81 : decode cL_lays 81 = .ok (.iconst 4, 1) := by decide +kernel
theorem dL_lays_82 : decode cL_lays 82 = .ok (.iadd, 1) := by decide +kernel
theorem dL_lays_83 : decode cL_lays 83 = .ok (.istore 5, 2) := by decide +kernel
theorem dL_lays_85 : decode cL_lays 85 = .ok (.aload_n 2, 1) := by decide +kernel
theorem dL_lays_86 : decode cL_lays 86 = .ok (.iload 5, 2) := by decide +kernel
theorem dL_lays_88 : decode cL_lays 88 = .ok (.aload_n 3, 1) := by decide +kernel
theorem dL_lays_89 : decode cL_lays 89 = .ok (.iload 4, 2) := by decide +kernel
theorem dL_lays_91 : decode cL_lays 91 = .ok (.iaload, 1) := by decide +kernel
theorem dL_lays_92 : decode cL_lays 92 = .ok (.iconst 2, 1) := by decide +kernel
theorem dL_lays_93 : decode cL_lays 93 = .ok (.if_icmp .ne 32, 3) := by decide +kernel
theorem dL_lays_96 : decode cL_lays 96 = .ok (.aload_n 2, 1) := by decide +kernel
theorem dL_lays_97 : decode cL_lays 97 = .ok (.iload 5, 2) := by decide +kernel
theorem dL_lays_99 : decode cL_lays 99 = .ok (.iaload, 1) := by decide +kernel
theorem dL_lays_100 : decode cL_lays 100 = .ok (.ifCond .lt 16, 3) := by decide +kernel
theorem dL_lays_103 : decode cL_lays 103 = .ok (.aload_n 2, 1) := by decide +kernel
theorem dL_lays_104 : decode cL_lays 104 = .ok (.iload 5, 2) := by decide +kernel
theorem dL_lays_106 : decode cL_lays 106 = .ok (.iaload, 1) := by decide +kernel
theorem dL_lays_107 : decode cL_lays 107 = .ok (.aload_n 3, 1) := by decide +kernel
theorem dL_lays_108 : decode cL_lays 108 = .ok (.iload 4, 2) := by decide +kernel
theorem dL_lays_110 : decode cL_lays 110 = .ok (.iconst 5, 1) := by decide +kernel
theorem dL_lays_111 : decode cL_lays 111 = .ok (.iadd, 1) := by decide +kernel
theorem dL_lays_112 : decode cL_lays 112 = .ok (.iaload, 1) := by decide +kernel
theorem dL_lays_113 : decode cL_lays 113 = .ok (.if_icmp .le 12, 3) := by decide +kernel
theorem dL_lays_116 : decode cL_lays 116 = .ok (.aload_n 3, 1) := by decide +kernel
theorem dL_lays_117 : decode cL_lays 117 = .ok (.iload 4, 2) := by decide +kernel
theorem dL_lays_119 : decode cL_lays 119 = .ok (.iconst 5, 1) := by decide +kernel
theorem dL_lays_120 : decode cL_lays 120 = .ok (.iadd, 1) := by decide +kernel
theorem dL_lays_121 : decode cL_lays 121 = .ok (.iaload, 1) := by decide +kernel
theorem dL_lays_122 : decode cL_lays 122 = .ok (.goto 7, 3) := by decide +kernel
theorem dL_lays_125 : decode cL_lays 125 = .ok (.aload_n 2, 1) := by decide +kernel
theorem dL_lays_126 : decode cL_lays 126 = .ok (.iload 5, 2) := by decide +kernel
theorem dL_lays_128 : decode cL_lays 128 = .ok (.iaload, 1) := by decide +kernel
theorem dL_lays_129 : decode cL_lays 129 = .ok (.iastore, 1) := by decide +kernel
theorem dL_lays_130 : decode cL_lays 130 = .ok (.aload_n 3, 1) := by decide +kernel
theorem dL_lays_131 : decode cL_lays 131 = .ok (.iload 4, 2) := by decide +kernel
theorem dL_lays_133 : decode cL_lays 133 = .ok (.iaload, 1) := by decide +kernel
theorem dL_lays_134 : decode cL_lays 134 = .ok (.iconst 1, 1) := by decide +kernel
theorem dL_lays_135 : decode cL_lays 135 = .ok (.if_icmp .ne 12, 3) := by decide +kernel
theorem dL_lays_138 : decode cL_lays 138 = .ok (.aload_n 3, 1) := by decide +kernel
theorem dL_lays_139 : decode cL_lays 139 = .ok (.iload 4, 2) := by decide +kernel
theorem dL_lays_141 : decode cL_lays 141 = .ok (.iconst 2, 1) := by decide +kernel
theorem dL_lays_142 : decode cL_lays 142 = .ok (.iadd, 1) := by decide +kernel
theorem dL_lays_143 : decode cL_lays 143 = .ok (.iaload, 1) := by decide +kernel
theorem dL_lays_144 : decode cL_lays 144 = .ok (.goto 17, 3) := by decide +kernel
theorem dL_lays_147 : decode cL_lays 147 = .ok (.aload_n 3, 1) := by decide +kernel
theorem dL_lays_148 : decode cL_lays 148 = .ok (.iload 4, 2) := by decide +kernel
theorem dL_lays_150 : decode cL_lays 150 = .ok (.iaload, 1) := by decide +kernel
theorem dL_lays_151 : decode cL_lays 151 = .ok (.iconst 2, 1) := by decide +kernel
theorem dL_lays_152 : decode cL_lays 152 = .ok (.if_icmp .ne 8, 3) := by decide +kernel
theorem dL_lays_155 : decode cL_lays 155 = .ok (.bipush (-2), 2) := by decide +kernel
theorem dL_lays_157 : decode cL_lays 157 = .ok (.goto 4, 3) := by decide +kernel
theorem dL_lays_160 : decode cL_lays 160 = .ok (.iconst (-1), 1) := by decide +kernel
theorem dL_lays_161 : decode cL_lays 161 = .ok (.ireturn, 1) := by decide +kernel
set_option maxRecDepth 20000 in
theorem ggL_runs_L_low : GoodIn wsL_runs wsL_low := goodIn_r _ [4, 5] (by decide +kernel) (by decide +kernel)
set_option maxRecDepth 20000 in
theorem gL_runs_L_low : GoodIn wsL_runs (va_wsS RL 78 yL_low wsL_low) := goodIn_app (goodIn_of _ (by decide +kernel)) ggL_runs_L_low
set_option maxRecDepth 20000 in
theorem ggL_runs_L_start : GoodIn wsL_runs wsL_start := goodIn_r _ [8, 9, 10, 3, 11, 12, 13, 14, 15, 16, 17, 18, 19] (by decide +kernel) (by decide +kernel)
set_option maxRecDepth 20000 in
theorem gL_runs_L_start : GoodIn wsL_runs (va_wsS RL 70 yL_start wsL_start) := goodIn_app (goodIn_of _ (by decide +kernel)) ggL_runs_L_start
set_option maxRecDepth 20000 in
theorem ggL_runs_L_lays : GoodIn wsL_runs wsL_lays := goodIn_r _ [22, 12] (by decide +kernel) (by decide +kernel)
set_option maxRecDepth 20000 in
theorem gL_runs_L_lays : GoodIn wsL_runs (va_wsS RL 93 yL_lays wsL_lays) := goodIn_app (goodIn_of _ (by decide +kernel)) ggL_runs_L_lays
set_option maxRecDepth 20000 in
theorem ggL_runs_L_calls : GoodIn wsL_runs wsL_calls := goodIn_ca (goodIn_ca (goodIn_ca (goodIn_r _ [25, 26, 27, 28, 29, 30, 31, 32, 33, 34, 35, 36, 37, 38, 39, 40, 41, 42, 43, 44, 45, 46, 47, 48, 49, 50, 51, 52, 53, 54, 55, 56, 57, 58, 59, 60, 61, 62, 63, 64, 65, 66, 67, 68, 69, 70, 71, 72, 73, 74, 75, 76, 77, 78, 79, 80, 81, 82, 83, 84, 85, 86, 87, 88, 89, 90, 91, 92, 93, 94, 95, 96, 97, 98, 99, 100, 101, 102, 103, 104, 105, 106, 107, 108, 109, 110, 111, 112, 113, 114, 115, 116, 117, 118, 119, 120, 121, 122, 123, 124, 125, 126, 127, 128, 129, 130, 131, 132, 133, 134, 135, 136, 137, 138, 139, 140, 141, 142, 143, 144, 145, 146, 147, 148, 149, 150, 151, 152, 153, 154, 155, 156, 157, 158, 159, 160, 161, 162, 163, 164, 165, 166, 167, 168, 169, 170, 171, 172, 173, 174, 175, 176, 177, 178, 179, 180, 181, 182, 183, 184, 185, 186, 187, 188, 189, 190, 191, 192, 193, 194, 195, 196, 197, 198, 199, 200, 201, 202, 203, 204, 205, 206, 207, 208, 209, 210, 211, 212, 213, 214, 215, 216, 217, 218, 219, 220, 221, 222, 223, 224, 225, 226, 227, 228, 229, 230, 231, 232, 233, 234, 235, 236, 237, 238, 239, 240, 241, 242, 243, 244, 245, 246, 247, 248, 249, 250, 251, 252, 253, 254, 255, 256, 257, 258, 259, 260, 261, 262, 263, 264, 265, 266, 267, 268, 269, 270, 271, 272, 273, 274, 275, 276, 277, 278, 279, 280, 281, 282, 283, 284, 291, 292, 293, 294, 295, 296, 297, 298, 299, 300, 301, 302, 303, 304, 305, 306, 307, 308, 309, 310, 311, 312, 313, 314, 315, 316, 317, 318, 319, 320, 321, 322, 323, 324, 325, 326, 327, 328] (by decide +kernel) (by decide +kernel)) (goodIn_sub (fun _ h => List.mem_cons_of_mem _ (List.mem_append_left _ (List.mem_append_left _ (List.mem_append_right _ h)))) (by decide +kernel))) (goodIn_sub (fun _ h => List.mem_cons_of_mem _ (List.mem_append_left _ (List.mem_append_right _ h))) (by decide +kernel))) (goodIn_sub (fun _ h => List.mem_cons_of_mem _ (List.mem_append_right _ h)) (by decide +kernel))
set_option maxRecDepth 20000 in
theorem gL_runs_L_calls : GoodIn wsL_runs (va_wsS RL 85 yL_calls wsL_calls) := goodIn_app (goodIn_of _ (by decide +kernel)) ggL_runs_L_calls
set_option maxRecDepth 20000 in
theorem ggL_runs_L_keys : GoodIn wsL_runs wsL_keys := goodIn_r _ [19, 13, 14, 3, 15, 16] (by decide +kernel) (by decide +kernel)
set_option maxRecDepth 20000 in
theorem gL_runs_L_keys : GoodIn wsL_runs (va_wsS RL 51 yL_keys wsL_keys) := goodIn_app (goodIn_of _ (by decide +kernel)) ggL_runs_L_keys
set_option maxRecDepth 20000 in
theorem ggL_runs_L_step : GoodIn wsL_runs wsL_step := goodIn_r _ [287, 12, 288, 289, 3, 290, 13, 14, 15, 16, 9, 10, 11, 17, 18, 19] (by decide +kernel) (by decide +kernel)
set_option maxRecDepth 20000 in
theorem gL_runs_L_step : GoodIn wsL_runs (va_wsS RL 63 yL_step wsL_step) := goodIn_app (goodIn_of _ (by decide +kernel)) ggL_runs_L_step
theorem dL_runs_0 : decode cL_runs 0 = .ok (.iload_n 2, 1) := by decide +kernel
theorem dL_runs_1 : decode cL_runs 1 = .ok (.iconst 3, 1) := by decide +kernel
theorem dL_runs_2 : decode cL_runs 2 = .ok (.invokestatic 78, 3) := by decide +kernel
theorem dL_runs_5 : decode cL_runs 5 = .ok (.istore 7, 2) := by decide +kernel
theorem dL_runs_7 : decode cL_runs 7 = .ok (.bipush 6, 2) := by decide +kernel
theorem dL_runs_9 : decode cL_runs 9 = .ok (.iload 7, 2) := by decide +kernel
theorem dL_runs_11 : decode cL_runs 11 = .ok (.imul, 1) := by decide +kernel
theorem dL_runs_12 : decode cL_runs 12 = .ok (.istore 8, 2) := by decide +kernel
theorem dL_runs_14 : decode cL_runs 14 = .ok (.iload_n 1, 1) := by decide +kernel
theorem dL_runs_15 : decode cL_runs 15 = .ok (.ifCond .ne 102, 3) := by decide +kernel
theorem dL_runs_18 : decode cL_runs 18 = .ok (.iload_n 2, 1) := by decide +kernel
theorem dL_runs_19 : decode cL_runs 19 = .ok (.iconst 3, 1) := by decide +kernel
theorem dL_runs_20 : decode cL_runs 20 = .ok (.ishr, 1) := by decide +kernel
theorem dL_runs_21 : decode cL_runs 21 = .ok (.aload_n 3, 1) := by decide +kernel
theorem dL_runs_22 : decode cL_runs 22 = .ok (.iconst 1, 1) := by decide +kernel
theorem dL_runs_23 : decode cL_runs 23 = .ok (.iaload, 1) := by decide +kernel
theorem dL_runs_24 : decode cL_runs 24 = .ok (.invokestatic 78, 3) := by decide +kernel
theorem dL_runs_27 : decode cL_runs 27 = .ok (.istore 9, 2) := by decide +kernel
theorem dL_runs_29 : decode cL_runs 29 = .ok (.bipush (-5), 2) := by decide +kernel
theorem dL_runs_31 : decode cL_runs 31 = .ok (.istore 10, 2) := by decide +kernel
theorem dL_runs_33 : decode cL_runs 33 = .ok (.aload 5, 2) := by decide +kernel
theorem dL_runs_35 : decode cL_runs 35 = .ok (.iconst 5, 1) := by decide +kernel
theorem dL_runs_36 : decode cL_runs 36 = .ok (.iload 9, 2) := by decide +kernel
theorem dL_runs_38 : decode cL_runs 38 = .ok (.imul, 1) := by decide +kernel
theorem dL_runs_39 : decode cL_runs 39 = .ok (.iconst 2, 1) := by decide +kernel
theorem dL_runs_40 : decode cL_runs 40 = .ok (.iadd, 1) := by decide +kernel
theorem dL_runs_41 : decode cL_runs 41 = .ok (.iaload, 1) := by decide +kernel
theorem dL_runs_42 : decode cL_runs 42 = .ok (.ifCond .lt 53, 3) := by decide +kernel
theorem dL_runs_45 : decode cL_runs 45 = .ok (.aload 6, 2) := by decide +kernel
theorem dL_runs_47 : decode cL_runs 47 = .ok (.iload 8, 2) := by decide +kernel
theorem dL_runs_49 : decode cL_runs 49 = .ok (.iconst 1, 1) := by decide +kernel
theorem dL_runs_50 : decode cL_runs 50 = .ok (.iadd, 1) := by decide +kernel
theorem dL_runs_51 : decode cL_runs 51 = .ok (.iload 9, 2) := by decide +kernel
theorem dL_runs_53 : decode cL_runs 53 = .ok (.iastore, 1) := by decide +kernel
theorem dL_runs_54 : decode cL_runs 54 = .ok (.aload 6, 2) := by decide +kernel
theorem dL_runs_56 : decode cL_runs 56 = .ok (.iload 8, 2) := by decide +kernel
theorem dL_runs_58 : decode cL_runs 58 = .ok (.iconst 5, 1) := by decide +kernel
theorem dL_runs_59 : decode cL_runs 59 = .ok (.iadd, 1) := by decide +kernel
theorem dL_runs_60 : decode cL_runs 60 = .ok (.iconst 0, 1) := by decide +kernel
theorem dL_runs_61 : decode cL_runs 61 = .ok (.iastore, 1) := by decide +kernel
theorem dL_runs_62 : decode cL_runs 62 = .ok (.iload 7, 2) := by decide +kernel
theorem dL_runs_64 : decode cL_runs 64 = .ok (.aload 5, 2) := by decide +kernel
theorem dL_runs_66 : decode cL_runs 66 = .ok (.iconst 5, 1) := by decide +kernel
theorem dL_runs_67 : decode cL_runs 67 = .ok (.iload 9, 2) := by decide +kernel
theorem dL_runs_69 : decode cL_runs 69 = .ok (.imul, 1) := by decide +kernel
theorem dL_runs_70 : decode cL_runs 70 = .ok (.iconst 1, 1) := by decide +kernel
theorem dL_runs_71 : decode cL_runs 71 = .ok (.iadd, 1) := by decide +kernel
theorem dL_runs_72 : decode cL_runs 72 = .ok (.iaload, 1) := by decide +kernel
theorem dL_runs_73 : decode cL_runs 73 = .ok (.bipush 30, 2) := by decide +kernel
theorem dL_runs_75 : decode cL_runs 75 = .ok (.bipush 6, 2) := by decide +kernel
theorem dL_runs_77 : decode cL_runs 77 = .ok (.iload 9, 2) := by decide +kernel
theorem dL_runs_79 : decode cL_runs 79 = .ok (.imul, 1) := by decide +kernel
theorem dL_runs_80 : decode cL_runs 80 = .ok (.iadd, 1) := by decide +kernel
theorem dL_runs_81 : decode cL_runs 81 = .ok (.aload 4, 2) := by decide +kernel
theorem dL_runs_83 : decode cL_runs 83 = .ok (.invokestatic 70, 3) := by decide +kernel
theorem dL_runs_86 : decode cL_runs 86 = .ok (.aload 5, 2) := by decide +kernel
theorem dL_runs_88 : decode cL_runs 88 = .ok (.aload 6, 2) := by decide +kernel
theorem dL_runs_90 : decode cL_runs 90 = .ok (.invokestatic 93, 3) := by decide +kernel
theorem dL_runs_93 : decode cL_runs 93 = .ok (.istore 10, 2) := by decide +kernel
theorem dL_runs_95 : decode cL_runs 95 = .ok (.aload_n 0, 1) := by decide +kernel
theorem dL_runs_96 : decode cL_runs 96 = .ok (.bipush 6, 2) := by decide +kernel
theorem dL_runs_98 : decode cL_runs 98 = .ok (.iload 7, 2) := by decide +kernel
theorem dL_runs_100 : decode cL_runs 100 = .ok (.iload 9, 2) := by decide +kernel
theorem dL_runs_102 : decode cL_runs 102 = .ok (.iconst 0, 1) := by decide +kernel
theorem dL_runs_103 : decode cL_runs 103 = .ok (.invokestatic 85, 3) := by decide +kernel
theorem dL_runs_106 : decode cL_runs 106 = .ok (.iload 10, 2) := by decide +kernel
theorem dL_runs_108 : decode cL_runs 108 = .ok (.if_icmp .ne 7, 3) := by decide +kernel
theorem dL_runs_111 : decode cL_runs 111 = .ok (.iconst 1, 1) := by decide +kernel
theorem dL_runs_112 : decode cL_runs 112 = .ok (.goto 4, 3) := by decide +kernel
theorem dL_runs_115 : decode cL_runs 115 = .ok (.iconst 0, 1) := by decide +kernel
theorem dL_runs_116 : decode cL_runs 116 = .ok (.ireturn, 1) := by decide +kernel
theorem dL_runs_117 : decode cL_runs 117 = .ok (.iconst 1, 1) := by decide +kernel
theorem dL_runs_118 : decode cL_runs 118 = .ok (.istore 9, 2) := by decide +kernel
theorem dL_runs_120 : decode cL_runs 120 = .ok (.iconst 0, 1) := by decide +kernel
theorem dL_runs_121 : decode cL_runs 121 = .ok (.istore 10, 2) := by decide +kernel
theorem dL_runs_123 : decode cL_runs 123 = .ok (.iload 10, 2) := by decide +kernel
theorem dL_runs_125 : decode cL_runs 125 = .ok (.iconst 4, 1) := by decide +kernel
theorem dL_runs_126 : decode cL_runs 126 = .ok (.if_icmp .ge 171, 3) := by decide +kernel
theorem dL_runs_129 : decode cL_runs 129 = .ok (.iload 9, 2) := by decide +kernel
theorem dL_runs_131 : decode cL_runs 131 = .ok (.ifCond .eq 166, 3) := by decide +kernel
theorem dL_runs_134 : decode cL_runs 134 = .ok (.iload_n 2, 1) := by decide +kernel
theorem dL_runs_135 : decode cL_runs 135 = .ok (.iconst 3, 1) := by decide +kernel
theorem dL_runs_136 : decode cL_runs 136 = .ok (.iconst 2, 1) := by decide +kernel
theorem dL_runs_137 : decode cL_runs 137 = .ok (.iload 10, 2) := by decide +kernel
theorem dL_runs_139 : decode cL_runs 139 = .ok (.imul, 1) := by decide +kernel
theorem dL_runs_140 : decode cL_runs 140 = .ok (.iadd, 1) := by decide +kernel
theorem dL_runs_141 : decode cL_runs 141 = .ok (.ishr, 1) := by decide +kernel
theorem dL_runs_142 : decode cL_runs 142 = .ok (.bipush 6, 2) := by decide +kernel
theorem dL_runs_144 : decode cL_runs 144 = .ok (.invokestatic 78, 3) := by decide +kernel
theorem dL_runs_147 : decode cL_runs 147 = .ok (.istore 11, 2) := by decide +kernel
theorem dL_runs_149 : decode cL_runs 149 = .ok (.bipush (-5), 2) := by decide +kernel
theorem dL_runs_151 : decode cL_runs 151 = .ok (.istore 12, 2) := by decide +kernel
theorem dL_runs_153 : decode cL_runs 153 = .ok (.aload 6, 2) := by decide +kernel
theorem dL_runs_155 : decode cL_runs 155 = .ok (.iload 8, 2) := by decide +kernel
theorem dL_runs_157 : decode cL_runs 157 = .ok (.iaload, 1) := by decide +kernel
theorem dL_runs_158 : decode cL_runs 158 = .ok (.iconst 1, 1) := by decide +kernel
theorem dL_runs_159 : decode cL_runs 159 = .ok (.if_icmp .ne 109, 3) := by decide +kernel
theorem dL_runs_162 : decode cL_runs 162 = .ok (.aload 6, 2) := by decide +kernel
theorem dL_runs_164 : decode cL_runs 164 = .ok (.iload 8, 2) := by decide +kernel
theorem dL_runs_166 : decode cL_runs 166 = .ok (.iconst 5, 1) := by decide +kernel
theorem dL_runs_167 : decode cL_runs 167 = .ok (.iadd, 1) := by decide +kernel
theorem dL_runs_168 : decode cL_runs 168 = .ok (.iaload, 1) := by decide +kernel
theorem dL_runs_169 : decode cL_runs 169 = .ok (.sipush 200, 3) := by decide +kernel
theorem dL_runs_172 : decode cL_runs 172 = .ok (.if_icmp .ge 96, 3) := by decide +kernel
theorem dL_runs_175 : decode cL_runs 175 = .ok (.bipush 30, 2) := by decide +kernel
theorem dL_runs_177 : decode cL_runs 177 = .ok (.bipush 6, 2) := by decide +kernel
theorem dL_runs_179 : decode cL_runs 179 = .ok (.aload 6, 2) := by decide +kernel
theorem dL_runs_181 : decode cL_runs 181 = .ok (.iload 8, 2) := by decide +kernel
theorem dL_runs_183 : decode cL_runs 183 = .ok (.iconst 1, 1) := by decide +kernel
theorem dL_runs_184 : decode cL_runs 184 = .ok (.iadd, 1) := by decide +kernel
theorem dL_runs_185 : decode cL_runs 185 = .ok (.iaload, 1) := by decide +kernel
theorem dL_runs_186 : decode cL_runs 186 = .ok (.imul, 1) := by decide +kernel
theorem dL_runs_187 : decode cL_runs 187 = .ok (.iadd, 1) := by decide +kernel
theorem dL_runs_188 : decode cL_runs 188 = .ok (.istore 13, 2) := by decide +kernel
theorem dL_runs_190 : decode cL_runs 190 = .ok (.aload 6, 2) := by decide +kernel
theorem dL_runs_192 : decode cL_runs 192 = .ok (.iload 8, 2) := by decide +kernel
theorem dL_runs_194 : decode cL_runs 194 = .ok (.iconst 2, 1) := by decide +kernel
theorem dL_runs_195 : decode cL_runs 195 = .ok (.iadd, 1) := by decide +kernel
theorem dL_runs_196 : decode cL_runs 196 = .ok (.iaload, 1) := by decide +kernel
theorem dL_runs_197 : decode cL_runs 197 = .ok (.sipush 128, 3) := by decide +kernel
theorem dL_runs_200 : decode cL_runs 200 = .ok (.aload 6, 2) := by decide +kernel
theorem dL_runs_202 : decode cL_runs 202 = .ok (.iload 8, 2) := by decide +kernel
theorem dL_runs_204 : decode cL_runs 204 = .ok (.iconst 3, 1) := by decide +kernel
theorem dL_runs_205 : decode cL_runs 205 = .ok (.iadd, 1) := by decide +kernel
theorem dL_runs_206 : decode cL_runs 206 = .ok (.iaload, 1) := by decide +kernel
theorem dL_runs_207 : decode cL_runs 207 = .ok (.iconst 4, 1) := by decide +kernel
theorem dL_runs_208 : decode cL_runs 208 = .ok (.iadd, 1) := by decide +kernel
theorem dL_runs_209 : decode cL_runs 209 = .ok (.imul, 1) := by decide +kernel
theorem dL_runs_210 : decode cL_runs 210 = .ok (.iadd, 1) := by decide +kernel
theorem dL_runs_211 : decode cL_runs 211 = .ok (.sipush 1024, 3) := by decide +kernel
theorem dL_runs_214 : decode cL_runs 214 = .ok (.aload 6, 2) := by decide +kernel
theorem dL_runs_216 : decode cL_runs 216 = .ok (.iload 8, 2) := by decide +kernel
theorem dL_runs_218 : decode cL_runs 218 = .ok (.iconst 4, 1) := by decide +kernel
theorem dL_runs_219 : decode cL_runs 219 = .ok (.iadd, 1) := by decide +kernel
theorem dL_runs_220 : decode cL_runs 220 = .ok (.iaload, 1) := by decide +kernel
theorem dL_runs_221 : decode cL_runs 221 = .ok (.imul, 1) := by decide +kernel
theorem dL_runs_222 : decode cL_runs 222 = .ok (.iadd, 1) := by decide +kernel
theorem dL_runs_223 : decode cL_runs 223 = .ok (.istore 14, 2) := by decide +kernel
theorem dL_runs_225 : decode cL_runs 225 = .ok (.aload 6, 2) := by decide +kernel
theorem dL_runs_227 : decode cL_runs 227 = .ok (.iload 8, 2) := by decide +kernel
theorem dL_runs_229 : decode cL_runs 229 = .ok (.iconst 5, 1) := by decide +kernel
theorem dL_runs_230 : decode cL_runs 230 = .ok (.iadd, 1) := by decide +kernel
theorem dL_runs_231 : decode cL_runs 231 = .ok (.dup2, 1) := by decide +kernel
theorem dL_runs_232 : decode cL_runs 232 = .ok (.iaload, 1) := by decide +kernel
theorem dL_runs_233 : decode cL_runs 233 = .ok (.iconst 1, 1) := by decide +kernel
theorem dL_runs_234 : decode cL_runs 234 = .ok (.iadd, 1) := by decide +kernel
theorem dL_runs_235 : decode cL_runs 235 = .ok (.iastore, 1) := by decide +kernel
theorem dL_runs_236 : decode cL_runs 236 = .ok (.iload 7, 2) := by decide +kernel
theorem dL_runs_238 : decode cL_runs 238 = .ok (.iload 14, 2) := by decide +kernel
theorem dL_runs_240 : decode cL_runs 240 = .ok (.iload 11, 2) := by decide +kernel
theorem dL_runs_242 : decode cL_runs 242 = .ok (.aload 4, 2) := by decide +kernel
theorem dL_runs_244 : decode cL_runs 244 = .ok (.iload 13, 2) := by decide +kernel
theorem dL_runs_246 : decode cL_runs 246 = .ok (.bipush 96, 2) := by decide +kernel
theorem dL_runs_248 : decode cL_runs 248 = .ok (.invokestatic 51, 3) := by decide +kernel
theorem dL_runs_251 : decode cL_runs 251 = .ok (.iload 13, 2) := by decide +kernel
theorem dL_runs_253 : decode cL_runs 253 = .ok (.aload_n 3, 1) := by decide +kernel
theorem dL_runs_254 : decode cL_runs 254 = .ok (.aload 4, 2) := by decide +kernel
theorem dL_runs_256 : decode cL_runs 256 = .ok (.invokestatic 63, 3) := by decide +kernel
theorem dL_runs_259 : decode cL_runs 259 = .ok (.aload 5, 2) := by decide +kernel
theorem dL_runs_261 : decode cL_runs 261 = .ok (.aload 6, 2) := by decide +kernel
theorem dL_runs_263 : decode cL_runs 263 = .ok (.invokestatic 93, 3) := by decide +kernel
theorem dL_runs_266 : decode cL_runs 266 = .ok (.istore 12, 2) := by decide +kernel
theorem dL_runs_268 : decode cL_runs 268 = .ok (.aload_n 0, 1) := by decide +kernel
theorem dL_runs_269 : decode cL_runs 269 = .ok (.bipush 7, 2) := by decide +kernel
theorem dL_runs_271 : decode cL_runs 271 = .ok (.iload 7, 2) := by decide +kernel
theorem dL_runs_273 : decode cL_runs 273 = .ok (.iload 11, 2) := by decide +kernel
theorem dL_runs_275 : decode cL_runs 275 = .ok (.iconst 0, 1) := by decide +kernel
theorem dL_runs_276 : decode cL_runs 276 = .ok (.invokestatic 85, 3) := by decide +kernel
theorem dL_runs_279 : decode cL_runs 279 = .ok (.iload 12, 2) := by decide +kernel
theorem dL_runs_281 : decode cL_runs 281 = .ok (.if_icmp .ne 7, 3) := by decide +kernel
theorem dL_runs_284 : decode cL_runs 284 = .ok (.iconst 1, 1) := by decide +kernel
theorem dL_runs_285 : decode cL_runs 285 = .ok (.goto 4, 3) := by decide +kernel
theorem dL_runs_288 : decode cL_runs 288 = .ok (.iconst 0, 1) := by decide +kernel
theorem dL_runs_289 : decode cL_runs 289 = .ok (.istore 9, 2) := by decide +kernel
theorem dL_runs_291 : decode cL_runs 291 = .ok (.iinc 10 1, 3) := by decide +kernel
theorem dL_runs_294 : decode cL_runs 294 = .ok (.goto (-171), 3) := by decide +kernel
theorem dL_runs_297 : decode cL_runs 297 = .ok (.iload 9, 2) := by decide +kernel
theorem dL_runs_299 : decode cL_runs 299 = .ok (.ireturn, 1) := by decide +kernel
theorem dL_line_0 : decode cL_line 0 = .ok (.iload_n 1, 1) := by decide +kernel
theorem dL_line_1 : decode cL_line 1 = .ok (.istore_n 3, 1) := by decide +kernel
theorem dL_line_2 : decode cL_line 2 = .ok (.iload_n 3, 1) := by decide +kernel
theorem dL_line_3 : decode cL_line 3 = .ok (.ifCond .lt 19, 3) := by decide +kernel
theorem dL_line_6 : decode cL_line 6 = .ok (.iload_n 3, 1) := by decide +kernel
theorem dL_line_7 : decode cL_line 7 = .ok (.iload_n 0, 1) := by decide +kernel
theorem dL_line_8 : decode cL_line 8 = .ok (.if_icmp .eq 14, 3) := by decide +kernel
theorem dL_line_11 : decode cL_line 11 = .ok (.aload_n 2, 1) := by decide +kernel
theorem dL_line_12 : decode cL_line 12 = .ok (.iconst 5, 1) := by decide +kernel
theorem dL_line_13 : decode cL_line 13 = .ok (.iload_n 3, 1) := by decide +kernel
theorem dL_line_14 : decode cL_line 14 = .ok (.imul, 1) := by decide +kernel
theorem dL_line_15 : decode cL_line 15 = .ok (.iconst 3, 1) := by decide +kernel
theorem dL_line_16 : decode cL_line 16 = .ok (.iadd, 1) := by decide +kernel
theorem dL_line_17 : decode cL_line 17 = .ok (.iaload, 1) := by decide +kernel
theorem dL_line_18 : decode cL_line 18 = .ok (.istore_n 3, 1) := by decide +kernel
theorem dL_line_19 : decode cL_line 19 = .ok (.goto (-17), 3) := by decide +kernel
theorem dL_line_22 : decode cL_line 22 = .ok (.iload_n 3, 1) := by decide +kernel
theorem dL_line_23 : decode cL_line 23 = .ok (.ifCond .ge 7, 3) := by decide +kernel
theorem dL_line_26 : decode cL_line 26 = .ok (.iconst 0, 1) := by decide +kernel
theorem dL_line_27 : decode cL_line 27 = .ok (.goto 4, 3) := by decide +kernel
theorem dL_line_30 : decode cL_line 30 = .ok (.iconst 1, 1) := by decide +kernel
theorem dL_line_31 : decode cL_line 31 = .ok (.ireturn, 1) := by decide +kernel
theorem dL_stars_0 : decode cL_stars 0 = .ok (.aload_n 1, 1) := by decide +kernel
theorem dL_stars_1 : decode cL_stars 1 = .ok (.iconst 3, 1) := by decide +kernel
theorem dL_stars_2 : decode cL_stars 2 = .ok (.iload_n 0, 1) := by decide +kernel
theorem dL_stars_3 : decode cL_stars 3 = .ok (.imul, 1) := by decide +kernel
theorem dL_stars_4 : decode cL_stars 4 = .ok (.iaload, 1) := by decide +kernel
theorem dL_stars_5 : decode cL_stars 5 = .ok (.aload_n 1, 1) := by decide +kernel
theorem dL_stars_6 : decode cL_stars 6 = .ok (.iconst 3, 1) := by decide +kernel
theorem dL_stars_7 : decode cL_stars 7 = .ok (.iload_n 0, 1) := by decide +kernel
theorem dL_stars_8 : decode cL_stars 8 = .ok (.imul, 1) := by decide +kernel
theorem dL_stars_9 : decode cL_stars 9 = .ok (.iconst 1, 1) := by decide +kernel
theorem dL_stars_10 : decode cL_stars 10 = .ok (.iadd, 1) := by decide +kernel
theorem dL_stars_11 : decode cL_stars 11 = .ok (.iaload, 1) := by decide +kernel
theorem dL_stars_12 : decode cL_stars 12 = .ok (.iadd, 1) := by decide +kernel
theorem dL_stars_13 : decode cL_stars 13 = .ok (.aload_n 1, 1) := by decide +kernel
theorem dL_stars_14 : decode cL_stars 14 = .ok (.iconst 3, 1) := by decide +kernel
theorem dL_stars_15 : decode cL_stars 15 = .ok (.iload_n 0, 1) := by decide +kernel
theorem dL_stars_16 : decode cL_stars 16 = .ok (.imul, 1) := by decide +kernel
theorem dL_stars_17 : decode cL_stars 17 = .ok (.iconst 2, 1) := by decide +kernel
theorem dL_stars_18 : decode cL_stars 18 = .ok (.iadd, 1) := by decide +kernel
theorem dL_stars_19 : decode cL_stars 19 = .ok (.iaload, 1) := by decide +kernel
theorem dL_stars_20 : decode cL_stars 20 = .ok (.iadd, 1) := by decide +kernel
theorem dL_stars_21 : decode cL_stars 21 = .ok (.ireturn, 1) := by decide +kernel
set_option maxRecDepth 20000 in
theorem ggL_isSo_X7_levels : GoodIn wsL_isSo wsX7_levels := goodIn_r _ [5, 6, 154, 155, 156, 157, 158, 159, 160] (by decide +kernel) (by decide +kernel)
set_option maxRecDepth 20000 in
theorem gL_isSo_X7_levels : GoodIn wsL_isSo (wsV RL 97 RX7 yX7_levels wsX7_levels) := goodIn_app (goodIn_of _ (by decide +kernel)) ggL_isSo_X7_levels
set_option maxRecDepth 20000 in
theorem ggL_isSo_X7_works : GoodIn wsL_isSo wsX7_works := goodIn_r _ [10, 11, 154, 155, 156, 157, 158, 159, 160] (by decide +kernel) (by decide +kernel)
set_option maxRecDepth 20000 in
theorem gL_isSo_X7_works : GoodIn wsL_isSo (wsV RL 101 RX7 yX7_works wsX7_works) := goodIn_app (goodIn_of _ (by decide +kernel)) ggL_isSo_X7_works
set_option maxRecDepth 20000 in
theorem ggL_isSo_X7_strength : GoodIn wsL_isSo wsX7_strength := goodIn_ca (goodIn_r _ [15, 16, 17, 18, 4, 19, 20, 21, 154, 155, 156, 157, 158, 159, 160] (by decide +kernel) (by decide +kernel)) (goodIn_sub (fun _ h => List.mem_cons_of_mem _ (List.mem_append_right _ h)) (by decide +kernel))
set_option maxRecDepth 20000 in
theorem gL_isSo_X7_strength : GoodIn wsL_isSo (wsV RL 104 RX7 yX7_strength wsX7_strength) := goodIn_app (goodIn_of _ (by decide +kernel)) ggL_isSo_X7_strength
set_option maxRecDepth 20000 in
theorem ggL_isSo_L_low : GoodIn wsL_isSo wsL_low := goodIn_r _ [25, 26] (by decide +kernel) (by decide +kernel)
set_option maxRecDepth 20000 in
theorem gL_isSo_L_low : GoodIn wsL_isSo (va_wsS RL 78 yL_low wsL_low) := goodIn_app (goodIn_of _ (by decide +kernel)) ggL_isSo_L_low
set_option maxRecDepth 20000 in
theorem ggL_isSo_X7_at : GoodIn wsL_isSo wsX7_at := goodIn_ca (goodIn_r _ [30, 31, 32, 33, 4, 34, 20, 21, 35, 36, 37, 38, 39, 40, 41, 42, 43, 44, 45, 46, 47, 161, 162, 163, 164, 165, 166, 154, 155, 156, 157, 158, 159, 160, 167, 168, 169] (by decide +kernel) (by decide +kernel)) (goodIn_sub (fun _ h => List.mem_cons_of_mem _ (List.mem_append_right _ h)) (by decide +kernel))
set_option maxRecDepth 20000 in
theorem gL_isSo_X7_at : GoodIn wsL_isSo (wsV RL 107 RX7 yX7_at wsX7_at) := goodIn_app (goodIn_of _ (by decide +kernel)) ggL_isSo_X7_at
set_option maxRecDepth 20000 in
theorem ggL_isSo_L_get : GoodIn wsL_isSo wsL_get := goodIn_r _ [50, 51] (by decide +kernel) (by decide +kernel)
set_option maxRecDepth 20000 in
theorem gL_isSo_L_get : GoodIn wsL_isSo (va_wsS RL 45 yL_get wsL_get) := goodIn_app (goodIn_of _ (by decide +kernel)) ggL_isSo_L_get
set_option maxRecDepth 20000 in
theorem ggL_isSo_X7_start : GoodIn wsL_isSo wsX7_start := goodIn_ca (goodIn_r _ [55, 31, 32, 33, 4, 34, 20, 21, 35, 161, 162, 163, 164, 165, 166, 154, 155, 156, 157, 158, 159, 160] (by decide +kernel) (by decide +kernel)) (goodIn_sub (fun _ h => List.mem_cons_of_mem _ (List.mem_append_right _ h)) (by decide +kernel))
set_option maxRecDepth 20000 in
theorem gL_isSo_X7_start : GoodIn wsL_isSo (wsV RL 110 RX7 yX7_start wsX7_start) := goodIn_app (goodIn_of _ (by decide +kernel)) ggL_isSo_X7_start
set_option maxRecDepth 20000 in
theorem ggL_isSo_X7_proof : GoodIn wsL_isSo wsX7_proof := goodIn_ca (goodIn_r _ [59, 31, 32, 33, 4, 34, 20, 21, 35, 161, 162, 163, 164, 165, 166, 154, 155, 156, 157, 158, 159, 160] (by decide +kernel) (by decide +kernel)) (goodIn_sub (fun _ h => List.mem_cons_of_mem _ (List.mem_append_right _ h)) (by decide +kernel))
set_option maxRecDepth 20000 in
theorem gL_isSo_X7_proof : GoodIn wsL_isSo (wsV RL 112 RX7 yX7_proof wsX7_proof) := goodIn_app (goodIn_of _ (by decide +kernel)) ggL_isSo_X7_proof
set_option maxRecDepth 20000 in
theorem ggL_isSo_X7_edits : GoodIn wsL_isSo wsX7_edits := goodIn_ca (goodIn_r _ [63, 31, 32, 33, 4, 34, 20, 21, 35, 161, 162, 163, 164, 165, 166, 170, 171, 172, 173, 174, 154, 155, 156, 157, 158, 159, 160] (by decide +kernel) (by decide +kernel)) (goodIn_sub (fun _ h => List.mem_cons_of_mem _ (List.mem_append_right _ h)) (by decide +kernel))
set_option maxRecDepth 20000 in
theorem gL_isSo_X7_edits : GoodIn wsL_isSo (wsV RL 115 RX7 yX7_edits wsX7_edits) := goodIn_app (goodIn_of _ (by decide +kernel)) ggL_isSo_X7_edits
set_option maxRecDepth 20000 in
theorem ggL_isSo_L_line : GoodIn wsL_isSo wsL_line := goodIn_r _ [66] (by decide +kernel) (by decide +kernel)
set_option maxRecDepth 20000 in
theorem gL_isSo_L_line : GoodIn wsL_isSo (va_wsS RL 119 yL_line wsL_line) := goodIn_app (goodIn_of _ (by decide +kernel)) ggL_isSo_L_line
set_option maxRecDepth 20000 in
theorem ggL_isSo_X7_author : GoodIn wsL_isSo wsX7_author := goodIn_ca (goodIn_r _ [70, 71, 72, 73, 4, 74, 20, 21, 75, 175, 176, 177, 178, 179, 180, 181, 182, 154, 155, 156, 157, 158, 159, 160] (by decide +kernel) (by decide +kernel)) (goodIn_sub (fun _ h => List.mem_cons_of_mem _ (List.mem_append_right _ h)) (by decide +kernel))
set_option maxRecDepth 20000 in
theorem gL_isSo_X7_author : GoodIn wsL_isSo (wsV RL 123 RX7 yX7_author wsX7_author) := goodIn_app (goodIn_of _ (by decide +kernel)) ggL_isSo_X7_author
set_option maxRecDepth 20000 in
theorem ggL_isSo_X7_best : GoodIn wsL_isSo wsX7_best := goodIn_ca (goodIn_r _ [79, 71, 72, 73, 4, 74, 20, 21, 75, 175, 176, 177, 178, 179, 180, 181, 182, 154, 155, 156, 157, 158, 159, 160] (by decide +kernel) (by decide +kernel)) (goodIn_sub (fun _ h => List.mem_cons_of_mem _ (List.mem_append_right _ h)) (by decide +kernel))
set_option maxRecDepth 20000 in
theorem gL_isSo_X7_best : GoodIn wsL_isSo (wsV RL 126 RX7 yX7_best wsX7_best) := goodIn_app (goodIn_of _ (by decide +kernel)) ggL_isSo_X7_best
set_option maxRecDepth 20000 in
theorem ggL_isSo_X7_parent : GoodIn wsL_isSo wsX7_parent := goodIn_ca (goodIn_r _ [83, 71, 72, 73, 4, 74, 20, 21, 75, 175, 176, 177, 178, 179, 180, 181, 182, 154, 155, 156, 157, 158, 159, 160] (by decide +kernel) (by decide +kernel)) (goodIn_sub (fun _ h => List.mem_cons_of_mem _ (List.mem_append_right _ h)) (by decide +kernel))
set_option maxRecDepth 20000 in
theorem gL_isSo_X7_parent : GoodIn wsL_isSo (wsV RL 129 RX7 yX7_parent wsX7_parent) := goodIn_app (goodIn_of _ (by decide +kernel)) ggL_isSo_X7_parent
set_option maxRecDepth 20000 in
theorem ggL_isSo_X7_line : GoodIn wsL_isSo wsX7_line := goodIn_ca (goodIn_r _ [87, 11, 71, 72, 73, 4, 74, 20, 21, 75, 88, 89, 90, 91, 92, 93, 154, 155, 156, 157, 158, 159, 160, 175, 176, 177, 178, 179, 180, 181, 182] (by decide +kernel) (by decide +kernel)) (goodIn_sub (fun _ h => List.mem_cons_of_mem _ (List.mem_append_right _ h)) (by decide +kernel))
set_option maxRecDepth 20000 in
theorem gL_isSo_X7_line : GoodIn wsL_isSo (wsV RL 132 RX7 yX7_line wsX7_line) := goodIn_app (goodIn_of _ (by decide +kernel)) ggL_isSo_X7_line
set_option maxRecDepth 20000 in
theorem ggL_isSo_X7_stars : GoodIn wsL_isSo wsX7_stars := goodIn_ca (goodIn_r _ [97, 71, 72, 73, 4, 74, 20, 21, 75, 98, 99, 100, 91, 101, 102, 154, 155, 156, 157, 158, 159, 160, 175, 176, 177, 178, 179, 180, 181, 182] (by decide +kernel) (by decide +kernel)) (goodIn_sub (fun _ h => List.mem_cons_of_mem _ (List.mem_append_right _ h)) (by decide +kernel))
set_option maxRecDepth 20000 in
theorem gL_isSo_X7_stars : GoodIn wsL_isSo (wsV RL 134 RX7 yX7_stars wsX7_stars) := goodIn_app (goodIn_of _ (by decide +kernel)) ggL_isSo_X7_stars
set_option maxRecDepth 20000 in
theorem ggL_isSo_L_stars : GoodIn wsL_isSo wsL_stars := goodIn_r _ [105] (by decide +kernel) (by decide +kernel)
set_option maxRecDepth 20000 in
theorem gL_isSo_L_stars : GoodIn wsL_isSo (va_wsS RL 137 yL_stars wsL_stars) := goodIn_app (goodIn_of _ (by decide +kernel)) ggL_isSo_L_stars
set_option maxRecDepth 20000 in
theorem ggL_isSo_X7_record : GoodIn wsL_isSo wsX7_record := goodIn_ca (goodIn_r _ [109, 71, 72, 73, 4, 74, 20, 21, 75, 175, 176, 177, 178, 179, 180, 181, 182, 154, 155, 156, 157, 158, 159, 160] (by decide +kernel) (by decide +kernel)) (goodIn_sub (fun _ h => List.mem_cons_of_mem _ (List.mem_append_right _ h)) (by decide +kernel))
set_option maxRecDepth 20000 in
theorem gL_isSo_X7_record : GoodIn wsL_isSo (wsV RL 140 RX7 yX7_record wsX7_record) := goodIn_app (goodIn_of _ (by decide +kernel)) ggL_isSo_X7_record
set_option maxRecDepth 20000 in
theorem ggL_isSo_X7_credit : GoodIn wsL_isSo wsX7_credit := goodIn_ca (goodIn_r _ [113, 11, 114, 115, 4, 116, 20, 21, 71, 72, 73, 74, 75, 117, 118, 119, 91, 120, 121, 93, 98, 99, 100, 101, 102, 154, 155, 156, 157, 158, 159, 160, 175, 176, 177, 178, 179, 180, 181, 182] (by decide +kernel) (by decide +kernel)) (goodIn_sub (fun _ h => List.mem_cons_of_mem _ (List.mem_append_right _ h)) (by decide +kernel))
set_option maxRecDepth 20000 in
theorem gL_isSo_X7_credit : GoodIn wsL_isSo (wsV RL 143 RX7 yX7_credit wsX7_credit) := goodIn_app (goodIn_of _ (by decide +kernel)) ggL_isSo_X7_credit
set_option maxRecDepth 20000 in
theorem ggL_isSo_X7_runState : GoodIn wsL_isSo wsX7_runState := goodIn_ca (goodIn_r _ [125, 126, 127, 128, 4, 129, 20, 21, 130, 183, 184, 185, 186, 154, 155, 156, 157, 158, 159, 160] (by decide +kernel) (by decide +kernel)) (goodIn_sub (fun _ h => List.mem_cons_of_mem _ (List.mem_append_right _ h)) (by decide +kernel))
set_option maxRecDepth 20000 in
theorem gL_isSo_X7_runState : GoodIn wsL_isSo (wsV RL 146 RX7 yX7_runState wsX7_runState) := goodIn_app (goodIn_of _ (by decide +kernel)) ggL_isSo_X7_runState
set_option maxRecDepth 20000 in
theorem ggL_isSo_X7_body : GoodIn wsL_isSo wsX7_body := goodIn_ca (goodIn_r _ [134, 126, 127, 128, 4, 129, 20, 21, 130, 183, 184, 185, 186, 187, 188, 189, 190, 191, 154, 155, 156, 157, 158, 159, 160] (by decide +kernel) (by decide +kernel)) (goodIn_sub (fun _ h => List.mem_cons_of_mem _ (List.mem_append_right _ h)) (by decide +kernel))
set_option maxRecDepth 20000 in
theorem gL_isSo_X7_body : GoodIn wsL_isSo (wsV RL 149 RX7 yX7_body wsX7_body) := goodIn_app (goodIn_of _ (by decide +kernel)) ggL_isSo_X7_body
set_option maxRecDepth 20000 in
theorem ggL_isSo_X7_speed : GoodIn wsL_isSo wsX7_speed := goodIn_ca (goodIn_r _ [138, 126, 127, 128, 4, 129, 20, 21, 130, 183, 184, 185, 186, 187, 188, 189, 190, 191, 154, 155, 156, 157, 158, 159, 160] (by decide +kernel) (by decide +kernel)) (goodIn_sub (fun _ h => List.mem_cons_of_mem _ (List.mem_append_right _ h)) (by decide +kernel))
set_option maxRecDepth 20000 in
theorem gL_isSo_X7_speed : GoodIn wsL_isSo (wsV RL 152 RX7 yX7_speed wsX7_speed) := goodIn_app (goodIn_of _ (by decide +kernel)) ggL_isSo_X7_speed
set_option maxRecDepth 20000 in
theorem ggL_isSo_X7_keys : GoodIn wsL_isSo wsX7_keys := goodIn_ca (goodIn_r _ [142, 126, 127, 128, 4, 129, 20, 21, 130, 143, 144, 145, 146, 147, 148, 149, 183, 184, 185, 186, 187, 188, 189, 190, 191, 154, 155, 156, 157, 158, 159, 160] (by decide +kernel) (by decide +kernel)) (goodIn_sub (fun _ h => List.mem_cons_of_mem _ (List.mem_append_right _ h)) (by decide +kernel))
set_option maxRecDepth 20000 in
theorem gL_isSo_X7_keys : GoodIn wsL_isSo (wsV RL 155 RX7 yX7_keys wsX7_keys) := goodIn_app (goodIn_of _ (by decide +kernel)) ggL_isSo_X7_keys
set_option maxRecDepth 20000 in
theorem ggL_isSo_X7_stepsOf : GoodIn wsL_isSo wsX7_stepsOf := goodIn_ca (goodIn_r _ [153, 126, 127, 128, 4, 129, 20, 21, 130, 183, 184, 185, 186, 154, 155, 156, 157, 158, 159, 160] (by decide +kernel) (by decide +kernel)) (goodIn_sub (fun _ h => List.mem_cons_of_mem _ (List.mem_append_right _ h)) (by decide +kernel))
set_option maxRecDepth 20000 in
theorem gL_isSo_X7_stepsOf : GoodIn wsL_isSo (wsV RL 157 RX7 yX7_stepsOf wsX7_stepsOf) := goodIn_app (goodIn_of _ (by decide +kernel)) ggL_isSo_X7_stepsOf
theorem dL_isSo_0 : decode cL_isSo 0 = .ok (.aload_n 0, 1) := by decide +kernel
theorem dL_isSo_1 : decode cL_isSo 1 = .ok (.invokevirtual 97, 3) := by decide +kernel
theorem dL_isSo_4 : decode cL_isSo 4 = .ok (.aload_n 2, 1) := by decide +kernel
theorem dL_isSo_5 : decode cL_isSo 5 = .ok (.iconst 0, 1) := by decide +kernel
theorem dL_isSo_6 : decode cL_isSo 6 = .ok (.iaload, 1) := by decide +kernel
theorem dL_isSo_7 : decode cL_isSo 7 = .ok (.if_icmp .ne 50, 3) := by decide +kernel
theorem dL_isSo_10 : decode cL_isSo 10 = .ok (.aload_n 0, 1) := by decide +kernel
theorem dL_isSo_11 : decode cL_isSo 11 = .ok (.invokevirtual 101, 3) := by decide +kernel
theorem dL_isSo_14 : decode cL_isSo 14 = .ok (.aload_n 2, 1) := by decide +kernel
theorem dL_isSo_15 : decode cL_isSo 15 = .ok (.iconst 1, 1) := by decide +kernel
theorem dL_isSo_16 : decode cL_isSo 16 = .ok (.iaload, 1) := by decide +kernel
theorem dL_isSo_17 : decode cL_isSo 17 = .ok (.if_icmp .ne 40, 3) := by decide +kernel
theorem dL_isSo_20 : decode cL_isSo 20 = .ok (.aload_n 0, 1) := by decide +kernel
theorem dL_isSo_21 : decode cL_isSo 21 = .ok (.iconst 0, 1) := by decide +kernel
theorem dL_isSo_22 : decode cL_isSo 22 = .ok (.invokevirtual 104, 3) := by decide +kernel
theorem dL_isSo_25 : decode cL_isSo 25 = .ok (.aload_n 2, 1) := by decide +kernel
theorem dL_isSo_26 : decode cL_isSo 26 = .ok (.iconst 2, 1) := by decide +kernel
theorem dL_isSo_27 : decode cL_isSo 27 = .ok (.iaload, 1) := by decide +kernel
theorem dL_isSo_28 : decode cL_isSo 28 = .ok (.if_icmp .ne 29, 3) := by decide +kernel
theorem dL_isSo_31 : decode cL_isSo 31 = .ok (.aload_n 0, 1) := by decide +kernel
theorem dL_isSo_32 : decode cL_isSo 32 = .ok (.iconst 1, 1) := by decide +kernel
theorem dL_isSo_33 : decode cL_isSo 33 = .ok (.invokevirtual 104, 3) := by decide +kernel
theorem dL_isSo_36 : decode cL_isSo 36 = .ok (.aload_n 2, 1) := by decide +kernel
theorem dL_isSo_37 : decode cL_isSo 37 = .ok (.iconst 3, 1) := by decide +kernel
theorem dL_isSo_38 : decode cL_isSo 38 = .ok (.iaload, 1) := by decide +kernel
theorem dL_isSo_39 : decode cL_isSo 39 = .ok (.if_icmp .ne 18, 3) := by decide +kernel
theorem dL_isSo_42 : decode cL_isSo 42 = .ok (.aload_n 0, 1) := by decide +kernel
theorem dL_isSo_43 : decode cL_isSo 43 = .ok (.iconst 2, 1) := by decide +kernel
theorem dL_isSo_44 : decode cL_isSo 44 = .ok (.invokevirtual 104, 3) := by decide +kernel
theorem dL_isSo_47 : decode cL_isSo 47 = .ok (.aload_n 2, 1) := by decide +kernel
theorem dL_isSo_48 : decode cL_isSo 48 = .ok (.iconst 4, 1) := by decide +kernel
theorem dL_isSo_49 : decode cL_isSo 49 = .ok (.iaload, 1) := by decide +kernel
theorem dL_isSo_50 : decode cL_isSo 50 = .ok (.if_icmp .ne 7, 3) := by decide +kernel
theorem dL_isSo_53 : decode cL_isSo 53 = .ok (.iconst 1, 1) := by decide +kernel
theorem dL_isSo_54 : decode cL_isSo 54 = .ok (.goto 4, 3) := by decide +kernel
theorem dL_isSo_57 : decode cL_isSo 57 = .ok (.iconst 0, 1) := by decide +kernel
theorem dL_isSo_58 : decode cL_isSo 58 = .ok (.istore 9, 2) := by decide +kernel
theorem dL_isSo_60 : decode cL_isSo 60 = .ok (.iconst 0, 1) := by decide +kernel
theorem dL_isSo_61 : decode cL_isSo 61 = .ok (.istore 10, 2) := by decide +kernel
theorem dL_isSo_63 : decode cL_isSo 63 = .ok (.iload 10, 2) := by decide +kernel
theorem dL_isSo_65 : decode cL_isSo 65 = .ok (.aload_n 2, 1) := by decide +kernel
theorem dL_isSo_66 : decode cL_isSo 66 = .ok (.iconst 0, 1) := by decide +kernel
theorem dL_isSo_67 : decode cL_isSo 67 = .ok (.iaload, 1) := by decide +kernel
theorem dL_isSo_68 : decode cL_isSo 68 = .ok (.if_icmp .ge 122, 3) := by decide +kernel
theorem dL_isSo_71 : decode cL_isSo 71 = .ok (.iload 9, 2) := by decide +kernel
theorem dL_isSo_73 : decode cL_isSo 73 = .ok (.ifCond .eq 117, 3) := by decide +kernel
theorem dL_isSo_76 : decode cL_isSo 76 = .ok (.iload_n 1, 1) := by decide +kernel
theorem dL_isSo_77 : decode cL_isSo 77 = .ok (.iload 10, 2) := by decide +kernel
theorem dL_isSo_79 : decode cL_isSo 79 = .ok (.ishr, 1) := by decide +kernel
theorem dL_isSo_80 : decode cL_isSo 80 = .ok (.bipush 96, 2) := by decide +kernel
theorem dL_isSo_82 : decode cL_isSo 82 = .ok (.invokestatic 78, 3) := by decide +kernel
theorem dL_isSo_85 : decode cL_isSo 85 = .ok (.istore 11, 2) := by decide +kernel
theorem dL_isSo_87 : decode cL_isSo 87 = .ok (.aload_n 0, 1) := by decide +kernel
theorem dL_isSo_88 : decode cL_isSo 88 = .ok (.iload 10, 2) := by decide +kernel
theorem dL_isSo_90 : decode cL_isSo 90 = .ok (.iload 11, 2) := by decide +kernel
theorem dL_isSo_92 : decode cL_isSo 92 = .ok (.invokevirtual 107, 3) := by decide +kernel
theorem dL_isSo_95 : decode cL_isSo 95 = .ok (.aload_n 3, 1) := by decide +kernel
theorem dL_isSo_96 : decode cL_isSo 96 = .ok (.bipush 6, 2) := by decide +kernel
theorem dL_isSo_98 : decode cL_isSo 98 = .ok (.iload 10, 2) := by decide +kernel
theorem dL_isSo_100 : decode cL_isSo 100 = .ok (.imul, 1) := by decide +kernel
theorem dL_isSo_101 : decode cL_isSo 101 = .ok (.iload 11, 2) := by decide +kernel
theorem dL_isSo_103 : decode cL_isSo 103 = .ok (.invokestatic 45, 3) := by decide +kernel
theorem dL_isSo_106 : decode cL_isSo 106 = .ok (.if_icmp .ne 75, 3) := by decide +kernel
theorem dL_isSo_109 : decode cL_isSo 109 = .ok (.aload_n 0, 1) := by decide +kernel
theorem dL_isSo_110 : decode cL_isSo 110 = .ok (.iload 10, 2) := by decide +kernel
theorem dL_isSo_112 : decode cL_isSo 112 = .ok (.invokevirtual 110, 3) := by decide +kernel
theorem dL_isSo_115 : decode cL_isSo 115 = .ok (.aload 4, 2) := by decide +kernel
theorem dL_isSo_117 : decode cL_isSo 117 = .ok (.iconst 4, 1) := by decide +kernel
theorem dL_isSo_118 : decode cL_isSo 118 = .ok (.iload 10, 2) := by decide +kernel
theorem dL_isSo_120 : decode cL_isSo 120 = .ok (.imul, 1) := by decide +kernel
theorem dL_isSo_121 : decode cL_isSo 121 = .ok (.iconst 1, 1) := by decide +kernel
theorem dL_isSo_122 : decode cL_isSo 122 = .ok (.iadd, 1) := by decide +kernel
theorem dL_isSo_123 : decode cL_isSo 123 = .ok (.iaload, 1) := by decide +kernel
theorem dL_isSo_124 : decode cL_isSo 124 = .ok (.if_icmp .ne 57, 3) := by decide +kernel
theorem dL_isSo_127 : decode cL_isSo 127 = .ok (.aload_n 0, 1) := by decide +kernel
theorem dL_isSo_128 : decode cL_isSo 128 = .ok (.iload 10, 2) := by decide +kernel
theorem dL_isSo_130 : decode cL_isSo 130 = .ok (.invokevirtual 112, 3) := by decide +kernel
theorem dL_isSo_133 : decode cL_isSo 133 = .ok (.aload 4, 2) := by decide +kernel
theorem dL_isSo_135 : decode cL_isSo 135 = .ok (.iconst 4, 1) := by decide +kernel
theorem dL_isSo_136 : decode cL_isSo 136 = .ok (.iload 10, 2) := by decide +kernel
theorem dL_isSo_138 : decode cL_isSo 138 = .ok (.imul, 1) := by decide +kernel
theorem dL_isSo_139 : decode cL_isSo 139 = .ok (.iconst 2, 1) := by decide +kernel
theorem dL_isSo_140 : decode cL_isSo 140 = .ok (.iadd, 1) := by decide +kernel
theorem dL_isSo_141 : decode cL_isSo 141 = .ok (.iaload, 1) := by decide +kernel
theorem dL_isSo_142 : decode cL_isSo 142 = .ok (.if_icmp .ne 39, 3) := by decide +kernel
theorem dL_isSo_145 : decode cL_isSo 145 = .ok (.aload_n 0, 1) := by decide +kernel
theorem dL_isSo_146 : decode cL_isSo 146 = .ok (.iload 10, 2) := by decide +kernel
theorem dL_isSo_148 : decode cL_isSo 148 = .ok (.iconst 1, 1) := by decide +kernel
theorem dL_isSo_149 : decode cL_isSo 149 = .ok (.invokevirtual 115, 3) := by decide +kernel
theorem dL_isSo_152 : decode cL_isSo 152 = .ok (.aload 5, 2) := by decide +kernel
theorem dL_isSo_154 : decode cL_isSo 154 = .ok (.iload 10, 2) := by decide +kernel
theorem dL_isSo_156 : decode cL_isSo 156 = .ok (.iaload, 1) := by decide +kernel
theorem dL_isSo_157 : decode cL_isSo 157 = .ok (.if_icmp .ne 24, 3) := by decide +kernel
theorem dL_isSo_160 : decode cL_isSo 160 = .ok (.aload_n 0, 1) := by decide +kernel
theorem dL_isSo_161 : decode cL_isSo 161 = .ok (.iload 10, 2) := by decide +kernel
theorem dL_isSo_163 : decode cL_isSo 163 = .ok (.iconst 0, 1) := by decide +kernel
theorem dL_isSo_164 : decode cL_isSo 164 = .ok (.invokevirtual 115, 3) := by decide +kernel
theorem dL_isSo_167 : decode cL_isSo 167 = .ok (.aload 5, 2) := by decide +kernel
theorem dL_isSo_169 : decode cL_isSo 169 = .ok (.iconst 5, 1) := by decide +kernel
theorem dL_isSo_170 : decode cL_isSo 170 = .ok (.iload 10, 2) := by decide +kernel
theorem dL_isSo_172 : decode cL_isSo 172 = .ok (.iadd, 1) := by decide +kernel
theorem dL_isSo_173 : decode cL_isSo 173 = .ok (.iaload, 1) := by decide +kernel
theorem dL_isSo_174 : decode cL_isSo 174 = .ok (.if_icmp .ne 7, 3) := by decide +kernel
theorem dL_isSo_177 : decode cL_isSo 177 = .ok (.iconst 1, 1) := by decide +kernel
theorem dL_isSo_178 : decode cL_isSo 178 = .ok (.goto 4, 3) := by decide +kernel
theorem dL_isSo_181 : decode cL_isSo 181 = .ok (.iconst 0, 1) := by decide +kernel
theorem dL_isSo_182 : decode cL_isSo 182 = .ok (.istore 9, 2) := by decide +kernel
theorem dL_isSo_184 : decode cL_isSo 184 = .ok (.iinc 10 1, 3) := by decide +kernel
theorem dL_isSo_187 : decode cL_isSo 187 = .ok (.goto (-124), 3) := by decide +kernel
theorem dL_isSo_190 : decode cL_isSo 190 = .ok (.iconst 0, 1) := by decide +kernel
theorem dL_isSo_191 : decode cL_isSo 191 = .ok (.istore 10, 2) := by decide +kernel
theorem dL_isSo_193 : decode cL_isSo 193 = .ok (.iload 10, 2) := by decide +kernel
theorem dL_isSo_195 : decode cL_isSo 195 = .ok (.aload_n 2, 1) := by decide +kernel
theorem dL_isSo_196 : decode cL_isSo 196 = .ok (.iconst 1, 1) := by decide +kernel
theorem dL_isSo_197 : decode cL_isSo 197 = .ok (.iaload, 1) := by decide +kernel
theorem dL_isSo_198 : decode cL_isSo 198 = .ok (.if_icmp .ge 152, 3) := by decide +kernel
theorem dL_isSo_201 : decode cL_isSo 201 = .ok (.iload 9, 2) := by decide +kernel
theorem dL_isSo_203 : decode cL_isSo 203 = .ok (.ifCond .eq 147, 3) := by decide +kernel
theorem dL_isSo_206 : decode cL_isSo 206 = .ok (.iconst 0, 1) := by decide +kernel
theorem dL_isSo_207 : decode cL_isSo 207 = .ok (.istore 11, 2) := by decide +kernel
theorem dL_isSo_209 : decode cL_isSo 209 = .ok (.iconst 0, 1) := by decide +kernel
theorem dL_isSo_210 : decode cL_isSo 210 = .ok (.istore 12, 2) := by decide +kernel
theorem dL_isSo_212 : decode cL_isSo 212 = .ok (.iload 12, 2) := by decide +kernel
theorem dL_isSo_214 : decode cL_isSo 214 = .ok (.aload_n 2, 1) := by decide +kernel
theorem dL_isSo_215 : decode cL_isSo 215 = .ok (.iconst 1, 1) := by decide +kernel
theorem dL_isSo_216 : decode cL_isSo 216 = .ok (.iaload, 1) := by decide +kernel
theorem dL_isSo_217 : decode cL_isSo 217 = .ok (.if_icmp .ge 23, 3) := by decide +kernel
theorem dL_isSo_220 : decode cL_isSo 220 = .ok (.iload 11, 2) := by decide +kernel
theorem dL_isSo_222 : decode cL_isSo 222 = .ok (.iload 10, 2) := by decide +kernel
theorem dL_isSo_224 : decode cL_isSo 224 = .ok (.iload 12, 2) := by decide +kernel
theorem dL_isSo_226 : decode cL_isSo 226 = .ok (.aload 6, 2) := by decide +kernel
theorem dL_isSo_228 : decode cL_isSo 228 = .ok (.invokestatic 119, 3) := by decide +kernel
theorem dL_isSo_231 : decode cL_isSo 231 = .ok (.iadd, 1) := by decide +kernel
theorem dL_isSo_232 : decode cL_isSo 232 = .ok (.istore 11, 2) := by decide +kernel
theorem dL_isSo_234 : decode cL_isSo 234 = .ok (.iinc 12 1, 3) := by decide +kernel
theorem dL_isSo_237 : decode cL_isSo 237 = .ok (.goto (-25), 3) := by decide +kernel
theorem dL_isSo_240 : decode cL_isSo 240 = .ok (.aload_n 0, 1) := by decide +kernel
theorem dL_isSo_241 : decode cL_isSo 241 = .ok (.iload 10, 2) := by decide +kernel
theorem dL_isSo_243 : decode cL_isSo 243 = .ok (.invokevirtual 123, 3) := by decide +kernel
theorem dL_isSo_246 : decode cL_isSo 246 = .ok (.aload 6, 2) := by decide +kernel
theorem dL_isSo_248 : decode cL_isSo 248 = .ok (.iconst 5, 1) := by decide +kernel
theorem dL_isSo_249 : decode cL_isSo 249 = .ok (.iload 10, 2) := by decide +kernel
theorem dL_isSo_251 : decode cL_isSo 251 = .ok (.imul, 1) := by decide +kernel
theorem dL_isSo_252 : decode cL_isSo 252 = .ok (.iaload, 1) := by decide +kernel
theorem dL_isSo_253 : decode cL_isSo 253 = .ok (.if_icmp .ne 88, 3) := by decide +kernel
theorem dL_isSo_256 : decode cL_isSo 256 = .ok (.aload_n 0, 1) := by decide +kernel
theorem dL_isSo_257 : decode cL_isSo 257 = .ok (.iload 10, 2) := by decide +kernel
theorem dL_isSo_259 : decode cL_isSo 259 = .ok (.invokevirtual 126, 3) := by decide +kernel
theorem dL_isSo_262 : decode cL_isSo 262 = .ok (.aload 6, 2) := by decide +kernel
theorem dL_isSo_264 : decode cL_isSo 264 = .ok (.iconst 5, 1) := by decide +kernel
theorem dL_isSo_265 : decode cL_isSo 265 = .ok (.iload 10, 2) := by decide +kernel
theorem dL_isSo_267 : decode cL_isSo 267 = .ok (.imul, 1) := by decide +kernel
theorem dL_isSo_268 : decode cL_isSo 268 = .ok (.iconst 2, 1) := by decide +kernel
theorem dL_isSo_269 : decode cL_isSo 269 = .ok (.iadd, 1) := by decide +kernel
theorem dL_isSo_270 : decode cL_isSo 270 = .ok (.iaload, 1) := by decide +kernel
theorem dL_isSo_271 : decode cL_isSo 271 = .ok (.if_icmp .ne 70, 3) := by decide +kernel
theorem dL_isSo_274 : decode cL_isSo 274 = .ok (.aload_n 0, 1) := by decide +kernel
theorem dL_isSo_275 : decode cL_isSo 275 = .ok (.iload 10, 2) := by decide +kernel
theorem dL_isSo_277 : decode cL_isSo 277 = .ok (.invokevirtual 129, 3) := by decide +kernel
theorem dL_isSo_280 : decode cL_isSo 280 = .ok (.aload 6, 2) := by decide +kernel
theorem dL_isSo_282 : decode cL_isSo 282 = .ok (.iconst 5, 1) := by decide +kernel
theorem dL_isSo_283 : decode cL_isSo 283 = .ok (.iload 10, 2) := by decide +kernel
theorem dL_isSo_285 : decode cL_isSo 285 = .ok (.imul, 1) := by decide +kernel
theorem dL_isSo_286 : decode cL_isSo 286 = .ok (.iconst 3, 1) := by decide +kernel
theorem dL_isSo_287 : decode cL_isSo 287 = .ok (.iadd, 1) := by decide +kernel
theorem dL_isSo_288 : decode cL_isSo 288 = .ok (.iaload, 1) := by decide +kernel
theorem dL_isSo_289 : decode cL_isSo 289 = .ok (.if_icmp .ne 52, 3) := by decide +kernel
theorem dL_isSo_292 : decode cL_isSo 292 = .ok (.aload_n 0, 1) := by decide +kernel
theorem dL_isSo_293 : decode cL_isSo 293 = .ok (.iload 10, 2) := by decide +kernel
theorem dL_isSo_295 : decode cL_isSo 295 = .ok (.invokevirtual 132, 3) := by decide +kernel
theorem dL_isSo_298 : decode cL_isSo 298 = .ok (.iload 11, 2) := by decide +kernel
theorem dL_isSo_300 : decode cL_isSo 300 = .ok (.if_icmp .ne 41, 3) := by decide +kernel
theorem dL_isSo_303 : decode cL_isSo 303 = .ok (.aload_n 0, 1) := by decide +kernel
theorem dL_isSo_304 : decode cL_isSo 304 = .ok (.iload 10, 2) := by decide +kernel
theorem dL_isSo_306 : decode cL_isSo 306 = .ok (.invokevirtual 134, 3) := by decide +kernel
theorem dL_isSo_309 : decode cL_isSo 309 = .ok (.iload 10, 2) := by decide +kernel
theorem dL_isSo_311 : decode cL_isSo 311 = .ok (.aload 7, 2) := by decide +kernel
theorem dL_isSo_313 : decode cL_isSo 313 = .ok (.invokestatic 137, 3) := by decide +kernel
theorem dL_isSo_316 : decode cL_isSo 316 = .ok (.if_icmp .ne 25, 3) := by decide +kernel
theorem dL_isSo_319 : decode cL_isSo 319 = .ok (.aload_n 0, 1) := by decide +kernel
theorem dL_isSo_320 : decode cL_isSo 320 = .ok (.iload 10, 2) := by decide +kernel
theorem dL_isSo_322 : decode cL_isSo 322 = .ok (.invokevirtual 140, 3) := by decide +kernel
theorem dL_isSo_325 : decode cL_isSo 325 = .ok (.aload 6, 2) := by decide +kernel
theorem dL_isSo_327 : decode cL_isSo 327 = .ok (.iconst 5, 1) := by decide +kernel
theorem dL_isSo_328 : decode cL_isSo 328 = .ok (.iload 10, 2) := by decide +kernel
theorem dL_isSo_330 : decode cL_isSo 330 = .ok (.imul, 1) := by decide +kernel
theorem dL_isSo_331 : decode cL_isSo 331 = .ok (.iconst 4, 1) := by decide +kernel
theorem dL_isSo_332 : decode cL_isSo 332 = .ok (.iadd, 1) := by decide +kernel
theorem dL_isSo_333 : decode cL_isSo 333 = .ok (.iaload, 1) := by decide +kernel
theorem dL_isSo_334 : decode cL_isSo 334 = .ok (.if_icmp .ne 7, 3) := by decide +kernel
theorem dL_isSo_337 : decode cL_isSo 337 = .ok (.iconst 1, 1) := by decide +kernel
theorem dL_isSo_338 : decode cL_isSo 338 = .ok (.goto 4, 3) := by decide +kernel
theorem dL_isSo_341 : decode cL_isSo 341 = .ok (.iconst 0, 1) := by decide +kernel
theorem dL_isSo_342 : decode cL_isSo 342 = .ok (.istore 9, 2) := by decide +kernel
theorem dL_isSo_344 : decode cL_isSo 344 = .ok (.iinc 10 1, 3) := by decide +kernel
theorem dL_isSo_347 : decode cL_isSo 347 = .ok (.goto (-154), 3) := by decide +kernel
theorem dL_isSo_350 : decode cL_isSo 350 = .ok (.iconst 0, 1) := by decide +kernel
theorem dL_isSo_351 : decode cL_isSo 351 = .ok (.istore 10, 2) := by decide +kernel
theorem dL_isSo_353 : decode cL_isSo 353 = .ok (.iload 10, 2) := by decide +kernel
theorem dL_isSo_355 : decode cL_isSo 355 = .ok (.iconst 3, 1) := by decide +kernel
theorem dL_isSo_356 : decode cL_isSo 356 = .ok (.if_icmp .ge 245, 3) := by decide +kernel
theorem dL_isSo_359 : decode cL_isSo 359 = .ok (.iload 9, 2) := by decide +kernel
theorem dL_isSo_361 : decode cL_isSo 361 = .ok (.ifCond .eq 240, 3) := by decide +kernel
theorem dL_isSo_364 : decode cL_isSo 364 = .ok (.iconst 0, 1) := by decide +kernel
theorem dL_isSo_365 : decode cL_isSo 365 = .ok (.istore 11, 2) := by decide +kernel
theorem dL_isSo_367 : decode cL_isSo 367 = .ok (.iconst 0, 1) := by decide +kernel
theorem dL_isSo_368 : decode cL_isSo 368 = .ok (.istore 12, 2) := by decide +kernel
theorem dL_isSo_370 : decode cL_isSo 370 = .ok (.iload 12, 2) := by decide +kernel
theorem dL_isSo_372 : decode cL_isSo 372 = .ok (.aload_n 2, 1) := by decide +kernel
theorem dL_isSo_373 : decode cL_isSo 373 = .ok (.iconst 1, 1) := by decide +kernel
theorem dL_isSo_374 : decode cL_isSo 374 = .ok (.iaload, 1) := by decide +kernel
theorem dL_isSo_375 : decode cL_isSo 375 = .ok (.if_icmp .ge 77, 3) := by decide +kernel
theorem dL_isSo_378 : decode cL_isSo 378 = .ok (.iconst 0, 1) := by decide +kernel
theorem dL_isSo_379 : decode cL_isSo 379 = .ok (.istore 13, 2) := by decide +kernel
theorem dL_isSo_381 : decode cL_isSo 381 = .ok (.iconst 0, 1) := by decide +kernel
theorem dL_isSo_382 : decode cL_isSo 382 = .ok (.istore 14, 2) := by decide +kernel
theorem dL_isSo_384 : decode cL_isSo 384 = .ok (.iload 14, 2) := by decide +kernel
theorem dL_isSo_386 : decode cL_isSo 386 = .ok (.aload_n 2, 1) := by decide +kernel
theorem dL_isSo_387 : decode cL_isSo 387 = .ok (.iconst 1, 1) := by decide +kernel
theorem dL_isSo_388 : decode cL_isSo 388 = .ok (.iaload, 1) := by decide +kernel
theorem dL_isSo_389 : decode cL_isSo 389 = .ok (.if_icmp .ge 42, 3) := by decide +kernel
theorem dL_isSo_392 : decode cL_isSo 392 = .ok (.aload 6, 2) := by decide +kernel
theorem dL_isSo_394 : decode cL_isSo 394 = .ok (.iconst 5, 1) := by decide +kernel
theorem dL_isSo_395 : decode cL_isSo 395 = .ok (.iload 14, 2) := by decide +kernel
theorem dL_isSo_397 : decode cL_isSo 397 = .ok (.imul, 1) := by decide +kernel
theorem dL_isSo_398 : decode cL_isSo 398 = .ok (.iaload, 1) := by decide +kernel
theorem dL_isSo_399 : decode cL_isSo 399 = .ok (.iload 10, 2) := by decide +kernel
theorem dL_isSo_401 : decode cL_isSo 401 = .ok (.if_icmp .ne 20, 3) := by decide +kernel
theorem dL_isSo_404 : decode cL_isSo 404 = .ok (.iload 14, 2) := by decide +kernel
theorem dL_isSo_406 : decode cL_isSo 406 = .ok (.iload 12, 2) := by decide +kernel
theorem dL_isSo_408 : decode cL_isSo 408 = .ok (.aload 6, 2) := by decide +kernel
theorem dL_isSo_410 : decode cL_isSo 410 = .ok (.invokestatic 119, 3) := by decide +kernel
theorem dL_isSo_413 : decode cL_isSo 413 = .ok (.iconst 1, 1) := by decide +kernel
theorem dL_isSo_414 : decode cL_isSo 414 = .ok (.if_icmp .ne 7, 3) := by decide +kernel
theorem dL_isSo_417 : decode cL_isSo 417 = .ok (.iconst 1, 1) := by decide +kernel
theorem dL_isSo_418 : decode cL_isSo 418 = .ok (.goto 5, 3) := by decide +kernel
theorem dL_isSo_421 : decode cL_isSo 421 = .ok (.iload 13, 2) := by decide +kernel
theorem dL_isSo_423 : decode cL_isSo 423 = .ok (.istore 13, 2) := by decide +kernel
theorem dL_isSo_425 : decode cL_isSo 425 = .ok (.iinc 14 1, 3) := by decide +kernel
theorem dL_isSo_428 : decode cL_isSo 428 = .ok (.goto (-44), 3) := by decide +kernel
theorem dL_isSo_431 : decode cL_isSo 431 = .ok (.iload 11, 2) := by decide +kernel
theorem dL_isSo_433 : decode cL_isSo 433 = .ok (.iload 13, 2) := by decide +kernel
theorem dL_isSo_435 : decode cL_isSo 435 = .ok (.iload 12, 2) := by decide +kernel
theorem dL_isSo_437 : decode cL_isSo 437 = .ok (.aload 7, 2) := by decide +kernel
theorem dL_isSo_439 : decode cL_isSo 439 = .ok (.invokestatic 137, 3) := by decide +kernel
theorem dL_isSo_442 : decode cL_isSo 442 = .ok (.imul, 1) := by decide +kernel
theorem dL_isSo_443 : decode cL_isSo 443 = .ok (.iadd, 1) := by decide +kernel
theorem dL_isSo_444 : decode cL_isSo 444 = .ok (.istore 11, 2) := by decide +kernel
theorem dL_isSo_446 : decode cL_isSo 446 = .ok (.iinc 12 1, 3) := by decide +kernel
theorem dL_isSo_449 : decode cL_isSo 449 = .ok (.goto (-79), 3) := by decide +kernel
theorem dL_isSo_452 : decode cL_isSo 452 = .ok (.bipush 6, 2) := by decide +kernel
theorem dL_isSo_454 : decode cL_isSo 454 = .ok (.iload 10, 2) := by decide +kernel
theorem dL_isSo_456 : decode cL_isSo 456 = .ok (.imul, 1) := by decide +kernel
theorem dL_isSo_457 : decode cL_isSo 457 = .ok (.istore 12, 2) := by decide +kernel
theorem dL_isSo_459 : decode cL_isSo 459 = .ok (.aload 8, 2) := by decide +kernel
theorem dL_isSo_461 : decode cL_isSo 461 = .ok (.iload 12, 2) := by decide +kernel
theorem dL_isSo_463 : decode cL_isSo 463 = .ok (.iconst 4, 1) := by decide +kernel
theorem dL_isSo_464 : decode cL_isSo 464 = .ok (.iadd, 1) := by decide +kernel
theorem dL_isSo_465 : decode cL_isSo 465 = .ok (.iaload, 1) := by decide +kernel
theorem dL_isSo_466 : decode cL_isSo 466 = .ok (.iconst 1, 1) := by decide +kernel
theorem dL_isSo_467 : decode cL_isSo 467 = .ok (.iand, 1) := by decide +kernel
theorem dL_isSo_468 : decode cL_isSo 468 = .ok (.aload 8, 2) := by decide +kernel
theorem dL_isSo_470 : decode cL_isSo 470 = .ok (.iload 12, 2) := by decide +kernel
theorem dL_isSo_472 : decode cL_isSo 472 = .ok (.iconst 4, 1) := by decide +kernel
theorem dL_isSo_473 : decode cL_isSo 473 = .ok (.iadd, 1) := by decide +kernel
theorem dL_isSo_474 : decode cL_isSo 474 = .ok (.iaload, 1) := by decide +kernel
theorem dL_isSo_475 : decode cL_isSo 475 = .ok (.iconst 1, 1) := by decide +kernel
theorem dL_isSo_476 : decode cL_isSo 476 = .ok (.ishr, 1) := by decide +kernel
theorem dL_isSo_477 : decode cL_isSo 477 = .ok (.iconst 1, 1) := by decide +kernel
theorem dL_isSo_478 : decode cL_isSo 478 = .ok (.iand, 1) := by decide +kernel
theorem dL_isSo_479 : decode cL_isSo 479 = .ok (.iadd, 1) := by decide +kernel
theorem dL_isSo_480 : decode cL_isSo 480 = .ok (.aload 8, 2) := by decide +kernel
theorem dL_isSo_482 : decode cL_isSo 482 = .ok (.iload 12, 2) := by decide +kernel
theorem dL_isSo_484 : decode cL_isSo 484 = .ok (.iconst 4, 1) := by decide +kernel
theorem dL_isSo_485 : decode cL_isSo 485 = .ok (.iadd, 1) := by decide +kernel
theorem dL_isSo_486 : decode cL_isSo 486 = .ok (.iaload, 1) := by decide +kernel
theorem dL_isSo_487 : decode cL_isSo 487 = .ok (.iconst 2, 1) := by decide +kernel
theorem dL_isSo_488 : decode cL_isSo 488 = .ok (.ishr, 1) := by decide +kernel
theorem dL_isSo_489 : decode cL_isSo 489 = .ok (.iadd, 1) := by decide +kernel
theorem dL_isSo_490 : decode cL_isSo 490 = .ok (.istore 13, 2) := by decide +kernel
theorem dL_isSo_492 : decode cL_isSo 492 = .ok (.aload_n 0, 1) := by decide +kernel
theorem dL_isSo_493 : decode cL_isSo 493 = .ok (.iload 10, 2) := by decide +kernel
theorem dL_isSo_495 : decode cL_isSo 495 = .ok (.invokevirtual 143, 3) := by decide +kernel
theorem dL_isSo_498 : decode cL_isSo 498 = .ok (.iload 11, 2) := by decide +kernel
theorem dL_isSo_500 : decode cL_isSo 500 = .ok (.if_icmp .ne 92, 3) := by decide +kernel
theorem dL_isSo_503 : decode cL_isSo 503 = .ok (.aload_n 0, 1) := by decide +kernel
theorem dL_isSo_504 : decode cL_isSo 504 = .ok (.iload 10, 2) := by decide +kernel
theorem dL_isSo_506 : decode cL_isSo 506 = .ok (.invokevirtual 146, 3) := by decide +kernel
theorem dL_isSo_509 : decode cL_isSo 509 = .ok (.aload 8, 2) := by decide +kernel
theorem dL_isSo_511 : decode cL_isSo 511 = .ok (.iload 12, 2) := by decide +kernel
theorem dL_isSo_513 : decode cL_isSo 513 = .ok (.iaload, 1) := by decide +kernel
theorem dL_isSo_514 : decode cL_isSo 514 = .ok (.if_icmp .ne 78, 3) := by decide +kernel
theorem dL_isSo_517 : decode cL_isSo 517 = .ok (.aload_n 0, 1) := by decide +kernel
theorem dL_isSo_518 : decode cL_isSo 518 = .ok (.iload 10, 2) := by decide +kernel
theorem dL_isSo_520 : decode cL_isSo 520 = .ok (.invokevirtual 149, 3) := by decide +kernel
theorem dL_isSo_523 : decode cL_isSo 523 = .ok (.aload 8, 2) := by decide +kernel
theorem dL_isSo_525 : decode cL_isSo 525 = .ok (.iload 12, 2) := by decide +kernel
theorem dL_isSo_527 : decode cL_isSo 527 = .ok (.iaload, 1) := by decide +kernel
theorem dL_isSo_528 : decode cL_isSo 528 = .ok (.ifCond .ne 7, 3) := by decide +kernel
theorem dL_isSo_531 : decode cL_isSo 531 = .ok (.iconst (-1), 1) := by decide +kernel
theorem dL_isSo_532 : decode cL_isSo 532 = .ok (.goto 10, 3) := by decide +kernel
theorem dL_isSo_535 : decode cL_isSo 535 = .ok (.aload 8, 2) := by decide +kernel
theorem dL_isSo_537 : decode cL_isSo 537 = .ok (.iload 12, 2) := by decide +kernel
theorem dL_isSo_539 : decode cL_isSo 539 = .ok (.iconst 2, 1) := by decide +kernel
theorem dL_isSo_540 : decode cL_isSo 540 = .ok (.iadd, 1) := by decide +kernel
theorem dL_isSo_541 : decode cL_isSo 541 = .ok (.iaload, 1) := by decide +kernel
theorem dL_isSo_542 : decode cL_isSo 542 = .ok (.if_icmp .ne 50, 3) := by decide +kernel
theorem dL_isSo_545 : decode cL_isSo 545 = .ok (.aload_n 0, 1) := by decide +kernel
theorem dL_isSo_546 : decode cL_isSo 546 = .ok (.iload 10, 2) := by decide +kernel
theorem dL_isSo_548 : decode cL_isSo 548 = .ok (.invokevirtual 152, 3) := by decide +kernel
theorem dL_isSo_551 : decode cL_isSo 551 = .ok (.aload 8, 2) := by decide +kernel
theorem dL_isSo_553 : decode cL_isSo 553 = .ok (.iload 12, 2) := by decide +kernel
theorem dL_isSo_555 : decode cL_isSo 555 = .ok (.iconst 3, 1) := by decide +kernel
theorem dL_isSo_556 : decode cL_isSo 556 = .ok (.iadd, 1) := by decide +kernel
theorem dL_isSo_557 : decode cL_isSo 557 = .ok (.iaload, 1) := by decide +kernel
theorem dL_isSo_558 : decode cL_isSo 558 = .ok (.if_icmp .ne 34, 3) := by decide +kernel
theorem dL_isSo_561 : decode cL_isSo 561 = .ok (.aload_n 0, 1) := by decide +kernel
theorem dL_isSo_562 : decode cL_isSo 562 = .ok (.iload 10, 2) := by decide +kernel
theorem dL_isSo_564 : decode cL_isSo 564 = .ok (.invokevirtual 155, 3) := by decide +kernel
theorem dL_isSo_567 : decode cL_isSo 567 = .ok (.iload 13, 2) := by decide +kernel
theorem dL_isSo_569 : decode cL_isSo 569 = .ok (.if_icmp .ne 23, 3) := by decide +kernel
theorem dL_isSo_572 : decode cL_isSo 572 = .ok (.aload_n 0, 1) := by decide +kernel
theorem dL_isSo_573 : decode cL_isSo 573 = .ok (.iload 10, 2) := by decide +kernel
theorem dL_isSo_575 : decode cL_isSo 575 = .ok (.invokevirtual 157, 3) := by decide +kernel
theorem dL_isSo_578 : decode cL_isSo 578 = .ok (.aload 8, 2) := by decide +kernel
theorem dL_isSo_580 : decode cL_isSo 580 = .ok (.iload 12, 2) := by decide +kernel
theorem dL_isSo_582 : decode cL_isSo 582 = .ok (.iconst 5, 1) := by decide +kernel
theorem dL_isSo_583 : decode cL_isSo 583 = .ok (.iadd, 1) := by decide +kernel
theorem dL_isSo_584 : decode cL_isSo 584 = .ok (.iaload, 1) := by decide +kernel
theorem dL_isSo_585 : decode cL_isSo 585 = .ok (.if_icmp .ne 7, 3) := by decide +kernel
theorem dL_isSo_588 : decode cL_isSo 588 = .ok (.iconst 1, 1) := by decide +kernel
theorem dL_isSo_589 : decode cL_isSo 589 = .ok (.goto 4, 3) := by decide +kernel
theorem dL_isSo_592 : decode cL_isSo 592 = .ok (.iconst 0, 1) := by decide +kernel
theorem dL_isSo_593 : decode cL_isSo 593 = .ok (.istore 9, 2) := by decide +kernel
theorem dL_isSo_595 : decode cL_isSo 595 = .ok (.iinc 10 1, 3) := by decide +kernel
theorem dL_isSo_598 : decode cL_isSo 598 = .ok (.goto (-245), 3) := by decide +kernel
theorem dL_isSo_601 : decode cL_isSo 601 = .ok (.iload 9, 2) := by decide +kernel
theorem dL_isSo_603 : decode cL_isSo 603 = .ok (.ireturn, 1) := by decide +kernel
set_option maxRecDepth 20000 in
theorem ggL_tells_X7_reach : GoodIn wsL_tells wsX7_reach := goodIn_ca (goodIn_r _ [5, 6, 7, 8, 9, 4, 10, 11, 12, 13, 14, 15, 16, 17, 18, 19, 20, 21, 22, 23, 24, 25, 26, 27, 28, 29, 30, 31, 32, 33, 34, 35, 36, 37, 38, 39, 40, 41, 42, 43, 44, 45, 46, 47, 48, 49, 50, 51, 52, 53, 54, 55, 56, 57, 58, 59, 60, 61, 62, 63, 64, 65, 66, 67, 68, 69, 70, 71, 72, 73, 74, 75, 76, 77, 78, 79, 80, 81, 82, 83, 84, 85, 86, 87, 88, 89, 90, 91, 92, 93, 94, 95, 96, 97, 98, 99, 100, 101, 102, 103, 104, 105, 106, 107, 108, 109, 110, 111, 112, 113, 136, 137, 138, 139, 140, 141, 142, 143, 144, 145, 146, 147, 148, 149, 150, 151, 152, 153, 154, 155, 156, 157, 158, 159, 160, 161, 162, 163] (by decide +kernel) (by decide +kernel)) (goodIn_sub (fun _ h => List.mem_cons_of_mem _ (List.mem_append_left _ (List.mem_append_right _ h))) (by decide +kernel))
set_option maxRecDepth 20000 in
theorem gL_tells_X7_reach : GoodIn wsL_tells (wsV RL 160 RX7 yX7_reach wsX7_reach) := goodIn_app (goodIn_of _ (by decide +kernel)) ggL_tells_X7_reach
set_option maxRecDepth 20000 in
theorem ggL_tells_X7_farthest : GoodIn wsL_tells wsX7_farthest := goodIn_ca (goodIn_r _ [117, 6, 7, 8, 9, 4, 10, 11, 12, 13, 14, 15, 16, 17, 18, 19, 20, 21, 22, 23, 24, 25, 26, 27, 28, 29, 30, 31, 32, 33, 34, 35, 36, 37, 38, 39, 40, 41, 42, 43, 44, 45, 46, 47, 48, 49, 50, 51, 52, 53, 54, 55, 56, 57, 58, 59, 60, 61, 62, 63, 64, 65, 66, 67, 68, 69, 70, 71, 72, 73, 74, 75, 76, 77, 78, 79, 80, 81, 82, 83, 84, 85, 86, 87, 88, 89, 90, 91, 92, 93, 94, 95, 96, 97, 98, 99, 100, 101, 102, 103, 104, 105, 106, 107, 108, 109, 118, 119, 120, 121, 136, 137, 138, 139, 140, 141, 142, 143, 144, 145, 146, 147, 148, 149, 150, 151, 152, 153, 154, 155, 156, 157, 158, 159, 160, 161, 162, 163] (by decide +kernel) (by decide +kernel)) (goodIn_sub (fun _ h => List.mem_cons_of_mem _ (List.mem_append_left _ (List.mem_append_right _ h))) (by decide +kernel))
set_option maxRecDepth 20000 in
theorem gL_tells_X7_farthest : GoodIn wsL_tells (wsV RL 163 RX7 yX7_farthest wsX7_farthest) := goodIn_app (goodIn_of _ (by decide +kernel)) ggL_tells_X7_farthest
set_option maxRecDepth 20000 in
theorem ggL_tells_X7_shortest : GoodIn wsL_tells wsX7_shortest := goodIn_ca (goodIn_ca (goodIn_r _ [125, 126, 127, 6, 7, 8, 9, 4, 10, 11, 12, 13, 128, 129, 130, 17, 131, 19, 20, 22, 23, 24, 25, 26, 21, 27, 28, 29, 30, 31, 32, 33, 34, 35, 36, 37, 38, 39, 40, 41, 42, 43, 44, 45, 46, 47, 48, 49, 50, 51, 52, 53, 58, 59, 60, 61, 67, 68, 69, 70, 71, 72, 73, 74, 75, 132, 133, 134, 135, 80, 81, 82, 83, 92, 93, 94, 95, 96, 85, 86, 87, 88, 89, 90, 91, 97, 98, 99, 100, 101, 102, 103, 104, 105, 106, 107, 108, 109, 136, 137, 138, 139, 140, 141, 142, 143, 144, 145, 146, 147, 148, 149, 150, 151, 152, 153, 154, 155, 156, 157, 158, 159, 160, 161, 162, 163] (by decide +kernel) (by decide +kernel)) (goodIn_sub (fun _ h => List.mem_cons_of_mem _ (List.mem_append_right _ h)) (by decide +kernel))) (goodIn_sub (fun _ h => List.mem_cons_of_mem _ (List.mem_append_left _ (List.mem_append_right _ h))) (by decide +kernel))
set_option maxRecDepth 20000 in
theorem gL_tells_X7_shortest : GoodIn wsL_tells (wsV RL 166 RX7 yX7_shortest wsX7_shortest) := goodIn_app (goodIn_of _ (by decide +kernel)) ggL_tells_X7_shortest
theorem dL_tells_0 : decode cL_tells 0 = .ok (.iconst 0, 1) := by decide +kernel
theorem dL_tells_1 : decode cL_tells 1 = .ok (.istore 5, 2) := by decide +kernel
theorem dL_tells_3 : decode cL_tells 3 = .ok (.iconst (-1), 1) := by decide +kernel
theorem dL_tells_4 : decode cL_tells 4 = .ok (.istore 6, 2) := by decide +kernel
theorem dL_tells_6 : decode cL_tells 6 = .ok (.iconst 0, 1) := by decide +kernel
theorem dL_tells_7 : decode cL_tells 7 = .ok (.istore 7, 2) := by decide +kernel
theorem dL_tells_9 : decode cL_tells 9 = .ok (.iload 7, 2) := by decide +kernel
theorem dL_tells_11 : decode cL_tells 11 = .ok (.bipush 96, 2) := by decide +kernel
theorem dL_tells_13 : decode cL_tells 13 = .ok (.if_icmp .ge 84, 3) := by decide +kernel
theorem dL_tells_16 : decode cL_tells 16 = .ok (.aload 4, 2) := by decide +kernel
theorem dL_tells_18 : decode cL_tells 18 = .ok (.iload 7, 2) := by decide +kernel
theorem dL_tells_20 : decode cL_tells 20 = .ok (.bipush 48, 2) := by decide +kernel
theorem dL_tells_22 : decode cL_tells 22 = .ok (.idiv, 1) := by decide +kernel
theorem dL_tells_23 : decode cL_tells 23 = .ok (.laload, 1) := by decide +kernel
theorem dL_tells_24 : decode cL_tells 24 = .ok (.iload 7, 2) := by decide +kernel
theorem dL_tells_26 : decode cL_tells 26 = .ok (.bipush 48, 2) := by decide +kernel
theorem dL_tells_28 : decode cL_tells 28 = .ok (.irem, 1) := by decide +kernel
theorem dL_tells_29 : decode cL_tells 29 = .ok (.lshr, 1) := by decide +kernel
theorem dL_tells_30 : decode cL_tells 30 = .ok (.lconst 1, 1) := by decide +kernel
theorem dL_tells_31 : decode cL_tells 31 = .ok (.land, 1) := by decide +kernel
theorem dL_tells_32 : decode cL_tells 32 = .ok (.lconst 1, 1) := by decide +kernel
theorem dL_tells_33 : decode cL_tells 33 = .ok (.lcmp, 1) := by decide +kernel
theorem dL_tells_34 : decode cL_tells 34 = .ok (.ifCond .ne 7, 3) := by decide +kernel
theorem dL_tells_37 : decode cL_tells 37 = .ok (.iconst 1, 1) := by decide +kernel
theorem dL_tells_38 : decode cL_tells 38 = .ok (.goto 4, 3) := by decide +kernel
theorem dL_tells_41 : decode cL_tells 41 = .ok (.iconst 0, 1) := by decide +kernel
theorem dL_tells_42 : decode cL_tells 42 = .ok (.istore 8, 2) := by decide +kernel
theorem dL_tells_44 : decode cL_tells 44 = .ok (.iload 5, 2) := by decide +kernel
theorem dL_tells_46 : decode cL_tells 46 = .ok (.iload 8, 2) := by decide +kernel
theorem dL_tells_48 : decode cL_tells 48 = .ok (.ifCond .eq 7, 3) := by decide +kernel
theorem dL_tells_51 : decode cL_tells 51 = .ok (.iconst 1, 1) := by decide +kernel
theorem dL_tells_52 : decode cL_tells 52 = .ok (.goto 4, 3) := by decide +kernel
theorem dL_tells_55 : decode cL_tells 55 = .ok (.iconst 0, 1) := by decide +kernel
theorem dL_tells_56 : decode cL_tells 56 = .ok (.iadd, 1) := by decide +kernel
theorem dL_tells_57 : decode cL_tells 57 = .ok (.istore 5, 2) := by decide +kernel
theorem dL_tells_59 : decode cL_tells 59 = .ok (.iload 8, 2) := by decide +kernel
theorem dL_tells_61 : decode cL_tells 61 = .ok (.ifCond .eq 26, 3) := by decide +kernel
theorem dL_tells_64 : decode cL_tells 64 = .ok (.iload 6, 2) := by decide +kernel
theorem dL_tells_66 : decode cL_tells 66 = .ok (.ifCond .lt 16, 3) := by decide +kernel
theorem dL_tells_69 : decode cL_tells 69 = .ok (.iload 7, 2) := by decide +kernel
theorem dL_tells_71 : decode cL_tells 71 = .ok (.bipush 12, 2) := by decide +kernel
theorem dL_tells_73 : decode cL_tells 73 = .ok (.irem, 1) := by decide +kernel
theorem dL_tells_74 : decode cL_tells 74 = .ok (.iload 6, 2) := by decide +kernel
theorem dL_tells_76 : decode cL_tells 76 = .ok (.bipush 12, 2) := by decide +kernel
theorem dL_tells_78 : decode cL_tells 78 = .ok (.irem, 1) := by decide +kernel
theorem dL_tells_79 : decode cL_tells 79 = .ok (.if_icmp .le 8, 3) := by decide +kernel
theorem dL_tells_82 : decode cL_tells 82 = .ok (.iload 7, 2) := by decide +kernel
theorem dL_tells_84 : decode cL_tells 84 = .ok (.goto 5, 3) := by decide +kernel
theorem dL_tells_87 : decode cL_tells 87 = .ok (.iload 6, 2) := by decide +kernel
theorem dL_tells_89 : decode cL_tells 89 = .ok (.istore 6, 2) := by decide +kernel
theorem dL_tells_91 : decode cL_tells 91 = .ok (.iinc 7 1, 3) := by decide +kernel
theorem dL_tells_94 : decode cL_tells 94 = .ok (.goto (-85), 3) := by decide +kernel
theorem dL_tells_97 : decode cL_tells 97 = .ok (.aload_n 0, 1) := by decide +kernel
theorem dL_tells_98 : decode cL_tells 98 = .ok (.iload_n 1, 1) := by decide +kernel
theorem dL_tells_99 : decode cL_tells 99 = .ok (.invokevirtual 160, 3) := by decide +kernel
theorem dL_tells_102 : decode cL_tells 102 = .ok (.iload 5, 2) := by decide +kernel
theorem dL_tells_104 : decode cL_tells 104 = .ok (.if_icmp .ne 36, 3) := by decide +kernel
theorem dL_tells_107 : decode cL_tells 107 = .ok (.aload_n 0, 1) := by decide +kernel
theorem dL_tells_108 : decode cL_tells 108 = .ok (.iload_n 1, 1) := by decide +kernel
theorem dL_tells_109 : decode cL_tells 109 = .ok (.invokevirtual 163, 3) := by decide +kernel
theorem dL_tells_112 : decode cL_tells 112 = .ok (.iload 6, 2) := by decide +kernel
theorem dL_tells_114 : decode cL_tells 114 = .ok (.if_icmp .ne 26, 3) := by decide +kernel
theorem dL_tells_117 : decode cL_tells 117 = .ok (.aload_n 0, 1) := by decide +kernel
theorem dL_tells_118 : decode cL_tells 118 = .ok (.iload_n 1, 1) := by decide +kernel
theorem dL_tells_119 : decode cL_tells 119 = .ok (.iload_n 2, 1) := by decide +kernel
theorem dL_tells_120 : decode cL_tells 120 = .ok (.invokevirtual 166, 3) := by decide +kernel
theorem dL_tells_123 : decode cL_tells 123 = .ok (.iload_n 3, 1) := by decide +kernel
theorem dL_tells_124 : decode cL_tells 124 = .ok (.iload_n 2, 1) := by decide +kernel
theorem dL_tells_125 : decode cL_tells 125 = .ok (.if_icmp .gt 7, 3) := by decide +kernel
theorem dL_tells_128 : decode cL_tells 128 = .ok (.iload_n 3, 1) := by decide +kernel
theorem dL_tells_129 : decode cL_tells 129 = .ok (.goto 4, 3) := by decide +kernel
theorem dL_tells_132 : decode cL_tells 132 = .ok (.iconst (-1), 1) := by decide +kernel
theorem dL_tells_133 : decode cL_tells 133 = .ok (.if_icmp .ne 7, 3) := by decide +kernel
theorem dL_tells_136 : decode cL_tells 136 = .ok (.iconst 1, 1) := by decide +kernel
theorem dL_tells_137 : decode cL_tells 137 = .ok (.goto 4, 3) := by decide +kernel
theorem dL_tells_140 : decode cL_tells 140 = .ok (.iconst 0, 1) := by decide +kernel
theorem dL_tells_141 : decode cL_tells 141 = .ok (.ireturn, 1) := by decide +kernel

