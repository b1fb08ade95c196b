set_option maxRecDepth 20000 in
theorem wl_r1 : ∀ w ∈ wsL_law0_r1, w ∈ lw_tbl := fun w h => (goodIn_p wsL_law0_r1 [63, 66] (by decide +kernel) (by decide +kernel) w h).1

set_option maxRecDepth 20000 in
theorem wl_r2 : ∀ w ∈ wsL_law0_r2, w ∈ lw_tbl := fun w h => (goodIn_p wsL_law0_r2 [77, 83] (by decide +kernel) (by decide +kernel) w h).1

set_option maxRecDepth 20000 in
theorem wl_r3 : ∀ w ∈ wsL_law0_r3, w ∈ lw_tbl := fun w h => (goodIn_p wsL_law0_r3 [135, 887] (by decide +kernel) (by decide +kernel) w h).1

set_option maxRecDepth 20000 in
theorem wl_r4 : ∀ w ∈ wsL_law0_r4, w ∈ lw_tbl := fun w h => (goodIn_p wsL_law0_r4 [] (by decide +kernel) (by decide +kernel) w h).1

set_option maxRecDepth 20000 in
theorem wl_r5 : ∀ w ∈ wsL_law0_r5, w ∈ lw_tbl := fun w h => (goodIn_p wsL_law0_r5 [194, 197, 269] (by decide +kernel) (by decide +kernel) w h).1

set_option maxRecDepth 20000 in
theorem wl_r6 : ∀ w ∈ wsL_law0_r6, w ∈ lw_tbl := fun w h => (goodIn_p wsL_law0_r6 [289, 295, 312] (by decide +kernel) (by decide +kernel) w h).1

set_option maxRecDepth 20000 in
theorem wl_r7 : ∀ w ∈ wsL_law0_r7, w ∈ lw_tbl := fun w h => (goodIn_p wsL_law0_r7 [363, 366, 370, 1011] (by decide +kernel) (by decide +kernel) w h).1

set_option maxRecDepth 20000 in
theorem wl_r8 : ∀ w ∈ wsL_law0_r8, w ∈ lw_tbl := fun w h => (goodIn_p wsL_law0_r8 [1014, 1017, 1021, 1025, 1007, 378] (by decide +kernel) (by decide +kernel) w h).1

set_option maxRecDepth 20000 in
theorem wl_r9 : ∀ w ∈ wsL_law0_r9, w ∈ lw_tbl := fun w h => (goodIn_p wsL_law0_r9 [382, 386, 408, 412, 415] (by decide +kernel) (by decide +kernel) w h).1

set_option maxRecDepth 20000 in
theorem wl_r10 : ∀ w ∈ wsL_law0_r10, w ∈ lw_tbl := fun w h => (goodIn_p wsL_law0_r10 [423, 427, 431, 1029, 1033] (by decide +kernel) (by decide +kernel) w h).1

set_option maxRecDepth 20000 in
theorem wl_r11 : ∀ w ∈ wsL_law0_r11, w ∈ lw_tbl := fun w h => (goodIn_p wsL_law0_r11 [1036, 1040, 1044, 439, 1048] (by decide +kernel) (by decide +kernel) w h).1

set_option maxRecDepth 20000 in
theorem wl_r12 : ∀ w ∈ wsL_law0_r12, w ∈ lw_tbl := fun w h => (goodIn_p wsL_law0_r12 [446, 451, 455, 459, 463, 1052] (by decide +kernel) (by decide +kernel) w h).1

set_option maxRecDepth 20000 in
theorem wl_r13 : ∀ w ∈ wsL_law0_r13, w ∈ lw_tbl := fun w h => (goodIn_p wsL_law0_r13 [470, 475, 479, 1056] (by decide +kernel) (by decide +kernel) w h).1

set_option maxRecDepth 20000 in
theorem wl_r14 : ∀ w ∈ wsL_law0_r14, w ∈ lw_tbl := fun w h => (goodIn_p wsL_law0_r14 [486, 489, 495, 500, 504, 508, 512] (by decide +kernel) (by decide +kernel) w h).1

set_option maxRecDepth 20000 in
theorem wl_r15 : ∀ w ∈ wsL_law0_r15, w ∈ lw_tbl := fun w h => (goodIn_p wsL_law0_r15 [516, 522, 526, 531, 535] (by decide +kernel) (by decide +kernel) w h).1

set_option maxRecDepth 20000 in
theorem wl_r16 : ∀ w ∈ wsL_law0_r16, w ∈ lw_tbl := fun w h => (goodIn_p wsL_law0_r16 [539, 543, 547, 551, 555, 559] (by decide +kernel) (by decide +kernel) w h).1

set_option maxRecDepth 20000 in
theorem wl_r17 : ∀ w ∈ wsL_law0_r17, w ∈ lw_tbl := fun w h => (goodIn_p wsL_law0_r17 [563, 568, 572, 576, 580, 584] (by decide +kernel) (by decide +kernel) w h).1

set_option maxRecDepth 20000 in
theorem wl_r18 : ∀ w ∈ wsL_law0_r18, w ∈ lw_tbl := fun w h => (goodIn_p wsL_law0_r18 [588, 1060, 1064, 1068, 1072, 1076] (by decide +kernel) (by decide +kernel) w h).1

set_option maxRecDepth 20000 in
theorem wl_r19 : ∀ w ∈ wsL_law0_r19, w ∈ lw_tbl := fun w h => (goodIn_p wsL_law0_r19 [1080, 1084, 1088, 1092, 1096] (by decide +kernel) (by decide +kernel) w h).1

set_option maxRecDepth 20000 in
theorem wl_r20 : ∀ w ∈ wsL_law0_r20, w ∈ lw_tbl := fun w h => (goodIn_p wsL_law0_r20 [1100, 595, 1104, 602] (by decide +kernel) (by decide +kernel) w h).1

set_option maxRecDepth 20000 in
theorem wl_r21 : ∀ w ∈ wsL_law0_r21, w ∈ lw_tbl := fun w h => (goodIn_p wsL_law0_r21 [608, 615, 1108] (by decide +kernel) (by decide +kernel) w h).1

set_option maxRecDepth 20000 in
theorem wl_r22 : ∀ w ∈ wsL_law0_r22, w ∈ lw_tbl := fun w h => (goodIn_p wsL_law0_r22 [659, 662, 1112, 1116] (by decide +kernel) (by decide +kernel) w h).1

set_option maxRecDepth 20000 in
theorem wl_r23 : ∀ w ∈ wsL_law0_r23, w ∈ lw_tbl := fun w h => (goodIn_p wsL_law0_r23 [671, 1120, 680, 684, 689] (by decide +kernel) (by decide +kernel) w h).1

set_option maxRecDepth 20000 in
theorem wl_r24 : ∀ w ∈ wsL_law0_r24, w ∈ lw_tbl := fun w h => (goodIn_p wsL_law0_r24 [693, 697, 1124, 1128, 704, 711] (by decide +kernel) (by decide +kernel) w h).1

set_option maxRecDepth 20000 in
theorem wl_r25 : ∀ w ∈ wsL_law0_r25, w ∈ lw_tbl := fun w h => (goodIn_p wsL_law0_r25 [1132, 181, 1136, 719, 1140] (by decide +kernel) (by decide +kernel) w h).1

set_option maxRecDepth 20000 in
theorem wl_r26 : ∀ w ∈ wsL_law0_r26, w ∈ lw_tbl := fun w h => (goodIn_p wsL_law0_r26 [726, 1144, 733, 1148] (by decide +kernel) (by decide +kernel) w h).1

set_option maxRecDepth 20000 in
theorem wl_r27 : ∀ w ∈ wsL_law0_r27, w ∈ lw_tbl := fun w h => (goodIn_p wsL_law0_r27 [740, 1152, 747, 752, 756] (by decide +kernel) (by decide +kernel) w h).1

set_option maxRecDepth 20000 in
theorem wl_r28 : ∀ w ∈ wsL_law0_r28, w ∈ lw_tbl := fun w h => (goodIn_p wsL_law0_r28 [1156, 763, 767, 1160] (by decide +kernel) (by decide +kernel) w h).1

set_option maxRecDepth 20000 in
theorem wl_r29 : ∀ w ∈ wsL_law0_r29, w ∈ lw_tbl := fun w h => (goodIn_p wsL_law0_r29 [774, 778, 1164, 785, 1168] (by decide +kernel) (by decide +kernel) w h).1

set_option maxRecDepth 20000 in
theorem wl_r30 : ∀ w ∈ wsL_law0_r30, w ∈ lw_tbl := fun w h => (goodIn_p wsL_law0_r30 [185, 1172, 792, 1176, 799] (by decide +kernel) (by decide +kernel) w h).1

set_option maxRecDepth 20000 in
theorem wl_r31 : ∀ w ∈ wsL_law0_r31, w ∈ lw_tbl := fun w h => (goodIn_p wsL_law0_r31 [1180, 806, 1184, 813] (by decide +kernel) (by decide +kernel) w h).1

set_option maxRecDepth 20000 in
theorem wl_r32 : ∀ w ∈ wsL_law0_r32, w ∈ lw_tbl := fun w h => (goodIn_p wsL_law0_r32 [817, 1188, 1192, 824, 828, 1196] (by decide +kernel) (by decide +kernel) w h).1

set_option maxRecDepth 20000 in
theorem wl_r33 : ∀ w ∈ wsL_law0_r33, w ∈ lw_tbl := fun w h => (goodIn_p wsL_law0_r33 [1200, 835, 839, 1204] (by decide +kernel) (by decide +kernel) w h).1

set_option maxRecDepth 20000 in
theorem wl_r34 : ∀ w ∈ wsL_law0_r34, w ∈ lw_tbl := fun w h => (goodIn_p wsL_law0_r34 [846, 1208, 853, 1212, 860] (by decide +kernel) (by decide +kernel) w h).1

set_option maxRecDepth 20000 in
theorem wl_r35 : ∀ w ∈ wsL_law0_r35, w ∈ lw_tbl := fun w h => (goodIn_p wsL_law0_r35 [1216, 867, 1220, 874] (by decide +kernel) (by decide +kernel) w h).1

set_option maxRecDepth 20000 in
theorem wl_r36 : ∀ w ∈ wsL_law0_r36, w ∈ lw_tbl := fun w h => (goodIn_p wsL_law0_r36 [1224, 882, 1228] (by decide +kernel) (by decide +kernel) w h).1

