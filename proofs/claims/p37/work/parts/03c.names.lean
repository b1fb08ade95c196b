set_option maxRecDepth 20000 in
theorem ggX7_init_X5_init : GoodIn wsX7_init wsX5_init := goodIn_r _ [22, 23, 2, 3, 4, 24, 25, 26, 27, 28, 29, 30, 31, 32, 33, 34, 35, 36, 37, 38, 39, 40, 41, 42, 43, 61, 62, 63, 64, 65, 66, 67, 72, 73, 74, 75, 76] (by decide +kernel) (by decide +kernel)
set_option maxRecDepth 20000 in
theorem gX7_init_X5_init : GoodIn wsX7_init (wsX5_init) := ggX7_init_X5_init
set_option maxRecDepth 20000 in
theorem ggX7_init_X4_init : GoodIn wsX7_init wsX4_init := goodIn_r _ [46, 47, 2, 3, 48, 49, 50, 51, 32, 33, 52, 53, 36, 37, 38, 39, 40, 41, 42, 43, 68, 69, 70, 71, 72, 73, 74, 75, 76] (by decide +kernel) (by decide +kernel)
set_option maxRecDepth 20000 in
theorem gX7_init_X4_init : GoodIn wsX7_init (wsX4_init) := ggX7_init_X4_init
theorem dX7_init_0 : decode cX7_init 0 = .ok (.aload_n 0, 1) := by decide +kernel
theorem dX7_init_1 : decode cX7_init 1 = .ok (.invokespecial 1, 3) := by decide +kernel
theorem dX7_init_4 : decode cX7_init 4 = .ok (.aload_n 0, 1) := by decide +kernel
theorem dX7_init_5 : decode cX7_init 5 = .ok (.iconst 3, 1) := by decide +kernel
theorem dX7_init_6 : decode cX7_init 6 = .ok (.newarray .int, 2) := by decide +kernel
theorem dX7_init_8 : decode cX7_init 8 = .ok (.dup, 1) := by decide +kernel
theorem dX7_init_9 : decode cX7_init 9 = .ok (.iconst 0, 1) := by decide +kernel
theorem dX7_init_10 : decode cX7_init 10 = .ok (.iconst 2, 1) := by decide +kernel
theorem dX7_init_11 : decode cX7_init 11 = .ok (.iastore, 1) := by decide +kernel
theorem dX7_init_12 : decode cX7_init 12 = .ok (.dup, 1) := by decide +kernel
theorem dX7_init_13 : decode cX7_init 13 = .ok (.iconst 1, 1) := by decide +kernel
theorem dX7_init_14 : decode cX7_init 14 = .ok (.iconst 3, 1) := by decide +kernel
theorem dX7_init_15 : decode cX7_init 15 = .ok (.iastore, 1) := by decide +kernel
theorem dX7_init_16 : decode cX7_init 16 = .ok (.dup, 1) := by decide +kernel
theorem dX7_init_17 : decode cX7_init 17 = .ok (.iconst 2, 1) := by decide +kernel
theorem dX7_init_18 : decode cX7_init 18 = .ok (.iconst 4, 1) := by decide +kernel
theorem dX7_init_19 : decode cX7_init 19 = .ok (.iastore, 1) := by decide +kernel
theorem dX7_init_20 : decode cX7_init 20 = .ok (.putfield 7, 3) := by decide +kernel
theorem dX7_init_23 : decode cX7_init 23 = .ok (.aload_n 0, 1) := by decide +kernel
theorem dX7_init_24 : decode cX7_init 24 = .ok (.bipush 12, 2) := by decide +kernel
theorem dX7_init_26 : decode cX7_init 26 = .ok (.anewarray 13, 3) := by decide +kernel
theorem dX7_init_29 : decode cX7_init 29 = .ok (.putfield 15, 3) := by decide +kernel
theorem dX7_init_32 : decode cX7_init 32 = .ok (.aload_n 0, 1) := by decide +kernel
theorem dX7_init_33 : decode cX7_init 33 = .ok (.bipush 20, 2) := by decide +kernel
theorem dX7_init_35 : decode cX7_init 35 = .ok (.anewarray 19, 3) := by decide +kernel
theorem dX7_init_38 : decode cX7_init 38 = .ok (.putfield 21, 3) := by decide +kernel
theorem dX7_init_41 : decode cX7_init 41 = .ok (.aload_n 0, 1) := by decide +kernel
theorem dX7_init_42 : decode cX7_init 42 = .ok (.bipush 6, 2) := by decide +kernel
theorem dX7_init_44 : decode cX7_init 44 = .ok (.anewarray 25, 3) := by decide +kernel
theorem dX7_init_47 : decode cX7_init 47 = .ok (.putfield 27, 3) := by decide +kernel
theorem dX7_init_50 : decode cX7_init 50 = .ok (.aload_n 0, 1) := by decide +kernel
theorem dX7_init_51 : decode cX7_init 51 = .ok (.new 31, 3) := by decide +kernel
theorem dX7_init_54 : decode cX7_init 54 = .ok (.dup, 1) := by decide +kernel
theorem dX7_init_55 : decode cX7_init 55 = .ok (.aload_n 0, 1) := by decide +kernel
theorem dX7_init_56 : decode cX7_init 56 = .ok (.getfield 7, 3) := by decide +kernel
theorem dX7_init_59 : decode cX7_init 59 = .ok (.invokespecial 33, 3) := by decide +kernel
theorem dX7_init_62 : decode cX7_init 62 = .ok (.putfield 36, 3) := by decide +kernel
theorem dX7_init_65 : decode cX7_init 65 = .ok (.aload_n 0, 1) := by decide +kernel
theorem dX7_init_66 : decode cX7_init 66 = .ok (.iconst 0, 1) := by decide +kernel
theorem dX7_init_67 : decode cX7_init 67 = .ok (.putfield 40, 3) := by decide +kernel
theorem dX7_init_70 : decode cX7_init 70 = .ok (.aload_n 0, 1) := by decide +kernel
theorem dX7_init_71 : decode cX7_init 71 = .ok (.iconst 0, 1) := by decide +kernel
theorem dX7_init_72 : decode cX7_init 72 = .ok (.putfield 44, 3) := by decide +kernel
theorem dX7_init_75 : decode cX7_init 75 = .ok (.iconst 0, 1) := by decide +kernel
theorem dX7_init_76 : decode cX7_init 76 = .ok (.istore_n 1, 1) := by decide +kernel
theorem dX7_init_77 : decode cX7_init 77 = .ok (.iload_n 1, 1) := by decide +kernel
theorem dX7_init_78 : decode cX7_init 78 = .ok (.aload_n 0, 1) := by decide +kernel
theorem dX7_init_79 : decode cX7_init 79 = .ok (.getfield 27, 3) := by decide +kernel
theorem dX7_init_82 : decode cX7_init 82 = .ok (.arraylength, 1) := by decide +kernel
theorem dX7_init_83 : decode cX7_init 83 = .ok (.if_icmp .ge 26, 3) := by decide +kernel
theorem dX7_init_86 : decode cX7_init 86 = .ok (.aload_n 0, 1) := by decide +kernel
theorem dX7_init_87 : decode cX7_init 87 = .ok (.getfield 27, 3) := by decide +kernel
theorem dX7_init_90 : decode cX7_init 90 = .ok (.iload_n 1, 1) := by decide +kernel
theorem dX7_init_91 : decode cX7_init 91 = .ok (.new 25, 3) := by decide +kernel
theorem dX7_init_94 : decode cX7_init 94 = .ok (.dup, 1) := by decide +kernel
theorem dX7_init_95 : decode cX7_init 95 = .ok (.aload_n 0, 1) := by decide +kernel
theorem dX7_init_96 : decode cX7_init 96 = .ok (.getfield 7, 3) := by decide +kernel
theorem dX7_init_99 : decode cX7_init 99 = .ok (.invokespecial 47, 3) := by decide +kernel
theorem dX7_init_102 : decode cX7_init 102 = .ok (.aastore, 1) := by decide +kernel
theorem dX7_init_103 : decode cX7_init 103 = .ok (.iinc 1 1, 3) := by decide +kernel
theorem dX7_init_106 : decode cX7_init 106 = .ok (.goto (-29), 3) := by decide +kernel
theorem dX7_init_109 : decode cX7_init 109 = .ok (.return_, 1) := by decide +kernel
set_option maxRecDepth 20000 in
theorem ggX7_begin_X7_checkPerson : GoodIn wsX7_begin wsX7_checkPerson := goodIn_ca (goodIn_r _ [5, 6, 7] (by decide +kernel) (by decide +kernel)) (goodIn_sub (fun _ h => List.mem_cons_of_mem _ (List.mem_append_left _ (List.mem_append_right _ h))) (by decide +kernel))
set_option maxRecDepth 20000 in
theorem gX7_begin_X7_checkPerson : GoodIn wsX7_begin (va_wsS RX7 48 yX7_checkPerson wsX7_checkPerson) := goodIn_app (goodIn_of _ (by decide +kernel)) ggX7_begin_X7_checkPerson
set_option maxRecDepth 20000 in
theorem ggX7_begin_X7_addLevel : GoodIn wsX7_begin wsX7_addLevel := goodIn_ca (goodIn_r _ [11, 12, 13, 1, 14, 15, 16, 17, 18, 19, 20, 21, 22, 23, 24, 25, 26, 27, 28, 29, 30, 31, 32, 33, 34, 35, 36, 37, 38, 39, 40, 41, 42, 43, 44, 45, 46, 47, 48, 49, 50, 67, 68, 69, 70, 71, 72, 73, 61, 62, 63, 64, 65, 66, 74, 75, 76, 77, 78, 79, 80, 81] (by decide +kernel) (by decide +kernel)) (goodIn_sub (fun _ h => List.mem_cons_of_mem _ (List.mem_append_right _ h)) (by decide +kernel))
set_option maxRecDepth 20000 in
theorem gX7_begin_X7_addLevel : GoodIn wsX7_begin (wsV RX7 52 RX7 yX7_addLevel wsX7_addLevel) := goodIn_app (goodIn_of _ (by decide +kernel)) ggX7_begin_X7_addLevel
set_option maxRecDepth 20000 in
theorem ggX7_begin_X1_put : GoodIn wsX7_begin wsX1_put := goodIn_r _ [54, 40, 55, 4, 56, 57, 58, 59, 26, 60, 41, 42, 74, 75, 76] (by decide +kernel) (by decide +kernel)
set_option maxRecDepth 20000 in
theorem gX7_begin_X1_put : GoodIn wsX7_begin (wsV RX7 60 RX1 yX1_put wsX1_put) := goodIn_app (goodIn_of _ (by decide +kernel)) ggX7_begin_X1_put
theorem dX7_begin_0 : decode cX7_begin 0 = .ok (.iload_n 1, 1) := by decide +kernel
theorem dX7_begin_1 : decode cX7_begin 1 = .ok (.invokestatic 48, 3) := by decide +kernel
theorem dX7_begin_4 : decode cX7_begin 4 = .ok (.aload_n 0, 1) := by decide +kernel
theorem dX7_begin_5 : decode cX7_begin 5 = .ok (.iload_n 1, 1) := by decide +kernel
theorem dX7_begin_6 : decode cX7_begin 6 = .ok (.aconst_null, 1) := by decide +kernel
theorem dX7_begin_7 : decode cX7_begin 7 = .ok (.invokevirtual 52, 3) := by decide +kernel
theorem dX7_begin_10 : decode cX7_begin 10 = .ok (.astore_n 2, 1) := by decide +kernel
theorem dX7_begin_11 : decode cX7_begin 11 = .ok (.bipush 84, 2) := by decide +kernel
theorem dX7_begin_13 : decode cX7_begin 13 = .ok (.istore_n 3, 1) := by decide +kernel
theorem dX7_begin_14 : decode cX7_begin 14 = .ok (.iload_n 3, 1) := by decide +kernel
theorem dX7_begin_15 : decode cX7_begin 15 = .ok (.bipush 96, 2) := by decide +kernel
theorem dX7_begin_17 : decode cX7_begin 17 = .ok (.if_icmp .ge 18, 3) := by decide +kernel
theorem dX7_begin_20 : decode cX7_begin 20 = .ok (.aload_n 2, 1) := by decide +kernel
theorem dX7_begin_21 : decode cX7_begin 21 = .ok (.getfield 56, 3) := by decide +kernel
theorem dX7_begin_24 : decode cX7_begin 24 = .ok (.iload_n 3, 1) := by decide +kernel
theorem dX7_begin_25 : decode cX7_begin 25 = .ok (.iconst 1, 1) := by decide +kernel
theorem dX7_begin_26 : decode cX7_begin 26 = .ok (.invokevirtual 60, 3) := by decide +kernel
theorem dX7_begin_29 : decode cX7_begin 29 = .ok (.iinc 3 1, 3) := by decide +kernel
theorem dX7_begin_32 : decode cX7_begin 32 = .ok (.goto (-18), 3) := by decide +kernel
theorem dX7_begin_35 : decode cX7_begin 35 = .ok (.aload_n 0, 1) := by decide +kernel
theorem dX7_begin_36 : decode cX7_begin 36 = .ok (.getfield 40, 3) := by decide +kernel
theorem dX7_begin_39 : decode cX7_begin 39 = .ok (.iconst 1, 1) := by decide +kernel
theorem dX7_begin_40 : decode cX7_begin 40 = .ok (.isub, 1) := by decide +kernel
theorem dX7_begin_41 : decode cX7_begin 41 = .ok (.ireturn, 1) := by decide +kernel
set_option maxRecDepth 20000 in
theorem ggX7_set_X7_levelOf : GoodIn wsX7_set wsX7_levelOf := goodIn_ca (goodIn_r _ [9, 10, 11, 12, 73, 74, 75, 76, 77, 78, 79] (by decide +kernel) (by decide +kernel)) (goodIn_sub (fun _ h => List.mem_cons_of_mem _ (List.mem_append_right _ h)) (by decide +kernel))
set_option maxRecDepth 20000 in
theorem gX7_set_X7_levelOf : GoodIn wsX7_set (wsV RX7 66 RX7 yX7_levelOf wsX7_levelOf) := goodIn_app (goodIn_of _ (by decide +kernel)) ggX7_set_X7_levelOf
set_option maxRecDepth 20000 in
theorem ggX7_set_X7_checkCell : GoodIn wsX7_set wsX7_checkCell := goodIn_ca (goodIn_r _ [15, 10, 11, 16, 17, 8, 18] (by decide +kernel) (by decide +kernel)) (goodIn_sub (fun _ h => List.mem_cons_of_mem _ (List.mem_append_right _ h)) (by decide +kernel))
set_option maxRecDepth 20000 in
theorem gX7_set_X7_checkCell : GoodIn wsX7_set (va_wsS RX7 70 yX7_checkCell wsX7_checkCell) := goodIn_app (goodIn_of _ (by decide +kernel)) ggX7_set_X7_checkCell
set_option maxRecDepth 20000 in
theorem ggX7_set_X1_kindAt : GoodIn wsX7_set wsX1_kindAt := goodIn_r _ [23, 24, 80, 81, 82] (by decide +kernel) (by decide +kernel)
set_option maxRecDepth 20000 in
theorem gX7_set_X1_kindAt : GoodIn wsX7_set (wsV RX7 80 RX1 yX1_kindAt wsX1_kindAt) := goodIn_app (goodIn_of _ (by decide +kernel)) ggX7_set_X1_kindAt
set_option maxRecDepth 20000 in
theorem ggX7_set_X1_keyCount : GoodIn wsX7_set wsX1_keyCount := goodIn_r _ [28, 29, 30, 31, 32, 33, 34, 35, 36, 80, 81, 82] (by decide +kernel) (by decide +kernel)
set_option maxRecDepth 20000 in
theorem gX7_set_X1_keyCount : GoodIn wsX7_set (wsV RX7 84 RX1 yX1_keyCount wsX1_keyCount) := goodIn_app (goodIn_of _ (by decide +kernel)) ggX7_set_X1_keyCount
set_option maxRecDepth 20000 in
theorem ggX7_set_X2_remember : GoodIn wsX7_set wsX2_remember := goodIn_r _ [41, 42, 43, 44, 45, 46, 47, 48, 49, 40, 50, 83, 84, 85, 86, 87] (by decide +kernel) (by decide +kernel)
set_option maxRecDepth 20000 in
theorem gX7_set_X2_remember : GoodIn wsX7_set (wsV RX7 97 RX2 yX2_remember wsX2_remember) := goodIn_app (goodIn_of _ (by decide +kernel)) ggX7_set_X2_remember
set_option maxRecDepth 20000 in
theorem ggX7_set_X3_putAnew : GoodIn wsX7_set wsX3_putAnew := goodIn_r _ [55, 56, 57, 58, 59, 60, 22, 61, 24, 17, 8, 18, 62, 63, 64, 65, 66, 29, 67, 68, 69, 70, 71, 72, 80, 81, 82] (by decide +kernel) (by decide +kernel)
set_option maxRecDepth 20000 in
theorem gX7_set_X3_putAnew : GoodIn wsX7_set (wsV RX7 103 RX3 yX3_putAnew wsX3_putAnew) := goodIn_app (goodIn_of _ (by decide +kernel)) ggX7_set_X3_putAnew
theorem dX7_set_0 : decode cX7_set 0 = .ok (.aload_n 0, 1) := by decide +kernel
theorem dX7_set_1 : decode cX7_set 1 = .ok (.iload_n 1, 1) := by decide +kernel
theorem dX7_set_2 : decode cX7_set 2 = .ok (.invokevirtual 66, 3) := by decide +kernel
theorem dX7_set_5 : decode cX7_set 5 = .ok (.astore 4, 2) := by decide +kernel
theorem dX7_set_7 : decode cX7_set 7 = .ok (.iload_n 2, 1) := by decide +kernel
theorem dX7_set_8 : decode cX7_set 8 = .ok (.invokestatic 70, 3) := by decide +kernel
theorem dX7_set_11 : decode cX7_set 11 = .ok (.iload_n 3, 1) := by decide +kernel
theorem dX7_set_12 : decode cX7_set 12 = .ok (.ifCond .lt 9, 3) := by decide +kernel
theorem dX7_set_15 : decode cX7_set 15 = .ok (.iload_n 3, 1) := by decide +kernel
theorem dX7_set_16 : decode cX7_set 16 = .ok (.bipush 8, 2) := by decide +kernel
theorem dX7_set_18 : decode cX7_set 18 = .ok (.if_icmp .le 13, 3) := by decide +kernel
theorem dX7_set_21 : decode cX7_set 21 = .ok (.new 73, 3) := by decide +kernel
theorem dX7_set_24 : decode cX7_set 24 = .ok (.dup, 1) := by decide +kernel
theorem dX7_set_25 : decode cX7_set 25 = .ok (.ldc 75, 2) := by decide +kernel
theorem dX7_set_27 : decode cX7_set 27 = .ok (.invokespecial 77, 3) := by decide +kernel
theorem dX7_set_30 : decode cX7_set 30 = .ok (.athrow, 1) := by decide +kernel
theorem dX7_set_31 : decode cX7_set 31 = .ok (.aload 4, 2) := by decide +kernel
theorem dX7_set_33 : decode cX7_set 33 = .ok (.getfield 56, 3) := by decide +kernel
theorem dX7_set_36 : decode cX7_set 36 = .ok (.iload_n 2, 1) := by decide +kernel
theorem dX7_set_37 : decode cX7_set 37 = .ok (.invokevirtual 80, 3) := by decide +kernel
theorem dX7_set_40 : decode cX7_set 40 = .ok (.istore 5, 2) := by decide +kernel
theorem dX7_set_42 : decode cX7_set 42 = .ok (.iload_n 3, 1) := by decide +kernel
theorem dX7_set_43 : decode cX7_set 43 = .ok (.iconst 2, 1) := by decide +kernel
theorem dX7_set_44 : decode cX7_set 44 = .ok (.if_icmp .ne 31, 3) := by decide +kernel
theorem dX7_set_47 : decode cX7_set 47 = .ok (.iload 5, 2) := by decide +kernel
theorem dX7_set_49 : decode cX7_set 49 = .ok (.iconst 2, 1) := by decide +kernel
theorem dX7_set_50 : decode cX7_set 50 = .ok (.if_icmp .eq 25, 3) := by decide +kernel
theorem dX7_set_53 : decode cX7_set 53 = .ok (.aload 4, 2) := by decide +kernel
theorem dX7_set_55 : decode cX7_set 55 = .ok (.getfield 56, 3) := by decide +kernel
theorem dX7_set_58 : decode cX7_set 58 = .ok (.invokevirtual 84, 3) := by decide +kernel
theorem dX7_set_61 : decode cX7_set 61 = .ok (.iconst 3, 1) := by decide +kernel
theorem dX7_set_62 : decode cX7_set 62 = .ok (.if_icmp .lt 13, 3) := by decide +kernel
theorem dX7_set_65 : decode cX7_set 65 = .ok (.new 88, 3) := by decide +kernel
theorem dX7_set_68 : decode cX7_set 68 = .ok (.dup, 1) := by decide +kernel
theorem dX7_set_69 : decode cX7_set 69 = .ok (.ldc 90, 2) := by decide +kernel
theorem dX7_set_71 : decode cX7_set 71 = .ok (.invokespecial 92, 3) := by decide +kernel
theorem dX7_set_74 : decode cX7_set 74 = .ok (.athrow, 1) := by decide +kernel
theorem dX7_set_75 : decode cX7_set 75 = .ok (.aload 4, 2) := by decide +kernel
theorem dX7_set_77 : decode cX7_set 77 = .ok (.getfield 93, 3) := by decide +kernel
theorem dX7_set_80 : decode cX7_set 80 = .ok (.iload_n 2, 1) := by decide +kernel
theorem dX7_set_81 : decode cX7_set 81 = .ok (.iload 5, 2) := by decide +kernel
theorem dX7_set_83 : decode cX7_set 83 = .ok (.iload_n 3, 1) := by decide +kernel
theorem dX7_set_84 : decode cX7_set 84 = .ok (.invokevirtual 97, 3) := by decide +kernel
theorem dX7_set_87 : decode cX7_set 87 = .ok (.aload 4, 2) := by decide +kernel
theorem dX7_set_89 : decode cX7_set 89 = .ok (.iload_n 2, 1) := by decide +kernel
theorem dX7_set_90 : decode cX7_set 90 = .ok (.iload_n 3, 1) := by decide +kernel
theorem dX7_set_91 : decode cX7_set 91 = .ok (.invokevirtual 103, 3) := by decide +kernel
theorem dX7_set_94 : decode cX7_set 94 = .ok (.iload 5, 2) := by decide +kernel
theorem dX7_set_96 : decode cX7_set 96 = .ok (.ireturn, 1) := by decide +kernel
set_option maxRecDepth 20000 in
theorem ggX7_setStart_X7_levelOf : GoodIn wsX7_setStart wsX7_levelOf := goodIn_ca (goodIn_r _ [5, 6, 7, 8, 21, 22, 23, 24, 25, 26, 27] (by decide +kernel) (by decide +kernel)) (goodIn_sub (fun _ h => List.mem_cons_of_mem _ (List.mem_append_right _ h)) (by decide +kernel))
set_option maxRecDepth 20000 in
theorem gX7_setStart_X7_levelOf : GoodIn wsX7_setStart (wsV RX7 66 RX7 yX7_levelOf wsX7_levelOf) := goodIn_app (goodIn_of _ (by decide +kernel)) ggX7_setStart_X7_levelOf
set_option maxRecDepth 20000 in
theorem ggX7_setStart_X7_checkCell : GoodIn wsX7_setStart wsX7_checkCell := goodIn_ca (goodIn_r _ [11, 6, 7, 12, 13, 4, 14] (by decide +kernel) (by decide +kernel)) (goodIn_sub (fun _ h => List.mem_cons_of_mem _ (List.mem_append_right _ h)) (by decide +kernel))
set_option maxRecDepth 20000 in
theorem gX7_setStart_X7_checkCell : GoodIn wsX7_setStart (va_wsS RX7 70 yX7_checkCell wsX7_checkCell) := goodIn_app (goodIn_of _ (by decide +kernel)) ggX7_setStart_X7_checkCell
theorem dX7_setStart_0 : decode cX7_setStart 0 = .ok (.aload_n 0, 1) := by decide +kernel
theorem dX7_setStart_1 : decode cX7_setStart 1 = .ok (.iload_n 1, 1) := by decide +kernel
theorem dX7_setStart_2 : decode cX7_setStart 2 = .ok (.invokevirtual 66, 3) := by decide +kernel
theorem dX7_setStart_5 : decode cX7_setStart 5 = .ok (.astore_n 3, 1) := by decide +kernel
theorem dX7_setStart_6 : decode cX7_setStart 6 = .ok (.iload_n 2, 1) := by decide +kernel
theorem dX7_setStart_7 : decode cX7_setStart 7 = .ok (.invokestatic 70, 3) := by decide +kernel
theorem dX7_setStart_10 : decode cX7_setStart 10 = .ok (.aload_n 3, 1) := by decide +kernel
theorem dX7_setStart_11 : decode cX7_setStart 11 = .ok (.getfield 106, 3) := by decide +kernel
theorem dX7_setStart_14 : decode cX7_setStart 14 = .ok (.istore 4, 2) := by decide +kernel
theorem dX7_setStart_16 : decode cX7_setStart 16 = .ok (.aload_n 3, 1) := by decide +kernel
theorem dX7_setStart_17 : decode cX7_setStart 17 = .ok (.iload_n 2, 1) := by decide +kernel
theorem dX7_setStart_18 : decode cX7_setStart 18 = .ok (.putfield 106, 3) := by decide +kernel
theorem dX7_setStart_21 : decode cX7_setStart 21 = .ok (.aload_n 3, 1) := by decide +kernel
theorem dX7_setStart_22 : decode cX7_setStart 22 = .ok (.bipush (-2), 2) := by decide +kernel
theorem dX7_setStart_24 : decode cX7_setStart 24 = .ok (.putfield 109, 3) := by decide +kernel
theorem dX7_setStart_27 : decode cX7_setStart 27 = .ok (.iload 4, 2) := by decide +kernel
theorem dX7_setStart_29 : decode cX7_setStart 29 = .ok (.ireturn, 1) := by decide +kernel
set_option maxRecDepth 20000 in
theorem ggX7_undo_X7_levelOf : GoodIn wsX7_undo wsX7_levelOf := goodIn_ca (goodIn_r _ [7, 8, 9, 10, 64, 65, 66, 67, 68, 69, 70] (by decide +kernel) (by decide +kernel)) (goodIn_sub (fun _ h => List.mem_cons_of_mem _ (List.mem_append_right _ h)) (by decide +kernel))
set_option maxRecDepth 20000 in
theorem gX7_undo_X7_levelOf : GoodIn wsX7_undo (wsV RX7 66 RX7 yX7_levelOf wsX7_levelOf) := goodIn_app (goodIn_of _ (by decide +kernel)) ggX7_undo_X7_levelOf
set_option maxRecDepth 20000 in
theorem ggX7_undo_X2_stepBack : GoodIn wsX7_undo wsX2_stepBack := goodIn_r _ [15, 16, 17, 59, 60, 61, 62, 63] (by decide +kernel) (by decide +kernel)
set_option maxRecDepth 20000 in
theorem gX7_undo_X2_stepBack : GoodIn wsX7_undo (wsV RX7 117 RX2 yX2_stepBack wsX2_stepBack) := goodIn_app (goodIn_of _ (by decide +kernel)) ggX7_undo_X2_stepBack
set_option maxRecDepth 20000 in
theorem ggX7_undo_X2_cellOfNext : GoodIn wsX7_undo wsX2_cellOfNext := goodIn_r _ [21, 22, 16, 23, 24, 25, 14, 26, 59, 60, 61, 62, 63] (by decide +kernel) (by decide +kernel)
set_option maxRecDepth 20000 in
theorem gX7_undo_X2_cellOfNext : GoodIn wsX7_undo (wsV RX7 120 RX2 yX2_cellOfNext wsX2_cellOfNext) := goodIn_app (goodIn_of _ (by decide +kernel)) ggX7_undo_X2_cellOfNext
set_option maxRecDepth 20000 in
theorem ggX7_undo_X2_kindBeforeNext : GoodIn wsX7_undo wsX2_kindBeforeNext := goodIn_r _ [30, 31, 16, 23, 24, 25, 14, 26, 59, 60, 61, 62, 63] (by decide +kernel) (by decide +kernel)
set_option maxRecDepth 20000 in
theorem gX7_undo_X2_kindBeforeNext : GoodIn wsX7_undo (wsV RX7 123 RX2 yX2_kindBeforeNext wsX2_kindBeforeNext) := goodIn_app (goodIn_of _ (by decide +kernel)) ggX7_undo_X2_kindBeforeNext
set_option maxRecDepth 20000 in
theorem ggX7_undo_X3_putAnew : GoodIn wsX7_undo wsX3_putAnew := goodIn_r _ [36, 37, 38, 39, 40, 41, 42, 43, 44, 45, 6, 46, 47, 48, 49, 50, 51, 52, 53, 54, 55, 56, 57, 58, 71, 72, 73] (by decide +kernel) (by decide +kernel)
set_option maxRecDepth 20000 in
theorem gX7_undo_X3_putAnew : GoodIn wsX7_undo (wsV RX7 103 RX3 yX3_putAnew wsX3_putAnew) := goodIn_app (goodIn_of _ (by decide +kernel)) ggX7_undo_X3_putAnew
theorem dX7_undo_0 : decode cX7_undo 0 = .ok (.aload_n 0, 1) := by decide +kernel
theorem dX7_undo_1 : decode cX7_undo 1 = .ok (.iload_n 1, 1) := by decide +kernel
theorem dX7_undo_2 : decode cX7_undo 2 = .ok (.invokevirtual 66, 3) := by decide +kernel
theorem dX7_undo_5 : decode cX7_undo 5 = .ok (.astore_n 2, 1) := by decide +kernel
theorem dX7_undo_6 : decode cX7_undo 6 = .ok (.aload_n 2, 1) := by decide +kernel
theorem dX7_undo_7 : decode cX7_undo 7 = .ok (.getfield 93, 3) := by decide +kernel
theorem dX7_undo_10 : decode cX7_undo 10 = .ok (.astore_n 3, 1) := by decide +kernel
theorem dX7_undo_11 : decode cX7_undo 11 = .ok (.aload_n 3, 1) := by decide +kernel
theorem dX7_undo_12 : decode cX7_undo 12 = .ok (.getfield 112, 3) := by decide +kernel
theorem dX7_undo_15 : decode cX7_undo 15 = .ok (.ifCond .gt 13, 3) := by decide +kernel
theorem dX7_undo_18 : decode cX7_undo 18 = .ok (.new 88, 3) := by decide +kernel
theorem dX7_undo_21 : decode cX7_undo 21 = .ok (.dup, 1) := by decide +kernel
theorem dX7_undo_22 : decode cX7_undo 22 = .ok (.ldc 115, 2) := by decide +kernel
theorem dX7_undo_24 : decode cX7_undo 24 = .ok (.invokespecial 92, 3) := by decide +kernel
theorem dX7_undo_27 : decode cX7_undo 27 = .ok (.athrow, 1) := by decide +kernel
theorem dX7_undo_28 : decode cX7_undo 28 = .ok (.aload_n 3, 1) := by decide +kernel
theorem dX7_undo_29 : decode cX7_undo 29 = .ok (.invokevirtual 117, 3) := by decide +kernel
theorem dX7_undo_32 : decode cX7_undo 32 = .ok (.aload_n 3, 1) := by decide +kernel
theorem dX7_undo_33 : decode cX7_undo 33 = .ok (.invokevirtual 120, 3) := by decide +kernel
theorem dX7_undo_36 : decode cX7_undo 36 = .ok (.istore 4, 2) := by decide +kernel
theorem dX7_undo_38 : decode cX7_undo 38 = .ok (.aload_n 2, 1) := by decide +kernel
theorem dX7_undo_39 : decode cX7_undo 39 = .ok (.iload 4, 2) := by decide +kernel
theorem dX7_undo_41 : decode cX7_undo 41 = .ok (.aload_n 3, 1) := by decide +kernel
theorem dX7_undo_42 : decode cX7_undo 42 = .ok (.invokevirtual 123, 3) := by decide +kernel
theorem dX7_undo_45 : decode cX7_undo 45 = .ok (.invokevirtual 103, 3) := by decide +kernel
theorem dX7_undo_48 : decode cX7_undo 48 = .ok (.iload 4, 2) := by decide +kernel
theorem dX7_undo_50 : decode cX7_undo 50 = .ok (.ireturn, 1) := by decide +kernel
set_option maxRecDepth 20000 in
theorem ggX7_redo_X7_levelOf : GoodIn wsX7_redo wsX7_levelOf := goodIn_ca (goodIn_r _ [7, 8, 9, 10, 64, 65, 66, 67, 68, 69, 70] (by decide +kernel) (by decide +kernel)) (goodIn_sub (fun _ h => List.mem_cons_of_mem _ (List.mem_append_right _ h)) (by decide +kernel))
set_option maxRecDepth 20000 in
theorem gX7_redo_X7_levelOf : GoodIn wsX7_redo (wsV RX7 66 RX7 yX7_levelOf wsX7_levelOf) := goodIn_app (goodIn_of _ (by decide +kernel)) ggX7_redo_X7_levelOf
set_option maxRecDepth 20000 in
theorem ggX7_redo_X2_cellOfNext : GoodIn wsX7_redo wsX2_cellOfNext := goodIn_r _ [15, 16, 17, 18, 19, 20, 14, 21, 59, 60, 61, 62, 63] (by decide +kernel) (by decide +kernel)
set_option maxRecDepth 20000 in
theorem gX7_redo_X2_cellOfNext : GoodIn wsX7_redo (wsV RX7 120 RX2 yX2_cellOfNext wsX2_cellOfNext) := goodIn_app (goodIn_of _ (by decide +kernel)) ggX7_redo_X2_cellOfNext
set_option maxRecDepth 20000 in
theorem ggX7_redo_X2_kindAfterNext : GoodIn wsX7_redo wsX2_kindAfterNext := goodIn_r _ [25, 26, 17, 18, 19, 20, 14, 21, 59, 60, 61, 62, 63] (by decide +kernel) (by decide +kernel)
set_option maxRecDepth 20000 in
theorem gX7_redo_X2_kindAfterNext : GoodIn wsX7_redo (wsV RX7 131 RX2 yX2_kindAfterNext wsX2_kindAfterNext) := goodIn_app (goodIn_of _ (by decide +kernel)) ggX7_redo_X2_kindAfterNext
set_option maxRecDepth 20000 in
theorem ggX7_redo_X3_putAnew : GoodIn wsX7_redo wsX3_putAnew := goodIn_r _ [31, 32, 33, 34, 35, 36, 37, 38, 39, 40, 6, 41, 42, 43, 44, 45, 46, 47, 53, 54, 55, 56, 57, 58, 71, 72, 73] (by decide +kernel) (by decide +kernel)
set_option maxRecDepth 20000 in
theorem gX7_redo_X3_putAnew : GoodIn wsX7_redo (wsV RX7 103 RX3 yX3_putAnew wsX3_putAnew) := goodIn_app (goodIn_of _ (by decide +kernel)) ggX7_redo_X3_putAnew
set_option maxRecDepth 20000 in
theorem ggX7_redo_X2_stepOn : GoodIn wsX7_redo wsX2_stepOn := goodIn_r _ [51, 17, 52, 59, 60, 61, 62, 63] (by decide +kernel) (by decide +kernel)
set_option maxRecDepth 20000 in
theorem gX7_redo_X2_stepOn : GoodIn wsX7_redo (wsV RX7 134 RX2 yX2_stepOn wsX2_stepOn) := goodIn_app (goodIn_of _ (by decide +kernel)) ggX7_redo_X2_stepOn
theorem dX7_redo_0 : decode cX7_redo 0 = .ok (.aload_n 0, 1) := by decide +kernel
theorem dX7_redo_1 : decode cX7_redo 1 = .ok (.iload_n 1, 1) := by decide +kernel
theorem dX7_redo_2 : decode cX7_redo 2 = .ok (.invokevirtual 66, 3) := by decide +kernel
theorem dX7_redo_5 : decode cX7_redo 5 = .ok (.astore_n 2, 1) := by decide +kernel
theorem dX7_redo_6 : decode cX7_redo 6 = .ok (.aload_n 2, 1) := by decide +kernel
theorem dX7_redo_7 : decode cX7_redo 7 = .ok (.getfield 93, 3) := by decide +kernel
theorem dX7_redo_10 : decode cX7_redo 10 = .ok (.astore_n 3, 1) := by decide +kernel
theorem dX7_redo_11 : decode cX7_redo 11 = .ok (.aload_n 3, 1) := by decide +kernel
theorem dX7_redo_12 : decode cX7_redo 12 = .ok (.getfield 126, 3) := by decide +kernel
theorem dX7_redo_15 : decode cX7_redo 15 = .ok (.ifCond .gt 13, 3) := by decide +kernel
theorem dX7_redo_18 : decode cX7_redo 18 = .ok (.new 88, 3) := by decide +kernel
theorem dX7_redo_21 : decode cX7_redo 21 = .ok (.dup, 1) := by decide +kernel
theorem dX7_redo_22 : decode cX7_redo 22 = .ok (.ldc 129, 2) := by decide +kernel
theorem dX7_redo_24 : decode cX7_redo 24 = .ok (.invokespecial 92, 3) := by decide +kernel
theorem dX7_redo_27 : decode cX7_redo 27 = .ok (.athrow, 1) := by decide +kernel
theorem dX7_redo_28 : decode cX7_redo 28 = .ok (.aload_n 3, 1) := by decide +kernel
theorem dX7_redo_29 : decode cX7_redo 29 = .ok (.invokevirtual 120, 3) := by decide +kernel
theorem dX7_redo_32 : decode cX7_redo 32 = .ok (.istore 4, 2) := by decide +kernel
theorem dX7_redo_34 : decode cX7_redo 34 = .ok (.aload_n 2, 1) := by decide +kernel
theorem dX7_redo_35 : decode cX7_redo 35 = .ok (.iload 4, 2) := by decide +kernel
theorem dX7_redo_37 : decode cX7_redo 37 = .ok (.aload_n 3, 1) := by decide +kernel
theorem dX7_redo_38 : decode cX7_redo 38 = .ok (.invokevirtual 131, 3) := by decide +kernel
theorem dX7_redo_41 : decode cX7_redo 41 = .ok (.invokevirtual 103, 3) := by decide +kernel
theorem dX7_redo_44 : decode cX7_redo 44 = .ok (.aload_n 3, 1) := by decide +kernel
theorem dX7_redo_45 : decode cX7_redo 45 = .ok (.invokevirtual 134, 3) := by decide +kernel
theorem dX7_redo_48 : decode cX7_redo 48 = .ok (.iload 4, 2) := by decide +kernel
theorem dX7_redo_50 : decode cX7_redo 50 = .ok (.ireturn, 1) := by decide +kernel
set_option maxRecDepth 20000 in
theorem ggX7_setSpring_X7_checkSpring : GoodIn wsX7_setSpring wsX7_checkSpring := goodIn_ca (goodIn_r _ [9, 10, 11] (by decide +kernel) (by decide +kernel)) (goodIn_sub (fun _ h => List.mem_cons_of_mem _ (List.mem_append_right _ h)) (by decide +kernel))
set_option maxRecDepth 20000 in
theorem gX7_setSpring_X7_checkSpring : GoodIn wsX7_setSpring (va_wsS RX7 137 yX7_checkSpring wsX7_checkSpring) := goodIn_app (goodIn_of _ (by decide +kernel)) ggX7_setSpring_X7_checkSpring
set_option maxRecDepth 20000 in
theorem ggX7_setSpring_X7_workOf : GoodIn wsX7_setSpring wsX7_workOf := goodIn_ca (goodIn_r _ [15, 10, 11, 16, 136, 137, 138, 139, 140, 141, 142] (by decide +kernel) (by decide +kernel)) (goodIn_sub (fun _ h => List.mem_cons_of_mem _ (List.mem_append_right _ h)) (by decide +kernel))
set_option maxRecDepth 20000 in
theorem gX7_setSpring_X7_workOf : GoodIn wsX7_setSpring (wsV RX7 142 RX7 yX7_workOf wsX7_workOf) := goodIn_app (goodIn_of _ (by decide +kernel)) ggX7_setSpring_X7_workOf
set_option maxRecDepth 20000 in
theorem ggX7_setSpring_X1_has : GoodIn wsX7_setSpring wsX1_has := goodIn_r _ [21, 22, 151, 152, 153] (by decide +kernel) (by decide +kernel)
set_option maxRecDepth 20000 in
theorem gX7_setSpring_X1_has : GoodIn wsX7_setSpring (wsV RX7 147 RX1 yX1_has wsX1_has) := goodIn_app (goodIn_of _ (by decide +kernel)) ggX7_setSpring_X1_has
set_option maxRecDepth 20000 in
theorem ggX7_setSpring_X5_explore : GoodIn wsX7_setSpring wsX5_explore := goodIn_r _ [27, 28, 29, 30, 31, 32, 33, 26, 34, 35, 36, 37, 38, 39, 40, 41, 42, 43, 44, 45, 46, 47, 48, 49, 50, 8, 51, 52, 53, 54, 20, 55, 22, 56, 57, 58, 59, 60, 61, 62, 63, 64, 65, 66, 67, 68, 69, 70, 71, 72, 73, 74, 75, 76, 77, 78, 79, 80, 81, 82, 83, 84, 85, 86, 87, 88, 89, 90, 91, 92, 93, 94, 95, 96, 97, 98, 99, 100, 101, 102, 103, 104, 105, 106, 107, 108, 109, 110, 111, 112, 113, 114, 115, 116, 154, 155, 156, 157, 158, 159, 160, 161, 162, 163, 164, 165, 151, 152, 153] (by decide +kernel) (by decide +kernel)
set_option maxRecDepth 20000 in
theorem gX7_setSpring_X5_explore : GoodIn wsX7_setSpring (wsV RX7 152 RX5 yX5_explore wsX5_explore) := goodIn_app (goodIn_of _ (by decide +kernel)) ggX7_setSpring_X5_explore
set_option maxRecDepth 20000 in
theorem ggX7_setSpring_X7_endRunsIfWithdrawn : GoodIn wsX7_setSpring wsX7_endRunsIfWithdrawn := goodIn_ca (goodIn_r _ [120, 121, 122, 123, 8, 124, 10, 11, 125, 143, 144, 145, 146, 147, 148, 149, 150, 166, 167, 168, 169, 136, 137, 138, 139, 140, 141, 142] (by decide +kernel) (by decide +kernel)) (goodIn_sub (fun _ h => List.mem_cons_of_mem _ (List.mem_append_right _ h)) (by decide +kernel))
set_option maxRecDepth 20000 in
theorem gX7_setSpring_X7_endRunsIfWithdrawn : GoodIn wsX7_setSpring (wsV RX7 159 RX7 yX7_endRunsIfWithdrawn wsX7_endRunsIfWithdrawn) := goodIn_app (goodIn_of _ (by decide +kernel)) ggX7_setSpring_X7_endRunsIfWithdrawn
set_option maxRecDepth 20000 in
theorem ggX7_setSpring_X7_voidProofsWith : GoodIn wsX7_setSpring wsX7_voidProofsWith := goodIn_ca (goodIn_r _ [129, 130, 131, 132, 133, 8, 134, 10, 11, 135, 17, 18, 19, 20, 21, 22, 136, 137, 138, 139, 140, 141, 142, 170, 171, 172, 173, 174, 175, 151, 152, 153] (by decide +kernel) (by decide +kernel)) (goodIn_sub (fun _ h => List.mem_cons_of_mem _ (List.mem_append_right _ h)) (by decide +kernel))
set_option maxRecDepth 20000 in
theorem gX7_setSpring_X7_voidProofsWith : GoodIn wsX7_setSpring (wsV RX7 163 RX7 yX7_voidProofsWith wsX7_voidProofsWith) := goodIn_app (goodIn_of _ (by decide +kernel)) ggX7_setSpring_X7_voidProofsWith
theorem dX7_setSpring_0 : decode cX7_setSpring 0 = .ok (.iload_n 1, 1) := by decide +kernel
theorem dX7_setSpring_1 : decode cX7_setSpring 1 = .ok (.invokestatic 137, 3) := by decide +kernel
theorem dX7_setSpring_4 : decode cX7_setSpring 4 = .ok (.iload_n 2, 1) := by decide +kernel
theorem dX7_setSpring_5 : decode cX7_setSpring 5 = .ok (.iconst 1, 1) := by decide +kernel
theorem dX7_setSpring_6 : decode cX7_setSpring 6 = .ok (.if_icmp .lt 8, 3) := by decide +kernel
theorem dX7_setSpring_9 : decode cX7_setSpring 9 = .ok (.iload_n 2, 1) := by decide +kernel
theorem dX7_setSpring_10 : decode cX7_setSpring 10 = .ok (.iconst 4, 1) := by decide +kernel
theorem dX7_setSpring_11 : decode cX7_setSpring 11 = .ok (.if_icmp .le 13, 3) := by decide +kernel
theorem dX7_setSpring_14 : decode cX7_setSpring 14 = .ok (.new 73, 3) := by decide +kernel
theorem dX7_setSpring_17 : decode cX7_setSpring 17 = .ok (.dup, 1) := by decide +kernel
theorem dX7_setSpring_18 : decode cX7_setSpring 18 = .ok (.ldc 140, 2) := by decide +kernel
theorem dX7_setSpring_20 : decode cX7_setSpring 20 = .ok (.invokespecial 77, 3) := by decide +kernel
theorem dX7_setSpring_23 : decode cX7_setSpring 23 = .ok (.athrow, 1) := by decide +kernel
theorem dX7_setSpring_24 : decode cX7_setSpring 24 = .ok (.aload_n 0, 1) := by decide +kernel
theorem dX7_setSpring_25 : decode cX7_setSpring 25 = .ok (.getfield 7, 3) := by decide +kernel
theorem dX7_setSpring_28 : decode cX7_setSpring 28 = .ok (.iload_n 1, 1) := by decide +kernel
theorem dX7_setSpring_29 : decode cX7_setSpring 29 = .ok (.iaload, 1) := by decide +kernel
theorem dX7_setSpring_30 : decode cX7_setSpring 30 = .ok (.iload_n 2, 1) := by decide +kernel
theorem dX7_setSpring_31 : decode cX7_setSpring 31 = .ok (.if_icmp .ne 5, 3) := by decide +kernel
theorem dX7_setSpring_34 : decode cX7_setSpring 34 = .ok (.iconst 0, 1) := by decide +kernel
theorem dX7_setSpring_35 : decode cX7_setSpring 35 = .ok (.ireturn, 1) := by decide +kernel
theorem dX7_setSpring_36 : decode cX7_setSpring 36 = .ok (.aload_n 0, 1) := by decide +kernel
theorem dX7_setSpring_37 : decode cX7_setSpring 37 = .ok (.getfield 7, 3) := by decide +kernel
theorem dX7_setSpring_40 : decode cX7_setSpring 40 = .ok (.iload_n 1, 1) := by decide +kernel
theorem dX7_setSpring_41 : decode cX7_setSpring 41 = .ok (.iload_n 2, 1) := by decide +kernel
theorem dX7_setSpring_42 : decode cX7_setSpring 42 = .ok (.iastore, 1) := by decide +kernel
theorem dX7_setSpring_43 : decode cX7_setSpring 43 = .ok (.iconst 0, 1) := by decide +kernel
theorem dX7_setSpring_44 : decode cX7_setSpring 44 = .ok (.istore_n 3, 1) := by decide +kernel
theorem dX7_setSpring_45 : decode cX7_setSpring 45 = .ok (.iload_n 3, 1) := by decide +kernel
theorem dX7_setSpring_46 : decode cX7_setSpring 46 = .ok (.aload_n 0, 1) := by decide +kernel
theorem dX7_setSpring_47 : decode cX7_setSpring 47 = .ok (.getfield 44, 3) := by decide +kernel
theorem dX7_setSpring_50 : decode cX7_setSpring 50 = .ok (.if_icmp .ge 60, 3) := by decide +kernel
theorem dX7_setSpring_53 : decode cX7_setSpring 53 = .ok (.aload_n 0, 1) := by decide +kernel
theorem dX7_setSpring_54 : decode cX7_setSpring 54 = .ok (.iload_n 3, 1) := by decide +kernel
theorem dX7_setSpring_55 : decode cX7_setSpring 55 = .ok (.invokevirtual 142, 3) := by decide +kernel
theorem dX7_setSpring_58 : decode cX7_setSpring 58 = .ok (.astore 4, 2) := by decide +kernel
theorem dX7_setSpring_60 : decode cX7_setSpring 60 = .ok (.aload 4, 2) := by decide +kernel
theorem dX7_setSpring_62 : decode cX7_setSpring 62 = .ok (.getfield 146, 3) := by decide +kernel
theorem dX7_setSpring_65 : decode cX7_setSpring 65 = .ok (.bipush 6, 2) := by decide +kernel
theorem dX7_setSpring_67 : decode cX7_setSpring 67 = .ok (.iload_n 1, 1) := by decide +kernel
theorem dX7_setSpring_68 : decode cX7_setSpring 68 = .ok (.iadd, 1) := by decide +kernel
theorem dX7_setSpring_69 : decode cX7_setSpring 69 = .ok (.invokevirtual 147, 3) := by decide +kernel
theorem dX7_setSpring_72 : decode cX7_setSpring 72 = .ok (.ifCond .eq 32, 3) := by decide +kernel
theorem dX7_setSpring_75 : decode cX7_setSpring 75 = .ok (.aload 4, 2) := by decide +kernel
theorem dX7_setSpring_77 : decode cX7_setSpring 77 = .ok (.aload_n 0, 1) := by decide +kernel
theorem dX7_setSpring_78 : decode cX7_setSpring 78 = .ok (.getfield 36, 3) := by decide +kernel
theorem dX7_setSpring_81 : decode cX7_setSpring 81 = .ok (.aload 4, 2) := by decide +kernel
theorem dX7_setSpring_83 : decode cX7_setSpring 83 = .ok (.getfield 146, 3) := by decide +kernel
theorem dX7_setSpring_86 : decode cX7_setSpring 86 = .ok (.aload 4, 2) := by decide +kernel
theorem dX7_setSpring_88 : decode cX7_setSpring 88 = .ok (.getfield 151, 3) := by decide +kernel
theorem dX7_setSpring_91 : decode cX7_setSpring 91 = .ok (.iconst 1, 1) := by decide +kernel
theorem dX7_setSpring_92 : decode cX7_setSpring 92 = .ok (.invokevirtual 152, 3) := by decide +kernel
theorem dX7_setSpring_95 : decode cX7_setSpring 95 = .ok (.putfield 156, 3) := by decide +kernel
theorem dX7_setSpring_98 : decode cX7_setSpring 98 = .ok (.aload_n 0, 1) := by decide +kernel
theorem dX7_setSpring_99 : decode cX7_setSpring 99 = .ok (.aload 4, 2) := by decide +kernel
theorem dX7_setSpring_101 : decode cX7_setSpring 101 = .ok (.invokevirtual 159, 3) := by decide +kernel
theorem dX7_setSpring_104 : decode cX7_setSpring 104 = .ok (.iinc 3 1, 3) := by decide +kernel
theorem dX7_setSpring_107 : decode cX7_setSpring 107 = .ok (.goto (-62), 3) := by decide +kernel
theorem dX7_setSpring_110 : decode cX7_setSpring 110 = .ok (.aload_n 0, 1) := by decide +kernel
theorem dX7_setSpring_111 : decode cX7_setSpring 111 = .ok (.bipush 6, 2) := by decide +kernel
theorem dX7_setSpring_113 : decode cX7_setSpring 113 = .ok (.iload_n 1, 1) := by decide +kernel
theorem dX7_setSpring_114 : decode cX7_setSpring 114 = .ok (.iadd, 1) := by decide +kernel
theorem dX7_setSpring_115 : decode cX7_setSpring 115 = .ok (.invokevirtual 163, 3) := by decide +kernel
theorem dX7_setSpring_118 : decode cX7_setSpring 118 = .ok (.ireturn, 1) := by decide +kernel
set_option maxRecDepth 20000 in
theorem ggX7_prove_X7_levelOf : GoodIn wsX7_prove wsX7_levelOf := goodIn_ca (goodIn_r _ [6, 7, 8, 9, 106, 107, 108, 109, 110, 111, 112] (by decide +kernel) (by decide +kernel)) (goodIn_sub (fun _ h => List.mem_cons_of_mem _ (List.mem_append_right _ h)) (by decide +kernel))
set_option maxRecDepth 20000 in
theorem gX7_prove_X7_levelOf : GoodIn wsX7_prove (wsV RX7 66 RX7 yX7_levelOf wsX7_levelOf) := goodIn_app (goodIn_of _ (by decide +kernel)) ggX7_prove_X7_levelOf
set_option maxRecDepth 20000 in
theorem ggX7_prove_X5_explore : GoodIn wsX7_prove wsX5_explore := goodIn_r _ [14, 15, 16, 17, 18, 19, 20, 13, 21, 22, 23, 24, 25, 26, 27, 28, 29, 30, 31, 32, 33, 34, 35, 36, 37, 5, 38, 39, 40, 41, 42, 43, 44, 45, 46, 47, 48, 49, 50, 51, 52, 53, 54, 55, 56, 57, 58, 59, 60, 61, 62, 63, 64, 65, 66, 67, 68, 69, 70, 71, 72, 73, 74, 75, 76, 77, 78, 79, 80, 81, 82, 83, 84, 85, 86, 87, 88, 89, 90, 91, 92, 93, 94, 95, 96, 97, 98, 99, 100, 101, 102, 103, 104, 105, 119, 120, 121, 122, 123, 124, 125, 126, 127, 128, 129, 130, 131, 132, 133] (by decide +kernel) (by decide +kernel)
set_option maxRecDepth 20000 in
theorem gX7_prove_X5_explore : GoodIn wsX7_prove (wsV RX7 152 RX5 yX5_explore wsX5_explore) := goodIn_app (goodIn_of _ (by decide +kernel)) ggX7_prove_X5_explore
theorem dX7_prove_0 : decode cX7_prove 0 = .ok (.aload_n 0, 1) := by decide +kernel
theorem dX7_prove_1 : decode cX7_prove 1 = .ok (.iload_n 1, 1) := by decide +kernel
theorem dX7_prove_2 : decode cX7_prove 2 = .ok (.invokevirtual 66, 3) := by decide +kernel
theorem dX7_prove_5 : decode cX7_prove 5 = .ok (.astore_n 2, 1) := by decide +kernel
theorem dX7_prove_6 : decode cX7_prove 6 = .ok (.aload_n 2, 1) := by decide +kernel
theorem dX7_prove_7 : decode cX7_prove 7 = .ok (.aload_n 0, 1) := by decide +kernel
theorem dX7_prove_8 : decode cX7_prove 8 = .ok (.getfield 36, 3) := by decide +kernel
theorem dX7_prove_11 : decode cX7_prove 11 = .ok (.aload_n 2, 1) := by decide +kernel
theorem dX7_prove_12 : decode cX7_prove 12 = .ok (.getfield 56, 3) := by decide +kernel
theorem dX7_prove_15 : decode cX7_prove 15 = .ok (.aload_n 2, 1) := by decide +kernel
theorem dX7_prove_16 : decode cX7_prove 16 = .ok (.getfield 106, 3) := by decide +kernel
theorem dX7_prove_19 : decode cX7_prove 19 = .ok (.iconst 1, 1) := by decide +kernel
theorem dX7_prove_20 : decode cX7_prove 20 = .ok (.invokevirtual 152, 3) := by decide +kernel
theorem dX7_prove_23 : decode cX7_prove 23 = .ok (.putfield 109, 3) := by decide +kernel
theorem dX7_prove_26 : decode cX7_prove 26 = .ok (.aload_n 2, 1) := by decide +kernel
theorem dX7_prove_27 : decode cX7_prove 27 = .ok (.getfield 109, 3) := by decide +kernel
theorem dX7_prove_30 : decode cX7_prove 30 = .ok (.ireturn, 1) := by decide +kernel
set_option maxRecDepth 20000 in
theorem ggX7_offer_X7_levelOf : GoodIn wsX7_offer wsX7_levelOf := goodIn_ca (goodIn_r _ [12, 13, 14, 15, 64, 65, 66, 67, 68, 69, 70] (by decide +kernel) (by decide +kernel)) (goodIn_sub (fun _ h => List.mem_cons_of_mem _ (List.mem_append_right _ h)) (by decide +kernel))
set_option maxRecDepth 20000 in
theorem gX7_offer_X7_levelOf : GoodIn wsX7_offer (wsV RX7 66 RX7 yX7_levelOf wsX7_levelOf) := goodIn_app (goodIn_of _ (by decide +kernel)) ggX7_offer_X7_levelOf
set_option maxRecDepth 20000 in
theorem ggX7_offer_X6_init : GoodIn wsX7_offer wsX6_init := goodIn_r _ [18, 19, 20, 21, 22, 23, 24, 25, 26, 27, 28, 29, 30, 31, 32, 33, 34, 35, 36, 37, 38, 39, 40, 41, 42, 43, 44, 45, 46, 47, 48, 49, 50, 51, 52, 11, 53, 54, 55, 56, 57, 79, 80, 81, 71, 72, 73, 74, 75, 76, 77, 78, 58, 59, 60, 61, 62, 63] (by decide +kernel) (by decide +kernel)
set_option maxRecDepth 20000 in
theorem gX7_offer_X6_init : GoodIn wsX7_offer (wsX6_init) := ggX7_offer_X6_init
theorem dX7_offer_0 : decode cX7_offer 0 = .ok (.aload_n 0, 1) := by decide +kernel
theorem dX7_offer_1 : decode cX7_offer 1 = .ok (.iload_n 1, 1) := by decide +kernel
theorem dX7_offer_2 : decode cX7_offer 2 = .ok (.invokevirtual 66, 3) := by decide +kernel
theorem dX7_offer_5 : decode cX7_offer 5 = .ok (.astore_n 2, 1) := by decide +kernel
theorem dX7_offer_6 : decode cX7_offer 6 = .ok (.aload_n 2, 1) := by decide +kernel
theorem dX7_offer_7 : decode cX7_offer 7 = .ok (.getfield 109, 3) := by decide +kernel
theorem dX7_offer_10 : decode cX7_offer 10 = .ok (.ifCond .ge 13, 3) := by decide +kernel
theorem dX7_offer_13 : decode cX7_offer 13 = .ok (.new 88, 3) := by decide +kernel
theorem dX7_offer_16 : decode cX7_offer 16 = .ok (.dup, 1) := by decide +kernel
theorem dX7_offer_17 : decode cX7_offer 17 = .ok (.ldc 166, 2) := by decide +kernel
theorem dX7_offer_19 : decode cX7_offer 19 = .ok (.invokespecial 92, 3) := by decide +kernel
theorem dX7_offer_22 : decode cX7_offer 22 = .ok (.athrow, 1) := by decide +kernel
theorem dX7_offer_23 : decode cX7_offer 23 = .ok (.aload_n 0, 1) := by decide +kernel
theorem dX7_offer_24 : decode cX7_offer 24 = .ok (.getfield 44, 3) := by decide +kernel
theorem dX7_offer_27 : decode cX7_offer 27 = .ok (.aload_n 0, 1) := by decide +kernel
theorem dX7_offer_28 : decode cX7_offer 28 = .ok (.getfield 21, 3) := by decide +kernel
theorem dX7_offer_31 : decode cX7_offer 31 = .ok (.arraylength, 1) := by decide +kernel
theorem dX7_offer_32 : decode cX7_offer 32 = .ok (.if_icmp .lt 13, 3) := by decide +kernel
theorem dX7_offer_35 : decode cX7_offer 35 = .ok (.new 88, 3) := by decide +kernel
theorem dX7_offer_38 : decode cX7_offer 38 = .ok (.dup, 1) := by decide +kernel
theorem dX7_offer_39 : decode cX7_offer 39 = .ok (.ldc 168, 2) := by decide +kernel
theorem dX7_offer_41 : decode cX7_offer 41 = .ok (.invokespecial 92, 3) := by decide +kernel
theorem dX7_offer_44 : decode cX7_offer 44 = .ok (.athrow, 1) := by decide +kernel
theorem dX7_offer_45 : decode cX7_offer 45 = .ok (.aload_n 0, 1) := by decide +kernel
theorem dX7_offer_46 : decode cX7_offer 46 = .ok (.getfield 21, 3) := by decide +kernel
theorem dX7_offer_49 : decode cX7_offer 49 = .ok (.aload_n 0, 1) := by decide +kernel
theorem dX7_offer_50 : decode cX7_offer 50 = .ok (.getfield 44, 3) := by decide +kernel
theorem dX7_offer_53 : decode cX7_offer 53 = .ok (.new 19, 3) := by decide +kernel
theorem dX7_offer_56 : decode cX7_offer 56 = .ok (.dup, 1) := by decide +kernel
theorem dX7_offer_57 : decode cX7_offer 57 = .ok (.aload_n 0, 1) := by decide +kernel
theorem dX7_offer_58 : decode cX7_offer 58 = .ok (.getfield 44, 3) := by decide +kernel
theorem dX7_offer_61 : decode cX7_offer 61 = .ok (.aload_n 2, 1) := by decide +kernel
theorem dX7_offer_62 : decode cX7_offer 62 = .ok (.invokespecial 170, 3) := by decide +kernel
theorem dX7_offer_65 : decode cX7_offer 65 = .ok (.aastore, 1) := by decide +kernel
theorem dX7_offer_66 : decode cX7_offer 66 = .ok (.aload_n 0, 1) := by decide +kernel
theorem dX7_offer_67 : decode cX7_offer 67 = .ok (.dup, 1) := by decide +kernel
theorem dX7_offer_68 : decode cX7_offer 68 = .ok (.getfield 44, 3) := by decide +kernel
theorem dX7_offer_71 : decode cX7_offer 71 = .ok (.iconst 1, 1) := by decide +kernel
theorem dX7_offer_72 : decode cX7_offer 72 = .ok (.iadd, 1) := by decide +kernel
theorem dX7_offer_73 : decode cX7_offer 73 = .ok (.putfield 44, 3) := by decide +kernel
theorem dX7_offer_76 : decode cX7_offer 76 = .ok (.aload_n 0, 1) := by decide +kernel
theorem dX7_offer_77 : decode cX7_offer 77 = .ok (.getfield 44, 3) := by decide +kernel
theorem dX7_offer_80 : decode cX7_offer 80 = .ok (.iconst 1, 1) := by decide +kernel
theorem dX7_offer_81 : decode cX7_offer 81 = .ok (.isub, 1) := by decide +kernel
theorem dX7_offer_82 : decode cX7_offer 82 = .ok (.ireturn, 1) := by decide +kernel
set_option maxRecDepth 20000 in
theorem ggX7_copy_X7_workOf : GoodIn wsX7_copy wsX7_workOf := goodIn_ca (goodIn_r _ [6, 7, 8, 9, 91, 92, 93, 94, 95, 96, 97] (by decide +kernel) (by decide +kernel)) (goodIn_sub (fun _ h => List.mem_cons_of_mem _ (List.mem_append_left _ (List.mem_append_right _ h))) (by decide +kernel))
set_option maxRecDepth 20000 in
theorem gX7_copy_X7_workOf : GoodIn wsX7_copy (wsV RX7 142 RX7 yX7_workOf wsX7_workOf) := goodIn_app (goodIn_of _ (by decide +kernel)) ggX7_copy_X7_workOf
set_option maxRecDepth 20000 in
theorem ggX7_copy_X7_checkPerson : GoodIn wsX7_copy wsX7_checkPerson := goodIn_ca (goodIn_r _ [12, 7, 8] (by decide +kernel) (by decide +kernel)) (goodIn_sub (fun _ h => List.mem_cons_of_mem _ (List.mem_append_left _ (List.mem_append_right _ h))) (by decide +kernel))
set_option maxRecDepth 20000 in
theorem gX7_copy_X7_checkPerson : GoodIn wsX7_copy (va_wsS RX7 48 yX7_checkPerson wsX7_checkPerson) := goodIn_app (goodIn_of _ (by decide +kernel)) ggX7_copy_X7_checkPerson
set_option maxRecDepth 20000 in
theorem ggX7_copy_X7_checkNotWithdrawn : GoodIn wsX7_copy wsX7_checkNotWithdrawn := goodIn_ca (goodIn_r _ [15, 16, 17, 83, 84, 85, 86, 87, 88, 89, 90] (by decide +kernel) (by decide +kernel)) (goodIn_sub (fun _ h => List.mem_cons_of_mem _ (List.mem_append_right _ h)) (by decide +kernel))
set_option maxRecDepth 20000 in
theorem gX7_copy_X7_checkNotWithdrawn : GoodIn wsX7_copy (va_wsS RX7 173 yX7_checkNotWithdrawn wsX7_checkNotWithdrawn) := goodIn_app (goodIn_of _ (by decide +kernel)) ggX7_copy_X7_checkNotWithdrawn
set_option maxRecDepth 20000 in
theorem ggX7_copy_X7_addLevel : GoodIn wsX7_copy wsX7_addLevel := goodIn_ca (goodIn_r _ [21, 16, 17, 1, 22, 23, 24, 25, 26, 27, 28, 29, 30, 31, 32, 33, 34, 35, 36, 37, 38, 39, 40, 41, 42, 43, 44, 45, 46, 47, 48, 49, 50, 51, 52, 53, 54, 55, 56, 57, 58, 91, 92, 93, 94, 95, 96, 97, 77, 78, 79, 80, 81, 82, 98, 99, 100, 101, 102, 103, 104, 105] (by decide +kernel) (by decide +kernel)) (goodIn_sub (fun _ h => List.mem_cons_of_mem _ (List.mem_append_right _ h)) (by decide +kernel))
set_option maxRecDepth 20000 in
theorem gX7_copy_X7_addLevel : GoodIn wsX7_copy (wsV RX7 52 RX7 yX7_addLevel wsX7_addLevel) := goodIn_app (goodIn_of _ (by decide +kernel)) ggX7_copy_X7_addLevel
set_option maxRecDepth 20000 in
theorem ggX7_copy_X1_putAllOf : GoodIn wsX7_copy wsX1_putAllOf := goodIn_r _ [62, 63, 64, 65, 34, 66, 48, 67, 68, 69, 70, 71, 5, 72, 73, 74, 75, 76, 49, 50, 98, 99, 100] (by decide +kernel) (by decide +kernel)
set_option maxRecDepth 20000 in
theorem gX7_copy_X1_putAllOf : GoodIn wsX7_copy (wsV RX7 176 RX1 yX1_putAllOf wsX1_putAllOf) := goodIn_app (goodIn_of _ (by decide +kernel)) ggX7_copy_X1_putAllOf
theorem dX7_copy_0 : decode cX7_copy 0 = .ok (.aload_n 0, 1) := by decide +kernel
theorem dX7_copy_1 : decode cX7_copy 1 = .ok (.iload_n 1, 1) := by decide +kernel
theorem dX7_copy_2 : decode cX7_copy 2 = .ok (.invokevirtual 142, 3) := by decide +kernel
theorem dX7_copy_5 : decode cX7_copy 5 = .ok (.astore_n 3, 1) := by decide +kernel
theorem dX7_copy_6 : decode cX7_copy 6 = .ok (.iload_n 2, 1) := by decide +kernel
theorem dX7_copy_7 : decode cX7_copy 7 = .ok (.invokestatic 48, 3) := by decide +kernel
theorem dX7_copy_10 : decode cX7_copy 10 = .ok (.aload_n 3, 1) := by decide +kernel
theorem dX7_copy_11 : decode cX7_copy 11 = .ok (.invokestatic 173, 3) := by decide +kernel
theorem dX7_copy_14 : decode cX7_copy 14 = .ok (.aload_n 0, 1) := by decide +kernel
theorem dX7_copy_15 : decode cX7_copy 15 = .ok (.iload_n 2, 1) := by decide +kernel
theorem dX7_copy_16 : decode cX7_copy 16 = .ok (.aload_n 3, 1) := by decide +kernel
theorem dX7_copy_17 : decode cX7_copy 17 = .ok (.invokevirtual 52, 3) := by decide +kernel
theorem dX7_copy_20 : decode cX7_copy 20 = .ok (.astore 4, 2) := by decide +kernel
theorem dX7_copy_22 : decode cX7_copy 22 = .ok (.aload 4, 2) := by decide +kernel
theorem dX7_copy_24 : decode cX7_copy 24 = .ok (.getfield 56, 3) := by decide +kernel
theorem dX7_copy_27 : decode cX7_copy 27 = .ok (.aload_n 3, 1) := by decide +kernel
theorem dX7_copy_28 : decode cX7_copy 28 = .ok (.getfield 146, 3) := by decide +kernel
theorem dX7_copy_31 : decode cX7_copy 31 = .ok (.invokevirtual 176, 3) := by decide +kernel
theorem dX7_copy_34 : decode cX7_copy 34 = .ok (.aload 4, 2) := by decide +kernel
theorem dX7_copy_36 : decode cX7_copy 36 = .ok (.aload_n 3, 1) := by decide +kernel
theorem dX7_copy_37 : decode cX7_copy 37 = .ok (.getfield 151, 3) := by decide +kernel
theorem dX7_copy_40 : decode cX7_copy 40 = .ok (.putfield 106, 3) := by decide +kernel
theorem dX7_copy_43 : decode cX7_copy 43 = .ok (.aload_n 0, 1) := by decide +kernel
theorem dX7_copy_44 : decode cX7_copy 44 = .ok (.getfield 40, 3) := by decide +kernel
theorem dX7_copy_47 : decode cX7_copy 47 = .ok (.iconst 1, 1) := by decide +kernel
theorem dX7_copy_48 : decode cX7_copy 48 = .ok (.isub, 1) := by decide +kernel
theorem dX7_copy_49 : decode cX7_copy 49 = .ok (.ireturn, 1) := by decide +kernel
set_option maxRecDepth 20000 in
theorem ggX7_star_X7_workOf : GoodIn wsX7_star wsX7_workOf := goodIn_ca (goodIn_r _ [9, 10, 11, 12, 27, 28, 29, 30, 31, 32, 33] (by decide +kernel) (by decide +kernel)) (goodIn_sub (fun _ h => List.mem_cons_of_mem _ (List.mem_append_right _ h)) (by decide +kernel))
set_option maxRecDepth 20000 in
theorem gX7_star_X7_workOf : GoodIn wsX7_star (wsV RX7 142 RX7 yX7_workOf wsX7_workOf) := goodIn_app (goodIn_of _ (by decide +kernel)) ggX7_star_X7_workOf
set_option maxRecDepth 20000 in
theorem ggX7_star_X7_checkPerson : GoodIn wsX7_star wsX7_checkPerson := goodIn_ca (goodIn_r _ [15, 10, 11] (by decide +kernel) (by decide +kernel)) (goodIn_sub (fun _ h => List.mem_cons_of_mem _ (List.mem_append_right _ h)) (by decide +kernel))
set_option maxRecDepth 20000 in
theorem gX7_star_X7_checkPerson : GoodIn wsX7_star (va_wsS RX7 48 yX7_checkPerson wsX7_checkPerson) := goodIn_app (goodIn_of _ (by decide +kernel)) ggX7_star_X7_checkPerson
set_option maxRecDepth 20000 in
theorem ggX7_star_X7_checkNotWithdrawn : GoodIn wsX7_star wsX7_checkNotWithdrawn := goodIn_ca (goodIn_r _ [18, 3, 4, 19, 20, 21, 22, 23, 24, 25, 26] (by decide +kernel) (by decide +kernel)) (goodIn_sub (fun _ h => List.mem_cons_of_mem _ (List.mem_append_left _ (List.mem_append_right _ h))) (by decide +kernel))
set_option maxRecDepth 20000 in
theorem gX7_star_X7_checkNotWithdrawn : GoodIn wsX7_star (va_wsS RX7 173 yX7_checkNotWithdrawn wsX7_checkNotWithdrawn) := goodIn_app (goodIn_of _ (by decide +kernel)) ggX7_star_X7_checkNotWithdrawn
theorem dX7_star_0 : decode cX7_star 0 = .ok (.aload_n 0, 1) := by decide +kernel
theorem dX7_star_1 : decode cX7_star 1 = .ok (.iload_n 1, 1) := by decide +kernel
theorem dX7_star_2 : decode cX7_star 2 = .ok (.invokevirtual 142, 3) := by decide +kernel
theorem dX7_star_5 : decode cX7_star 5 = .ok (.astore 4, 2) := by decide +kernel
theorem dX7_star_7 : decode cX7_star 7 = .ok (.iload_n 2, 1) := by decide +kernel
theorem dX7_star_8 : decode cX7_star 8 = .ok (.invokestatic 48, 3) := by decide +kernel
theorem dX7_star_11 : decode cX7_star 11 = .ok (.iload_n 3, 1) := by decide +kernel
theorem dX7_star_12 : decode cX7_star 12 = .ok (.iconst 1, 1) := by decide +kernel
theorem dX7_star_13 : decode cX7_star 13 = .ok (.if_icmp .lt 8, 3) := by decide +kernel
theorem dX7_star_16 : decode cX7_star 16 = .ok (.iload_n 3, 1) := by decide +kernel
theorem dX7_star_17 : decode cX7_star 17 = .ok (.iconst 5, 1) := by decide +kernel
theorem dX7_star_18 : decode cX7_star 18 = .ok (.if_icmp .le 13, 3) := by decide +kernel
theorem dX7_star_21 : decode cX7_star 21 = .ok (.new 73, 3) := by decide +kernel
theorem dX7_star_24 : decode cX7_star 24 = .ok (.dup, 1) := by decide +kernel
theorem dX7_star_25 : decode cX7_star 25 = .ok (.ldc 180, 2) := by decide +kernel
theorem dX7_star_27 : decode cX7_star 27 = .ok (.invokespecial 77, 3) := by decide +kernel
theorem dX7_star_30 : decode cX7_star 30 = .ok (.athrow, 1) := by decide +kernel
theorem dX7_star_31 : decode cX7_star 31 = .ok (.aload 4, 2) := by decide +kernel
theorem dX7_star_33 : decode cX7_star 33 = .ok (.invokestatic 173, 3) := by decide +kernel
theorem dX7_star_36 : decode cX7_star 36 = .ok (.aload 4, 2) := by decide +kernel
theorem dX7_star_38 : decode cX7_star 38 = .ok (.getfield 182, 3) := by decide +kernel
theorem dX7_star_41 : decode cX7_star 41 = .ok (.iload_n 2, 1) := by decide +kernel
theorem dX7_star_42 : decode cX7_star 42 = .ok (.if_icmp .ne 13, 3) := by decide +kernel
theorem dX7_star_45 : decode cX7_star 45 = .ok (.new 88, 3) := by decide +kernel
theorem dX7_star_48 : decode cX7_star 48 = .ok (.dup, 1) := by decide +kernel
theorem dX7_star_49 : decode cX7_star 49 = .ok (.ldc 185, 2) := by decide +kernel
theorem dX7_star_51 : decode cX7_star 51 = .ok (.invokespecial 92, 3) := by decide +kernel
theorem dX7_star_54 : decode cX7_star 54 = .ok (.athrow, 1) := by decide +kernel
theorem dX7_star_55 : decode cX7_star 55 = .ok (.aload 4, 2) := by decide +kernel
theorem dX7_star_57 : decode cX7_star 57 = .ok (.getfield 187, 3) := by decide +kernel
theorem dX7_star_60 : decode cX7_star 60 = .ok (.iload_n 2, 1) := by decide +kernel
theorem dX7_star_61 : decode cX7_star 61 = .ok (.iaload, 1) := by decide +kernel
theorem dX7_star_62 : decode cX7_star 62 = .ok (.istore 5, 2) := by decide +kernel
theorem dX7_star_64 : decode cX7_star 64 = .ok (.aload 4, 2) := by decide +kernel
theorem dX7_star_66 : decode cX7_star 66 = .ok (.getfield 187, 3) := by decide +kernel
theorem dX7_star_69 : decode cX7_star 69 = .ok (.iload_n 2, 1) := by decide +kernel
theorem dX7_star_70 : decode cX7_star 70 = .ok (.iload_n 3, 1) := by decide +kernel
theorem dX7_star_71 : decode cX7_star 71 = .ok (.iastore, 1) := by decide +kernel
theorem dX7_star_72 : decode cX7_star 72 = .ok (.iload 5, 2) := by decide +kernel
theorem dX7_star_74 : decode cX7_star 74 = .ok (.ireturn, 1) := by decide +kernel
set_option maxRecDepth 20000 in
theorem ggX7_run_X7_runOf : GoodIn wsX7_run wsX7_runOf := goodIn_ca (goodIn_r _ [5, 6, 7, 8, 68, 69, 70, 71, 72, 73, 74] (by decide +kernel) (by decide +kernel)) (goodIn_sub (fun _ h => List.mem_cons_of_mem _ (List.mem_append_left _ (List.mem_append_right _ h))) (by decide +kernel))
set_option maxRecDepth 20000 in
theorem gX7_run_X7_runOf : GoodIn wsX7_run (wsV RX7 190 RX7 yX7_runOf wsX7_runOf) := goodIn_app (goodIn_of _ (by decide +kernel)) ggX7_run_X7_runOf
set_option maxRecDepth 20000 in
theorem ggX7_run_X7_workOf : GoodIn wsX7_run wsX7_workOf := goodIn_ca (goodIn_r _ [12, 6, 7, 13, 68, 69, 70, 71, 72, 73, 74] (by decide +kernel) (by decide +kernel)) (goodIn_sub (fun _ h => List.mem_cons_of_mem _ (List.mem_append_left _ (List.mem_append_right _ h))) (by decide +kernel))
set_option maxRecDepth 20000 in
theorem gX7_run_X7_workOf : GoodIn wsX7_run (wsV RX7 142 RX7 yX7_workOf wsX7_workOf) := goodIn_app (goodIn_of _ (by decide +kernel)) ggX7_run_X7_workOf
set_option maxRecDepth 20000 in
theorem ggX7_run_X7_checkNotWithdrawn : GoodIn wsX7_run wsX7_checkNotWithdrawn := goodIn_ca (goodIn_r _ [16, 17, 18, 75, 76, 77, 78, 79, 80, 81, 82] (by decide +kernel) (by decide +kernel)) (goodIn_sub (fun _ h => List.mem_cons_of_mem _ (List.mem_append_right _ h)) (by decide +kernel))
set_option maxRecDepth 20000 in
theorem gX7_run_X7_checkNotWithdrawn : GoodIn wsX7_run (va_wsS RX7 173 yX7_checkNotWithdrawn wsX7_checkNotWithdrawn) := goodIn_app (goodIn_of _ (by decide +kernel)) ggX7_run_X7_checkNotWithdrawn
set_option maxRecDepth 20000 in
theorem ggX7_run_X4_beginOn : GoodIn wsX7_run wsX4_beginOn := goodIn_r _ [23, 24, 25, 26, 27, 28, 29, 30, 31, 32, 33, 34, 35, 36, 37, 38, 39, 40, 4, 41, 42, 43, 44, 45, 46, 47, 48, 49, 50, 51, 52, 53, 54, 55, 22, 56, 57, 58, 59, 60, 61, 62, 63, 83, 84, 85, 86, 75, 76, 77, 78, 79, 80, 81, 82, 87, 88, 89, 90, 91, 92, 93, 94] (by decide +kernel) (by decide +kernel)
set_option maxRecDepth 20000 in
theorem gX7_run_X4_beginOn : GoodIn wsX7_run (wsV RX7 194 RX4 yX4_beginOn wsX4_beginOn) := goodIn_app (goodIn_of _ (by decide +kernel)) ggX7_run_X4_beginOn
set_option maxRecDepth 20000 in
theorem ggX7_run_X4_answer : GoodIn wsX7_run wsX4_answer := goodIn_r _ [67, 57, 26, 83, 84, 85, 86, 87, 88, 89, 90, 91] (by decide +kernel) (by decide +kernel)
set_option maxRecDepth 20000 in
theorem gX7_run_X4_answer : GoodIn wsX7_run (wsV RX7 197 RX4 yX4_answer wsX4_answer) := goodIn_app (goodIn_of _ (by decide +kernel)) ggX7_run_X4_answer
theorem dX7_run_0 : decode cX7_run 0 = .ok (.aload_n 0, 1) := by decide +kernel
theorem dX7_run_1 : decode cX7_run 1 = .ok (.iload_n 1, 1) := by decide +kernel
theorem dX7_run_2 : decode cX7_run 2 = .ok (.invokevirtual 190, 3) := by decide +kernel
theorem dX7_run_5 : decode cX7_run 5 = .ok (.astore_n 3, 1) := by decide +kernel
theorem dX7_run_6 : decode cX7_run 6 = .ok (.aload_n 0, 1) := by decide +kernel
theorem dX7_run_7 : decode cX7_run 7 = .ok (.iload_n 2, 1) := by decide +kernel
theorem dX7_run_8 : decode cX7_run 8 = .ok (.invokevirtual 142, 3) := by decide +kernel
theorem dX7_run_11 : decode cX7_run 11 = .ok (.astore 4, 2) := by decide +kernel
theorem dX7_run_13 : decode cX7_run 13 = .ok (.aload 4, 2) := by decide +kernel
theorem dX7_run_15 : decode cX7_run 15 = .ok (.invokestatic 173, 3) := by decide +kernel
theorem dX7_run_18 : decode cX7_run 18 = .ok (.aload_n 3, 1) := by decide +kernel
theorem dX7_run_19 : decode cX7_run 19 = .ok (.aload 4, 2) := by decide +kernel
theorem dX7_run_21 : decode cX7_run 21 = .ok (.invokevirtual 194, 3) := by decide +kernel
theorem dX7_run_24 : decode cX7_run 24 = .ok (.aload_n 3, 1) := by decide +kernel
theorem dX7_run_25 : decode cX7_run 25 = .ok (.invokevirtual 197, 3) := by decide +kernel
theorem dX7_run_28 : decode cX7_run 28 = .ok (.ireturn, 1) := by decide +kernel
set_option maxRecDepth 20000 in
theorem ggX7_step_X7_runOf : GoodIn wsX7_step wsX7_runOf := goodIn_ca (goodIn_r _ [9, 10, 11, 12, 87, 88, 89, 90, 91, 92, 93] (by decide +kernel) (by decide +kernel)) (goodIn_sub (fun _ h => List.mem_cons_of_mem _ (List.mem_append_right _ h)) (by decide +kernel))
set_option maxRecDepth 20000 in
theorem gX7_step_X7_runOf : GoodIn wsX7_step (wsV RX7 190 RX7 yX7_runOf wsX7_runOf) := goodIn_app (goodIn_of _ (by decide +kernel)) ggX7_step_X7_runOf
set_option maxRecDepth 20000 in
theorem ggX7_step_X4_goOn : GoodIn wsX7_step wsX4_goOn := goodIn_r _ [17, 18, 19, 20, 21, 22, 23, 24, 25, 26, 27, 28, 29, 30, 31, 32, 33, 34, 35, 36, 37, 38, 39, 40, 41, 42, 43, 44, 45, 46, 47, 48, 49, 50, 51, 52, 8, 53, 54, 55, 56, 57, 58, 59, 60, 61, 62, 63, 64, 65, 66, 67, 68, 69, 70, 16, 71, 72, 73, 74, 75, 76, 77, 78, 83, 84, 85, 86, 94, 95, 96, 97, 98, 99, 100, 101, 102, 103, 104, 105, 106, 107, 108, 109] (by decide +kernel) (by decide +kernel)
set_option maxRecDepth 20000 in
theorem gX7_step_X4_goOn : GoodIn wsX7_step (wsV RX7 212 RX4 yX4_goOn wsX4_goOn) := goodIn_app (goodIn_of _ (by decide +kernel)) ggX7_step_X4_goOn
set_option maxRecDepth 20000 in
theorem ggX7_step_X4_answer : GoodIn wsX7_step wsX4_answer := goodIn_r _ [82, 72, 20, 83, 84, 85, 86, 102, 103, 104, 105, 106] (by decide +kernel) (by decide +kernel)
set_option maxRecDepth 20000 in
theorem gX7_step_X4_answer : GoodIn wsX7_step (wsV RX7 197 RX4 yX4_answer wsX4_answer) := goodIn_app (goodIn_of _ (by decide +kernel)) ggX7_step_X4_answer
theorem dX7_step_0 : decode cX7_step 0 = .ok (.aload_n 0, 1) := by decide +kernel
theorem dX7_step_1 : decode cX7_step 1 = .ok (.iload_n 1, 1) := by decide +kernel
theorem dX7_step_2 : decode cX7_step 2 = .ok (.invokevirtual 190, 3) := by decide +kernel
theorem dX7_step_5 : decode cX7_step 5 = .ok (.astore_n 3, 1) := by decide +kernel
theorem dX7_step_6 : decode cX7_step 6 = .ok (.iload_n 2, 1) := by decide +kernel
theorem dX7_step_7 : decode cX7_step 7 = .ok (.ifCond .lt 9, 3) := by decide +kernel
theorem dX7_step_10 : decode cX7_step 10 = .ok (.iload_n 2, 1) := by decide +kernel
theorem dX7_step_11 : decode cX7_step 11 = .ok (.bipush 6, 2) := by decide +kernel
theorem dX7_step_13 : decode cX7_step 13 = .ok (.if_icmp .lt 13, 3) := by decide +kernel
theorem dX7_step_16 : decode cX7_step 16 = .ok (.new 73, 3) := by decide +kernel
theorem dX7_step_19 : decode cX7_step 19 = .ok (.dup, 1) := by decide +kernel
theorem dX7_step_20 : decode cX7_step 20 = .ok (.ldc 200, 2) := by decide +kernel
theorem dX7_step_22 : decode cX7_step 22 = .ok (.invokespecial 77, 3) := by decide +kernel
theorem dX7_step_25 : decode cX7_step 25 = .ok (.athrow, 1) := by decide +kernel
theorem dX7_step_26 : decode cX7_step 26 = .ok (.aload_n 3, 1) := by decide +kernel
theorem dX7_step_27 : decode cX7_step 27 = .ok (.getfield 202, 3) := by decide +kernel
theorem dX7_step_30 : decode cX7_step 30 = .ok (.iconst 1, 1) := by decide +kernel
theorem dX7_step_31 : decode cX7_step 31 = .ok (.if_icmp .eq 13, 3) := by decide +kernel
theorem dX7_step_34 : decode cX7_step 34 = .ok (.new 88, 3) := by decide +kernel
theorem dX7_step_37 : decode cX7_step 37 = .ok (.dup, 1) := by decide +kernel
theorem dX7_step_38 : decode cX7_step 38 = .ok (.ldc 205, 2) := by decide +kernel
theorem dX7_step_40 : decode cX7_step 40 = .ok (.invokespecial 92, 3) := by decide +kernel
theorem dX7_step_43 : decode cX7_step 43 = .ok (.athrow, 1) := by decide +kernel
theorem dX7_step_44 : decode cX7_step 44 = .ok (.aload_n 3, 1) := by decide +kernel
theorem dX7_step_45 : decode cX7_step 45 = .ok (.getfield 207, 3) := by decide +kernel
theorem dX7_step_48 : decode cX7_step 48 = .ok (.sipush 200, 3) := by decide +kernel
theorem dX7_step_51 : decode cX7_step 51 = .ok (.if_icmp .lt 13, 3) := by decide +kernel
theorem dX7_step_54 : decode cX7_step 54 = .ok (.new 88, 3) := by decide +kernel
theorem dX7_step_57 : decode cX7_step 57 = .ok (.dup, 1) := by decide +kernel
theorem dX7_step_58 : decode cX7_step 58 = .ok (.ldc 210, 2) := by decide +kernel
theorem dX7_step_60 : decode cX7_step 60 = .ok (.invokespecial 92, 3) := by decide +kernel
theorem dX7_step_63 : decode cX7_step 63 = .ok (.athrow, 1) := by decide +kernel
theorem dX7_step_64 : decode cX7_step 64 = .ok (.aload_n 3, 1) := by decide +kernel
theorem dX7_step_65 : decode cX7_step 65 = .ok (.iload_n 2, 1) := by decide +kernel
theorem dX7_step_66 : decode cX7_step 66 = .ok (.invokevirtual 212, 3) := by decide +kernel
theorem dX7_step_69 : decode cX7_step 69 = .ok (.aload_n 3, 1) := by decide +kernel
theorem dX7_step_70 : decode cX7_step 70 = .ok (.invokevirtual 197, 3) := by decide +kernel
theorem dX7_step_73 : decode cX7_step 73 = .ok (.ireturn, 1) := by decide +kernel
theorem dX7_levels_0 : decode cX7_levels 0 = .ok (.aload_n 0, 1) := by decide +kernel
theorem dX7_levels_1 : decode cX7_levels 1 = .ok (.getfield 40, 3) := by decide +kernel
theorem dX7_levels_4 : decode cX7_levels 4 = .ok (.ireturn, 1) := by decide +kernel
set_option maxRecDepth 20000 in
theorem ggX7_at_X7_levelOf : GoodIn wsX7_at wsX7_levelOf := goodIn_ca (goodIn_r _ [5, 6, 7, 8, 27, 28, 29, 30, 31, 32, 33] (by decide +kernel) (by decide +kernel)) (goodIn_sub (fun _ h => List.mem_cons_of_mem _ (List.mem_append_right _ h)) (by decide +kernel))
set_option maxRecDepth 20000 in
theorem gX7_at_X7_levelOf : GoodIn wsX7_at (wsV RX7 66 RX7 yX7_levelOf wsX7_levelOf) := goodIn_app (goodIn_of _ (by decide +kernel)) ggX7_at_X7_levelOf
set_option maxRecDepth 20000 in
theorem ggX7_at_X7_checkCell : GoodIn wsX7_at wsX7_checkCell := goodIn_ca (goodIn_r _ [11, 6, 7, 12, 13, 4, 14] (by decide +kernel) (by decide +kernel)) (goodIn_sub (fun _ h => List.mem_cons_of_mem _ (List.mem_append_right _ h)) (by decide +kernel))
set_option maxRecDepth 20000 in
theorem gX7_at_X7_checkCell : GoodIn wsX7_at (va_wsS RX7 70 yX7_checkCell wsX7_checkCell) := goodIn_app (goodIn_of _ (by decide +kernel)) ggX7_at_X7_checkCell
set_option maxRecDepth 20000 in
theorem ggX7_at_X1_kindAt : GoodIn wsX7_at wsX1_kindAt := goodIn_r _ [19, 20, 34, 35, 36] (by decide +kernel) (by decide +kernel)
set_option maxRecDepth 20000 in
theorem gX7_at_X1_kindAt : GoodIn wsX7_at (wsV RX7 80 RX1 yX1_kindAt wsX1_kindAt) := goodIn_app (goodIn_of _ (by decide +kernel)) ggX7_at_X1_kindAt
theorem dX7_at_0 : decode cX7_at 0 = .ok (.aload_n 0, 1) := by decide +kernel
theorem dX7_at_1 : decode cX7_at 1 = .ok (.iload_n 1, 1) := by decide +kernel
theorem dX7_at_2 : decode cX7_at 2 = .ok (.invokevirtual 66, 3) := by decide +kernel
theorem dX7_at_5 : decode cX7_at 5 = .ok (.astore_n 3, 1) := by decide +kernel
theorem dX7_at_6 : decode cX7_at 6 = .ok (.iload_n 2, 1) := by decide +kernel
theorem dX7_at_7 : decode cX7_at 7 = .ok (.invokestatic 70, 3) := by decide +kernel
theorem dX7_at_10 : decode cX7_at 10 = .ok (.aload_n 3, 1) := by decide +kernel
theorem dX7_at_11 : decode cX7_at 11 = .ok (.getfield 56, 3) := by decide +kernel
theorem dX7_at_14 : decode cX7_at 14 = .ok (.iload_n 2, 1) := by decide +kernel
theorem dX7_at_15 : decode cX7_at 15 = .ok (.invokevirtual 80, 3) := by decide +kernel
theorem dX7_at_18 : decode cX7_at 18 = .ok (.ireturn, 1) := by decide +kernel
set_option maxRecDepth 20000 in
theorem ggX7_start_X7_levelOf : GoodIn wsX7_start wsX7_levelOf := goodIn_ca (goodIn_r _ [5, 6, 7, 8, 15, 16, 17, 18, 19, 20, 21] (by decide +kernel) (by decide +kernel)) (goodIn_sub (fun _ h => List.mem_cons_of_mem _ (List.mem_append_right _ h)) (by decide +kernel))
set_option maxRecDepth 20000 in
theorem gX7_start_X7_levelOf : GoodIn wsX7_start (wsV RX7 66 RX7 yX7_levelOf wsX7_levelOf) := goodIn_app (goodIn_of _ (by decide +kernel)) ggX7_start_X7_levelOf
theorem dX7_start_0 : decode cX7_start 0 = .ok (.aload_n 0, 1) := by decide +kernel
theorem dX7_start_1 : decode cX7_start 1 = .ok (.iload_n 1, 1) := by decide +kernel
theorem dX7_start_2 : decode cX7_start 2 = .ok (.invokevirtual 66, 3) := by decide +kernel
theorem dX7_start_5 : decode cX7_start 5 = .ok (.getfield 106, 3) := by decide +kernel
theorem dX7_start_8 : decode cX7_start 8 = .ok (.ireturn, 1) := by decide +kernel
set_option maxRecDepth 20000 in
theorem ggX7_edits_X7_levelOf : GoodIn wsX7_edits wsX7_levelOf := goodIn_ca (goodIn_r _ [5, 6, 7, 8, 20, 21, 22, 23, 24, 25, 26] (by decide +kernel) (by decide +kernel)) (goodIn_sub (fun _ h => List.mem_cons_of_mem _ (List.mem_append_right _ h)) (by decide +kernel))
set_option maxRecDepth 20000 in
theorem gX7_edits_X7_levelOf : GoodIn wsX7_edits (wsV RX7 66 RX7 yX7_levelOf wsX7_levelOf) := goodIn_app (goodIn_of _ (by decide +kernel)) ggX7_edits_X7_levelOf
theorem dX7_edits_0 : decode cX7_edits 0 = .ok (.aload_n 0, 1) := by decide +kernel
theorem dX7_edits_1 : decode cX7_edits 1 = .ok (.iload_n 1, 1) := by decide +kernel
theorem dX7_edits_2 : decode cX7_edits 2 = .ok (.invokevirtual 66, 3) := by decide +kernel
theorem dX7_edits_5 : decode cX7_edits 5 = .ok (.getfield 93, 3) := by decide +kernel
theorem dX7_edits_8 : decode cX7_edits 8 = .ok (.astore_n 3, 1) := by decide +kernel
theorem dX7_edits_9 : decode cX7_edits 9 = .ok (.iload_n 2, 1) := by decide +kernel
theorem dX7_edits_10 : decode cX7_edits 10 = .ok (.ifCond .eq 10, 3) := by decide +kernel
theorem dX7_edits_13 : decode cX7_edits 13 = .ok (.aload_n 3, 1) := by decide +kernel
theorem dX7_edits_14 : decode cX7_edits 14 = .ok (.getfield 112, 3) := by decide +kernel
theorem dX7_edits_17 : decode cX7_edits 17 = .ok (.goto 7, 3) := by decide +kernel
theorem dX7_edits_20 : decode cX7_edits 20 = .ok (.aload_n 3, 1) := by decide +kernel
theorem dX7_edits_21 : decode cX7_edits 21 = .ok (.getfield 126, 3) := by decide +kernel
theorem dX7_edits_24 : decode cX7_edits 24 = .ok (.ireturn, 1) := by decide +kernel
set_option maxRecDepth 20000 in
theorem ggX7_proof_X7_levelOf : GoodIn wsX7_proof wsX7_levelOf := goodIn_ca (goodIn_r _ [5, 6, 7, 8, 15, 16, 17, 18, 19, 20, 21] (by decide +kernel) (by decide +kernel)) (goodIn_sub (fun _ h => List.mem_cons_of_mem _ (List.mem_append_right _ h)) (by decide +kernel))
set_option maxRecDepth 20000 in
theorem gX7_proof_X7_levelOf : GoodIn wsX7_proof (wsV RX7 66 RX7 yX7_levelOf wsX7_levelOf) := goodIn_app (goodIn_of _ (by decide +kernel)) ggX7_proof_X7_levelOf
theorem dX7_proof_0 : decode cX7_proof 0 = .ok (.aload_n 0, 1) := by decide +kernel
theorem dX7_proof_1 : decode cX7_proof 1 = .ok (.iload_n 1, 1) := by decide +kernel
theorem dX7_proof_2 : decode cX7_proof 2 = .ok (.invokevirtual 66, 3) := by decide +kernel
theorem dX7_proof_5 : decode cX7_proof 5 = .ok (.getfield 109, 3) := by decide +kernel
theorem dX7_proof_8 : decode cX7_proof 8 = .ok (.ireturn, 1) := by decide +kernel
set_option maxRecDepth 20000 in
theorem ggX7_shortest_X7_levelOf : GoodIn wsX7_shortest wsX7_levelOf := goodIn_ca (goodIn_r _ [8, 9, 10, 11, 98, 99, 100, 101, 102, 103, 104] (by decide +kernel) (by decide +kernel)) (goodIn_sub (fun _ h => List.mem_cons_of_mem _ (List.mem_append_right _ h)) (by decide +kernel))
set_option maxRecDepth 20000 in
theorem gX7_shortest_X7_levelOf : GoodIn wsX7_shortest (wsV RX7 66 RX7 yX7_levelOf wsX7_levelOf) := goodIn_app (goodIn_of _ (by decide +kernel)) ggX7_shortest_X7_levelOf
set_option maxRecDepth 20000 in
theorem ggX7_shortest_X5_fewestStepsByRows : GoodIn wsX7_shortest wsX5_fewestStepsByRows := goodIn_r _ [16, 17, 18, 19, 20, 21, 15, 22, 23, 24, 25, 26, 27, 28, 29, 30, 31, 32, 33, 34, 35, 36, 37, 38, 39, 7, 40, 41, 42, 43, 44, 45, 46, 47, 48, 49, 50, 51, 52, 53, 54, 55, 56, 57, 58, 59, 60, 61, 62, 63, 64, 65, 66, 67, 68, 69, 70, 71, 72, 73, 74, 75, 76, 77, 78, 79, 80, 81, 82, 83, 84, 85, 86, 87, 88, 89, 90, 91, 92, 93, 94, 95, 96, 97, 111, 112, 113, 114, 115, 116, 117, 118, 119, 120, 121, 122, 123, 124, 125] (by decide +kernel) (by decide +kernel)
set_option maxRecDepth 20000 in
theorem gX7_shortest_X5_fewestStepsByRows : GoodIn wsX7_shortest (wsV RX7 217 RX5 yX5_fewestStepsByRows wsX5_fewestStepsByRows) := goodIn_app (goodIn_of _ (by decide +kernel)) ggX7_shortest_X5_fewestStepsByRows
theorem dX7_shortest_0 : decode cX7_shortest 0 = .ok (.aload_n 0, 1) := by decide +kernel
theorem dX7_shortest_1 : decode cX7_shortest 1 = .ok (.iload_n 1, 1) := by decide +kernel
theorem dX7_shortest_2 : decode cX7_shortest 2 = .ok (.invokevirtual 66, 3) := by decide +kernel
theorem dX7_shortest_5 : decode cX7_shortest 5 = .ok (.astore_n 3, 1) := by decide +kernel
theorem dX7_shortest_6 : decode cX7_shortest 6 = .ok (.iload_n 2, 1) := by decide +kernel
theorem dX7_shortest_7 : decode cX7_shortest 7 = .ok (.ifCond .lt 8, 3) := by decide +kernel
theorem dX7_shortest_10 : decode cX7_shortest 10 = .ok (.iload_n 2, 1) := by decide +kernel
theorem dX7_shortest_11 : decode cX7_shortest 11 = .ok (.iconst 5, 1) := by decide +kernel
theorem dX7_shortest_12 : decode cX7_shortest 12 = .ok (.if_icmp .le 13, 3) := by decide +kernel
theorem dX7_shortest_15 : decode cX7_shortest 15 = .ok (.new 73, 3) := by decide +kernel
theorem dX7_shortest_18 : decode cX7_shortest 18 = .ok (.dup, 1) := by decide +kernel
theorem dX7_shortest_19 : decode cX7_shortest 19 = .ok (.ldc 215, 2) := by decide +kernel
theorem dX7_shortest_21 : decode cX7_shortest 21 = .ok (.invokespecial 77, 3) := by decide +kernel
theorem dX7_shortest_24 : decode cX7_shortest 24 = .ok (.athrow, 1) := by decide +kernel
theorem dX7_shortest_25 : decode cX7_shortest 25 = .ok (.aload_n 0, 1) := by decide +kernel
theorem dX7_shortest_26 : decode cX7_shortest 26 = .ok (.getfield 36, 3) := by decide +kernel
theorem dX7_shortest_29 : decode cX7_shortest 29 = .ok (.aload_n 3, 1) := by decide +kernel
theorem dX7_shortest_30 : decode cX7_shortest 30 = .ok (.getfield 56, 3) := by decide +kernel
theorem dX7_shortest_33 : decode cX7_shortest 33 = .ok (.aload_n 3, 1) := by decide +kernel
theorem dX7_shortest_34 : decode cX7_shortest 34 = .ok (.getfield 106, 3) := by decide +kernel
theorem dX7_shortest_37 : decode cX7_shortest 37 = .ok (.iload_n 2, 1) := by decide +kernel
theorem dX7_shortest_38 : decode cX7_shortest 38 = .ok (.invokevirtual 217, 3) := by decide +kernel
theorem dX7_shortest_41 : decode cX7_shortest 41 = .ok (.ireturn, 1) := by decide +kernel
set_option maxRecDepth 20000 in
theorem ggX7_reach_X7_levelOf : GoodIn wsX7_reach wsX7_levelOf := goodIn_ca (goodIn_r _ [6, 7, 8, 9, 110, 111, 112, 113, 114, 115, 116] (by decide +kernel) (by decide +kernel)) (goodIn_sub (fun _ h => List.mem_cons_of_mem _ (List.mem_append_right _ h)) (by decide +kernel))
set_option maxRecDepth 20000 in
theorem gX7_reach_X7_levelOf : GoodIn wsX7_reach (wsV RX7 66 RX7 yX7_levelOf wsX7_levelOf) := goodIn_app (goodIn_of _ (by decide +kernel)) ggX7_reach_X7_levelOf
set_option maxRecDepth 20000 in
theorem ggX7_reach_X5_explore : GoodIn wsX7_reach wsX5_explore := goodIn_r _ [14, 15, 16, 17, 18, 19, 20, 13, 21, 22, 23, 24, 25, 26, 27, 28, 29, 30, 31, 32, 33, 34, 35, 36, 37, 5, 38, 39, 40, 41, 42, 43, 44, 45, 46, 47, 48, 49, 50, 51, 52, 53, 54, 55, 56, 57, 58, 59, 60, 61, 62, 63, 64, 65, 66, 67, 68, 69, 70, 71, 72, 73, 74, 75, 76, 77, 78, 79, 80, 81, 82, 83, 84, 85, 86, 87, 88, 89, 90, 91, 92, 93, 94, 95, 96, 97, 98, 99, 100, 101, 102, 103, 104, 105, 123, 124, 125, 126, 127, 128, 129, 130, 131, 132, 133, 134, 135, 136, 137] (by decide +kernel) (by decide +kernel)
set_option maxRecDepth 20000 in
theorem gX7_reach_X5_explore : GoodIn wsX7_reach (wsV RX7 152 RX5 yX5_explore wsX5_explore) := goodIn_app (goodIn_of _ (by decide +kernel)) ggX7_reach_X5_explore
set_option maxRecDepth 20000 in
theorem ggX7_reach_X5_reachedCount : GoodIn wsX7_reach wsX5_reachedCount := goodIn_r _ [109, 23, 123, 124, 125, 126, 127, 128, 129] (by decide +kernel) (by decide +kernel)
set_option maxRecDepth 20000 in
theorem gX7_reach_X5_reachedCount : GoodIn wsX7_reach (wsV RX7 221 RX5 yX5_reachedCount wsX5_reachedCount) := goodIn_app (goodIn_of _ (by decide +kernel)) ggX7_reach_X5_reachedCount
theorem dX7_reach_0 : decode cX7_reach 0 = .ok (.aload_n 0, 1) := by decide +kernel
theorem dX7_reach_1 : decode cX7_reach 1 = .ok (.iload_n 1, 1) := by decide +kernel
theorem dX7_reach_2 : decode cX7_reach 2 = .ok (.invokevirtual 66, 3) := by decide +kernel
theorem dX7_reach_5 : decode cX7_reach 5 = .ok (.astore_n 2, 1) := by decide +kernel
theorem dX7_reach_6 : decode cX7_reach 6 = .ok (.aload_n 0, 1) := by decide +kernel
theorem dX7_reach_7 : decode cX7_reach 7 = .ok (.getfield 36, 3) := by decide +kernel
theorem dX7_reach_10 : decode cX7_reach 10 = .ok (.aload_n 2, 1) := by decide +kernel
theorem dX7_reach_11 : decode cX7_reach 11 = .ok (.getfield 56, 3) := by decide +kernel
theorem dX7_reach_14 : decode cX7_reach 14 = .ok (.aload_n 2, 1) := by decide +kernel
theorem dX7_reach_15 : decode cX7_reach 15 = .ok (.getfield 106, 3) := by decide +kernel
theorem dX7_reach_18 : decode cX7_reach 18 = .ok (.iconst 0, 1) := by decide +kernel
theorem dX7_reach_19 : decode cX7_reach 19 = .ok (.invokevirtual 152, 3) := by decide +kernel
theorem dX7_reach_22 : decode cX7_reach 22 = .ok (.pop, 1) := by decide +kernel
theorem dX7_reach_23 : decode cX7_reach 23 = .ok (.aload_n 0, 1) := by decide +kernel
theorem dX7_reach_24 : decode cX7_reach 24 = .ok (.getfield 36, 3) := by decide +kernel
theorem dX7_reach_27 : decode cX7_reach 27 = .ok (.invokevirtual 221, 3) := by decide +kernel
theorem dX7_reach_30 : decode cX7_reach 30 = .ok (.ireturn, 1) := by decide +kernel
set_option maxRecDepth 20000 in
theorem ggX7_farthest_X7_levelOf : GoodIn wsX7_farthest wsX7_levelOf := goodIn_ca (goodIn_r _ [6, 7, 8, 9, 110, 111, 112, 113, 114, 115, 116] (by decide +kernel) (by decide +kernel)) (goodIn_sub (fun _ h => List.mem_cons_of_mem _ (List.mem_append_right _ h)) (by decide +kernel))
set_option maxRecDepth 20000 in
theorem gX7_farthest_X7_levelOf : GoodIn wsX7_farthest (wsV RX7 66 RX7 yX7_levelOf wsX7_levelOf) := goodIn_app (goodIn_of _ (by decide +kernel)) ggX7_farthest_X7_levelOf
set_option maxRecDepth 20000 in
theorem ggX7_farthest_X5_explore : GoodIn wsX7_farthest wsX5_explore := goodIn_r _ [14, 15, 16, 17, 18, 19, 20, 13, 21, 22, 23, 24, 25, 26, 27, 28, 29, 30, 31, 32, 33, 34, 35, 36, 37, 5, 38, 39, 40, 41, 42, 43, 44, 45, 46, 47, 48, 49, 50, 51, 52, 53, 54, 55, 56, 57, 58, 59, 60, 61, 62, 63, 64, 65, 66, 67, 68, 69, 70, 71, 72, 73, 74, 75, 76, 77, 78, 79, 80, 81, 82, 83, 84, 85, 86, 87, 88, 89, 90, 91, 92, 93, 94, 95, 96, 97, 98, 99, 100, 101, 102, 103, 104, 105, 123, 124, 125, 126, 127, 128, 129, 130, 131, 132, 133, 134, 135, 136, 137] (by decide +kernel) (by decide +kernel)
set_option maxRecDepth 20000 in
theorem gX7_farthest_X5_explore : GoodIn wsX7_farthest (wsV RX7 152 RX5 yX5_explore wsX5_explore) := goodIn_app (goodIn_of _ (by decide +kernel)) ggX7_farthest_X5_explore
set_option maxRecDepth 20000 in
theorem ggX7_farthest_X5_farthestReached : GoodIn wsX7_farthest wsX5_farthestReached := goodIn_r _ [109, 23, 37, 5, 38, 123, 124, 125, 126, 127, 128, 129] (by decide +kernel) (by decide +kernel)
set_option maxRecDepth 20000 in
theorem gX7_farthest_X5_farthestReached : GoodIn wsX7_farthest (wsV RX7 224 RX5 yX5_farthestReached wsX5_farthestReached) := goodIn_app (goodIn_of _ (by decide +kernel)) ggX7_farthest_X5_farthestReached
theorem dX7_farthest_0 : decode cX7_farthest 0 = .ok (.aload_n 0, 1) := by decide +kernel
theorem dX7_farthest_1 : decode cX7_farthest 1 = .ok (.iload_n 1, 1) := by decide +kernel
theorem dX7_farthest_2 : decode cX7_farthest 2 = .ok (.invokevirtual 66, 3) := by decide +kernel
theorem dX7_farthest_5 : decode cX7_farthest 5 = .ok (.astore_n 2, 1) := by decide +kernel
theorem dX7_farthest_6 : decode cX7_farthest 6 = .ok (.aload_n 0, 1) := by decide +kernel
theorem dX7_farthest_7 : decode cX7_farthest 7 = .ok (.getfield 36, 3) := by decide +kernel
theorem dX7_farthest_10 : decode cX7_farthest 10 = .ok (.aload_n 2, 1) := by decide +kernel
theorem dX7_farthest_11 : decode cX7_farthest 11 = .ok (.getfield 56, 3) := by decide +kernel
theorem dX7_farthest_14 : decode cX7_farthest 14 = .ok (.aload_n 2, 1) := by decide +kernel
theorem dX7_farthest_15 : decode cX7_farthest 15 = .ok (.getfield 106, 3) := by decide +kernel
theorem dX7_farthest_18 : decode cX7_farthest 18 = .ok (.iconst 0, 1) := by decide +kernel
theorem dX7_farthest_19 : decode cX7_farthest 19 = .ok (.invokevirtual 152, 3) := by decide +kernel
theorem dX7_farthest_22 : decode cX7_farthest 22 = .ok (.pop, 1) := by decide +kernel
theorem dX7_farthest_23 : decode cX7_farthest 23 = .ok (.aload_n 0, 1) := by decide +kernel
theorem dX7_farthest_24 : decode cX7_farthest 24 = .ok (.getfield 36, 3) := by decide +kernel
theorem dX7_farthest_27 : decode cX7_farthest 27 = .ok (.invokevirtual 224, 3) := by decide +kernel
theorem dX7_farthest_30 : decode cX7_farthest 30 = .ok (.ireturn, 1) := by decide +kernel
set_option maxRecDepth 20000 in
theorem ggX7_strength_X7_checkSpring : GoodIn wsX7_strength wsX7_checkSpring := goodIn_ca (goodIn_r _ [5, 6, 7] (by decide +kernel) (by decide +kernel)) (goodIn_sub (fun _ h => List.mem_cons_of_mem _ (List.mem_append_right _ h)) (by decide +kernel))
set_option maxRecDepth 20000 in
theorem gX7_strength_X7_checkSpring : GoodIn wsX7_strength (va_wsS RX7 137 yX7_checkSpring wsX7_checkSpring) := goodIn_app (goodIn_of _ (by decide +kernel)) ggX7_strength_X7_checkSpring
theorem dX7_strength_0 : decode cX7_strength 0 = .ok (.iload_n 1, 1) := by decide +kernel
theorem dX7_strength_1 : decode cX7_strength 1 = .ok (.invokestatic 137, 3) := by decide +kernel
theorem dX7_strength_4 : decode cX7_strength 4 = .ok (.aload_n 0, 1) := by decide +kernel
theorem dX7_strength_5 : decode cX7_strength 5 = .ok (.getfield 7, 3) := by decide +kernel
theorem dX7_strength_8 : decode cX7_strength 8 = .ok (.iload_n 1, 1) := by decide +kernel
theorem dX7_strength_9 : decode cX7_strength 9 = .ok (.iaload, 1) := by decide +kernel
theorem dX7_strength_10 : decode cX7_strength 10 = .ok (.ireturn, 1) := by decide +kernel
theorem dX7_works_0 : decode cX7_works 0 = .ok (.aload_n 0, 1) := by decide +kernel
theorem dX7_works_1 : decode cX7_works 1 = .ok (.getfield 44, 3) := by decide +kernel
theorem dX7_works_4 : decode cX7_works 4 = .ok (.ireturn, 1) := by decide +kernel
set_option maxRecDepth 20000 in
theorem ggX7_author_X7_workOf : GoodIn wsX7_author wsX7_workOf := goodIn_ca (goodIn_r _ [5, 6, 7, 8, 17, 18, 19, 20, 21, 22, 23] (by decide +kernel) (by decide +kernel)) (goodIn_sub (fun _ h => List.mem_cons_of_mem _ (List.mem_append_right _ h)) (by decide +kernel))
set_option maxRecDepth 20000 in
theorem gX7_author_X7_workOf : GoodIn wsX7_author (wsV RX7 142 RX7 yX7_workOf wsX7_workOf) := goodIn_app (goodIn_of _ (by decide +kernel)) ggX7_author_X7_workOf
theorem dX7_author_0 : decode cX7_author 0 = .ok (.aload_n 0, 1) := by decide +kernel
theorem dX7_author_1 : decode cX7_author 1 = .ok (.iload_n 1, 1) := by decide +kernel
theorem dX7_author_2 : decode cX7_author 2 = .ok (.invokevirtual 142, 3) := by decide +kernel
theorem dX7_author_5 : decode cX7_author 5 = .ok (.getfield 182, 3) := by decide +kernel
theorem dX7_author_8 : decode cX7_author 8 = .ok (.ireturn, 1) := by decide +kernel
set_option maxRecDepth 20000 in
theorem ggX7_best_X7_workOf : GoodIn wsX7_best wsX7_workOf := goodIn_ca (goodIn_r _ [5, 6, 7, 8, 17, 18, 19, 20, 21, 22, 23] (by decide +kernel) (by decide +kernel)) (goodIn_sub (fun _ h => List.mem_cons_of_mem _ (List.mem_append_right _ h)) (by decide +kernel))
set_option maxRecDepth 20000 in
theorem gX7_best_X7_workOf : GoodIn wsX7_best (wsV RX7 142 RX7 yX7_workOf wsX7_workOf) := goodIn_app (goodIn_of _ (by decide +kernel)) ggX7_best_X7_workOf
theorem dX7_best_0 : decode cX7_best 0 = .ok (.aload_n 0, 1) := by decide +kernel
theorem dX7_best_1 : decode cX7_best 1 = .ok (.iload_n 1, 1) := by decide +kernel
theorem dX7_best_2 : decode cX7_best 2 = .ok (.invokevirtual 142, 3) := by decide +kernel
theorem dX7_best_5 : decode cX7_best 5 = .ok (.getfield 156, 3) := by decide +kernel
theorem dX7_best_8 : decode cX7_best 8 = .ok (.ireturn, 1) := by decide +kernel
set_option maxRecDepth 20000 in
theorem ggX7_parent_X7_workOf : GoodIn wsX7_parent wsX7_workOf := goodIn_ca (goodIn_r _ [5, 6, 7, 8, 17, 18, 19, 20, 21, 22, 23] (by decide +kernel) (by decide +kernel)) (goodIn_sub (fun _ h => List.mem_cons_of_mem _ (List.mem_append_right _ h)) (by decide +kernel))
set_option maxRecDepth 20000 in
theorem gX7_parent_X7_workOf : GoodIn wsX7_parent (wsV RX7 142 RX7 yX7_workOf wsX7_workOf) := goodIn_app (goodIn_of _ (by decide +kernel)) ggX7_parent_X7_workOf
theorem dX7_parent_0 : decode cX7_parent 0 = .ok (.aload_n 0, 1) := by decide +kernel
theorem dX7_parent_1 : decode cX7_parent 1 = .ok (.iload_n 1, 1) := by decide +kernel
theorem dX7_parent_2 : decode cX7_parent 2 = .ok (.invokevirtual 142, 3) := by decide +kernel
theorem dX7_parent_5 : decode cX7_parent 5 = .ok (.getfield 227, 3) := by decide +kernel
theorem dX7_parent_8 : decode cX7_parent 8 = .ok (.astore_n 2, 1) := by decide +kernel
theorem dX7_parent_9 : decode cX7_parent 9 = .ok (.aload_n 2, 1) := by decide +kernel
theorem dX7_parent_10 : decode cX7_parent 10 = .ok (.ifnonnull 7, 3) := by decide +kernel
theorem dX7_parent_13 : decode cX7_parent 13 = .ok (.iconst (-1), 1) := by decide +kernel
theorem dX7_parent_14 : decode cX7_parent 14 = .ok (.goto 7, 3) := by decide +kernel
theorem dX7_parent_17 : decode cX7_parent 17 = .ok (.aload_n 2, 1) := by decide +kernel
theorem dX7_parent_18 : decode cX7_parent 18 = .ok (.getfield 231, 3) := by decide +kernel
theorem dX7_parent_21 : decode cX7_parent 21 = .ok (.ireturn, 1) := by decide +kernel
set_option maxRecDepth 20000 in
theorem ggX7_line_X7_workOf : GoodIn wsX7_line wsX7_workOf := goodIn_ca (goodIn_r _ [6, 7, 8, 9, 16, 17, 18, 19, 20, 21, 22] (by decide +kernel) (by decide +kernel)) (goodIn_sub (fun _ h => List.mem_cons_of_mem _ (List.mem_append_right _ h)) (by decide +kernel))
set_option maxRecDepth 20000 in
theorem gX7_line_X7_workOf : GoodIn wsX7_line (wsV RX7 142 RX7 yX7_workOf wsX7_workOf) := goodIn_app (goodIn_of _ (by decide +kernel)) ggX7_line_X7_workOf
set_option maxRecDepth 20000 in
theorem ggX7_line_X6_comesFrom : GoodIn wsX7_line wsX6_comesFrom := goodIn_r _ [14, 15, 23, 24, 25, 26, 27, 28, 29, 30] (by decide +kernel) (by decide +kernel)
set_option maxRecDepth 20000 in
theorem gX7_line_X6_comesFrom : GoodIn wsX7_line (wsV RX7 234 RX6 yX6_comesFrom wsX6_comesFrom) := goodIn_app (goodIn_of _ (by decide +kernel)) ggX7_line_X6_comesFrom
theorem dX7_line_0 : decode cX7_line 0 = .ok (.aload_n 0, 1) := by decide +kernel
theorem dX7_line_1 : decode cX7_line 1 = .ok (.iload_n 1, 1) := by decide +kernel
theorem dX7_line_2 : decode cX7_line 2 = .ok (.invokevirtual 142, 3) := by decide +kernel
theorem dX7_line_5 : decode cX7_line 5 = .ok (.astore_n 2, 1) := by decide +kernel
theorem dX7_line_6 : decode cX7_line 6 = .ok (.iconst 0, 1) := by decide +kernel
theorem dX7_line_7 : decode cX7_line 7 = .ok (.istore_n 3, 1) := by decide +kernel
theorem dX7_line_8 : decode cX7_line 8 = .ok (.iconst 0, 1) := by decide +kernel
theorem dX7_line_9 : decode cX7_line 9 = .ok (.istore 4, 2) := by decide +kernel
theorem dX7_line_11 : decode cX7_line 11 = .ok (.iload 4, 2) := by decide +kernel
theorem dX7_line_13 : decode cX7_line 13 = .ok (.aload_n 0, 1) := by decide +kernel
theorem dX7_line_14 : decode cX7_line 14 = .ok (.getfield 44, 3) := by decide +kernel
theorem dX7_line_17 : decode cX7_line 17 = .ok (.if_icmp .ge 25, 3) := by decide +kernel
theorem dX7_line_20 : decode cX7_line 20 = .ok (.aload_n 0, 1) := by decide +kernel
theorem dX7_line_21 : decode cX7_line 21 = .ok (.iload 4, 2) := by decide +kernel
theorem dX7_line_23 : decode cX7_line 23 = .ok (.invokevirtual 142, 3) := by decide +kernel
theorem dX7_line_26 : decode cX7_line 26 = .ok (.aload_n 2, 1) := by decide +kernel
theorem dX7_line_27 : decode cX7_line 27 = .ok (.invokevirtual 234, 3) := by decide +kernel
theorem dX7_line_30 : decode cX7_line 30 = .ok (.ifCond .eq 6, 3) := by decide +kernel
theorem dX7_line_33 : decode cX7_line 33 = .ok (.iinc 3 1, 3) := by decide +kernel
theorem dX7_line_36 : decode cX7_line 36 = .ok (.iinc 4 1, 3) := by decide +kernel
theorem dX7_line_39 : decode cX7_line 39 = .ok (.goto (-28), 3) := by decide +kernel
theorem dX7_line_42 : decode cX7_line 42 = .ok (.iload_n 3, 1) := by decide +kernel
theorem dX7_line_43 : decode cX7_line 43 = .ok (.ireturn, 1) := by decide +kernel
set_option maxRecDepth 20000 in
theorem ggX7_stars_X7_workOf : GoodIn wsX7_stars wsX7_workOf := goodIn_ca (goodIn_r _ [5, 6, 7, 8, 15, 16, 17, 18, 19, 20, 21] (by decide +kernel) (by decide +kernel)) (goodIn_sub (fun _ h => List.mem_cons_of_mem _ (List.mem_append_right _ h)) (by decide +kernel))
set_option maxRecDepth 20000 in
theorem gX7_stars_X7_workOf : GoodIn wsX7_stars (wsV RX7 142 RX7 yX7_workOf wsX7_workOf) := goodIn_app (goodIn_of _ (by decide +kernel)) ggX7_stars_X7_workOf
set_option maxRecDepth 20000 in
theorem ggX7_stars_X6_starSum : GoodIn wsX7_stars wsX6_starSum := goodIn_r _ [13, 14, 22, 23, 24, 25, 26, 27, 28, 29] (by decide +kernel) (by decide +kernel)
set_option maxRecDepth 20000 in
theorem gX7_stars_X6_starSum : GoodIn wsX7_stars (wsV RX7 238 RX6 yX6_starSum wsX6_starSum) := goodIn_app (goodIn_of _ (by decide +kernel)) ggX7_stars_X6_starSum
theorem dX7_stars_0 : decode cX7_stars 0 = .ok (.aload_n 0, 1) := by decide +kernel
theorem dX7_stars_1 : decode cX7_stars 1 = .ok (.iload_n 1, 1) := by decide +kernel
theorem dX7_stars_2 : decode cX7_stars 2 = .ok (.invokevirtual 142, 3) := by decide +kernel
theorem dX7_stars_5 : decode cX7_stars 5 = .ok (.invokevirtual 238, 3) := by decide +kernel
theorem dX7_stars_8 : decode cX7_stars 8 = .ok (.ireturn, 1) := by decide +kernel
set_option maxRecDepth 20000 in
theorem ggX7_credit_X7_checkPerson : GoodIn wsX7_credit wsX7_checkPerson := goodIn_ca (goodIn_r _ [5, 6, 7] (by decide +kernel) (by decide +kernel)) (goodIn_sub (fun _ h => List.mem_cons_of_mem _ (List.mem_append_right _ h)) (by decide +kernel))
set_option maxRecDepth 20000 in
theorem gX7_credit_X7_checkPerson : GoodIn wsX7_credit (va_wsS RX7 48 yX7_checkPerson wsX7_checkPerson) := goodIn_app (goodIn_of _ (by decide +kernel)) ggX7_credit_X7_checkPerson
set_option maxRecDepth 20000 in
theorem ggX7_credit_X7_workOf : GoodIn wsX7_credit wsX7_workOf := goodIn_ca (goodIn_r _ [11, 6, 7, 12, 25, 26, 27, 28, 29, 30, 31] (by decide +kernel) (by decide +kernel)) (goodIn_sub (fun _ h => List.mem_cons_of_mem _ (List.mem_append_right _ h)) (by decide +kernel))
set_option maxRecDepth 20000 in
theorem gX7_credit_X7_workOf : GoodIn wsX7_credit (wsV RX7 142 RX7 yX7_workOf wsX7_workOf) := goodIn_app (goodIn_of _ (by decide +kernel)) ggX7_credit_X7_workOf
set_option maxRecDepth 20000 in
theorem ggX7_credit_X6_comesFromWorkBy : GoodIn wsX7_credit wsX6_comesFromWorkBy := goodIn_r _ [17, 18, 19, 32, 33, 34, 35, 36, 37, 38, 39] (by decide +kernel) (by decide +kernel)
set_option maxRecDepth 20000 in
theorem gX7_credit_X6_comesFromWorkBy : GoodIn wsX7_credit (wsV RX7 241 RX6 yX6_comesFromWorkBy wsX6_comesFromWorkBy) := goodIn_app (goodIn_of _ (by decide +kernel)) ggX7_credit_X6_comesFromWorkBy
set_option maxRecDepth 20000 in
theorem ggX7_credit_X6_starSum : GoodIn wsX7_credit wsX6_starSum := goodIn_r _ [23, 24, 32, 33, 34, 35, 36, 37, 38, 39] (by decide +kernel) (by decide +kernel)
set_option maxRecDepth 20000 in
theorem gX7_credit_X6_starSum : GoodIn wsX7_credit (wsV RX7 238 RX6 yX6_starSum wsX6_starSum) := goodIn_app (goodIn_of _ (by decide +kernel)) ggX7_credit_X6_starSum
theorem dX7_credit_0 : decode cX7_credit 0 = .ok (.iload_n 1, 1) := by decide +kernel
theorem dX7_credit_1 : decode cX7_credit 1 = .ok (.invokestatic 48, 3) := by decide +kernel
theorem dX7_credit_4 : decode cX7_credit 4 = .ok (.iconst 0, 1) := by decide +kernel
theorem dX7_credit_5 : decode cX7_credit 5 = .ok (.istore_n 2, 1) := by decide +kernel
theorem dX7_credit_6 : decode cX7_credit 6 = .ok (.iconst 0, 1) := by decide +kernel
theorem dX7_credit_7 : decode cX7_credit 7 = .ok (.istore_n 3, 1) := by decide +kernel
theorem dX7_credit_8 : decode cX7_credit 8 = .ok (.iload_n 3, 1) := by decide +kernel
theorem dX7_credit_9 : decode cX7_credit 9 = .ok (.aload_n 0, 1) := by decide +kernel
theorem dX7_credit_10 : decode cX7_credit 10 = .ok (.getfield 44, 3) := by decide +kernel
theorem dX7_credit_13 : decode cX7_credit 13 = .ok (.if_icmp .ge 33, 3) := by decide +kernel
theorem dX7_credit_16 : decode cX7_credit 16 = .ok (.aload_n 0, 1) := by decide +kernel
theorem dX7_credit_17 : decode cX7_credit 17 = .ok (.iload_n 3, 1) := by decide +kernel
theorem dX7_credit_18 : decode cX7_credit 18 = .ok (.invokevirtual 142, 3) := by decide +kernel
theorem dX7_credit_21 : decode cX7_credit 21 = .ok (.astore 4, 2) := by decide +kernel
theorem dX7_credit_23 : decode cX7_credit 23 = .ok (.aload 4, 2) := by decide +kernel
theorem dX7_credit_25 : decode cX7_credit 25 = .ok (.iload_n 1, 1) := by decide +kernel
theorem dX7_credit_26 : decode cX7_credit 26 = .ok (.invokevirtual 241, 3) := by decide +kernel
theorem dX7_credit_29 : decode cX7_credit 29 = .ok (.ifCond .eq 11, 3) := by decide +kernel
theorem dX7_credit_32 : decode cX7_credit 32 = .ok (.iload_n 2, 1) := by decide +kernel
theorem dX7_credit_33 : decode cX7_credit 33 = .ok (.aload 4, 2) := by decide +kernel
theorem dX7_credit_35 : decode cX7_credit 35 = .ok (.invokevirtual 238, 3) := by decide +kernel
theorem dX7_credit_38 : decode cX7_credit 38 = .ok (.iadd, 1) := by decide +kernel
theorem dX7_credit_39 : decode cX7_credit 39 = .ok (.istore_n 2, 1) := by decide +kernel
theorem dX7_credit_40 : decode cX7_credit 40 = .ok (.iinc 3 1, 3) := by decide +kernel
theorem dX7_credit_43 : decode cX7_credit 43 = .ok (.goto (-35), 3) := by decide +kernel
theorem dX7_credit_46 : decode cX7_credit 46 = .ok (.iload_n 2, 1) := by decide +kernel
theorem dX7_credit_47 : decode cX7_credit 47 = .ok (.ireturn, 1) := by decide +kernel
set_option maxRecDepth 20000 in
theorem ggX7_record_X7_workOf : GoodIn wsX7_record wsX7_workOf := goodIn_ca (goodIn_r _ [5, 6, 7, 8, 17, 18, 19, 20, 21, 22, 23] (by decide +kernel) (by decide +kernel)) (goodIn_sub (fun _ h => List.mem_cons_of_mem _ (List.mem_append_right _ h)) (by decide +kernel))
set_option maxRecDepth 20000 in
theorem gX7_record_X7_workOf : GoodIn wsX7_record (wsV RX7 142 RX7 yX7_workOf wsX7_workOf) := goodIn_app (goodIn_of _ (by decide +kernel)) ggX7_record_X7_workOf
theorem dX7_record_0 : decode cX7_record 0 = .ok (.aload_n 0, 1) := by decide +kernel
theorem dX7_record_1 : decode cX7_record 1 = .ok (.iload_n 1, 1) := by decide +kernel
theorem dX7_record_2 : decode cX7_record 2 = .ok (.invokevirtual 142, 3) := by decide +kernel
theorem dX7_record_5 : decode cX7_record 5 = .ok (.getfield 244, 3) := by decide +kernel
theorem dX7_record_8 : decode cX7_record 8 = .ok (.ireturn, 1) := by decide +kernel
set_option maxRecDepth 20000 in
theorem ggX7_runState_X7_runOf : GoodIn wsX7_runState wsX7_runOf := goodIn_ca (goodIn_r _ [5, 6, 7, 8, 13, 14, 15, 16, 17, 18, 19] (by decide +kernel) (by decide +kernel)) (goodIn_sub (fun _ h => List.mem_cons_of_mem _ (List.mem_append_right _ h)) (by decide +kernel))
set_option maxRecDepth 20000 in
theorem gX7_runState_X7_runOf : GoodIn wsX7_runState (wsV RX7 190 RX7 yX7_runOf wsX7_runOf) := goodIn_app (goodIn_of _ (by decide +kernel)) ggX7_runState_X7_runOf
theorem dX7_runState_0 : decode cX7_runState 0 = .ok (.aload_n 0, 1) := by decide +kernel
theorem dX7_runState_1 : decode cX7_runState 1 = .ok (.iload_n 1, 1) := by decide +kernel
theorem dX7_runState_2 : decode cX7_runState 2 = .ok (.invokevirtual 190, 3) := by decide +kernel
theorem dX7_runState_5 : decode cX7_runState 5 = .ok (.getfield 202, 3) := by decide +kernel
theorem dX7_runState_8 : decode cX7_runState 8 = .ok (.ireturn, 1) := by decide +kernel
set_option maxRecDepth 20000 in
theorem ggX7_body_X7_runOf : GoodIn wsX7_body wsX7_runOf := goodIn_ca (goodIn_r _ [5, 6, 7, 8, 18, 19, 20, 21, 22, 23, 24] (by decide +kernel) (by decide +kernel)) (goodIn_sub (fun _ h => List.mem_cons_of_mem _ (List.mem_append_right _ h)) (by decide +kernel))
set_option maxRecDepth 20000 in
theorem gX7_body_X7_runOf : GoodIn wsX7_body (wsV RX7 190 RX7 yX7_runOf wsX7_runOf) := goodIn_app (goodIn_of _ (by decide +kernel)) ggX7_body_X7_runOf
theorem dX7_body_0 : decode cX7_body 0 = .ok (.aload_n 0, 1) := by decide +kernel
theorem dX7_body_1 : decode cX7_body 1 = .ok (.iload_n 1, 1) := by decide +kernel
theorem dX7_body_2 : decode cX7_body 2 = .ok (.invokevirtual 190, 3) := by decide +kernel
theorem dX7_body_5 : decode cX7_body 5 = .ok (.astore_n 2, 1) := by decide +kernel
theorem dX7_body_6 : decode cX7_body 6 = .ok (.aload_n 2, 1) := by decide +kernel
theorem dX7_body_7 : decode cX7_body 7 = .ok (.getfield 202, 3) := by decide +kernel
theorem dX7_body_10 : decode cX7_body 10 = .ok (.ifCond .ne 7, 3) := by decide +kernel
theorem dX7_body_13 : decode cX7_body 13 = .ok (.iconst (-1), 1) := by decide +kernel
theorem dX7_body_14 : decode cX7_body 14 = .ok (.goto 10, 3) := by decide +kernel
theorem dX7_body_17 : decode cX7_body 17 = .ok (.aload_n 2, 1) := by decide +kernel
theorem dX7_body_18 : decode cX7_body 18 = .ok (.getfield 247, 3) := by decide +kernel
theorem dX7_body_21 : decode cX7_body 21 = .ok (.getfield 251, 3) := by decide +kernel
theorem dX7_body_24 : decode cX7_body 24 = .ok (.ireturn, 1) := by decide +kernel
set_option maxRecDepth 20000 in
theorem ggX7_speed_X7_runOf : GoodIn wsX7_speed wsX7_runOf := goodIn_ca (goodIn_r _ [5, 6, 7, 8, 18, 19, 20, 21, 22, 23, 24] (by decide +kernel) (by decide +kernel)) (goodIn_sub (fun _ h => List.mem_cons_of_mem _ (List.mem_append_right _ h)) (by decide +kernel))
set_option maxRecDepth 20000 in
theorem gX7_speed_X7_runOf : GoodIn wsX7_speed (wsV RX7 190 RX7 yX7_runOf wsX7_runOf) := goodIn_app (goodIn_of _ (by decide +kernel)) ggX7_speed_X7_runOf
theorem dX7_speed_0 : decode cX7_speed 0 = .ok (.aload_n 0, 1) := by decide +kernel
theorem dX7_speed_1 : decode cX7_speed 1 = .ok (.iload_n 1, 1) := by decide +kernel
theorem dX7_speed_2 : decode cX7_speed 2 = .ok (.invokevirtual 190, 3) := by decide +kernel
theorem dX7_speed_5 : decode cX7_speed 5 = .ok (.getfield 247, 3) := by decide +kernel
theorem dX7_speed_8 : decode cX7_speed 8 = .ok (.getfield 256, 3) := by decide +kernel
theorem dX7_speed_11 : decode cX7_speed 11 = .ok (.ireturn, 1) := by decide +kernel
set_option maxRecDepth 20000 in
theorem ggX7_keys_X7_runOf : GoodIn wsX7_keys wsX7_runOf := goodIn_ca (goodIn_r _ [5, 6, 7, 8, 25, 26, 27, 28, 29, 30, 31] (by decide +kernel) (by decide +kernel)) (goodIn_sub (fun _ h => List.mem_cons_of_mem _ (List.mem_append_right _ h)) (by decide +kernel))
set_option maxRecDepth 20000 in
theorem gX7_keys_X7_runOf : GoodIn wsX7_keys (wsV RX7 190 RX7 yX7_runOf wsX7_runOf) := goodIn_app (goodIn_of _ (by decide +kernel)) ggX7_keys_X7_runOf
set_option maxRecDepth 20000 in
theorem ggX7_keys_J6_bitCount_0f7a4 : GoodIn wsX7_keys wsJ6_bitCount_0f7a4 := goodIn_r _ [12, 13, 14, 15] (by decide +kernel) (by decide +kernel)
set_option maxRecDepth 20000 in
theorem gX7_keys_J6_bitCount_0f7a4 : GoodIn wsX7_keys (va_wsS RX7 262 yJ6_bitCount_0f7a4 wsJ6_bitCount_0f7a4) := goodIn_app (goodIn_of _ (by decide +kernel)) ggX7_keys_J6_bitCount_0f7a4
theorem dX7_keys_0 : decode cX7_keys 0 = .ok (.aload_n 0, 1) := by decide +kernel
theorem dX7_keys_1 : decode cX7_keys 1 = .ok (.iload_n 1, 1) := by decide +kernel
theorem dX7_keys_2 : decode cX7_keys 2 = .ok (.invokevirtual 190, 3) := by decide +kernel
theorem dX7_keys_5 : decode cX7_keys 5 = .ok (.getfield 247, 3) := by decide +kernel
theorem dX7_keys_8 : decode cX7_keys 8 = .ok (.getfield 259, 3) := by decide +kernel
theorem dX7_keys_11 : decode cX7_keys 11 = .ok (.invokestatic 262, 3) := by decide +kernel
theorem dX7_keys_14 : decode cX7_keys 14 = .ok (.ireturn, 1) := by decide +kernel
set_option maxRecDepth 20000 in
theorem ggX7_stepsOf_X7_runOf : GoodIn wsX7_stepsOf wsX7_runOf := goodIn_ca (goodIn_r _ [5, 6, 7, 8, 13, 14, 15, 16, 17, 18, 19] (by decide +kernel) (by decide +kernel)) (goodIn_sub (fun _ h => List.mem_cons_of_mem _ (List.mem_append_right _ h)) (by decide +kernel))
set_option maxRecDepth 20000 in
theorem gX7_stepsOf_X7_runOf : GoodIn wsX7_stepsOf (wsV RX7 190 RX7 yX7_runOf wsX7_runOf) := goodIn_app (goodIn_of _ (by decide +kernel)) ggX7_stepsOf_X7_runOf
theorem dX7_stepsOf_0 : decode cX7_stepsOf 0 = .ok (.aload_n 0, 1) := by decide +kernel
theorem dX7_stepsOf_1 : decode cX7_stepsOf 1 = .ok (.iload_n 1, 1) := by decide +kernel
theorem dX7_stepsOf_2 : decode cX7_stepsOf 2 = .ok (.invokevirtual 190, 3) := by decide +kernel
theorem dX7_stepsOf_5 : decode cX7_stepsOf 5 = .ok (.getfield 207, 3) := by decide +kernel
theorem dX7_stepsOf_8 : decode cX7_stepsOf 8 = .ok (.ireturn, 1) := by decide +kernel
theorem dX7_checkPerson_0 : decode cX7_checkPerson 0 = .ok (.iload_n 0, 1) := by decide +kernel
theorem dX7_checkPerson_1 : decode cX7_checkPerson 1 = .ok (.ifCond .lt 9, 3) := by decide +kernel
theorem dX7_checkPerson_4 : decode cX7_checkPerson 4 = .ok (.iload_n 0, 1) := by decide +kernel
theorem dX7_checkPerson_5 : decode cX7_checkPerson 5 = .ok (.bipush 6, 2) := by decide +kernel
theorem dX7_checkPerson_7 : decode cX7_checkPerson 7 = .ok (.if_icmp .lt 14, 3) := by decide +kernel
theorem dX7_checkPerson_10 : decode cX7_checkPerson 10 = .ok (.new 267, 3) := by decide +kernel
theorem dX7_checkPerson_13 : decode cX7_checkPerson 13 = .ok (.dup, 1) := by decide +kernel
theorem dX7_checkPerson_14 : decode cX7_checkPerson 14 = .ok (.ldc_w 269, 3) := by decide +kernel
theorem dX7_checkPerson_17 : decode cX7_checkPerson 17 = .ok (.invokespecial 271, 3) := by decide +kernel
theorem dX7_checkPerson_20 : decode cX7_checkPerson 20 = .ok (.athrow, 1) := by decide +kernel
theorem dX7_checkPerson_21 : decode cX7_checkPerson 21 = .ok (.return_, 1) := by decide +kernel
set_option maxRecDepth 20000 in
theorem ggX7_checkCell_X7_isCell : GoodIn wsX7_checkCell wsX7_isCell := goodIn_r _ [6] (by decide +kernel) (by decide +kernel)
set_option maxRecDepth 20000 in
theorem gX7_checkCell_X7_isCell : GoodIn wsX7_checkCell (va_wsS RX7 272 yX7_isCell wsX7_isCell) := goodIn_app (goodIn_of _ (by decide +kernel)) ggX7_checkCell_X7_isCell
theorem dX7_checkCell_0 : decode cX7_checkCell 0 = .ok (.iload_n 0, 1) := by decide +kernel
theorem dX7_checkCell_1 : decode cX7_checkCell 1 = .ok (.invokestatic 272, 3) := by decide +kernel
theorem dX7_checkCell_4 : decode cX7_checkCell 4 = .ok (.ifCond .ne 14, 3) := by decide +kernel
theorem dX7_checkCell_7 : decode cX7_checkCell 7 = .ok (.new 267, 3) := by decide +kernel
theorem dX7_checkCell_10 : decode cX7_checkCell 10 = .ok (.dup, 1) := by decide +kernel
theorem dX7_checkCell_11 : decode cX7_checkCell 11 = .ok (.ldc_w 275, 3) := by decide +kernel
theorem dX7_checkCell_14 : decode cX7_checkCell 14 = .ok (.invokespecial 271, 3) := by decide +kernel
theorem dX7_checkCell_17 : decode cX7_checkCell 17 = .ok (.athrow, 1) := by decide +kernel
theorem dX7_checkCell_18 : decode cX7_checkCell 18 = .ok (.return_, 1) := by decide +kernel
theorem dX7_checkSpring_0 : decode cX7_checkSpring 0 = .ok (.iload_n 0, 1) := by decide +kernel
theorem dX7_checkSpring_1 : decode cX7_checkSpring 1 = .ok (.ifCond .lt 8, 3) := by decide +kernel
theorem dX7_checkSpring_4 : decode cX7_checkSpring 4 = .ok (.iload_n 0, 1) := by decide +kernel
theorem dX7_checkSpring_5 : decode cX7_checkSpring 5 = .ok (.iconst 3, 1) := by decide +kernel
theorem dX7_checkSpring_6 : decode cX7_checkSpring 6 = .ok (.if_icmp .lt 14, 3) := by decide +kernel
theorem dX7_checkSpring_9 : decode cX7_checkSpring 9 = .ok (.new 267, 3) := by decide +kernel
theorem dX7_checkSpring_12 : decode cX7_checkSpring 12 = .ok (.dup, 1) := by decide +kernel
theorem dX7_checkSpring_13 : decode cX7_checkSpring 13 = .ok (.ldc_w 277, 3) := by decide +kernel
theorem dX7_checkSpring_16 : decode cX7_checkSpring 16 = .ok (.invokespecial 271, 3) := by decide +kernel
theorem dX7_checkSpring_19 : decode cX7_checkSpring 19 = .ok (.athrow, 1) := by decide +kernel
theorem dX7_checkSpring_20 : decode cX7_checkSpring 20 = .ok (.return_, 1) := by decide +kernel
theorem dX7_checkNotWithdrawn_0 : decode cX7_checkNotWithdrawn 0 = .ok (.aload_n 0, 1) := by decide +kernel
theorem dX7_checkNotWithdrawn_1 : decode cX7_checkNotWithdrawn 1 = .ok (.getfield 156, 3) := by decide +kernel
theorem dX7_checkNotWithdrawn_4 : decode cX7_checkNotWithdrawn 4 = .ok (.ifCond .ge 14, 3) := by decide +kernel
theorem dX7_checkNotWithdrawn_7 : decode cX7_checkNotWithdrawn 7 = .ok (.new 88, 3) := by decide +kernel
theorem dX7_checkNotWithdrawn_10 : decode cX7_checkNotWithdrawn 10 = .ok (.dup, 1) := by decide +kernel
theorem dX7_checkNotWithdrawn_11 : decode cX7_checkNotWithdrawn 11 = .ok (.ldc_w 279, 3) := by decide +kernel
theorem dX7_checkNotWithdrawn_14 : decode cX7_checkNotWithdrawn 14 = .ok (.invokespecial 92, 3) := by decide +kernel
theorem dX7_checkNotWithdrawn_17 : decode cX7_checkNotWithdrawn 17 = .ok (.athrow, 1) := by decide +kernel
theorem dX7_checkNotWithdrawn_18 : decode cX7_checkNotWithdrawn 18 = .ok (.return_, 1) := by decide +kernel
theorem dX7_levelOf_0 : decode cX7_levelOf 0 = .ok (.iload_n 1, 1) := by decide +kernel
theorem dX7_levelOf_1 : decode cX7_levelOf 1 = .ok (.ifCond .lt 21, 3) := by decide +kernel
theorem dX7_levelOf_4 : decode cX7_levelOf 4 = .ok (.iload_n 1, 1) := by decide +kernel
theorem dX7_levelOf_5 : decode cX7_levelOf 5 = .ok (.aload_n 0, 1) := by decide +kernel
theorem dX7_levelOf_6 : decode cX7_levelOf 6 = .ok (.getfield 15, 3) := by decide +kernel
theorem dX7_levelOf_9 : decode cX7_levelOf 9 = .ok (.arraylength, 1) := by decide +kernel
theorem dX7_levelOf_10 : decode cX7_levelOf 10 = .ok (.if_icmp .ge 12, 3) := by decide +kernel
theorem dX7_levelOf_13 : decode cX7_levelOf 13 = .ok (.aload_n 0, 1) := by decide +kernel
theorem dX7_levelOf_14 : decode cX7_levelOf 14 = .ok (.getfield 15, 3) := by decide +kernel
theorem dX7_levelOf_17 : decode cX7_levelOf 17 = .ok (.iload_n 1, 1) := by decide +kernel
theorem dX7_levelOf_18 : decode cX7_levelOf 18 = .ok (.aaload, 1) := by decide +kernel
theorem dX7_levelOf_19 : decode cX7_levelOf 19 = .ok (.goto 4, 3) := by decide +kernel
theorem dX7_levelOf_22 : decode cX7_levelOf 22 = .ok (.aconst_null, 1) := by decide +kernel
theorem dX7_levelOf_23 : decode cX7_levelOf 23 = .ok (.astore_n 2, 1) := by decide +kernel
theorem dX7_levelOf_24 : decode cX7_levelOf 24 = .ok (.aload_n 2, 1) := by decide +kernel
theorem dX7_levelOf_25 : decode cX7_levelOf 25 = .ok (.ifnonnull 14, 3) := by decide +kernel
theorem dX7_levelOf_28 : decode cX7_levelOf 28 = .ok (.new 267, 3) := by decide +kernel
theorem dX7_levelOf_31 : decode cX7_levelOf 31 = .ok (.dup, 1) := by decide +kernel
theorem dX7_levelOf_32 : decode cX7_levelOf 32 = .ok (.ldc_w 281, 3) := by decide +kernel
theorem dX7_levelOf_35 : decode cX7_levelOf 35 = .ok (.invokespecial 271, 3) := by decide +kernel
theorem dX7_levelOf_38 : decode cX7_levelOf 38 = .ok (.athrow, 1) := by decide +kernel
theorem dX7_levelOf_39 : decode cX7_levelOf 39 = .ok (.aload_n 2, 1) := by decide +kernel
theorem dX7_levelOf_40 : decode cX7_levelOf 40 = .ok (.areturn, 1) := by decide +kernel
theorem dX7_workOf_0 : decode cX7_workOf 0 = .ok (.iload_n 1, 1) := by decide +kernel
theorem dX7_workOf_1 : decode cX7_workOf 1 = .ok (.ifCond .lt 21, 3) := by decide +kernel
theorem dX7_workOf_4 : decode cX7_workOf 4 = .ok (.iload_n 1, 1) := by decide +kernel
theorem dX7_workOf_5 : decode cX7_workOf 5 = .ok (.aload_n 0, 1) := by decide +kernel
theorem dX7_workOf_6 : decode cX7_workOf 6 = .ok (.getfield 21, 3) := by decide +kernel
theorem dX7_workOf_9 : decode cX7_workOf 9 = .ok (.arraylength, 1) := by decide +kernel
theorem dX7_workOf_10 : decode cX7_workOf 10 = .ok (.if_icmp .ge 12, 3) := by decide +kernel
theorem dX7_workOf_13 : decode cX7_workOf 13 = .ok (.aload_n 0, 1) := by decide +kernel
theorem dX7_workOf_14 : decode cX7_workOf 14 = .ok (.getfield 21, 3) := by decide +kernel
theorem dX7_workOf_17 : decode cX7_workOf 17 = .ok (.iload_n 1, 1) := by decide +kernel
theorem dX7_workOf_18 : decode cX7_workOf 18 = .ok (.aaload, 1) := by decide +kernel
theorem dX7_workOf_19 : decode cX7_workOf 19 = .ok (.goto 4, 3) := by decide +kernel
theorem dX7_workOf_22 : decode cX7_workOf 22 = .ok (.aconst_null, 1) := by decide +kernel
theorem dX7_workOf_23 : decode cX7_workOf 23 = .ok (.astore_n 2, 1) := by decide +kernel
theorem dX7_workOf_24 : decode cX7_workOf 24 = .ok (.aload_n 2, 1) := by decide +kernel
theorem dX7_workOf_25 : decode cX7_workOf 25 = .ok (.ifnonnull 14, 3) := by decide +kernel
theorem dX7_workOf_28 : decode cX7_workOf 28 = .ok (.new 267, 3) := by decide +kernel
theorem dX7_workOf_31 : decode cX7_workOf 31 = .ok (.dup, 1) := by decide +kernel
theorem dX7_workOf_32 : decode cX7_workOf 32 = .ok (.ldc_w 283, 3) := by decide +kernel
theorem dX7_workOf_35 : decode cX7_workOf 35 = .ok (.invokespecial 271, 3) := by decide +kernel
theorem dX7_workOf_38 : decode cX7_workOf 38 = .ok (.athrow, 1) := by decide +kernel
theorem dX7_workOf_39 : decode cX7_workOf 39 = .ok (.aload_n 2, 1) := by decide +kernel
theorem dX7_workOf_40 : decode cX7_workOf 40 = .ok (.areturn, 1) := by decide +kernel
theorem dX7_runOf_0 : decode cX7_runOf 0 = .ok (.iload_n 1, 1) := by decide +kernel
theorem dX7_runOf_1 : decode cX7_runOf 1 = .ok (.ifCond .lt 21, 3) := by decide +kernel
theorem dX7_runOf_4 : decode cX7_runOf 4 = .ok (.iload_n 1, 1) := by decide +kernel
theorem dX7_runOf_5 : decode cX7_runOf 5 = .ok (.aload_n 0, 1) := by decide +kernel
theorem dX7_runOf_6 : decode cX7_runOf 6 = .ok (.getfield 27, 3) := by decide +kernel
theorem dX7_runOf_9 : decode cX7_runOf 9 = .ok (.arraylength, 1) := by decide +kernel
theorem dX7_runOf_10 : decode cX7_runOf 10 = .ok (.if_icmp .ge 12, 3) := by decide +kernel
theorem dX7_runOf_13 : decode cX7_runOf 13 = .ok (.aload_n 0, 1) := by decide +kernel
theorem dX7_runOf_14 : decode cX7_runOf 14 = .ok (.getfield 27, 3) := by decide +kernel
theorem dX7_runOf_17 : decode cX7_runOf 17 = .ok (.iload_n 1, 1) := by decide +kernel
theorem dX7_runOf_18 : decode cX7_runOf 18 = .ok (.aaload, 1) := by decide +kernel
theorem dX7_runOf_19 : decode cX7_runOf 19 = .ok (.goto 4, 3) := by decide +kernel
theorem dX7_runOf_22 : decode cX7_runOf 22 = .ok (.aconst_null, 1) := by decide +kernel
theorem dX7_runOf_23 : decode cX7_runOf 23 = .ok (.astore_n 2, 1) := by decide +kernel
theorem dX7_runOf_24 : decode cX7_runOf 24 = .ok (.aload_n 2, 1) := by decide +kernel
theorem dX7_runOf_25 : decode cX7_runOf 25 = .ok (.ifnonnull 14, 3) := by decide +kernel
theorem dX7_runOf_28 : decode cX7_runOf 28 = .ok (.new 267, 3) := by decide +kernel
theorem dX7_runOf_31 : decode cX7_runOf 31 = .ok (.dup, 1) := by decide +kernel
theorem dX7_runOf_32 : decode cX7_runOf 32 = .ok (.ldc_w 269, 3) := by decide +kernel
theorem dX7_runOf_35 : decode cX7_runOf 35 = .ok (.invokespecial 271, 3) := by decide +kernel
theorem dX7_runOf_38 : decode cX7_runOf 38 = .ok (.athrow, 1) := by decide +kernel
theorem dX7_runOf_39 : decode cX7_runOf 39 = .ok (.aload_n 2, 1) := by decide +kernel
theorem dX7_runOf_40 : decode cX7_runOf 40 = .ok (.areturn, 1) := by decide +kernel
set_option maxRecDepth 20000 in
theorem ggX7_addLevel_X3_init : GoodIn wsX7_addLevel wsX3_init := goodIn_r _ [10, 11, 12, 13, 14, 15, 16, 17, 18, 19, 20, 21, 22, 23, 24, 25, 26, 27, 28, 29, 30, 31, 32, 33, 34, 35, 36, 37, 38, 39, 40, 54, 55, 56, 48, 49, 50, 51, 52, 53, 57, 58, 59, 60, 61] (by decide +kernel) (by decide +kernel)
set_option maxRecDepth 20000 in
theorem gX7_addLevel_X3_init : GoodIn wsX7_addLevel (wsX3_init) := ggX7_addLevel_X3_init
theorem dX7_addLevel_0 : decode cX7_addLevel 0 = .ok (.aload_n 0, 1) := by decide +kernel
theorem dX7_addLevel_1 : decode cX7_addLevel 1 = .ok (.getfield 40, 3) := by decide +kernel
theorem dX7_addLevel_4 : decode cX7_addLevel 4 = .ok (.aload_n 0, 1) := by decide +kernel
theorem dX7_addLevel_5 : decode cX7_addLevel 5 = .ok (.getfield 15, 3) := by decide +kernel
theorem dX7_addLevel_8 : decode cX7_addLevel 8 = .ok (.arraylength, 1) := by decide +kernel
theorem dX7_addLevel_9 : decode cX7_addLevel 9 = .ok (.if_icmp .lt 14, 3) := by decide +kernel
theorem dX7_addLevel_12 : decode cX7_addLevel 12 = .ok (.new 88, 3) := by decide +kernel
theorem dX7_addLevel_15 : decode cX7_addLevel 15 = .ok (.dup, 1) := by decide +kernel
theorem dX7_addLevel_16 : decode cX7_addLevel 16 = .ok (.ldc_w 285, 3) := by decide +kernel
theorem dX7_addLevel_19 : decode cX7_addLevel 19 = .ok (.invokespecial 92, 3) := by decide +kernel
theorem dX7_addLevel_22 : decode cX7_addLevel 22 = .ok (.athrow, 1) := by decide +kernel
theorem dX7_addLevel_23 : decode cX7_addLevel 23 = .ok (.new 13, 3) := by decide +kernel
theorem dX7_addLevel_26 : decode cX7_addLevel 26 = .ok (.dup, 1) := by decide +kernel
theorem dX7_addLevel_27 : decode cX7_addLevel 27 = .ok (.iload_n 1, 1) := by decide +kernel
theorem dX7_addLevel_28 : decode cX7_addLevel 28 = .ok (.aload_n 2, 1) := by decide +kernel
theorem dX7_addLevel_29 : decode cX7_addLevel 29 = .ok (.invokespecial 287, 3) := by decide +kernel
theorem dX7_addLevel_32 : decode cX7_addLevel 32 = .ok (.astore_n 3, 1) := by decide +kernel
theorem dX7_addLevel_33 : decode cX7_addLevel 33 = .ok (.aload_n 0, 1) := by decide +kernel
theorem dX7_addLevel_34 : decode cX7_addLevel 34 = .ok (.getfield 15, 3) := by decide +kernel
theorem dX7_addLevel_37 : decode cX7_addLevel 37 = .ok (.aload_n 0, 1) := by decide +kernel
theorem dX7_addLevel_38 : decode cX7_addLevel 38 = .ok (.getfield 40, 3) := by decide +kernel
theorem dX7_addLevel_41 : decode cX7_addLevel 41 = .ok (.aload_n 3, 1) := by decide +kernel
theorem dX7_addLevel_42 : decode cX7_addLevel 42 = .ok (.aastore, 1) := by decide +kernel
theorem dX7_addLevel_43 : decode cX7_addLevel 43 = .ok (.aload_n 0, 1) := by decide +kernel
theorem dX7_addLevel_44 : decode cX7_addLevel 44 = .ok (.dup, 1) := by decide +kernel
theorem dX7_addLevel_45 : decode cX7_addLevel 45 = .ok (.getfield 40, 3) := by decide +kernel
theorem dX7_addLevel_48 : decode cX7_addLevel 48 = .ok (.iconst 1, 1) := by decide +kernel
theorem dX7_addLevel_49 : decode cX7_addLevel 49 = .ok (.iadd, 1) := by decide +kernel
theorem dX7_addLevel_50 : decode cX7_addLevel 50 = .ok (.putfield 40, 3) := by decide +kernel
theorem dX7_addLevel_53 : decode cX7_addLevel 53 = .ok (.aload_n 3, 1) := by decide +kernel
theorem dX7_addLevel_54 : decode cX7_addLevel 54 = .ok (.areturn, 1) := by decide +kernel
set_option maxRecDepth 20000 in
theorem ggX7_endRunsIfWithdrawn_X7_runOf : GoodIn wsX7_endRunsIfWithdrawn wsX7_runOf := goodIn_ca (goodIn_r _ [5, 6, 7, 8, 21, 22, 23, 24, 25, 26, 27] (by decide +kernel) (by decide +kernel)) (goodIn_sub (fun _ h => List.mem_cons_of_mem _ (List.mem_append_right _ h)) (by decide +kernel))
set_option maxRecDepth 20000 in
theorem gX7_endRunsIfWithdrawn_X7_runOf : GoodIn wsX7_endRunsIfWithdrawn (wsV RX7 190 RX7 yX7_runOf wsX7_runOf) := goodIn_app (goodIn_of _ (by decide +kernel)) ggX7_endRunsIfWithdrawn_X7_runOf
theorem dX7_endRunsIfWithdrawn_0 : decode cX7_endRunsIfWithdrawn 0 = .ok (.aload_n 1, 1) := by decide +kernel
theorem dX7_endRunsIfWithdrawn_1 : decode cX7_endRunsIfWithdrawn 1 = .ok (.getfield 156, 3) := by decide +kernel
theorem dX7_endRunsIfWithdrawn_4 : decode cX7_endRunsIfWithdrawn 4 = .ok (.ifCond .lt 4, 3) := by decide +kernel
theorem dX7_endRunsIfWithdrawn_7 : decode cX7_endRunsIfWithdrawn 7 = .ok (.return_, 1) := by decide +kernel
theorem dX7_endRunsIfWithdrawn_8 : decode cX7_endRunsIfWithdrawn 8 = .ok (.iconst 0, 1) := by decide +kernel
theorem dX7_endRunsIfWithdrawn_9 : decode cX7_endRunsIfWithdrawn 9 = .ok (.istore_n 2, 1) := by decide +kernel
theorem dX7_endRunsIfWithdrawn_10 : decode cX7_endRunsIfWithdrawn 10 = .ok (.iload_n 2, 1) := by decide +kernel
theorem dX7_endRunsIfWithdrawn_11 : decode cX7_endRunsIfWithdrawn 11 = .ok (.bipush 6, 2) := by decide +kernel
theorem dX7_endRunsIfWithdrawn_13 : decode cX7_endRunsIfWithdrawn 13 = .ok (.if_icmp .ge 36, 3) := by decide +kernel
theorem dX7_endRunsIfWithdrawn_16 : decode cX7_endRunsIfWithdrawn 16 = .ok (.aload_n 0, 1) := by decide +kernel
theorem dX7_endRunsIfWithdrawn_17 : decode cX7_endRunsIfWithdrawn 17 = .ok (.iload_n 2, 1) := by decide +kernel
theorem dX7_endRunsIfWithdrawn_18 : decode cX7_endRunsIfWithdrawn 18 = .ok (.invokevirtual 190, 3) := by decide +kernel
theorem dX7_endRunsIfWithdrawn_21 : decode cX7_endRunsIfWithdrawn 21 = .ok (.astore_n 3, 1) := by decide +kernel
theorem dX7_endRunsIfWithdrawn_22 : decode cX7_endRunsIfWithdrawn 22 = .ok (.aload_n 3, 1) := by decide +kernel
theorem dX7_endRunsIfWithdrawn_23 : decode cX7_endRunsIfWithdrawn 23 = .ok (.getfield 290, 3) := by decide +kernel
theorem dX7_endRunsIfWithdrawn_26 : decode cX7_endRunsIfWithdrawn 26 = .ok (.aload_n 1, 1) := by decide +kernel
theorem dX7_endRunsIfWithdrawn_27 : decode cX7_endRunsIfWithdrawn 27 = .ok (.if_acmp .ne 16, 3) := by decide +kernel
theorem dX7_endRunsIfWithdrawn_30 : decode cX7_endRunsIfWithdrawn 30 = .ok (.aload_n 3, 1) := by decide +kernel
theorem dX7_endRunsIfWithdrawn_31 : decode cX7_endRunsIfWithdrawn 31 = .ok (.getfield 202, 3) := by decide +kernel
theorem dX7_endRunsIfWithdrawn_34 : decode cX7_endRunsIfWithdrawn 34 = .ok (.iconst 1, 1) := by decide +kernel
theorem dX7_endRunsIfWithdrawn_35 : decode cX7_endRunsIfWithdrawn 35 = .ok (.if_icmp .ne 8, 3) := by decide +kernel
theorem dX7_endRunsIfWithdrawn_38 : decode cX7_endRunsIfWithdrawn 38 = .ok (.aload_n 3, 1) := by decide +kernel
theorem dX7_endRunsIfWithdrawn_39 : decode cX7_endRunsIfWithdrawn 39 = .ok (.iconst 4, 1) := by decide +kernel
theorem dX7_endRunsIfWithdrawn_40 : decode cX7_endRunsIfWithdrawn 40 = .ok (.putfield 202, 3) := by decide +kernel
theorem dX7_endRunsIfWithdrawn_43 : decode cX7_endRunsIfWithdrawn 43 = .ok (.iinc 2 1, 3) := by decide +kernel
theorem dX7_endRunsIfWithdrawn_46 : decode cX7_endRunsIfWithdrawn 46 = .ok (.goto (-36), 3) := by decide +kernel
theorem dX7_endRunsIfWithdrawn_49 : decode cX7_endRunsIfWithdrawn 49 = .ok (.return_, 1) := by decide +kernel
set_option maxRecDepth 20000 in
theorem ggX7_voidProofsWith_X7_levelOf : GoodIn wsX7_voidProofsWith wsX7_levelOf := goodIn_ca (goodIn_r _ [6, 7, 8, 9, 16, 17, 18, 19, 20, 21, 22] (by decide +kernel) (by decide +kernel)) (goodIn_sub (fun _ h => List.mem_cons_of_mem _ (List.mem_append_right _ h)) (by decide +kernel))
set_option maxRecDepth 20000 in
theorem gX7_voidProofsWith_X7_levelOf : GoodIn wsX7_voidProofsWith (wsV RX7 66 RX7 yX7_levelOf wsX7_levelOf) := goodIn_app (goodIn_of _ (by decide +kernel)) ggX7_voidProofsWith_X7_levelOf
set_option maxRecDepth 20000 in
theorem ggX7_voidProofsWith_X1_has : GoodIn wsX7_voidProofsWith wsX1_has := goodIn_r _ [14, 15, 29, 30, 31] (by decide +kernel) (by decide +kernel)
set_option maxRecDepth 20000 in
theorem gX7_voidProofsWith_X1_has : GoodIn wsX7_voidProofsWith (wsV RX7 147 RX1 yX1_has wsX1_has) := goodIn_app (goodIn_of _ (by decide +kernel)) ggX7_voidProofsWith_X1_has
theorem dX7_voidProofsWith_0 : decode cX7_voidProofsWith 0 = .ok (.iconst 0, 1) := by decide +kernel
theorem dX7_voidProofsWith_1 : decode cX7_voidProofsWith 1 = .ok (.istore_n 2, 1) := by decide +kernel
theorem dX7_voidProofsWith_2 : decode cX7_voidProofsWith 2 = .ok (.iconst 0, 1) := by decide +kernel
theorem dX7_voidProofsWith_3 : decode cX7_voidProofsWith 3 = .ok (.istore_n 3, 1) := by decide +kernel
theorem dX7_voidProofsWith_4 : decode cX7_voidProofsWith 4 = .ok (.iload_n 3, 1) := by decide +kernel
theorem dX7_voidProofsWith_5 : decode cX7_voidProofsWith 5 = .ok (.aload_n 0, 1) := by decide +kernel
theorem dX7_voidProofsWith_6 : decode cX7_voidProofsWith 6 = .ok (.getfield 40, 3) := by decide +kernel
theorem dX7_voidProofsWith_9 : decode cX7_voidProofsWith 9 = .ok (.if_icmp .ge 48, 3) := by decide +kernel
theorem dX7_voidProofsWith_12 : decode cX7_voidProofsWith 12 = .ok (.aload_n 0, 1) := by decide +kernel
theorem dX7_voidProofsWith_13 : decode cX7_voidProofsWith 13 = .ok (.iload_n 3, 1) := by decide +kernel
theorem dX7_voidProofsWith_14 : decode cX7_voidProofsWith 14 = .ok (.invokevirtual 66, 3) := by decide +kernel
theorem dX7_voidProofsWith_17 : decode cX7_voidProofsWith 17 = .ok (.astore 4, 2) := by decide +kernel
theorem dX7_voidProofsWith_19 : decode cX7_voidProofsWith 19 = .ok (.aload 4, 2) := by decide +kernel
theorem dX7_voidProofsWith_21 : decode cX7_voidProofsWith 21 = .ok (.getfield 109, 3) := by decide +kernel
theorem dX7_voidProofsWith_24 : decode cX7_voidProofsWith 24 = .ok (.bipush (-2), 2) := by decide +kernel
theorem dX7_voidProofsWith_26 : decode cX7_voidProofsWith 26 = .ok (.if_icmp .eq 25, 3) := by decide +kernel
theorem dX7_voidProofsWith_29 : decode cX7_voidProofsWith 29 = .ok (.aload 4, 2) := by decide +kernel
theorem dX7_voidProofsWith_31 : decode cX7_voidProofsWith 31 = .ok (.getfield 56, 3) := by decide +kernel
theorem dX7_voidProofsWith_34 : decode cX7_voidProofsWith 34 = .ok (.iload_n 1, 1) := by decide +kernel
theorem dX7_voidProofsWith_35 : decode cX7_voidProofsWith 35 = .ok (.invokevirtual 147, 3) := by decide +kernel
theorem dX7_voidProofsWith_38 : decode cX7_voidProofsWith 38 = .ok (.ifCond .eq 13, 3) := by decide +kernel
theorem dX7_voidProofsWith_41 : decode cX7_voidProofsWith 41 = .ok (.aload 4, 2) := by decide +kernel
theorem dX7_voidProofsWith_43 : decode cX7_voidProofsWith 43 = .ok (.bipush (-2), 2) := by decide +kernel
theorem dX7_voidProofsWith_45 : decode cX7_voidProofsWith 45 = .ok (.putfield 109, 3) := by decide +kernel
theorem dX7_voidProofsWith_48 : decode cX7_voidProofsWith 48 = .ok (.iinc 2 1, 3) := by decide +kernel
theorem dX7_voidProofsWith_51 : decode cX7_voidProofsWith 51 = .ok (.iinc 3 1, 3) := by decide +kernel
theorem dX7_voidProofsWith_54 : decode cX7_voidProofsWith 54 = .ok (.goto (-50), 3) := by decide +kernel
theorem dX7_voidProofsWith_57 : decode cX7_voidProofsWith 57 = .ok (.iload_n 2, 1) := by decide +kernel
theorem dX7_voidProofsWith_58 : decode cX7_voidProofsWith 58 = .ok (.ireturn, 1) := by decide +kernel
theorem dX7_isCell_0 : decode cX7_isCell 0 = .ok (.iload_n 0, 1) := by decide +kernel
theorem dX7_isCell_1 : decode cX7_isCell 1 = .ok (.ifCond .lt 13, 3) := by decide +kernel
theorem dX7_isCell_4 : decode cX7_isCell 4 = .ok (.iload_n 0, 1) := by decide +kernel
theorem dX7_isCell_5 : decode cX7_isCell 5 = .ok (.bipush 96, 2) := by decide +kernel
theorem dX7_isCell_7 : decode cX7_isCell 7 = .ok (.if_icmp .ge 7, 3) := by decide +kernel
theorem dX7_isCell_10 : decode cX7_isCell 10 = .ok (.iconst 1, 1) := by decide +kernel
theorem dX7_isCell_11 : decode cX7_isCell 11 = .ok (.goto 4, 3) := by decide +kernel
theorem dX7_isCell_14 : decode cX7_isCell 14 = .ok (.iconst 0, 1) := by decide +kernel
theorem dX7_isCell_15 : decode cX7_isCell 15 = .ok (.ireturn, 1) := by decide +kernel
