/-! ===== BEGIN printed: names, fields, word lists, decode rows ===== -/
theorem dX0_init_0 : decode cX0_init 0 = .ok (.aload_n 0, 1) := by decide +kernel
theorem dX0_init_1 : decode cX0_init 1 = .ok (.invokespecial 3, 3) := by decide +kernel
theorem dX0_init_4 : decode cX0_init 4 = .ok (.aload_n 0, 1) := by decide +kernel
theorem dX0_init_5 : decode cX0_init 5 = .ok (.iconst 0, 1) := by decide +kernel
theorem dX0_init_6 : decode cX0_init 6 = .ok (.putfield 9, 3) := by decide +kernel
theorem dX0_init_9 : decode cX0_init 9 = .ok (.aload_n 0, 1) := by decide +kernel
theorem dX0_init_10 : decode cX0_init 10 = .ok (.iconst 0, 1) := by decide +kernel
theorem dX0_init_11 : decode cX0_init 11 = .ok (.putfield 15, 3) := by decide +kernel
theorem dX0_init_14 : decode cX0_init 14 = .ok (.aload_n 0, 1) := by decide +kernel
theorem dX0_init_15 : decode cX0_init 15 = .ok (.iconst 0, 1) := by decide +kernel
theorem dX0_init_16 : decode cX0_init 16 = .ok (.putfield 18, 3) := by decide +kernel
theorem dX0_init_19 : decode cX0_init 19 = .ok (.aload_n 0, 1) := by decide +kernel
theorem dX0_init_20 : decode cX0_init 20 = .ok (.iconst 1, 1) := by decide +kernel
theorem dX0_init_21 : decode cX0_init 21 = .ok (.putfield 21, 3) := by decide +kernel
theorem dX0_init_24 : decode cX0_init 24 = .ok (.aload_n 0, 1) := by decide +kernel
theorem dX0_init_25 : decode cX0_init 25 = .ok (.aload_n 1, 1) := by decide +kernel
theorem dX0_init_26 : decode cX0_init 26 = .ok (.putfield 24, 3) := by decide +kernel
theorem dX0_init_29 : decode cX0_init 29 = .ok (.return_, 1) := by decide +kernel
set_option maxRecDepth 20000 in
theorem ggX0_placeAtStart_X0_comeTo : GoodIn wsX0_placeAtStart wsX0_comeTo := goodIn_r _ [8, 3, 9, 2, 10, 11, 12, 13, 14, 15, 16, 17, 18, 19, 20, 21, 22, 23, 24, 25, 26, 27, 28, 29, 30, 31] (by decide +kernel) (by decide +kernel)
set_option maxRecDepth 20000 in
theorem gX0_placeAtStart_X0_comeTo : GoodIn wsX0_placeAtStart (wsV RX0 28 RX0 yX0_comeTo wsX0_comeTo) := goodIn_app (goodIn_of _ (by decide +kernel)) ggX0_placeAtStart_X0_comeTo
theorem dX0_placeAtStart_0 : decode cX0_placeAtStart 0 = .ok (.aload_n 0, 1) := by decide +kernel
theorem dX0_placeAtStart_1 : decode cX0_placeAtStart 1 = .ok (.iconst 0, 1) := by decide +kernel
theorem dX0_placeAtStart_2 : decode cX0_placeAtStart 2 = .ok (.putfield 15, 3) := by decide +kernel
theorem dX0_placeAtStart_5 : decode cX0_placeAtStart 5 = .ok (.aload_n 0, 1) := by decide +kernel
theorem dX0_placeAtStart_6 : decode cX0_placeAtStart 6 = .ok (.iconst 0, 1) := by decide +kernel
theorem dX0_placeAtStart_7 : decode cX0_placeAtStart 7 = .ok (.putfield 18, 3) := by decide +kernel
theorem dX0_placeAtStart_10 : decode cX0_placeAtStart 10 = .ok (.aload_n 0, 1) := by decide +kernel
theorem dX0_placeAtStart_11 : decode cX0_placeAtStart 11 = .ok (.iconst 1, 1) := by decide +kernel
theorem dX0_placeAtStart_12 : decode cX0_placeAtStart 12 = .ok (.putfield 21, 3) := by decide +kernel
theorem dX0_placeAtStart_15 : decode cX0_placeAtStart 15 = .ok (.aload_n 0, 1) := by decide +kernel
theorem dX0_placeAtStart_16 : decode cX0_placeAtStart 16 = .ok (.aload_n 1, 1) := by decide +kernel
theorem dX0_placeAtStart_17 : decode cX0_placeAtStart 17 = .ok (.iload_n 2, 1) := by decide +kernel
theorem dX0_placeAtStart_18 : decode cX0_placeAtStart 18 = .ok (.invokevirtual 28, 3) := by decide +kernel
theorem dX0_placeAtStart_21 : decode cX0_placeAtStart 21 = .ok (.return_, 1) := by decide +kernel
theorem dX0_packed_0 : decode cX0_packed 0 = .ok (.aload_n 0, 1) := by decide +kernel
theorem dX0_packed_1 : decode cX0_packed 1 = .ok (.getfield 9, 3) := by decide +kernel
theorem dX0_packed_4 : decode cX0_packed 4 = .ok (.bipush 6, 2) := by decide +kernel
theorem dX0_packed_6 : decode cX0_packed 6 = .ok (.ishl, 1) := by decide +kernel
theorem dX0_packed_7 : decode cX0_packed 7 = .ok (.aload_n 0, 1) := by decide +kernel
theorem dX0_packed_8 : decode cX0_packed 8 = .ok (.getfield 15, 3) := by decide +kernel
theorem dX0_packed_11 : decode cX0_packed 11 = .ok (.iconst 4, 1) := by decide +kernel
theorem dX0_packed_12 : decode cX0_packed 12 = .ok (.iadd, 1) := by decide +kernel
theorem dX0_packed_13 : decode cX0_packed 13 = .ok (.iconst 3, 1) := by decide +kernel
theorem dX0_packed_14 : decode cX0_packed 14 = .ok (.ishl, 1) := by decide +kernel
theorem dX0_packed_15 : decode cX0_packed 15 = .ok (.ior, 1) := by decide +kernel
theorem dX0_packed_16 : decode cX0_packed 16 = .ok (.aload_n 0, 1) := by decide +kernel
theorem dX0_packed_17 : decode cX0_packed 17 = .ok (.getfield 18, 3) := by decide +kernel
theorem dX0_packed_20 : decode cX0_packed 20 = .ok (.ior, 1) := by decide +kernel
theorem dX0_packed_21 : decode cX0_packed 21 = .ok (.ireturn, 1) := by decide +kernel
theorem dX0_unpack_0 : decode cX0_unpack 0 = .ok (.aload_n 0, 1) := by decide +kernel
theorem dX0_unpack_1 : decode cX0_unpack 1 = .ok (.iload_n 1, 1) := by decide +kernel
theorem dX0_unpack_2 : decode cX0_unpack 2 = .ok (.bipush 6, 2) := by decide +kernel
theorem dX0_unpack_4 : decode cX0_unpack 4 = .ok (.ishr, 1) := by decide +kernel
theorem dX0_unpack_5 : decode cX0_unpack 5 = .ok (.putfield 9, 3) := by decide +kernel
theorem dX0_unpack_8 : decode cX0_unpack 8 = .ok (.aload_n 0, 1) := by decide +kernel
theorem dX0_unpack_9 : decode cX0_unpack 9 = .ok (.iload_n 1, 1) := by decide +kernel
theorem dX0_unpack_10 : decode cX0_unpack 10 = .ok (.iconst 3, 1) := by decide +kernel
theorem dX0_unpack_11 : decode cX0_unpack 11 = .ok (.ishr, 1) := by decide +kernel
theorem dX0_unpack_12 : decode cX0_unpack 12 = .ok (.bipush 7, 2) := by decide +kernel
theorem dX0_unpack_14 : decode cX0_unpack 14 = .ok (.iand, 1) := by decide +kernel
theorem dX0_unpack_15 : decode cX0_unpack 15 = .ok (.iconst 4, 1) := by decide +kernel
theorem dX0_unpack_16 : decode cX0_unpack 16 = .ok (.isub, 1) := by decide +kernel
theorem dX0_unpack_17 : decode cX0_unpack 17 = .ok (.putfield 15, 3) := by decide +kernel
theorem dX0_unpack_20 : decode cX0_unpack 20 = .ok (.aload_n 0, 1) := by decide +kernel
theorem dX0_unpack_21 : decode cX0_unpack 21 = .ok (.iload_n 1, 1) := by decide +kernel
theorem dX0_unpack_22 : decode cX0_unpack 22 = .ok (.bipush 7, 2) := by decide +kernel
theorem dX0_unpack_24 : decode cX0_unpack 24 = .ok (.iand, 1) := by decide +kernel
theorem dX0_unpack_25 : decode cX0_unpack 25 = .ok (.putfield 18, 3) := by decide +kernel
theorem dX0_unpack_28 : decode cX0_unpack 28 = .ok (.aload_n 0, 1) := by decide +kernel
theorem dX0_unpack_29 : decode cX0_unpack 29 = .ok (.iconst 1, 1) := by decide +kernel
theorem dX0_unpack_30 : decode cX0_unpack 30 = .ok (.putfield 21, 3) := by decide +kernel
theorem dX0_unpack_33 : decode cX0_unpack 33 = .ok (.return_, 1) := by decide +kernel
set_option maxRecDepth 20000 in
theorem ggX0_stands_X0_isSolidIn : GoodIn wsX0_stands wsX0_isSolidIn := goodIn_r _ [7, 8, 9, 10, 11, 12, 13, 14, 15, 16, 17, 18, 19, 20, 21, 22] (by decide +kernel) (by decide +kernel)
set_option maxRecDepth 20000 in
theorem gX0_stands_X0_isSolidIn : GoodIn wsX0_stands (wsV RX0 32 RX0 yX0_isSolidIn wsX0_isSolidIn) := goodIn_app (goodIn_of _ (by decide +kernel)) ggX0_stands_X0_isSolidIn
theorem dX0_stands_0 : decode cX0_stands 0 = .ok (.aload_n 0, 1) := by decide +kernel
theorem dX0_stands_1 : decode cX0_stands 1 = .ok (.getfield 15, 3) := by decide +kernel
theorem dX0_stands_4 : decode cX0_stands 4 = .ok (.ifCond .lt 22, 3) := by decide +kernel
theorem dX0_stands_7 : decode cX0_stands 7 = .ok (.aload_n 0, 1) := by decide +kernel
theorem dX0_stands_8 : decode cX0_stands 8 = .ok (.aload_n 1, 1) := by decide +kernel
theorem dX0_stands_9 : decode cX0_stands 9 = .ok (.aload_n 0, 1) := by decide +kernel
theorem dX0_stands_10 : decode cX0_stands 10 = .ok (.getfield 9, 3) := by decide +kernel
theorem dX0_stands_13 : decode cX0_stands 13 = .ok (.bipush 12, 2) := by decide +kernel
theorem dX0_stands_15 : decode cX0_stands 15 = .ok (.iadd, 1) := by decide +kernel
theorem dX0_stands_16 : decode cX0_stands 16 = .ok (.invokevirtual 32, 3) := by decide +kernel
theorem dX0_stands_19 : decode cX0_stands 19 = .ok (.ifCond .eq 7, 3) := by decide +kernel
theorem dX0_stands_22 : decode cX0_stands 22 = .ok (.iconst 1, 1) := by decide +kernel
theorem dX0_stands_23 : decode cX0_stands 23 = .ok (.goto 4, 3) := by decide +kernel
theorem dX0_stands_26 : decode cX0_stands 26 = .ok (.iconst 0, 1) := by decide +kernel
theorem dX0_stands_27 : decode cX0_stands 27 = .ok (.ireturn, 1) := by decide +kernel
set_option maxRecDepth 20000 in
theorem ggX0_move_X0_stands : GoodIn wsX0_move wsX0_stands := goodIn_r _ [7, 1, 8, 9, 10, 11, 6, 12, 13, 14, 15, 16, 17, 18, 19, 45, 46, 47, 48, 49, 50, 51, 52] (by decide +kernel) (by decide +kernel)
set_option maxRecDepth 20000 in
theorem gX0_move_X0_stands : GoodIn wsX0_move (wsV RX0 36 RX0 yX0_stands wsX0_stands) := goodIn_app (goodIn_of _ (by decide +kernel)) ggX0_move_X0_stands
set_option maxRecDepth 20000 in
theorem ggX0_move_X0_goSideways : GoodIn wsX0_move wsX0_goSideways := goodIn_r _ [23, 8, 9, 10, 11, 6, 12, 13, 14, 15, 16, 17, 18, 19, 24, 25, 26, 27, 2, 28, 29, 30, 31, 32, 33, 34, 35, 45, 46, 47, 48, 49, 50, 51, 52] (by decide +kernel) (by decide +kernel)
set_option maxRecDepth 20000 in
theorem gX0_move_X0_goSideways : GoodIn wsX0_move (wsV RX0 40 RX0 yX0_goSideways wsX0_goSideways) := goodIn_app (goodIn_of _ (by decide +kernel)) ggX0_move_X0_goSideways
set_option maxRecDepth 20000 in
theorem ggX0_move_X0_goUpOrDown : GoodIn wsX0_move wsX0_goUpOrDown := goodIn_r _ [39, 1, 8, 2, 9, 10, 11, 6, 12, 13, 14, 15, 16, 17, 18, 19, 40, 41, 42, 43, 44, 24, 25, 26, 27, 28, 29, 30, 31, 32, 33, 34, 35, 45, 46, 47, 48, 49, 50, 51, 52] (by decide +kernel) (by decide +kernel)
set_option maxRecDepth 20000 in
theorem gX0_move_X0_goUpOrDown : GoodIn wsX0_move (wsV RX0 43 RX0 yX0_goUpOrDown wsX0_goUpOrDown) := goodIn_app (goodIn_of _ (by decide +kernel)) ggX0_move_X0_goUpOrDown
theorem dX0_move_0 : decode cX0_move 0 = .ok (.aload_n 0, 1) := by decide +kernel
theorem dX0_move_1 : decode cX0_move 1 = .ok (.aload_n 1, 1) := by decide +kernel
theorem dX0_move_2 : decode cX0_move 2 = .ok (.invokevirtual 36, 3) := by decide +kernel
theorem dX0_move_5 : decode cX0_move 5 = .ok (.ifCond .eq 18, 3) := by decide +kernel
theorem dX0_move_8 : decode cX0_move 8 = .ok (.aload_n 0, 1) := by decide +kernel
theorem dX0_move_9 : decode cX0_move 9 = .ok (.iload_n 2, 1) := by decide +kernel
theorem dX0_move_10 : decode cX0_move 10 = .ok (.iconst 3, 1) := by decide +kernel
theorem dX0_move_11 : decode cX0_move 11 = .ok (.if_icmp .lt 8, 3) := by decide +kernel
theorem dX0_move_14 : decode cX0_move 14 = .ok (.bipush (-2), 2) := by decide +kernel
theorem dX0_move_16 : decode cX0_move 16 = .ok (.goto 4, 3) := by decide +kernel
theorem dX0_move_19 : decode cX0_move 19 = .ok (.iconst 0, 1) := by decide +kernel
theorem dX0_move_20 : decode cX0_move 20 = .ok (.putfield 15, 3) := by decide +kernel
theorem dX0_move_23 : decode cX0_move 23 = .ok (.aload_n 0, 1) := by decide +kernel
theorem dX0_move_24 : decode cX0_move 24 = .ok (.aload_n 1, 1) := by decide +kernel
theorem dX0_move_25 : decode cX0_move 25 = .ok (.iload_n 2, 1) := by decide +kernel
theorem dX0_move_26 : decode cX0_move 26 = .ok (.iconst 3, 1) := by decide +kernel
theorem dX0_move_27 : decode cX0_move 27 = .ok (.irem, 1) := by decide +kernel
theorem dX0_move_28 : decode cX0_move 28 = .ok (.iconst 1, 1) := by decide +kernel
theorem dX0_move_29 : decode cX0_move 29 = .ok (.isub, 1) := by decide +kernel
theorem dX0_move_30 : decode cX0_move 30 = .ok (.invokevirtual 40, 3) := by decide +kernel
theorem dX0_move_33 : decode cX0_move 33 = .ok (.aload_n 0, 1) := by decide +kernel
theorem dX0_move_34 : decode cX0_move 34 = .ok (.getfield 21, 3) := by decide +kernel
theorem dX0_move_37 : decode cX0_move 37 = .ok (.iconst 1, 1) := by decide +kernel
theorem dX0_move_38 : decode cX0_move 38 = .ok (.if_icmp .ne 8, 3) := by decide +kernel
theorem dX0_move_41 : decode cX0_move 41 = .ok (.aload_n 0, 1) := by decide +kernel
theorem dX0_move_42 : decode cX0_move 42 = .ok (.aload_n 1, 1) := by decide +kernel
theorem dX0_move_43 : decode cX0_move 43 = .ok (.invokevirtual 43, 3) := by decide +kernel
theorem dX0_move_46 : decode cX0_move 46 = .ok (.return_, 1) := by decide +kernel
set_option maxRecDepth 20000 in
theorem ggX0_goSideways_X0_isSolidIn : GoodIn wsX0_goSideways wsX0_isSolidIn := goodIn_r _ [6, 7, 8, 9, 10, 11, 12, 13, 27, 28, 29, 30, 31, 32, 33, 34] (by decide +kernel) (by decide +kernel)
set_option maxRecDepth 20000 in
theorem gX0_goSideways_X0_isSolidIn : GoodIn wsX0_goSideways (wsV RX0 32 RX0 yX0_isSolidIn wsX0_isSolidIn) := goodIn_app (goodIn_of _ (by decide +kernel)) ggX0_goSideways_X0_isSolidIn
set_option maxRecDepth 20000 in
theorem ggX0_goSideways_X0_comeTo : GoodIn wsX0_goSideways wsX0_comeTo := goodIn_r _ [17, 18, 1, 7, 19, 20, 21, 8, 9, 10, 11, 12, 13, 22, 23, 24, 25, 26, 27, 28, 29, 30, 31, 32, 33, 34] (by decide +kernel) (by decide +kernel)
set_option maxRecDepth 20000 in
theorem gX0_goSideways_X0_comeTo : GoodIn wsX0_goSideways (wsV RX0 28 RX0 yX0_comeTo wsX0_comeTo) := goodIn_app (goodIn_of _ (by decide +kernel)) ggX0_goSideways_X0_comeTo
theorem dX0_goSideways_0 : decode cX0_goSideways 0 = .ok (.aload_n 0, 1) := by decide +kernel
theorem dX0_goSideways_1 : decode cX0_goSideways 1 = .ok (.getfield 9, 3) := by decide +kernel
theorem dX0_goSideways_4 : decode cX0_goSideways 4 = .ok (.bipush 12, 2) := by decide +kernel
theorem dX0_goSideways_6 : decode cX0_goSideways 6 = .ok (.irem, 1) := by decide +kernel
theorem dX0_goSideways_7 : decode cX0_goSideways 7 = .ok (.iload_n 2, 1) := by decide +kernel
theorem dX0_goSideways_8 : decode cX0_goSideways 8 = .ok (.iadd, 1) := by decide +kernel
theorem dX0_goSideways_9 : decode cX0_goSideways 9 = .ok (.istore_n 3, 1) := by decide +kernel
theorem dX0_goSideways_10 : decode cX0_goSideways 10 = .ok (.iload_n 3, 1) := by decide +kernel
theorem dX0_goSideways_11 : decode cX0_goSideways 11 = .ok (.ifCond .lt 13, 3) := by decide +kernel
theorem dX0_goSideways_14 : decode cX0_goSideways 14 = .ok (.iload_n 3, 1) := by decide +kernel
theorem dX0_goSideways_15 : decode cX0_goSideways 15 = .ok (.bipush 12, 2) := by decide +kernel
theorem dX0_goSideways_17 : decode cX0_goSideways 17 = .ok (.if_icmp .ge 7, 3) := by decide +kernel
theorem dX0_goSideways_20 : decode cX0_goSideways 20 = .ok (.iconst 1, 1) := by decide +kernel
theorem dX0_goSideways_21 : decode cX0_goSideways 21 = .ok (.goto 4, 3) := by decide +kernel
theorem dX0_goSideways_24 : decode cX0_goSideways 24 = .ok (.iconst 0, 1) := by decide +kernel
theorem dX0_goSideways_25 : decode cX0_goSideways 25 = .ok (.istore 4, 2) := by decide +kernel
theorem dX0_goSideways_27 : decode cX0_goSideways 27 = .ok (.iload_n 2, 1) := by decide +kernel
theorem dX0_goSideways_28 : decode cX0_goSideways 28 = .ok (.ifCond .eq 33, 3) := by decide +kernel
theorem dX0_goSideways_31 : decode cX0_goSideways 31 = .ok (.iload 4, 2) := by decide +kernel
theorem dX0_goSideways_33 : decode cX0_goSideways 33 = .ok (.ifCond .eq 28, 3) := by decide +kernel
theorem dX0_goSideways_36 : decode cX0_goSideways 36 = .ok (.aload_n 0, 1) := by decide +kernel
theorem dX0_goSideways_37 : decode cX0_goSideways 37 = .ok (.aload_n 1, 1) := by decide +kernel
theorem dX0_goSideways_38 : decode cX0_goSideways 38 = .ok (.aload_n 0, 1) := by decide +kernel
theorem dX0_goSideways_39 : decode cX0_goSideways 39 = .ok (.getfield 9, 3) := by decide +kernel
theorem dX0_goSideways_42 : decode cX0_goSideways 42 = .ok (.iload_n 2, 1) := by decide +kernel
theorem dX0_goSideways_43 : decode cX0_goSideways 43 = .ok (.iadd, 1) := by decide +kernel
theorem dX0_goSideways_44 : decode cX0_goSideways 44 = .ok (.invokevirtual 32, 3) := by decide +kernel
theorem dX0_goSideways_47 : decode cX0_goSideways 47 = .ok (.ifCond .ne 14, 3) := by decide +kernel
theorem dX0_goSideways_50 : decode cX0_goSideways 50 = .ok (.aload_n 0, 1) := by decide +kernel
theorem dX0_goSideways_51 : decode cX0_goSideways 51 = .ok (.aload_n 1, 1) := by decide +kernel
theorem dX0_goSideways_52 : decode cX0_goSideways 52 = .ok (.aload_n 0, 1) := by decide +kernel
theorem dX0_goSideways_53 : decode cX0_goSideways 53 = .ok (.getfield 9, 3) := by decide +kernel
theorem dX0_goSideways_56 : decode cX0_goSideways 56 = .ok (.iload_n 2, 1) := by decide +kernel
theorem dX0_goSideways_57 : decode cX0_goSideways 57 = .ok (.iadd, 1) := by decide +kernel
theorem dX0_goSideways_58 : decode cX0_goSideways 58 = .ok (.invokevirtual 28, 3) := by decide +kernel
theorem dX0_goSideways_61 : decode cX0_goSideways 61 = .ok (.return_, 1) := by decide +kernel
set_option maxRecDepth 20000 in
theorem ggX0_goUpOrDown_X0_isSolidIn : GoodIn wsX0_goUpOrDown wsX0_isSolidIn := goodIn_r _ [8, 9, 10, 11, 12, 13, 14, 15, 33, 34, 35, 36, 37, 38, 39, 40] (by decide +kernel) (by decide +kernel)
set_option maxRecDepth 20000 in
theorem gX0_goUpOrDown_X0_isSolidIn : GoodIn wsX0_goUpOrDown (wsV RX0 32 RX0 yX0_isSolidIn wsX0_isSolidIn) := goodIn_app (goodIn_of _ (by decide +kernel)) ggX0_goUpOrDown_X0_isSolidIn
set_option maxRecDepth 20000 in
theorem ggX0_goUpOrDown_X1_kindAt : GoodIn wsX0_goUpOrDown wsX1_kindAt := goodIn_r _ [14, 15, 38, 39, 40] (by decide +kernel) (by decide +kernel)
set_option maxRecDepth 20000 in
theorem gX0_goUpOrDown_X1_kindAt : GoodIn wsX0_goUpOrDown (wsV RX0 47 RX1 yX1_kindAt wsX1_kindAt) := goodIn_app (goodIn_of _ (by decide +kernel)) ggX0_goUpOrDown_X1_kindAt
set_option maxRecDepth 20000 in
theorem ggX0_goUpOrDown_X0_strengthOf : GoodIn wsX0_goUpOrDown wsX0_strengthOf := goodIn_r _ [19, 20, 33, 34, 35, 36, 37] (by decide +kernel) (by decide +kernel)
set_option maxRecDepth 20000 in
theorem gX0_goUpOrDown_X0_strengthOf : GoodIn wsX0_goUpOrDown (wsV RX0 53 RX0 yX0_strengthOf wsX0_strengthOf) := goodIn_app (goodIn_of _ (by decide +kernel)) ggX0_goUpOrDown_X0_strengthOf
set_option maxRecDepth 20000 in
theorem ggX0_goUpOrDown_X0_comeTo : GoodIn wsX0_goUpOrDown wsX0_comeTo := goodIn_r _ [24, 3, 2, 9, 25, 26, 27, 10, 11, 12, 13, 14, 15, 28, 29, 30, 31, 32, 33, 34, 35, 36, 37, 38, 39, 40] (by decide +kernel) (by decide +kernel)
set_option maxRecDepth 20000 in
theorem gX0_goUpOrDown_X0_comeTo : GoodIn wsX0_goUpOrDown (wsV RX0 28 RX0 yX0_comeTo wsX0_comeTo) := goodIn_app (goodIn_of _ (by decide +kernel)) ggX0_goUpOrDown_X0_comeTo
theorem dX0_goUpOrDown_0 : decode cX0_goUpOrDown 0 = .ok (.aload_n 0, 1) := by decide +kernel
theorem dX0_goUpOrDown_1 : decode cX0_goUpOrDown 1 = .ok (.getfield 15, 3) := by decide +kernel
theorem dX0_goUpOrDown_4 : decode cX0_goUpOrDown 4 = .ok (.ifCond .ge 8, 3) := by decide +kernel
theorem dX0_goUpOrDown_7 : decode cX0_goUpOrDown 7 = .ok (.bipush (-12), 2) := by decide +kernel
theorem dX0_goUpOrDown_9 : decode cX0_goUpOrDown 9 = .ok (.goto 5, 3) := by decide +kernel
theorem dX0_goUpOrDown_12 : decode cX0_goUpOrDown 12 = .ok (.bipush 12, 2) := by decide +kernel
theorem dX0_goUpOrDown_14 : decode cX0_goUpOrDown 14 = .ok (.istore_n 2, 1) := by decide +kernel
theorem dX0_goUpOrDown_15 : decode cX0_goUpOrDown 15 = .ok (.aload_n 0, 1) := by decide +kernel
theorem dX0_goUpOrDown_16 : decode cX0_goUpOrDown 16 = .ok (.getfield 15, 3) := by decide +kernel
theorem dX0_goUpOrDown_19 : decode cX0_goUpOrDown 19 = .ok (.ifCond .ge 11, 3) := by decide +kernel
theorem dX0_goUpOrDown_22 : decode cX0_goUpOrDown 22 = .ok (.aload_n 0, 1) := by decide +kernel
theorem dX0_goUpOrDown_23 : decode cX0_goUpOrDown 23 = .ok (.getfield 15, 3) := by decide +kernel
theorem dX0_goUpOrDown_26 : decode cX0_goUpOrDown 26 = .ok (.ineg, 1) := by decide +kernel
theorem dX0_goUpOrDown_27 : decode cX0_goUpOrDown 27 = .ok (.goto 7, 3) := by decide +kernel
theorem dX0_goUpOrDown_30 : decode cX0_goUpOrDown 30 = .ok (.aload_n 0, 1) := by decide +kernel
theorem dX0_goUpOrDown_31 : decode cX0_goUpOrDown 31 = .ok (.getfield 15, 3) := by decide +kernel
theorem dX0_goUpOrDown_34 : decode cX0_goUpOrDown 34 = .ok (.istore_n 3, 1) := by decide +kernel
theorem dX0_goUpOrDown_35 : decode cX0_goUpOrDown 35 = .ok (.iconst 0, 1) := by decide +kernel
theorem dX0_goUpOrDown_36 : decode cX0_goUpOrDown 36 = .ok (.istore 4, 2) := by decide +kernel
theorem dX0_goUpOrDown_38 : decode cX0_goUpOrDown 38 = .ok (.iload 4, 2) := by decide +kernel
theorem dX0_goUpOrDown_40 : decode cX0_goUpOrDown 40 = .ok (.iload_n 3, 1) := by decide +kernel
theorem dX0_goUpOrDown_41 : decode cX0_goUpOrDown 41 = .ok (.if_icmp .ge 71, 3) := by decide +kernel
theorem dX0_goUpOrDown_44 : decode cX0_goUpOrDown 44 = .ok (.aload_n 0, 1) := by decide +kernel
theorem dX0_goUpOrDown_45 : decode cX0_goUpOrDown 45 = .ok (.aload_n 1, 1) := by decide +kernel
theorem dX0_goUpOrDown_46 : decode cX0_goUpOrDown 46 = .ok (.aload_n 0, 1) := by decide +kernel
theorem dX0_goUpOrDown_47 : decode cX0_goUpOrDown 47 = .ok (.getfield 9, 3) := by decide +kernel
theorem dX0_goUpOrDown_50 : decode cX0_goUpOrDown 50 = .ok (.iload_n 2, 1) := by decide +kernel
theorem dX0_goUpOrDown_51 : decode cX0_goUpOrDown 51 = .ok (.iadd, 1) := by decide +kernel
theorem dX0_goUpOrDown_52 : decode cX0_goUpOrDown 52 = .ok (.invokevirtual 32, 3) := by decide +kernel
theorem dX0_goUpOrDown_55 : decode cX0_goUpOrDown 55 = .ok (.ifCond .eq 31, 3) := by decide +kernel
theorem dX0_goUpOrDown_58 : decode cX0_goUpOrDown 58 = .ok (.aload_n 0, 1) := by decide +kernel
theorem dX0_goUpOrDown_59 : decode cX0_goUpOrDown 59 = .ok (.iload_n 2, 1) := by decide +kernel
theorem dX0_goUpOrDown_60 : decode cX0_goUpOrDown 60 = .ok (.ifCond .ge 7, 3) := by decide +kernel
theorem dX0_goUpOrDown_63 : decode cX0_goUpOrDown 63 = .ok (.iconst 0, 1) := by decide +kernel
theorem dX0_goUpOrDown_64 : decode cX0_goUpOrDown 64 = .ok (.goto 18, 3) := by decide +kernel
theorem dX0_goUpOrDown_67 : decode cX0_goUpOrDown 67 = .ok (.aload_n 0, 1) := by decide +kernel
theorem dX0_goUpOrDown_68 : decode cX0_goUpOrDown 68 = .ok (.aload_n 1, 1) := by decide +kernel
theorem dX0_goUpOrDown_69 : decode cX0_goUpOrDown 69 = .ok (.aload_n 0, 1) := by decide +kernel
theorem dX0_goUpOrDown_70 : decode cX0_goUpOrDown 70 = .ok (.getfield 9, 3) := by decide +kernel
theorem dX0_goUpOrDown_73 : decode cX0_goUpOrDown 73 = .ok (.iload_n 2, 1) := by decide +kernel
theorem dX0_goUpOrDown_74 : decode cX0_goUpOrDown 74 = .ok (.iadd, 1) := by decide +kernel
theorem dX0_goUpOrDown_75 : decode cX0_goUpOrDown 75 = .ok (.invokevirtual 47, 3) := by decide +kernel
theorem dX0_goUpOrDown_78 : decode cX0_goUpOrDown 78 = .ok (.invokevirtual 53, 3) := by decide +kernel
theorem dX0_goUpOrDown_81 : decode cX0_goUpOrDown 81 = .ok (.ineg, 1) := by decide +kernel
theorem dX0_goUpOrDown_82 : decode cX0_goUpOrDown 82 = .ok (.putfield 15, 3) := by decide +kernel
theorem dX0_goUpOrDown_85 : decode cX0_goUpOrDown 85 = .ok (.return_, 1) := by decide +kernel
theorem dX0_goUpOrDown_86 : decode cX0_goUpOrDown 86 = .ok (.aload_n 0, 1) := by decide +kernel
theorem dX0_goUpOrDown_87 : decode cX0_goUpOrDown 87 = .ok (.aload_n 1, 1) := by decide +kernel
theorem dX0_goUpOrDown_88 : decode cX0_goUpOrDown 88 = .ok (.aload_n 0, 1) := by decide +kernel
theorem dX0_goUpOrDown_89 : decode cX0_goUpOrDown 89 = .ok (.getfield 9, 3) := by decide +kernel
theorem dX0_goUpOrDown_92 : decode cX0_goUpOrDown 92 = .ok (.iload_n 2, 1) := by decide +kernel
theorem dX0_goUpOrDown_93 : decode cX0_goUpOrDown 93 = .ok (.iadd, 1) := by decide +kernel
theorem dX0_goUpOrDown_94 : decode cX0_goUpOrDown 94 = .ok (.invokevirtual 28, 3) := by decide +kernel
theorem dX0_goUpOrDown_97 : decode cX0_goUpOrDown 97 = .ok (.aload_n 0, 1) := by decide +kernel
theorem dX0_goUpOrDown_98 : decode cX0_goUpOrDown 98 = .ok (.getfield 21, 3) := by decide +kernel
theorem dX0_goUpOrDown_101 : decode cX0_goUpOrDown 101 = .ok (.iconst 1, 1) := by decide +kernel
theorem dX0_goUpOrDown_102 : decode cX0_goUpOrDown 102 = .ok (.if_icmp .eq 4, 3) := by decide +kernel
theorem dX0_goUpOrDown_105 : decode cX0_goUpOrDown 105 = .ok (.return_, 1) := by decide +kernel
theorem dX0_goUpOrDown_106 : decode cX0_goUpOrDown 106 = .ok (.iinc 4 1, 3) := by decide +kernel
theorem dX0_goUpOrDown_109 : decode cX0_goUpOrDown 109 = .ok (.goto (-71), 3) := by decide +kernel
theorem dX0_goUpOrDown_112 : decode cX0_goUpOrDown 112 = .ok (.aload_n 0, 1) := by decide +kernel
theorem dX0_goUpOrDown_113 : decode cX0_goUpOrDown 113 = .ok (.aload_n 0, 1) := by decide +kernel
theorem dX0_goUpOrDown_114 : decode cX0_goUpOrDown 114 = .ok (.getfield 15, 3) := by decide +kernel
theorem dX0_goUpOrDown_117 : decode cX0_goUpOrDown 117 = .ok (.iconst 3, 1) := by decide +kernel
theorem dX0_goUpOrDown_118 : decode cX0_goUpOrDown 118 = .ok (.if_icmp .ge 12, 3) := by decide +kernel
theorem dX0_goUpOrDown_121 : decode cX0_goUpOrDown 121 = .ok (.aload_n 0, 1) := by decide +kernel
theorem dX0_goUpOrDown_122 : decode cX0_goUpOrDown 122 = .ok (.getfield 15, 3) := by decide +kernel
theorem dX0_goUpOrDown_125 : decode cX0_goUpOrDown 125 = .ok (.iconst 1, 1) := by decide +kernel
theorem dX0_goUpOrDown_126 : decode cX0_goUpOrDown 126 = .ok (.iadd, 1) := by decide +kernel
theorem dX0_goUpOrDown_127 : decode cX0_goUpOrDown 127 = .ok (.goto 4, 3) := by decide +kernel
theorem dX0_goUpOrDown_130 : decode cX0_goUpOrDown 130 = .ok (.iconst 3, 1) := by decide +kernel
theorem dX0_goUpOrDown_131 : decode cX0_goUpOrDown 131 = .ok (.putfield 15, 3) := by decide +kernel
theorem dX0_goUpOrDown_134 : decode cX0_goUpOrDown 134 = .ok (.return_, 1) := by decide +kernel
set_option maxRecDepth 20000 in
theorem ggX0_isSolidIn_X1_kindAt : GoodIn wsX0_isSolidIn wsX1_kindAt := goodIn_r _ [6, 7, 13, 14, 15] (by decide +kernel) (by decide +kernel)
set_option maxRecDepth 20000 in
theorem gX0_isSolidIn_X1_kindAt : GoodIn wsX0_isSolidIn (wsV RX0 47 RX1 yX1_kindAt wsX1_kindAt) := goodIn_app (goodIn_of _ (by decide +kernel)) ggX0_isSolidIn_X1_kindAt
theorem dX0_isSolidIn_0 : decode cX0_isSolidIn 0 = .ok (.iload_n 2, 1) := by decide +kernel
theorem dX0_isSolidIn_1 : decode cX0_isSolidIn 1 = .ok (.ifCond .ge 5, 3) := by decide +kernel
theorem dX0_isSolidIn_4 : decode cX0_isSolidIn 4 = .ok (.iconst 1, 1) := by decide +kernel
theorem dX0_isSolidIn_5 : decode cX0_isSolidIn 5 = .ok (.ireturn, 1) := by decide +kernel
theorem dX0_isSolidIn_6 : decode cX0_isSolidIn 6 = .ok (.aload_n 1, 1) := by decide +kernel
theorem dX0_isSolidIn_7 : decode cX0_isSolidIn 7 = .ok (.iload_n 2, 1) := by decide +kernel
theorem dX0_isSolidIn_8 : decode cX0_isSolidIn 8 = .ok (.invokevirtual 47, 3) := by decide +kernel
theorem dX0_isSolidIn_11 : decode cX0_isSolidIn 11 = .ok (.istore_n 3, 1) := by decide +kernel
theorem dX0_isSolidIn_12 : decode cX0_isSolidIn 12 = .ok (.iload_n 3, 1) := by decide +kernel
theorem dX0_isSolidIn_13 : decode cX0_isSolidIn 13 = .ok (.iconst 1, 1) := by decide +kernel
theorem dX0_isSolidIn_14 : decode cX0_isSolidIn 14 = .ok (.if_icmp .eq 25, 3) := by decide +kernel
theorem dX0_isSolidIn_17 : decode cX0_isSolidIn 17 = .ok (.iload_n 3, 1) := by decide +kernel
theorem dX0_isSolidIn_18 : decode cX0_isSolidIn 18 = .ok (.bipush 6, 2) := by decide +kernel
theorem dX0_isSolidIn_20 : decode cX0_isSolidIn 20 = .ok (.if_icmp .ge 19, 3) := by decide +kernel
theorem dX0_isSolidIn_23 : decode cX0_isSolidIn 23 = .ok (.iload_n 3, 1) := by decide +kernel
theorem dX0_isSolidIn_24 : decode cX0_isSolidIn 24 = .ok (.iconst 3, 1) := by decide +kernel
theorem dX0_isSolidIn_25 : decode cX0_isSolidIn 25 = .ok (.if_icmp .ne 18, 3) := by decide +kernel
theorem dX0_isSolidIn_28 : decode cX0_isSolidIn 28 = .ok (.aload_n 0, 1) := by decide +kernel
theorem dX0_isSolidIn_29 : decode cX0_isSolidIn 29 = .ok (.getfield 18, 3) := by decide +kernel
theorem dX0_isSolidIn_32 : decode cX0_isSolidIn 32 = .ok (.aload_n 1, 1) := by decide +kernel
theorem dX0_isSolidIn_33 : decode cX0_isSolidIn 33 = .ok (.getfield 56, 3) := by decide +kernel
theorem dX0_isSolidIn_36 : decode cX0_isSolidIn 36 = .ok (.if_icmp .eq 7, 3) := by decide +kernel
theorem dX0_isSolidIn_39 : decode cX0_isSolidIn 39 = .ok (.iconst 1, 1) := by decide +kernel
theorem dX0_isSolidIn_40 : decode cX0_isSolidIn 40 = .ok (.goto 4, 3) := by decide +kernel
theorem dX0_isSolidIn_43 : decode cX0_isSolidIn 43 = .ok (.iconst 0, 1) := by decide +kernel
theorem dX0_isSolidIn_44 : decode cX0_isSolidIn 44 = .ok (.ireturn, 1) := by decide +kernel
theorem dX0_strengthOf_0 : decode cX0_strengthOf 0 = .ok (.iload_n 1, 1) := by decide +kernel
theorem dX0_strengthOf_1 : decode cX0_strengthOf 1 = .ok (.bipush 6, 2) := by decide +kernel
theorem dX0_strengthOf_3 : decode cX0_strengthOf 3 = .ok (.isub, 1) := by decide +kernel
theorem dX0_strengthOf_4 : decode cX0_strengthOf 4 = .ok (.istore_n 2, 1) := by decide +kernel
theorem dX0_strengthOf_5 : decode cX0_strengthOf 5 = .ok (.iload_n 2, 1) := by decide +kernel
theorem dX0_strengthOf_6 : decode cX0_strengthOf 6 = .ok (.ifCond .lt 21, 3) := by decide +kernel
theorem dX0_strengthOf_9 : decode cX0_strengthOf 9 = .ok (.iload_n 2, 1) := by decide +kernel
theorem dX0_strengthOf_10 : decode cX0_strengthOf 10 = .ok (.aload_n 0, 1) := by decide +kernel
theorem dX0_strengthOf_11 : decode cX0_strengthOf 11 = .ok (.getfield 24, 3) := by decide +kernel
theorem dX0_strengthOf_14 : decode cX0_strengthOf 14 = .ok (.arraylength, 1) := by decide +kernel
theorem dX0_strengthOf_15 : decode cX0_strengthOf 15 = .ok (.if_icmp .ge 12, 3) := by decide +kernel
theorem dX0_strengthOf_18 : decode cX0_strengthOf 18 = .ok (.aload_n 0, 1) := by decide +kernel
theorem dX0_strengthOf_19 : decode cX0_strengthOf 19 = .ok (.getfield 24, 3) := by decide +kernel
theorem dX0_strengthOf_22 : decode cX0_strengthOf 22 = .ok (.iload_n 2, 1) := by decide +kernel
theorem dX0_strengthOf_23 : decode cX0_strengthOf 23 = .ok (.iaload, 1) := by decide +kernel
theorem dX0_strengthOf_24 : decode cX0_strengthOf 24 = .ok (.goto 4, 3) := by decide +kernel
theorem dX0_strengthOf_27 : decode cX0_strengthOf 27 = .ok (.iconst 0, 1) := by decide +kernel
theorem dX0_strengthOf_28 : decode cX0_strengthOf 28 = .ok (.ireturn, 1) := by decide +kernel
set_option maxRecDepth 20000 in
theorem ggX0_comeTo_X7_isCell : GoodIn wsX0_comeTo wsX7_isCell := goodIn_r _ [6] (by decide +kernel) (by decide +kernel)
set_option maxRecDepth 20000 in
theorem gX0_comeTo_X7_isCell_n59 : GoodIn wsX0_comeTo (wsX7_isCell) := ggX0_comeTo_X7_isCell
set_option maxRecDepth 20000 in
theorem ggX0_comeTo_X1_kindAt : GoodIn wsX0_comeTo wsX1_kindAt := goodIn_r _ [11, 12, 23, 24, 25] (by decide +kernel) (by decide +kernel)
set_option maxRecDepth 20000 in
theorem gX0_comeTo_X1_kindAt : GoodIn wsX0_comeTo (wsV RX0 47 RX1 yX1_kindAt wsX1_kindAt) := goodIn_app (goodIn_of _ (by decide +kernel)) ggX0_comeTo_X1_kindAt
set_option maxRecDepth 20000 in
theorem ggX0_comeTo_X1_keyBit : GoodIn wsX0_comeTo wsX1_keyBit := goodIn_r _ [16, 17, 23, 24, 25] (by decide +kernel) (by decide +kernel)
set_option maxRecDepth 20000 in
theorem gX0_comeTo_X1_keyBit : GoodIn wsX0_comeTo (wsV RX0 63 RX1 yX1_keyBit wsX1_keyBit) := goodIn_app (goodIn_of _ (by decide +kernel)) ggX0_comeTo_X1_keyBit
theorem dX0_comeTo_0 : decode cX0_comeTo 0 = .ok (.iload_n 2, 1) := by decide +kernel
theorem dX0_comeTo_1 : decode cX0_comeTo 1 = .ok (.invokestatic 59, 3) := by decide +kernel
theorem dX0_comeTo_4 : decode cX0_comeTo 4 = .ok (.ifCond .ne 9, 3) := by decide +kernel
theorem dX0_comeTo_7 : decode cX0_comeTo 7 = .ok (.aload_n 0, 1) := by decide +kernel
theorem dX0_comeTo_8 : decode cX0_comeTo 8 = .ok (.iconst 3, 1) := by decide +kernel
theorem dX0_comeTo_9 : decode cX0_comeTo 9 = .ok (.putfield 21, 3) := by decide +kernel
theorem dX0_comeTo_12 : decode cX0_comeTo 12 = .ok (.return_, 1) := by decide +kernel
theorem dX0_comeTo_13 : decode cX0_comeTo 13 = .ok (.aload_n 0, 1) := by decide +kernel
theorem dX0_comeTo_14 : decode cX0_comeTo 14 = .ok (.iload_n 2, 1) := by decide +kernel
theorem dX0_comeTo_15 : decode cX0_comeTo 15 = .ok (.putfield 9, 3) := by decide +kernel
theorem dX0_comeTo_18 : decode cX0_comeTo 18 = .ok (.aload_n 1, 1) := by decide +kernel
theorem dX0_comeTo_19 : decode cX0_comeTo 19 = .ok (.iload_n 2, 1) := by decide +kernel
theorem dX0_comeTo_20 : decode cX0_comeTo 20 = .ok (.invokevirtual 47, 3) := by decide +kernel
theorem dX0_comeTo_23 : decode cX0_comeTo 23 = .ok (.istore_n 3, 1) := by decide +kernel
theorem dX0_comeTo_24 : decode cX0_comeTo 24 = .ok (.iload_n 3, 1) := by decide +kernel
theorem dX0_comeTo_25 : decode cX0_comeTo 25 = .ok (.iconst 2, 1) := by decide +kernel
theorem dX0_comeTo_26 : decode cX0_comeTo 26 = .ok (.if_icmp .ne 20, 3) := by decide +kernel
theorem dX0_comeTo_29 : decode cX0_comeTo 29 = .ok (.aload_n 0, 1) := by decide +kernel
theorem dX0_comeTo_30 : decode cX0_comeTo 30 = .ok (.dup, 1) := by decide +kernel
theorem dX0_comeTo_31 : decode cX0_comeTo 31 = .ok (.getfield 18, 3) := by decide +kernel
theorem dX0_comeTo_34 : decode cX0_comeTo 34 = .ok (.aload_n 1, 1) := by decide +kernel
theorem dX0_comeTo_35 : decode cX0_comeTo 35 = .ok (.iload_n 2, 1) := by decide +kernel
theorem dX0_comeTo_36 : decode cX0_comeTo 36 = .ok (.invokevirtual 63, 3) := by decide +kernel
theorem dX0_comeTo_39 : decode cX0_comeTo 39 = .ok (.ior, 1) := by decide +kernel
theorem dX0_comeTo_40 : decode cX0_comeTo 40 = .ok (.putfield 18, 3) := by decide +kernel
theorem dX0_comeTo_43 : decode cX0_comeTo 43 = .ok (.goto 26, 3) := by decide +kernel
theorem dX0_comeTo_46 : decode cX0_comeTo 46 = .ok (.iload_n 3, 1) := by decide +kernel
theorem dX0_comeTo_47 : decode cX0_comeTo 47 = .ok (.iconst 4, 1) := by decide +kernel
theorem dX0_comeTo_48 : decode cX0_comeTo 48 = .ok (.if_icmp .ne 11, 3) := by decide +kernel
theorem dX0_comeTo_51 : decode cX0_comeTo 51 = .ok (.aload_n 0, 1) := by decide +kernel
theorem dX0_comeTo_52 : decode cX0_comeTo 52 = .ok (.iconst 3, 1) := by decide +kernel
theorem dX0_comeTo_53 : decode cX0_comeTo 53 = .ok (.putfield 21, 3) := by decide +kernel
theorem dX0_comeTo_56 : decode cX0_comeTo 56 = .ok (.goto 13, 3) := by decide +kernel
theorem dX0_comeTo_59 : decode cX0_comeTo 59 = .ok (.iload_n 3, 1) := by decide +kernel
theorem dX0_comeTo_60 : decode cX0_comeTo 60 = .ok (.iconst 5, 1) := by decide +kernel
theorem dX0_comeTo_61 : decode cX0_comeTo 61 = .ok (.if_icmp .ne 8, 3) := by decide +kernel
theorem dX0_comeTo_64 : decode cX0_comeTo 64 = .ok (.aload_n 0, 1) := by decide +kernel
theorem dX0_comeTo_65 : decode cX0_comeTo 65 = .ok (.iconst 2, 1) := by decide +kernel
theorem dX0_comeTo_66 : decode cX0_comeTo 66 = .ok (.putfield 21, 3) := by decide +kernel
theorem dX0_comeTo_69 : decode cX0_comeTo 69 = .ok (.return_, 1) := by decide +kernel
theorem dX1_init_0 : decode cX1_init 0 = .ok (.aload_n 0, 1) := by decide +kernel
theorem dX1_init_1 : decode cX1_init 1 = .ok (.invokespecial 3, 3) := by decide +kernel
theorem dX1_init_4 : decode cX1_init 4 = .ok (.aload_n 0, 1) := by decide +kernel
theorem dX1_init_5 : decode cX1_init 5 = .ok (.bipush 96, 2) := by decide +kernel
theorem dX1_init_7 : decode cX1_init 7 = .ok (.newarray .int, 2) := by decide +kernel
theorem dX1_init_9 : decode cX1_init 9 = .ok (.putfield 9, 3) := by decide +kernel
theorem dX1_init_12 : decode cX1_init 12 = .ok (.aload_n 0, 1) := by decide +kernel
theorem dX1_init_13 : decode cX1_init 13 = .ok (.iconst 3, 1) := by decide +kernel
theorem dX1_init_14 : decode cX1_init 14 = .ok (.newarray .int, 2) := by decide +kernel
theorem dX1_init_16 : decode cX1_init 16 = .ok (.dup, 1) := by decide +kernel
theorem dX1_init_17 : decode cX1_init 17 = .ok (.iconst 0, 1) := by decide +kernel
theorem dX1_init_18 : decode cX1_init 18 = .ok (.iconst (-1), 1) := by decide +kernel
theorem dX1_init_19 : decode cX1_init 19 = .ok (.iastore, 1) := by decide +kernel
theorem dX1_init_20 : decode cX1_init 20 = .ok (.dup, 1) := by decide +kernel
theorem dX1_init_21 : decode cX1_init 21 = .ok (.iconst 1, 1) := by decide +kernel
theorem dX1_init_22 : decode cX1_init 22 = .ok (.iconst (-1), 1) := by decide +kernel
theorem dX1_init_23 : decode cX1_init 23 = .ok (.iastore, 1) := by decide +kernel
theorem dX1_init_24 : decode cX1_init 24 = .ok (.dup, 1) := by decide +kernel
theorem dX1_init_25 : decode cX1_init 25 = .ok (.iconst 2, 1) := by decide +kernel
theorem dX1_init_26 : decode cX1_init 26 = .ok (.iconst (-1), 1) := by decide +kernel
theorem dX1_init_27 : decode cX1_init 27 = .ok (.iastore, 1) := by decide +kernel
theorem dX1_init_28 : decode cX1_init 28 = .ok (.putfield 15, 3) := by decide +kernel
theorem dX1_init_31 : decode cX1_init 31 = .ok (.aload_n 0, 1) := by decide +kernel
theorem dX1_init_32 : decode cX1_init 32 = .ok (.iconst 0, 1) := by decide +kernel
theorem dX1_init_33 : decode cX1_init 33 = .ok (.putfield 18, 3) := by decide +kernel
theorem dX1_init_36 : decode cX1_init 36 = .ok (.return_, 1) := by decide +kernel
theorem dX1_kindAt_0 : decode cX1_kindAt 0 = .ok (.iload_n 1, 1) := by decide +kernel
theorem dX1_kindAt_1 : decode cX1_kindAt 1 = .ok (.ifCond .lt 21, 3) := by decide +kernel
theorem dX1_kindAt_4 : decode cX1_kindAt 4 = .ok (.iload_n 1, 1) := by decide +kernel
theorem dX1_kindAt_5 : decode cX1_kindAt 5 = .ok (.aload_n 0, 1) := by decide +kernel
theorem dX1_kindAt_6 : decode cX1_kindAt 6 = .ok (.getfield 9, 3) := by decide +kernel
theorem dX1_kindAt_9 : decode cX1_kindAt 9 = .ok (.arraylength, 1) := by decide +kernel
theorem dX1_kindAt_10 : decode cX1_kindAt 10 = .ok (.if_icmp .ge 12, 3) := by decide +kernel
theorem dX1_kindAt_13 : decode cX1_kindAt 13 = .ok (.aload_n 0, 1) := by decide +kernel
theorem dX1_kindAt_14 : decode cX1_kindAt 14 = .ok (.getfield 9, 3) := by decide +kernel
theorem dX1_kindAt_17 : decode cX1_kindAt 17 = .ok (.iload_n 1, 1) := by decide +kernel
theorem dX1_kindAt_18 : decode cX1_kindAt 18 = .ok (.iaload, 1) := by decide +kernel
theorem dX1_kindAt_19 : decode cX1_kindAt 19 = .ok (.goto 4, 3) := by decide +kernel
theorem dX1_kindAt_22 : decode cX1_kindAt 22 = .ok (.iconst 0, 1) := by decide +kernel
theorem dX1_kindAt_23 : decode cX1_kindAt 23 = .ok (.ireturn, 1) := by decide +kernel
set_option maxRecDepth 20000 in
theorem ggX1_put_X7_isCell : GoodIn wsX1_put wsX7_isCell := goodIn_r _ [4] (by decide +kernel) (by decide +kernel)
set_option maxRecDepth 20000 in
theorem gX1_put_X7_isCell_n22 : GoodIn wsX1_put (wsX7_isCell) := ggX1_put_X7_isCell
set_option maxRecDepth 20000 in
theorem ggX1_put_X1_changeKey : GoodIn wsX1_put wsX1_changeKey := goodIn_r _ [9, 10, 11, 12, 13, 14] (by decide +kernel) (by decide +kernel)
set_option maxRecDepth 20000 in
theorem gX1_put_X1_changeKey : GoodIn wsX1_put (wsV RX1 26 RX1 yX1_changeKey wsX1_changeKey) := goodIn_app (goodIn_of _ (by decide +kernel)) ggX1_put_X1_changeKey
theorem dX1_put_0 : decode cX1_put 0 = .ok (.iload_n 1, 1) := by decide +kernel
theorem dX1_put_1 : decode cX1_put 1 = .ok (.invokestatic 22, 3) := by decide +kernel
theorem dX1_put_4 : decode cX1_put 4 = .ok (.ifCond .ne 4, 3) := by decide +kernel
theorem dX1_put_7 : decode cX1_put 7 = .ok (.return_, 1) := by decide +kernel
theorem dX1_put_8 : decode cX1_put 8 = .ok (.aload_n 0, 1) := by decide +kernel
theorem dX1_put_9 : decode cX1_put 9 = .ok (.getfield 9, 3) := by decide +kernel
theorem dX1_put_12 : decode cX1_put 12 = .ok (.iload_n 1, 1) := by decide +kernel
theorem dX1_put_13 : decode cX1_put 13 = .ok (.iaload, 1) := by decide +kernel
theorem dX1_put_14 : decode cX1_put 14 = .ok (.iconst 2, 1) := by decide +kernel
theorem dX1_put_15 : decode cX1_put 15 = .ok (.if_icmp .ne 9, 3) := by decide +kernel
theorem dX1_put_18 : decode cX1_put 18 = .ok (.aload_n 0, 1) := by decide +kernel
theorem dX1_put_19 : decode cX1_put 19 = .ok (.iload_n 1, 1) := by decide +kernel
theorem dX1_put_20 : decode cX1_put 20 = .ok (.iconst (-1), 1) := by decide +kernel
theorem dX1_put_21 : decode cX1_put 21 = .ok (.invokevirtual 26, 3) := by decide +kernel
theorem dX1_put_24 : decode cX1_put 24 = .ok (.aload_n 0, 1) := by decide +kernel
theorem dX1_put_25 : decode cX1_put 25 = .ok (.getfield 9, 3) := by decide +kernel
theorem dX1_put_28 : decode cX1_put 28 = .ok (.iload_n 1, 1) := by decide +kernel
theorem dX1_put_29 : decode cX1_put 29 = .ok (.iload_n 2, 1) := by decide +kernel
theorem dX1_put_30 : decode cX1_put 30 = .ok (.iastore, 1) := by decide +kernel
theorem dX1_put_31 : decode cX1_put 31 = .ok (.iload_n 2, 1) := by decide +kernel
theorem dX1_put_32 : decode cX1_put 32 = .ok (.iconst 2, 1) := by decide +kernel
theorem dX1_put_33 : decode cX1_put 33 = .ok (.if_icmp .ne 9, 3) := by decide +kernel
theorem dX1_put_36 : decode cX1_put 36 = .ok (.aload_n 0, 1) := by decide +kernel
theorem dX1_put_37 : decode cX1_put 37 = .ok (.iconst (-1), 1) := by decide +kernel
theorem dX1_put_38 : decode cX1_put 38 = .ok (.iload_n 1, 1) := by decide +kernel
theorem dX1_put_39 : decode cX1_put 39 = .ok (.invokevirtual 26, 3) := by decide +kernel
theorem dX1_put_42 : decode cX1_put 42 = .ok (.return_, 1) := by decide +kernel
theorem dX1_changeKey_0 : decode cX1_changeKey 0 = .ok (.iconst 0, 1) := by decide +kernel
theorem dX1_changeKey_1 : decode cX1_changeKey 1 = .ok (.istore_n 3, 1) := by decide +kernel
theorem dX1_changeKey_2 : decode cX1_changeKey 2 = .ok (.iload_n 3, 1) := by decide +kernel
theorem dX1_changeKey_3 : decode cX1_changeKey 3 = .ok (.aload_n 0, 1) := by decide +kernel
theorem dX1_changeKey_4 : decode cX1_changeKey 4 = .ok (.getfield 15, 3) := by decide +kernel
theorem dX1_changeKey_7 : decode cX1_changeKey 7 = .ok (.arraylength, 1) := by decide +kernel
theorem dX1_changeKey_8 : decode cX1_changeKey 8 = .ok (.if_icmp .ge 39, 3) := by decide +kernel
theorem dX1_changeKey_11 : decode cX1_changeKey 11 = .ok (.aload_n 0, 1) := by decide +kernel
theorem dX1_changeKey_12 : decode cX1_changeKey 12 = .ok (.getfield 15, 3) := by decide +kernel
theorem dX1_changeKey_15 : decode cX1_changeKey 15 = .ok (.iload_n 3, 1) := by decide +kernel
theorem dX1_changeKey_16 : decode cX1_changeKey 16 = .ok (.iaload, 1) := by decide +kernel
theorem dX1_changeKey_17 : decode cX1_changeKey 17 = .ok (.iload_n 1, 1) := by decide +kernel
theorem dX1_changeKey_18 : decode cX1_changeKey 18 = .ok (.if_icmp .ne 23, 3) := by decide +kernel
theorem dX1_changeKey_21 : decode cX1_changeKey 21 = .ok (.aload_n 0, 1) := by decide +kernel
theorem dX1_changeKey_22 : decode cX1_changeKey 22 = .ok (.getfield 15, 3) := by decide +kernel
theorem dX1_changeKey_25 : decode cX1_changeKey 25 = .ok (.iload_n 3, 1) := by decide +kernel
theorem dX1_changeKey_26 : decode cX1_changeKey 26 = .ok (.iload_n 2, 1) := by decide +kernel
theorem dX1_changeKey_27 : decode cX1_changeKey 27 = .ok (.iastore, 1) := by decide +kernel
theorem dX1_changeKey_28 : decode cX1_changeKey 28 = .ok (.aload_n 0, 1) := by decide +kernel
theorem dX1_changeKey_29 : decode cX1_changeKey 29 = .ok (.dup, 1) := by decide +kernel
theorem dX1_changeKey_30 : decode cX1_changeKey 30 = .ok (.getfield 18, 3) := by decide +kernel
theorem dX1_changeKey_33 : decode cX1_changeKey 33 = .ok (.iconst 1, 1) := by decide +kernel
theorem dX1_changeKey_34 : decode cX1_changeKey 34 = .ok (.iload_n 3, 1) := by decide +kernel
theorem dX1_changeKey_35 : decode cX1_changeKey 35 = .ok (.ishl, 1) := by decide +kernel
theorem dX1_changeKey_36 : decode cX1_changeKey 36 = .ok (.ixor, 1) := by decide +kernel
theorem dX1_changeKey_37 : decode cX1_changeKey 37 = .ok (.putfield 18, 3) := by decide +kernel
theorem dX1_changeKey_40 : decode cX1_changeKey 40 = .ok (.return_, 1) := by decide +kernel
theorem dX1_changeKey_41 : decode cX1_changeKey 41 = .ok (.iinc 3 1, 3) := by decide +kernel
theorem dX1_changeKey_44 : decode cX1_changeKey 44 = .ok (.goto (-42), 3) := by decide +kernel
theorem dX1_changeKey_47 : decode cX1_changeKey 47 = .ok (.return_, 1) := by decide +kernel
set_option maxRecDepth 20000 in
theorem ggX1_putAllOf_X1_kindAt : GoodIn wsX1_putAllOf wsX1_kindAt := goodIn_r _ [5, 6, 20, 21, 22] (by decide +kernel) (by decide +kernel)
set_option maxRecDepth 20000 in
theorem gX1_putAllOf_X1_kindAt : GoodIn wsX1_putAllOf (wsV RX1 30 RX1 yX1_kindAt wsX1_kindAt) := goodIn_app (goodIn_of _ (by decide +kernel)) ggX1_putAllOf_X1_kindAt
set_option maxRecDepth 20000 in
theorem ggX1_putAllOf_X1_put : GoodIn wsX1_putAllOf wsX1_put := goodIn_r _ [10, 6, 11, 12, 13, 14, 15, 16, 4, 17, 18, 19, 20, 21, 22] (by decide +kernel) (by decide +kernel)
set_option maxRecDepth 20000 in
theorem gX1_putAllOf_X1_put : GoodIn wsX1_putAllOf (wsV RX1 34 RX1 yX1_put wsX1_put) := goodIn_app (goodIn_of _ (by decide +kernel)) ggX1_putAllOf_X1_put
theorem dX1_putAllOf_0 : decode cX1_putAllOf 0 = .ok (.iconst 0, 1) := by decide +kernel
theorem dX1_putAllOf_1 : decode cX1_putAllOf 1 = .ok (.istore_n 2, 1) := by decide +kernel
theorem dX1_putAllOf_2 : decode cX1_putAllOf 2 = .ok (.iload_n 2, 1) := by decide +kernel
theorem dX1_putAllOf_3 : decode cX1_putAllOf 3 = .ok (.bipush 96, 2) := by decide +kernel
theorem dX1_putAllOf_5 : decode cX1_putAllOf 5 = .ok (.if_icmp .ge 19, 3) := by decide +kernel
theorem dX1_putAllOf_8 : decode cX1_putAllOf 8 = .ok (.aload_n 0, 1) := by decide +kernel
theorem dX1_putAllOf_9 : decode cX1_putAllOf 9 = .ok (.iload_n 2, 1) := by decide +kernel
theorem dX1_putAllOf_10 : decode cX1_putAllOf 10 = .ok (.aload_n 1, 1) := by decide +kernel
theorem dX1_putAllOf_11 : decode cX1_putAllOf 11 = .ok (.iload_n 2, 1) := by decide +kernel
theorem dX1_putAllOf_12 : decode cX1_putAllOf 12 = .ok (.invokevirtual 30, 3) := by decide +kernel
theorem dX1_putAllOf_15 : decode cX1_putAllOf 15 = .ok (.invokevirtual 34, 3) := by decide +kernel
theorem dX1_putAllOf_18 : decode cX1_putAllOf 18 = .ok (.iinc 2 1, 3) := by decide +kernel
theorem dX1_putAllOf_21 : decode cX1_putAllOf 21 = .ok (.goto (-19), 3) := by decide +kernel
theorem dX1_putAllOf_24 : decode cX1_putAllOf 24 = .ok (.return_, 1) := by decide +kernel
theorem dX1_has_0 : decode cX1_has 0 = .ok (.iconst 0, 1) := by decide +kernel
theorem dX1_has_1 : decode cX1_has 1 = .ok (.istore_n 2, 1) := by decide +kernel
theorem dX1_has_2 : decode cX1_has 2 = .ok (.iload_n 2, 1) := by decide +kernel
theorem dX1_has_3 : decode cX1_has 3 = .ok (.bipush 96, 2) := by decide +kernel
theorem dX1_has_5 : decode cX1_has 5 = .ok (.if_icmp .ge 21, 3) := by decide +kernel
theorem dX1_has_8 : decode cX1_has 8 = .ok (.aload_n 0, 1) := by decide +kernel
theorem dX1_has_9 : decode cX1_has 9 = .ok (.getfield 9, 3) := by decide +kernel
theorem dX1_has_12 : decode cX1_has 12 = .ok (.iload_n 2, 1) := by decide +kernel
theorem dX1_has_13 : decode cX1_has 13 = .ok (.iaload, 1) := by decide +kernel
theorem dX1_has_14 : decode cX1_has 14 = .ok (.iload_n 1, 1) := by decide +kernel
theorem dX1_has_15 : decode cX1_has 15 = .ok (.if_icmp .ne 5, 3) := by decide +kernel
theorem dX1_has_18 : decode cX1_has 18 = .ok (.iconst 1, 1) := by decide +kernel
theorem dX1_has_19 : decode cX1_has 19 = .ok (.ireturn, 1) := by decide +kernel
theorem dX1_has_20 : decode cX1_has 20 = .ok (.iinc 2 1, 3) := by decide +kernel
theorem dX1_has_23 : decode cX1_has 23 = .ok (.goto (-21), 3) := by decide +kernel
theorem dX1_has_26 : decode cX1_has 26 = .ok (.iconst 0, 1) := by decide +kernel
theorem dX1_has_27 : decode cX1_has 27 = .ok (.ireturn, 1) := by decide +kernel
set_option maxRecDepth 20000 in
theorem ggX1_keyCount_J6_bitCount_0f7a4 : GoodIn wsX1_keyCount wsJ6_bitCount_0f7a4 := goodIn_r _ [5, 6, 7, 8] (by decide +kernel) (by decide +kernel)
set_option maxRecDepth 20000 in
theorem gX1_keyCount_J6_bitCount_0f7a4 : GoodIn wsX1_keyCount (va_wsS RX1 37 yJ6_bitCount_0f7a4 wsJ6_bitCount_0f7a4) := goodIn_app (goodIn_of _ (by decide +kernel)) ggX1_keyCount_J6_bitCount_0f7a4
theorem dX1_keyCount_0 : decode cX1_keyCount 0 = .ok (.aload_n 0, 1) := by decide +kernel
theorem dX1_keyCount_1 : decode cX1_keyCount 1 = .ok (.getfield 18, 3) := by decide +kernel
theorem dX1_keyCount_4 : decode cX1_keyCount 4 = .ok (.invokestatic 37, 3) := by decide +kernel
theorem dX1_keyCount_7 : decode cX1_keyCount 7 = .ok (.ireturn, 1) := by decide +kernel
theorem dX1_keyBit_0 : decode cX1_keyBit 0 = .ok (.iconst 0, 1) := by decide +kernel
theorem dX1_keyBit_1 : decode cX1_keyBit 1 = .ok (.istore_n 2, 1) := by decide +kernel
theorem dX1_keyBit_2 : decode cX1_keyBit 2 = .ok (.iload_n 2, 1) := by decide +kernel
theorem dX1_keyBit_3 : decode cX1_keyBit 3 = .ok (.aload_n 0, 1) := by decide +kernel
theorem dX1_keyBit_4 : decode cX1_keyBit 4 = .ok (.getfield 15, 3) := by decide +kernel
theorem dX1_keyBit_7 : decode cX1_keyBit 7 = .ok (.arraylength, 1) := by decide +kernel
theorem dX1_keyBit_8 : decode cX1_keyBit 8 = .ok (.if_icmp .ge 23, 3) := by decide +kernel
theorem dX1_keyBit_11 : decode cX1_keyBit 11 = .ok (.aload_n 0, 1) := by decide +kernel
theorem dX1_keyBit_12 : decode cX1_keyBit 12 = .ok (.getfield 15, 3) := by decide +kernel
theorem dX1_keyBit_15 : decode cX1_keyBit 15 = .ok (.iload_n 2, 1) := by decide +kernel
theorem dX1_keyBit_16 : decode cX1_keyBit 16 = .ok (.iaload, 1) := by decide +kernel
theorem dX1_keyBit_17 : decode cX1_keyBit 17 = .ok (.iload_n 1, 1) := by decide +kernel
theorem dX1_keyBit_18 : decode cX1_keyBit 18 = .ok (.if_icmp .ne 7, 3) := by decide +kernel
theorem dX1_keyBit_21 : decode cX1_keyBit 21 = .ok (.iconst 1, 1) := by decide +kernel
theorem dX1_keyBit_22 : decode cX1_keyBit 22 = .ok (.iload_n 2, 1) := by decide +kernel
theorem dX1_keyBit_23 : decode cX1_keyBit 23 = .ok (.ishl, 1) := by decide +kernel
theorem dX1_keyBit_24 : decode cX1_keyBit 24 = .ok (.ireturn, 1) := by decide +kernel
theorem dX1_keyBit_25 : decode cX1_keyBit 25 = .ok (.iinc 2 1, 3) := by decide +kernel
theorem dX1_keyBit_28 : decode cX1_keyBit 28 = .ok (.goto (-26), 3) := by decide +kernel
theorem dX1_keyBit_31 : decode cX1_keyBit 31 = .ok (.iconst 0, 1) := by decide +kernel
theorem dX1_keyBit_32 : decode cX1_keyBit 32 = .ok (.ireturn, 1) := by decide +kernel
theorem dX2_init_0 : decode cX2_init 0 = .ok (.aload_n 0, 1) := by decide +kernel
theorem dX2_init_1 : decode cX2_init 1 = .ok (.invokespecial 3, 3) := by decide +kernel
theorem dX2_init_4 : decode cX2_init 4 = .ok (.aload_n 0, 1) := by decide +kernel
theorem dX2_init_5 : decode cX2_init 5 = .ok (.bipush 40, 2) := by decide +kernel
theorem dX2_init_7 : decode cX2_init 7 = .ok (.newarray .int, 2) := by decide +kernel
theorem dX2_init_9 : decode cX2_init 9 = .ok (.putfield 9, 3) := by decide +kernel
theorem dX2_init_12 : decode cX2_init 12 = .ok (.aload_n 0, 1) := by decide +kernel
theorem dX2_init_13 : decode cX2_init 13 = .ok (.bipush 40, 2) := by decide +kernel
theorem dX2_init_15 : decode cX2_init 15 = .ok (.newarray .int, 2) := by decide +kernel
theorem dX2_init_17 : decode cX2_init 17 = .ok (.putfield 15, 3) := by decide +kernel
theorem dX2_init_20 : decode cX2_init 20 = .ok (.aload_n 0, 1) := by decide +kernel
theorem dX2_init_21 : decode cX2_init 21 = .ok (.bipush 40, 2) := by decide +kernel
theorem dX2_init_23 : decode cX2_init 23 = .ok (.newarray .int, 2) := by decide +kernel
theorem dX2_init_25 : decode cX2_init 25 = .ok (.putfield 18, 3) := by decide +kernel
theorem dX2_init_28 : decode cX2_init 28 = .ok (.aload_n 0, 1) := by decide +kernel
theorem dX2_init_29 : decode cX2_init 29 = .ok (.iconst 0, 1) := by decide +kernel
theorem dX2_init_30 : decode cX2_init 30 = .ok (.putfield 21, 3) := by decide +kernel
theorem dX2_init_33 : decode cX2_init 33 = .ok (.aload_n 0, 1) := by decide +kernel
theorem dX2_init_34 : decode cX2_init 34 = .ok (.iconst 0, 1) := by decide +kernel
theorem dX2_init_35 : decode cX2_init 35 = .ok (.putfield 25, 3) := by decide +kernel
theorem dX2_init_38 : decode cX2_init 38 = .ok (.return_, 1) := by decide +kernel
set_option maxRecDepth 20000 in
theorem ggX2_remember_X2_forgetEarliest : GoodIn wsX2_remember wsX2_forgetEarliest := goodIn_r _ [10, 2, 3, 4, 1, 11, 12, 13, 14, 15] (by decide +kernel) (by decide +kernel)
set_option maxRecDepth 20000 in
theorem gX2_remember_X2_forgetEarliest : GoodIn wsX2_remember (wsV RX2 28 RX2 yX2_forgetEarliest wsX2_forgetEarliest) := goodIn_app (goodIn_of _ (by decide +kernel)) ggX2_remember_X2_forgetEarliest
theorem dX2_remember_0 : decode cX2_remember 0 = .ok (.aload_n 0, 1) := by decide +kernel
theorem dX2_remember_1 : decode cX2_remember 1 = .ok (.getfield 21, 3) := by decide +kernel
theorem dX2_remember_4 : decode cX2_remember 4 = .ok (.bipush 40, 2) := by decide +kernel
theorem dX2_remember_6 : decode cX2_remember 6 = .ok (.if_icmp .lt 7, 3) := by decide +kernel
theorem dX2_remember_9 : decode cX2_remember 9 = .ok (.aload_n 0, 1) := by decide +kernel
theorem dX2_remember_10 : decode cX2_remember 10 = .ok (.invokevirtual 28, 3) := by decide +kernel
theorem dX2_remember_13 : decode cX2_remember 13 = .ok (.aload_n 0, 1) := by decide +kernel
theorem dX2_remember_14 : decode cX2_remember 14 = .ok (.getfield 21, 3) := by decide +kernel
theorem dX2_remember_17 : decode cX2_remember 17 = .ok (.ifCond .lt 57, 3) := by decide +kernel
theorem dX2_remember_20 : decode cX2_remember 20 = .ok (.aload_n 0, 1) := by decide +kernel
theorem dX2_remember_21 : decode cX2_remember 21 = .ok (.getfield 21, 3) := by decide +kernel
theorem dX2_remember_24 : decode cX2_remember 24 = .ok (.bipush 40, 2) := by decide +kernel
theorem dX2_remember_26 : decode cX2_remember 26 = .ok (.if_icmp .ge 48, 3) := by decide +kernel
theorem dX2_remember_29 : decode cX2_remember 29 = .ok (.aload_n 0, 1) := by decide +kernel
theorem dX2_remember_30 : decode cX2_remember 30 = .ok (.getfield 9, 3) := by decide +kernel
theorem dX2_remember_33 : decode cX2_remember 33 = .ok (.aload_n 0, 1) := by decide +kernel
theorem dX2_remember_34 : decode cX2_remember 34 = .ok (.getfield 21, 3) := by decide +kernel
theorem dX2_remember_37 : decode cX2_remember 37 = .ok (.iload_n 1, 1) := by decide +kernel
theorem dX2_remember_38 : decode cX2_remember 38 = .ok (.iastore, 1) := by decide +kernel
theorem dX2_remember_39 : decode cX2_remember 39 = .ok (.aload_n 0, 1) := by decide +kernel
theorem dX2_remember_40 : decode cX2_remember 40 = .ok (.getfield 15, 3) := by decide +kernel
theorem dX2_remember_43 : decode cX2_remember 43 = .ok (.aload_n 0, 1) := by decide +kernel
theorem dX2_remember_44 : decode cX2_remember 44 = .ok (.getfield 21, 3) := by decide +kernel
theorem dX2_remember_47 : decode cX2_remember 47 = .ok (.iload_n 2, 1) := by decide +kernel
theorem dX2_remember_48 : decode cX2_remember 48 = .ok (.iastore, 1) := by decide +kernel
theorem dX2_remember_49 : decode cX2_remember 49 = .ok (.aload_n 0, 1) := by decide +kernel
theorem dX2_remember_50 : decode cX2_remember 50 = .ok (.getfield 18, 3) := by decide +kernel
theorem dX2_remember_53 : decode cX2_remember 53 = .ok (.aload_n 0, 1) := by decide +kernel
theorem dX2_remember_54 : decode cX2_remember 54 = .ok (.getfield 21, 3) := by decide +kernel
theorem dX2_remember_57 : decode cX2_remember 57 = .ok (.iload_n 3, 1) := by decide +kernel
theorem dX2_remember_58 : decode cX2_remember 58 = .ok (.iastore, 1) := by decide +kernel
theorem dX2_remember_59 : decode cX2_remember 59 = .ok (.aload_n 0, 1) := by decide +kernel
theorem dX2_remember_60 : decode cX2_remember 60 = .ok (.dup, 1) := by decide +kernel
theorem dX2_remember_61 : decode cX2_remember 61 = .ok (.getfield 21, 3) := by decide +kernel
theorem dX2_remember_64 : decode cX2_remember 64 = .ok (.iconst 1, 1) := by decide +kernel
theorem dX2_remember_65 : decode cX2_remember 65 = .ok (.iadd, 1) := by decide +kernel
theorem dX2_remember_66 : decode cX2_remember 66 = .ok (.putfield 21, 3) := by decide +kernel
theorem dX2_remember_69 : decode cX2_remember 69 = .ok (.aload_n 0, 1) := by decide +kernel
theorem dX2_remember_70 : decode cX2_remember 70 = .ok (.iconst 0, 1) := by decide +kernel
theorem dX2_remember_71 : decode cX2_remember 71 = .ok (.putfield 25, 3) := by decide +kernel
theorem dX2_remember_74 : decode cX2_remember 74 = .ok (.return_, 1) := by decide +kernel
theorem dX2_forgetEarliest_0 : decode cX2_forgetEarliest 0 = .ok (.iconst 1, 1) := by decide +kernel
theorem dX2_forgetEarliest_1 : decode cX2_forgetEarliest 1 = .ok (.istore_n 1, 1) := by decide +kernel
theorem dX2_forgetEarliest_2 : decode cX2_forgetEarliest 2 = .ok (.iload_n 1, 1) := by decide +kernel
theorem dX2_forgetEarliest_3 : decode cX2_forgetEarliest 3 = .ok (.bipush 40, 2) := by decide +kernel
theorem dX2_forgetEarliest_5 : decode cX2_forgetEarliest 5 = .ok (.if_icmp .ge 51, 3) := by decide +kernel
theorem dX2_forgetEarliest_8 : decode cX2_forgetEarliest 8 = .ok (.aload_n 0, 1) := by decide +kernel
theorem dX2_forgetEarliest_9 : decode cX2_forgetEarliest 9 = .ok (.getfield 9, 3) := by decide +kernel
theorem dX2_forgetEarliest_12 : decode cX2_forgetEarliest 12 = .ok (.iload_n 1, 1) := by decide +kernel
theorem dX2_forgetEarliest_13 : decode cX2_forgetEarliest 13 = .ok (.iconst 1, 1) := by decide +kernel
theorem dX2_forgetEarliest_14 : decode cX2_forgetEarliest 14 = .ok (.isub, 1) := by decide +kernel
theorem dX2_forgetEarliest_15 : decode cX2_forgetEarliest 15 = .ok (.aload_n 0, 1) := by decide +kernel
theorem dX2_forgetEarliest_16 : decode cX2_forgetEarliest 16 = .ok (.getfield 9, 3) := by decide +kernel
theorem dX2_forgetEarliest_19 : decode cX2_forgetEarliest 19 = .ok (.iload_n 1, 1) := by decide +kernel
theorem dX2_forgetEarliest_20 : decode cX2_forgetEarliest 20 = .ok (.iaload, 1) := by decide +kernel
theorem dX2_forgetEarliest_21 : decode cX2_forgetEarliest 21 = .ok (.iastore, 1) := by decide +kernel
theorem dX2_forgetEarliest_22 : decode cX2_forgetEarliest 22 = .ok (.aload_n 0, 1) := by decide +kernel
theorem dX2_forgetEarliest_23 : decode cX2_forgetEarliest 23 = .ok (.getfield 15, 3) := by decide +kernel
theorem dX2_forgetEarliest_26 : decode cX2_forgetEarliest 26 = .ok (.iload_n 1, 1) := by decide +kernel
theorem dX2_forgetEarliest_27 : decode cX2_forgetEarliest 27 = .ok (.iconst 1, 1) := by decide +kernel
theorem dX2_forgetEarliest_28 : decode cX2_forgetEarliest 28 = .ok (.isub, 1) := by decide +kernel
theorem dX2_forgetEarliest_29 : decode cX2_forgetEarliest 29 = .ok (.aload_n 0, 1) := by decide +kernel
theorem dX2_forgetEarliest_30 : decode cX2_forgetEarliest 30 = .ok (.getfield 15, 3) := by decide +kernel
theorem dX2_forgetEarliest_33 : decode cX2_forgetEarliest 33 = .ok (.iload_n 1, 1) := by decide +kernel
theorem dX2_forgetEarliest_34 : decode cX2_forgetEarliest 34 = .ok (.iaload, 1) := by decide +kernel
theorem dX2_forgetEarliest_35 : decode cX2_forgetEarliest 35 = .ok (.iastore, 1) := by decide +kernel
theorem dX2_forgetEarliest_36 : decode cX2_forgetEarliest 36 = .ok (.aload_n 0, 1) := by decide +kernel
theorem dX2_forgetEarliest_37 : decode cX2_forgetEarliest 37 = .ok (.getfield 18, 3) := by decide +kernel
theorem dX2_forgetEarliest_40 : decode cX2_forgetEarliest 40 = .ok (.iload_n 1, 1) := by decide +kernel
theorem dX2_forgetEarliest_41 : decode cX2_forgetEarliest 41 = .ok (.iconst 1, 1) := by decide +kernel
theorem dX2_forgetEarliest_42 : decode cX2_forgetEarliest 42 = .ok (.isub, 1) := by decide +kernel
theorem dX2_forgetEarliest_43 : decode cX2_forgetEarliest 43 = .ok (.aload_n 0, 1) := by decide +kernel
theorem dX2_forgetEarliest_44 : decode cX2_forgetEarliest 44 = .ok (.getfield 18, 3) := by decide +kernel
theorem dX2_forgetEarliest_47 : decode cX2_forgetEarliest 47 = .ok (.iload_n 1, 1) := by decide +kernel
theorem dX2_forgetEarliest_48 : decode cX2_forgetEarliest 48 = .ok (.iaload, 1) := by decide +kernel
theorem dX2_forgetEarliest_49 : decode cX2_forgetEarliest 49 = .ok (.iastore, 1) := by decide +kernel
theorem dX2_forgetEarliest_50 : decode cX2_forgetEarliest 50 = .ok (.iinc 1 1, 3) := by decide +kernel
theorem dX2_forgetEarliest_53 : decode cX2_forgetEarliest 53 = .ok (.goto (-51), 3) := by decide +kernel
theorem dX2_forgetEarliest_56 : decode cX2_forgetEarliest 56 = .ok (.aload_n 0, 1) := by decide +kernel
theorem dX2_forgetEarliest_57 : decode cX2_forgetEarliest 57 = .ok (.bipush 39, 2) := by decide +kernel
theorem dX2_forgetEarliest_59 : decode cX2_forgetEarliest 59 = .ok (.putfield 21, 3) := by decide +kernel
theorem dX2_forgetEarliest_62 : decode cX2_forgetEarliest 62 = .ok (.return_, 1) := by decide +kernel
theorem dX2_stepBack_0 : decode cX2_stepBack 0 = .ok (.aload_n 0, 1) := by decide +kernel
theorem dX2_stepBack_1 : decode cX2_stepBack 1 = .ok (.dup, 1) := by decide +kernel
theorem dX2_stepBack_2 : decode cX2_stepBack 2 = .ok (.getfield 21, 3) := by decide +kernel
theorem dX2_stepBack_5 : decode cX2_stepBack 5 = .ok (.iconst 1, 1) := by decide +kernel
theorem dX2_stepBack_6 : decode cX2_stepBack 6 = .ok (.isub, 1) := by decide +kernel
theorem dX2_stepBack_7 : decode cX2_stepBack 7 = .ok (.putfield 21, 3) := by decide +kernel
theorem dX2_stepBack_10 : decode cX2_stepBack 10 = .ok (.aload_n 0, 1) := by decide +kernel
theorem dX2_stepBack_11 : decode cX2_stepBack 11 = .ok (.dup, 1) := by decide +kernel
theorem dX2_stepBack_12 : decode cX2_stepBack 12 = .ok (.getfield 25, 3) := by decide +kernel
theorem dX2_stepBack_15 : decode cX2_stepBack 15 = .ok (.iconst 1, 1) := by decide +kernel
theorem dX2_stepBack_16 : decode cX2_stepBack 16 = .ok (.iadd, 1) := by decide +kernel
theorem dX2_stepBack_17 : decode cX2_stepBack 17 = .ok (.putfield 25, 3) := by decide +kernel
theorem dX2_stepBack_20 : decode cX2_stepBack 20 = .ok (.return_, 1) := by decide +kernel
theorem dX2_stepOn_0 : decode cX2_stepOn 0 = .ok (.aload_n 0, 1) := by decide +kernel
theorem dX2_stepOn_1 : decode cX2_stepOn 1 = .ok (.dup, 1) := by decide +kernel
theorem dX2_stepOn_2 : decode cX2_stepOn 2 = .ok (.getfield 21, 3) := by decide +kernel
theorem dX2_stepOn_5 : decode cX2_stepOn 5 = .ok (.iconst 1, 1) := by decide +kernel
theorem dX2_stepOn_6 : decode cX2_stepOn 6 = .ok (.iadd, 1) := by decide +kernel
theorem dX2_stepOn_7 : decode cX2_stepOn 7 = .ok (.putfield 21, 3) := by decide +kernel
theorem dX2_stepOn_10 : decode cX2_stepOn 10 = .ok (.aload_n 0, 1) := by decide +kernel
theorem dX2_stepOn_11 : decode cX2_stepOn 11 = .ok (.dup, 1) := by decide +kernel
theorem dX2_stepOn_12 : decode cX2_stepOn 12 = .ok (.getfield 25, 3) := by decide +kernel
theorem dX2_stepOn_15 : decode cX2_stepOn 15 = .ok (.iconst 1, 1) := by decide +kernel
theorem dX2_stepOn_16 : decode cX2_stepOn 16 = .ok (.isub, 1) := by decide +kernel
theorem dX2_stepOn_17 : decode cX2_stepOn 17 = .ok (.putfield 25, 3) := by decide +kernel
theorem dX2_stepOn_20 : decode cX2_stepOn 20 = .ok (.return_, 1) := by decide +kernel
theorem dX2_hasNext_0 : decode cX2_hasNext 0 = .ok (.aload_n 0, 1) := by decide +kernel
theorem dX2_hasNext_1 : decode cX2_hasNext 1 = .ok (.getfield 21, 3) := by decide +kernel
theorem dX2_hasNext_4 : decode cX2_hasNext 4 = .ok (.ifCond .lt 16, 3) := by decide +kernel
theorem dX2_hasNext_7 : decode cX2_hasNext 7 = .ok (.aload_n 0, 1) := by decide +kernel
theorem dX2_hasNext_8 : decode cX2_hasNext 8 = .ok (.getfield 21, 3) := by decide +kernel
theorem dX2_hasNext_11 : decode cX2_hasNext 11 = .ok (.bipush 40, 2) := by decide +kernel
theorem dX2_hasNext_13 : decode cX2_hasNext 13 = .ok (.if_icmp .ge 7, 3) := by decide +kernel
theorem dX2_hasNext_16 : decode cX2_hasNext 16 = .ok (.iconst 1, 1) := by decide +kernel
theorem dX2_hasNext_17 : decode cX2_hasNext 17 = .ok (.goto 4, 3) := by decide +kernel
theorem dX2_hasNext_20 : decode cX2_hasNext 20 = .ok (.iconst 0, 1) := by decide +kernel
theorem dX2_hasNext_21 : decode cX2_hasNext 21 = .ok (.ireturn, 1) := by decide +kernel
set_option maxRecDepth 20000 in
theorem ggX2_cellOfNext_X2_hasNext : GoodIn wsX2_cellOfNext wsX2_hasNext := goodIn_r _ [7, 2, 8, 9, 10, 11, 12] (by decide +kernel) (by decide +kernel)
set_option maxRecDepth 20000 in
theorem gX2_cellOfNext_X2_hasNext : GoodIn wsX2_cellOfNext (wsV RX2 31 RX2 yX2_hasNext wsX2_hasNext) := goodIn_app (goodIn_of _ (by decide +kernel)) ggX2_cellOfNext_X2_hasNext
theorem dX2_cellOfNext_0 : decode cX2_cellOfNext 0 = .ok (.aload_n 0, 1) := by decide +kernel
theorem dX2_cellOfNext_1 : decode cX2_cellOfNext 1 = .ok (.invokevirtual 31, 3) := by decide +kernel
theorem dX2_cellOfNext_4 : decode cX2_cellOfNext 4 = .ok (.ifCond .eq 15, 3) := by decide +kernel
theorem dX2_cellOfNext_7 : decode cX2_cellOfNext 7 = .ok (.aload_n 0, 1) := by decide +kernel
theorem dX2_cellOfNext_8 : decode cX2_cellOfNext 8 = .ok (.getfield 9, 3) := by decide +kernel
theorem dX2_cellOfNext_11 : decode cX2_cellOfNext 11 = .ok (.aload_n 0, 1) := by decide +kernel
theorem dX2_cellOfNext_12 : decode cX2_cellOfNext 12 = .ok (.getfield 21, 3) := by decide +kernel
theorem dX2_cellOfNext_15 : decode cX2_cellOfNext 15 = .ok (.iaload, 1) := by decide +kernel
theorem dX2_cellOfNext_16 : decode cX2_cellOfNext 16 = .ok (.goto 4, 3) := by decide +kernel
theorem dX2_cellOfNext_19 : decode cX2_cellOfNext 19 = .ok (.iconst (-1), 1) := by decide +kernel
theorem dX2_cellOfNext_20 : decode cX2_cellOfNext 20 = .ok (.ireturn, 1) := by decide +kernel
set_option maxRecDepth 20000 in
theorem ggX2_kindBeforeNext_X2_hasNext : GoodIn wsX2_kindBeforeNext wsX2_hasNext := goodIn_r _ [7, 2, 8, 9, 10, 11, 12] (by decide +kernel) (by decide +kernel)
set_option maxRecDepth 20000 in
theorem gX2_kindBeforeNext_X2_hasNext : GoodIn wsX2_kindBeforeNext (wsV RX2 31 RX2 yX2_hasNext wsX2_hasNext) := goodIn_app (goodIn_of _ (by decide +kernel)) ggX2_kindBeforeNext_X2_hasNext
theorem dX2_kindBeforeNext_0 : decode cX2_kindBeforeNext 0 = .ok (.aload_n 0, 1) := by decide +kernel
theorem dX2_kindBeforeNext_1 : decode cX2_kindBeforeNext 1 = .ok (.invokevirtual 31, 3) := by decide +kernel
theorem dX2_kindBeforeNext_4 : decode cX2_kindBeforeNext 4 = .ok (.ifCond .eq 15, 3) := by decide +kernel
theorem dX2_kindBeforeNext_7 : decode cX2_kindBeforeNext 7 = .ok (.aload_n 0, 1) := by decide +kernel
theorem dX2_kindBeforeNext_8 : decode cX2_kindBeforeNext 8 = .ok (.getfield 15, 3) := by decide +kernel
theorem dX2_kindBeforeNext_11 : decode cX2_kindBeforeNext 11 = .ok (.aload_n 0, 1) := by decide +kernel
theorem dX2_kindBeforeNext_12 : decode cX2_kindBeforeNext 12 = .ok (.getfield 21, 3) := by decide +kernel
theorem dX2_kindBeforeNext_15 : decode cX2_kindBeforeNext 15 = .ok (.iaload, 1) := by decide +kernel
theorem dX2_kindBeforeNext_16 : decode cX2_kindBeforeNext 16 = .ok (.goto 4, 3) := by decide +kernel
theorem dX2_kindBeforeNext_19 : decode cX2_kindBeforeNext 19 = .ok (.iconst 0, 1) := by decide +kernel
theorem dX2_kindBeforeNext_20 : decode cX2_kindBeforeNext 20 = .ok (.ireturn, 1) := by decide +kernel
set_option maxRecDepth 20000 in
theorem ggX2_kindAfterNext_X2_hasNext : GoodIn wsX2_kindAfterNext wsX2_hasNext := goodIn_r _ [7, 2, 8, 9, 10, 11, 12] (by decide +kernel) (by decide +kernel)
set_option maxRecDepth 20000 in
theorem gX2_kindAfterNext_X2_hasNext : GoodIn wsX2_kindAfterNext (wsV RX2 31 RX2 yX2_hasNext wsX2_hasNext) := goodIn_app (goodIn_of _ (by decide +kernel)) ggX2_kindAfterNext_X2_hasNext
theorem dX2_kindAfterNext_0 : decode cX2_kindAfterNext 0 = .ok (.aload_n 0, 1) := by decide +kernel
theorem dX2_kindAfterNext_1 : decode cX2_kindAfterNext 1 = .ok (.invokevirtual 31, 3) := by decide +kernel
theorem dX2_kindAfterNext_4 : decode cX2_kindAfterNext 4 = .ok (.ifCond .eq 15, 3) := by decide +kernel
theorem dX2_kindAfterNext_7 : decode cX2_kindAfterNext 7 = .ok (.aload_n 0, 1) := by decide +kernel
theorem dX2_kindAfterNext_8 : decode cX2_kindAfterNext 8 = .ok (.getfield 18, 3) := by decide +kernel
theorem dX2_kindAfterNext_11 : decode cX2_kindAfterNext 11 = .ok (.aload_n 0, 1) := by decide +kernel
theorem dX2_kindAfterNext_12 : decode cX2_kindAfterNext 12 = .ok (.getfield 21, 3) := by decide +kernel
theorem dX2_kindAfterNext_15 : decode cX2_kindAfterNext 15 = .ok (.iaload, 1) := by decide +kernel
theorem dX2_kindAfterNext_16 : decode cX2_kindAfterNext 16 = .ok (.goto 4, 3) := by decide +kernel
theorem dX2_kindAfterNext_19 : decode cX2_kindAfterNext 19 = .ok (.iconst 0, 1) := by decide +kernel
theorem dX2_kindAfterNext_20 : decode cX2_kindAfterNext 20 = .ok (.ireturn, 1) := by decide +kernel
set_option maxRecDepth 20000 in
theorem ggX3_init_X1_init : GoodIn wsX3_init wsX1_init := goodIn_r _ [17, 18, 2, 3, 19, 20, 21, 22, 31, 32, 33] (by decide +kernel) (by decide +kernel)
set_option maxRecDepth 20000 in
theorem gX3_init_X1_init_n11 : GoodIn wsX3_init (wsX1_init) := ggX3_init_X1_init
set_option maxRecDepth 20000 in
theorem ggX3_init_X2_init : GoodIn wsX3_init wsX2_init := goodIn_r _ [24, 25, 2, 3, 19, 26, 27, 28, 29, 30, 40, 41, 42, 43, 44] (by decide +kernel) (by decide +kernel)
set_option maxRecDepth 20000 in
theorem gX3_init_X2_init_n20 : GoodIn wsX3_init (wsX2_init) := ggX3_init_X2_init
theorem dX3_init_0 : decode cX3_init 0 = .ok (.aload_n 0, 1) := by decide +kernel
theorem dX3_init_1 : decode cX3_init 1 = .ok (.invokespecial 3, 3) := by decide +kernel
theorem dX3_init_4 : decode cX3_init 4 = .ok (.aload_n 0, 1) := by decide +kernel
theorem dX3_init_5 : decode cX3_init 5 = .ok (.new 9, 3) := by decide +kernel
theorem dX3_init_8 : decode cX3_init 8 = .ok (.dup, 1) := by decide +kernel
theorem dX3_init_9 : decode cX3_init 9 = .ok (.invokespecial 11, 3) := by decide +kernel
theorem dX3_init_12 : decode cX3_init 12 = .ok (.putfield 12, 3) := by decide +kernel
theorem dX3_init_15 : decode cX3_init 15 = .ok (.aload_n 0, 1) := by decide +kernel
theorem dX3_init_16 : decode cX3_init 16 = .ok (.new 18, 3) := by decide +kernel
theorem dX3_init_19 : decode cX3_init 19 = .ok (.dup, 1) := by decide +kernel
theorem dX3_init_20 : decode cX3_init 20 = .ok (.invokespecial 20, 3) := by decide +kernel
theorem dX3_init_23 : decode cX3_init 23 = .ok (.putfield 21, 3) := by decide +kernel
theorem dX3_init_26 : decode cX3_init 26 = .ok (.aload_n 0, 1) := by decide +kernel
theorem dX3_init_27 : decode cX3_init 27 = .ok (.bipush 72, 2) := by decide +kernel
theorem dX3_init_29 : decode cX3_init 29 = .ok (.putfield 25, 3) := by decide +kernel
theorem dX3_init_32 : decode cX3_init 32 = .ok (.aload_n 0, 1) := by decide +kernel
theorem dX3_init_33 : decode cX3_init 33 = .ok (.bipush (-2), 2) := by decide +kernel
theorem dX3_init_35 : decode cX3_init 35 = .ok (.putfield 29, 3) := by decide +kernel
theorem dX3_init_38 : decode cX3_init 38 = .ok (.aload_n 0, 1) := by decide +kernel
theorem dX3_init_39 : decode cX3_init 39 = .ok (.iload_n 1, 1) := by decide +kernel
theorem dX3_init_40 : decode cX3_init 40 = .ok (.putfield 32, 3) := by decide +kernel
theorem dX3_init_43 : decode cX3_init 43 = .ok (.aload_n 0, 1) := by decide +kernel
theorem dX3_init_44 : decode cX3_init 44 = .ok (.aload_n 2, 1) := by decide +kernel
theorem dX3_init_45 : decode cX3_init 45 = .ok (.putfield 35, 3) := by decide +kernel
theorem dX3_init_48 : decode cX3_init 48 = .ok (.return_, 1) := by decide +kernel
set_option maxRecDepth 20000 in
theorem ggX3_putAnew_X1_put : GoodIn wsX3_putAnew wsX1_put := goodIn_r _ [7, 8, 9, 10, 11, 12, 13, 14, 6, 15, 16, 17, 24, 25, 26] (by decide +kernel) (by decide +kernel)
set_option maxRecDepth 20000 in
theorem gX3_putAnew_X1_put : GoodIn wsX3_putAnew (wsV RX3 39 RX1 yX1_put wsX1_put) := goodIn_app (goodIn_of _ (by decide +kernel)) ggX3_putAnew_X1_put
theorem dX3_putAnew_0 : decode cX3_putAnew 0 = .ok (.aload_n 0, 1) := by decide +kernel
theorem dX3_putAnew_1 : decode cX3_putAnew 1 = .ok (.getfield 12, 3) := by decide +kernel
theorem dX3_putAnew_4 : decode cX3_putAnew 4 = .ok (.iload_n 1, 1) := by decide +kernel
theorem dX3_putAnew_5 : decode cX3_putAnew 5 = .ok (.iload_n 2, 1) := by decide +kernel
theorem dX3_putAnew_6 : decode cX3_putAnew 6 = .ok (.invokevirtual 39, 3) := by decide +kernel
theorem dX3_putAnew_9 : decode cX3_putAnew 9 = .ok (.aload_n 0, 1) := by decide +kernel
theorem dX3_putAnew_10 : decode cX3_putAnew 10 = .ok (.bipush (-2), 2) := by decide +kernel
theorem dX3_putAnew_12 : decode cX3_putAnew 12 = .ok (.putfield 29, 3) := by decide +kernel
theorem dX3_putAnew_15 : decode cX3_putAnew 15 = .ok (.return_, 1) := by decide +kernel
set_option maxRecDepth 20000 in
theorem ggX4_init_X0_init : GoodIn wsX4_init wsX0_init := goodIn_r _ [13, 14, 2, 3, 15, 16, 17, 18, 19, 24, 25, 26, 27, 28] (by decide +kernel) (by decide +kernel)
set_option maxRecDepth 20000 in
theorem gX4_init_X0_init : GoodIn wsX4_init (wsX0_init) := ggX4_init_X0_init
theorem dX4_init_0 : decode cX4_init 0 = .ok (.aload_n 0, 1) := by decide +kernel
theorem dX4_init_1 : decode cX4_init 1 = .ok (.invokespecial 3, 3) := by decide +kernel
theorem dX4_init_4 : decode cX4_init 4 = .ok (.aload_n 0, 1) := by decide +kernel
theorem dX4_init_5 : decode cX4_init 5 = .ok (.aconst_null, 1) := by decide +kernel
theorem dX4_init_6 : decode cX4_init 6 = .ok (.putfield 9, 3) := by decide +kernel
theorem dX4_init_9 : decode cX4_init 9 = .ok (.aload_n 0, 1) := by decide +kernel
theorem dX4_init_10 : decode cX4_init 10 = .ok (.iconst 0, 1) := by decide +kernel
theorem dX4_init_11 : decode cX4_init 11 = .ok (.putfield 15, 3) := by decide +kernel
theorem dX4_init_14 : decode cX4_init 14 = .ok (.aload_n 0, 1) := by decide +kernel
theorem dX4_init_15 : decode cX4_init 15 = .ok (.iconst 0, 1) := by decide +kernel
theorem dX4_init_16 : decode cX4_init 16 = .ok (.putfield 19, 3) := by decide +kernel
theorem dX4_init_19 : decode cX4_init 19 = .ok (.aload_n 0, 1) := by decide +kernel
theorem dX4_init_20 : decode cX4_init 20 = .ok (.new 22, 3) := by decide +kernel
theorem dX4_init_23 : decode cX4_init 23 = .ok (.dup, 1) := by decide +kernel
theorem dX4_init_24 : decode cX4_init 24 = .ok (.aload_n 1, 1) := by decide +kernel
theorem dX4_init_25 : decode cX4_init 25 = .ok (.invokespecial 24, 3) := by decide +kernel
theorem dX4_init_28 : decode cX4_init 28 = .ok (.putfield 27, 3) := by decide +kernel
theorem dX4_init_31 : decode cX4_init 31 = .ok (.return_, 1) := by decide +kernel
set_option maxRecDepth 20000 in
theorem ggX4_beginOn_X0_placeAtStart : GoodIn wsX4_beginOn wsX0_placeAtStart := goodIn_r _ [8, 9, 10, 11, 12, 13, 14, 7, 15, 16, 17, 18, 19, 20, 21, 22, 23, 24, 25, 26, 27, 28, 29, 30, 55, 56, 57, 58, 59, 60, 61, 62] (by decide +kernel) (by decide +kernel)
set_option maxRecDepth 20000 in
theorem gX4_beginOn_X0_placeAtStart : GoodIn wsX4_beginOn (wsV RX4 40 RX0 yX0_placeAtStart wsX0_placeAtStart) := goodIn_app (goodIn_of _ (by decide +kernel)) ggX4_beginOn_X0_placeAtStart
set_option maxRecDepth 20000 in
theorem ggX4_beginOn_X4_takeStateOfBody : GoodIn wsX4_beginOn wsX4_takeStateOfBody := goodIn_r _ [35, 3, 36, 1, 2, 37, 38, 39, 40, 41, 42, 43, 44, 45, 46, 55, 56, 57, 58, 59, 47, 48, 49, 50, 51, 52, 53, 54] (by decide +kernel) (by decide +kernel)
set_option maxRecDepth 20000 in
theorem gX4_beginOn_X4_takeStateOfBody : GoodIn wsX4_beginOn (wsV RX4 44 RX4 yX4_takeStateOfBody wsX4_takeStateOfBody) := goodIn_app (goodIn_of _ (by decide +kernel)) ggX4_beginOn_X4_takeStateOfBody
theorem dX4_beginOn_0 : decode cX4_beginOn 0 = .ok (.aload_n 0, 1) := by decide +kernel
theorem dX4_beginOn_1 : decode cX4_beginOn 1 = .ok (.aload_n 1, 1) := by decide +kernel
theorem dX4_beginOn_2 : decode cX4_beginOn 2 = .ok (.putfield 9, 3) := by decide +kernel
theorem dX4_beginOn_5 : decode cX4_beginOn 5 = .ok (.aload_n 0, 1) := by decide +kernel
theorem dX4_beginOn_6 : decode cX4_beginOn 6 = .ok (.iconst 0, 1) := by decide +kernel
theorem dX4_beginOn_7 : decode cX4_beginOn 7 = .ok (.putfield 19, 3) := by decide +kernel
theorem dX4_beginOn_10 : decode cX4_beginOn 10 = .ok (.aload_n 0, 1) := by decide +kernel
theorem dX4_beginOn_11 : decode cX4_beginOn 11 = .ok (.getfield 27, 3) := by decide +kernel
theorem dX4_beginOn_14 : decode cX4_beginOn 14 = .ok (.aload_n 1, 1) := by decide +kernel
theorem dX4_beginOn_15 : decode cX4_beginOn 15 = .ok (.getfield 31, 3) := by decide +kernel
theorem dX4_beginOn_18 : decode cX4_beginOn 18 = .ok (.aload_n 1, 1) := by decide +kernel
theorem dX4_beginOn_19 : decode cX4_beginOn 19 = .ok (.getfield 37, 3) := by decide +kernel
theorem dX4_beginOn_22 : decode cX4_beginOn 22 = .ok (.invokevirtual 40, 3) := by decide +kernel
theorem dX4_beginOn_25 : decode cX4_beginOn 25 = .ok (.aload_n 0, 1) := by decide +kernel
theorem dX4_beginOn_26 : decode cX4_beginOn 26 = .ok (.invokevirtual 44, 3) := by decide +kernel
theorem dX4_beginOn_29 : decode cX4_beginOn 29 = .ok (.return_, 1) := by decide +kernel
set_option maxRecDepth 20000 in
theorem ggX4_goOn_X0_move : GoodIn wsX4_goOn wsX0_move := goodIn_r _ [8, 9, 10, 11, 12, 13, 7, 14, 15, 16, 17, 18, 19, 20, 21, 22, 23, 24, 25, 26, 27, 28, 29, 30, 31, 32, 33, 34, 35, 36, 37, 38, 39, 40, 41, 42, 43, 44, 45, 46, 47, 48, 49, 50, 51, 76, 77, 78, 79, 80, 81, 82, 83] (by decide +kernel) (by decide +kernel)
set_option maxRecDepth 20000 in
theorem gX4_goOn_X0_move : GoodIn wsX4_goOn (wsV RX4 47 RX0 yX0_move wsX0_move) := goodIn_app (goodIn_of _ (by decide +kernel)) ggX4_goOn_X0_move
set_option maxRecDepth 20000 in
theorem ggX4_goOn_X4_takeStateOfBody : GoodIn wsX4_goOn wsX4_takeStateOfBody := goodIn_r _ [56, 3, 57, 1, 2, 58, 59, 60, 61, 62, 63, 64, 65, 66, 67, 76, 77, 78, 79, 80, 68, 69, 70, 71, 72, 73, 74, 75] (by decide +kernel) (by decide +kernel)
set_option maxRecDepth 20000 in
theorem gX4_goOn_X4_takeStateOfBody : GoodIn wsX4_goOn (wsV RX4 44 RX4 yX4_takeStateOfBody wsX4_takeStateOfBody) := goodIn_app (goodIn_of _ (by decide +kernel)) ggX4_goOn_X4_takeStateOfBody
theorem dX4_goOn_0 : decode cX4_goOn 0 = .ok (.aload_n 0, 1) := by decide +kernel
theorem dX4_goOn_1 : decode cX4_goOn 1 = .ok (.getfield 9, 3) := by decide +kernel
theorem dX4_goOn_4 : decode cX4_goOn 4 = .ok (.ifnonnull 4, 3) := by decide +kernel
theorem dX4_goOn_7 : decode cX4_goOn 7 = .ok (.return_, 1) := by decide +kernel
theorem dX4_goOn_8 : decode cX4_goOn 8 = .ok (.aload_n 0, 1) := by decide +kernel
theorem dX4_goOn_9 : decode cX4_goOn 9 = .ok (.dup, 1) := by decide +kernel
theorem dX4_goOn_10 : decode cX4_goOn 10 = .ok (.getfield 19, 3) := by decide +kernel
theorem dX4_goOn_13 : decode cX4_goOn 13 = .ok (.iconst 1, 1) := by decide +kernel
theorem dX4_goOn_14 : decode cX4_goOn 14 = .ok (.iadd, 1) := by decide +kernel
theorem dX4_goOn_15 : decode cX4_goOn 15 = .ok (.putfield 19, 3) := by decide +kernel
theorem dX4_goOn_18 : decode cX4_goOn 18 = .ok (.aload_n 0, 1) := by decide +kernel
theorem dX4_goOn_19 : decode cX4_goOn 19 = .ok (.getfield 27, 3) := by decide +kernel
theorem dX4_goOn_22 : decode cX4_goOn 22 = .ok (.aload_n 0, 1) := by decide +kernel
theorem dX4_goOn_23 : decode cX4_goOn 23 = .ok (.getfield 9, 3) := by decide +kernel
theorem dX4_goOn_26 : decode cX4_goOn 26 = .ok (.getfield 31, 3) := by decide +kernel
theorem dX4_goOn_29 : decode cX4_goOn 29 = .ok (.iload_n 1, 1) := by decide +kernel
theorem dX4_goOn_30 : decode cX4_goOn 30 = .ok (.invokevirtual 47, 3) := by decide +kernel
theorem dX4_goOn_33 : decode cX4_goOn 33 = .ok (.aload_n 0, 1) := by decide +kernel
theorem dX4_goOn_34 : decode cX4_goOn 34 = .ok (.invokevirtual 44, 3) := by decide +kernel
theorem dX4_goOn_37 : decode cX4_goOn 37 = .ok (.return_, 1) := by decide +kernel
set_option maxRecDepth 20000 in
theorem ggX4_takeStateOfBody_X6_noteWin : GoodIn wsX4_takeStateOfBody wsX6_noteWin := goodIn_r _ [9, 10, 20, 21, 22, 23, 24, 25, 26, 27] (by decide +kernel) (by decide +kernel)
set_option maxRecDepth 20000 in
theorem gX4_takeStateOfBody_X6_noteWin : GoodIn wsX4_takeStateOfBody (wsV RX4 53 RX6 yX6_noteWin wsX6_noteWin) := goodIn_app (goodIn_of _ (by decide +kernel)) ggX4_takeStateOfBody_X6_noteWin
theorem dX4_takeStateOfBody_0 : decode cX4_takeStateOfBody 0 = .ok (.aload_n 0, 1) := by decide +kernel
theorem dX4_takeStateOfBody_1 : decode cX4_takeStateOfBody 1 = .ok (.aload_n 0, 1) := by decide +kernel
theorem dX4_takeStateOfBody_2 : decode cX4_takeStateOfBody 2 = .ok (.getfield 27, 3) := by decide +kernel
theorem dX4_takeStateOfBody_5 : decode cX4_takeStateOfBody 5 = .ok (.getfield 50, 3) := by decide +kernel
theorem dX4_takeStateOfBody_8 : decode cX4_takeStateOfBody 8 = .ok (.putfield 15, 3) := by decide +kernel
theorem dX4_takeStateOfBody_11 : decode cX4_takeStateOfBody 11 = .ok (.aload_n 0, 1) := by decide +kernel
theorem dX4_takeStateOfBody_12 : decode cX4_takeStateOfBody 12 = .ok (.getfield 15, 3) := by decide +kernel
theorem dX4_takeStateOfBody_15 : decode cX4_takeStateOfBody 15 = .ok (.iconst 2, 1) := by decide +kernel
theorem dX4_takeStateOfBody_16 : decode cX4_takeStateOfBody 16 = .ok (.if_icmp .ne 21, 3) := by decide +kernel
theorem dX4_takeStateOfBody_19 : decode cX4_takeStateOfBody 19 = .ok (.aload_n 0, 1) := by decide +kernel
theorem dX4_takeStateOfBody_20 : decode cX4_takeStateOfBody 20 = .ok (.getfield 9, 3) := by decide +kernel
theorem dX4_takeStateOfBody_23 : decode cX4_takeStateOfBody 23 = .ok (.ifnull 14, 3) := by decide +kernel
theorem dX4_takeStateOfBody_26 : decode cX4_takeStateOfBody 26 = .ok (.aload_n 0, 1) := by decide +kernel
theorem dX4_takeStateOfBody_27 : decode cX4_takeStateOfBody 27 = .ok (.getfield 9, 3) := by decide +kernel
theorem dX4_takeStateOfBody_30 : decode cX4_takeStateOfBody 30 = .ok (.aload_n 0, 1) := by decide +kernel
theorem dX4_takeStateOfBody_31 : decode cX4_takeStateOfBody 31 = .ok (.getfield 19, 3) := by decide +kernel
theorem dX4_takeStateOfBody_34 : decode cX4_takeStateOfBody 34 = .ok (.invokevirtual 53, 3) := by decide +kernel
theorem dX4_takeStateOfBody_37 : decode cX4_takeStateOfBody 37 = .ok (.return_, 1) := by decide +kernel
theorem dX4_answer_0 : decode cX4_answer 0 = .ok (.aload_n 0, 1) := by decide +kernel
theorem dX4_answer_1 : decode cX4_answer 1 = .ok (.getfield 15, 3) := by decide +kernel
theorem dX4_answer_4 : decode cX4_answer 4 = .ok (.iconst 3, 1) := by decide +kernel
theorem dX4_answer_5 : decode cX4_answer 5 = .ok (.if_icmp .ne 5, 3) := by decide +kernel
theorem dX4_answer_8 : decode cX4_answer 8 = .ok (.iconst (-1), 1) := by decide +kernel
theorem dX4_answer_9 : decode cX4_answer 9 = .ok (.ireturn, 1) := by decide +kernel
theorem dX4_answer_10 : decode cX4_answer 10 = .ok (.aload_n 0, 1) := by decide +kernel
theorem dX4_answer_11 : decode cX4_answer 11 = .ok (.getfield 15, 3) := by decide +kernel
theorem dX4_answer_14 : decode cX4_answer 14 = .ok (.iconst 2, 1) := by decide +kernel
theorem dX4_answer_15 : decode cX4_answer 15 = .ok (.if_icmp .ne 8, 3) := by decide +kernel
theorem dX4_answer_18 : decode cX4_answer 18 = .ok (.bipush (-2), 2) := by decide +kernel
theorem dX4_answer_20 : decode cX4_answer 20 = .ok (.goto 10, 3) := by decide +kernel
theorem dX4_answer_23 : decode cX4_answer 23 = .ok (.aload_n 0, 1) := by decide +kernel
theorem dX4_answer_24 : decode cX4_answer 24 = .ok (.getfield 27, 3) := by decide +kernel
theorem dX4_answer_27 : decode cX4_answer 27 = .ok (.getfield 57, 3) := by decide +kernel
theorem dX4_answer_30 : decode cX4_answer 30 = .ok (.ireturn, 1) := by decide +kernel
set_option maxRecDepth 20000 in
theorem ggX5_init_X0_init : GoodIn wsX5_init wsX0_init := goodIn_r _ [18, 19, 2, 3, 20, 21, 22, 23, 24, 32, 33, 34, 35, 36] (by decide +kernel) (by decide +kernel)
set_option maxRecDepth 20000 in
theorem gX5_init_X0_init : GoodIn wsX5_init (wsX0_init) := ggX5_init_X0_init
theorem dX5_init_0 : decode cX5_init 0 = .ok (.aload_n 0, 1) := by decide +kernel
theorem dX5_init_1 : decode cX5_init 1 = .ok (.invokespecial 3, 3) := by decide +kernel
theorem dX5_init_4 : decode cX5_init 4 = .ok (.aload_n 0, 1) := by decide +kernel
theorem dX5_init_5 : decode cX5_init 5 = .ok (.sipush 6144, 3) := by decide +kernel
theorem dX5_init_8 : decode cX5_init 8 = .ok (.newarray .int, 2) := by decide +kernel
theorem dX5_init_10 : decode cX5_init 10 = .ok (.putfield 9, 3) := by decide +kernel
theorem dX5_init_13 : decode cX5_init 13 = .ok (.aload_n 0, 1) := by decide +kernel
theorem dX5_init_14 : decode cX5_init 14 = .ok (.sipush 6144, 3) := by decide +kernel
theorem dX5_init_17 : decode cX5_init 17 = .ok (.newarray .int, 2) := by decide +kernel
theorem dX5_init_19 : decode cX5_init 19 = .ok (.putfield 15, 3) := by decide +kernel
theorem dX5_init_22 : decode cX5_init 22 = .ok (.aload_n 0, 1) := by decide +kernel
theorem dX5_init_23 : decode cX5_init 23 = .ok (.bipush 96, 2) := by decide +kernel
theorem dX5_init_25 : decode cX5_init 25 = .ok (.newarray .boolean, 2) := by decide +kernel
theorem dX5_init_27 : decode cX5_init 27 = .ok (.putfield 18, 3) := by decide +kernel
theorem dX5_init_30 : decode cX5_init 30 = .ok (.aload_n 0, 1) := by decide +kernel
theorem dX5_init_31 : decode cX5_init 31 = .ok (.iconst 0, 1) := by decide +kernel
theorem dX5_init_32 : decode cX5_init 32 = .ok (.putfield 22, 3) := by decide +kernel
theorem dX5_init_35 : decode cX5_init 35 = .ok (.aload_n 0, 1) := by decide +kernel
theorem dX5_init_36 : decode cX5_init 36 = .ok (.iconst 0, 1) := by decide +kernel
theorem dX5_init_37 : decode cX5_init 37 = .ok (.putfield 26, 3) := by decide +kernel
theorem dX5_init_40 : decode cX5_init 40 = .ok (.aload_n 0, 1) := by decide +kernel
theorem dX5_init_41 : decode cX5_init 41 = .ok (.iconst (-1), 1) := by decide +kernel
theorem dX5_init_42 : decode cX5_init 42 = .ok (.putfield 29, 3) := by decide +kernel
theorem dX5_init_45 : decode cX5_init 45 = .ok (.aload_n 0, 1) := by decide +kernel
theorem dX5_init_46 : decode cX5_init 46 = .ok (.new 32, 3) := by decide +kernel
theorem dX5_init_49 : decode cX5_init 49 = .ok (.dup, 1) := by decide +kernel
theorem dX5_init_50 : decode cX5_init 50 = .ok (.aload_n 1, 1) := by decide +kernel
theorem dX5_init_51 : decode cX5_init 51 = .ok (.invokespecial 34, 3) := by decide +kernel
theorem dX5_init_54 : decode cX5_init 54 = .ok (.putfield 37, 3) := by decide +kernel
theorem dX5_init_57 : decode cX5_init 57 = .ok (.return_, 1) := by decide +kernel
set_option maxRecDepth 20000 in
theorem ggX5_explore_X5_restart : GoodIn wsX5_explore wsX5_restart := goodIn_r _ [8, 9, 2, 3, 10, 94, 95, 96, 97, 98, 99, 100] (by decide +kernel) (by decide +kernel)
set_option maxRecDepth 20000 in
theorem gX5_explore_X5_restart : GoodIn wsX5_explore (wsV RX5 41 RX5 yX5_restart wsX5_restart) := goodIn_app (goodIn_of _ (by decide +kernel)) ggX5_explore_X5_restart
set_option maxRecDepth 20000 in
theorem ggX5_explore_X0_placeAtStart : GoodIn wsX5_explore wsX0_placeAtStart := goodIn_r _ [15, 16, 17, 18, 19, 20, 21, 14, 22, 23, 24, 25, 26, 27, 28, 29, 30, 31, 32, 33, 34, 35, 36, 37, 101, 102, 103, 104, 105, 106, 107, 108] (by decide +kernel) (by decide +kernel)
set_option maxRecDepth 20000 in
theorem gX5_explore_X0_placeAtStart : GoodIn wsX5_explore (wsV RX5 44 RX0 yX0_placeAtStart wsX0_placeAtStart) := goodIn_app (goodIn_of _ (by decide +kernel)) ggX5_explore_X0_placeAtStart
set_option maxRecDepth 20000 in
theorem ggX5_explore_X5_noteBody : GoodIn wsX5_explore wsX5_noteBody := goodIn_r _ [41, 1, 10, 3, 24, 25, 26, 42, 43, 44, 14, 45, 23, 16, 17, 46, 47, 48, 7, 49, 50, 9, 51, 52, 53, 54, 2, 55, 94, 95, 96, 97, 98, 99, 100, 101, 102, 103, 104, 105] (by decide +kernel) (by decide +kernel)
set_option maxRecDepth 20000 in
theorem gX5_explore_X5_noteBody : GoodIn wsX5_explore (wsV RX5 48 RX5 yX5_noteBody wsX5_noteBody) := goodIn_app (goodIn_of _ (by decide +kernel)) ggX5_explore_X5_noteBody
set_option maxRecDepth 20000 in
theorem ggX5_explore_X5_queuedAt : GoodIn wsX5_explore wsX5_queuedAt := goodIn_r _ [59, 55, 94, 95, 96, 97, 98, 99, 100] (by decide +kernel) (by decide +kernel)
set_option maxRecDepth 20000 in
theorem gX5_explore_X5_queuedAt : GoodIn wsX5_explore (wsV RX5 52 RX5 yX5_queuedAt wsX5_queuedAt) := goodIn_app (goodIn_of _ (by decide +kernel)) ggX5_explore_X5_queuedAt
set_option maxRecDepth 20000 in
theorem ggX5_explore_X5_tryInputsFrom : GoodIn wsX5_explore wsX5_tryInputsFrom := goodIn_r _ [63, 1, 64, 65, 66, 14, 67, 23, 16, 17, 18, 68, 69, 70, 71, 72, 73, 74, 75, 27, 28, 29, 30, 31, 32, 76, 77, 78, 79, 80, 81, 82, 83, 84, 19, 20, 21, 22, 24, 25, 26, 33, 34, 35, 36, 37, 85, 86, 87, 88, 89, 90, 91, 92, 93, 38, 39, 40, 7, 41, 10, 3, 42, 43, 44, 45, 46, 47, 48, 49, 50, 9, 51, 52, 53, 54, 2, 55, 94, 95, 96, 97, 98, 99, 100, 101, 102, 103, 104, 105, 106, 107, 108] (by decide +kernel) (by decide +kernel)
set_option maxRecDepth 20000 in
theorem gX5_explore_X5_tryInputsFrom : GoodIn wsX5_explore (wsV RX5 56 RX5 yX5_tryInputsFrom wsX5_tryInputsFrom) := goodIn_app (goodIn_of _ (by decide +kernel)) ggX5_explore_X5_tryInputsFrom
theorem dX5_explore_0 : decode cX5_explore 0 = .ok (.aload_n 0, 1) := by decide +kernel
theorem dX5_explore_1 : decode cX5_explore 1 = .ok (.invokevirtual 41, 3) := by decide +kernel
theorem dX5_explore_4 : decode cX5_explore 4 = .ok (.aload_n 0, 1) := by decide +kernel
theorem dX5_explore_5 : decode cX5_explore 5 = .ok (.getfield 37, 3) := by decide +kernel
theorem dX5_explore_8 : decode cX5_explore 8 = .ok (.aload_n 1, 1) := by decide +kernel
theorem dX5_explore_9 : decode cX5_explore 9 = .ok (.iload_n 2, 1) := by decide +kernel
theorem dX5_explore_10 : decode cX5_explore 10 = .ok (.invokevirtual 44, 3) := by decide +kernel
theorem dX5_explore_13 : decode cX5_explore 13 = .ok (.aload_n 0, 1) := by decide +kernel
theorem dX5_explore_14 : decode cX5_explore 14 = .ok (.iconst 0, 1) := by decide +kernel
theorem dX5_explore_15 : decode cX5_explore 15 = .ok (.invokevirtual 48, 3) := by decide +kernel
theorem dX5_explore_18 : decode cX5_explore 18 = .ok (.iconst 0, 1) := by decide +kernel
theorem dX5_explore_19 : decode cX5_explore 19 = .ok (.istore 4, 2) := by decide +kernel
theorem dX5_explore_21 : decode cX5_explore 21 = .ok (.iconst 1, 1) := by decide +kernel
theorem dX5_explore_22 : decode cX5_explore 22 = .ok (.istore 5, 2) := by decide +kernel
theorem dX5_explore_24 : decode cX5_explore 24 = .ok (.iload 5, 2) := by decide +kernel
theorem dX5_explore_26 : decode cX5_explore 26 = .ok (.sipush 6144, 3) := by decide +kernel
theorem dX5_explore_29 : decode cX5_explore 29 = .ok (.if_icmp .gt 74, 3) := by decide +kernel
theorem dX5_explore_32 : decode cX5_explore 32 = .ok (.iload 4, 2) := by decide +kernel
theorem dX5_explore_34 : decode cX5_explore 34 = .ok (.aload_n 0, 1) := by decide +kernel
theorem dX5_explore_35 : decode cX5_explore 35 = .ok (.getfield 26, 3) := by decide +kernel
theorem dX5_explore_38 : decode cX5_explore 38 = .ok (.if_icmp .ge 65, 3) := by decide +kernel
theorem dX5_explore_41 : decode cX5_explore 41 = .ok (.iload_n 3, 1) := by decide +kernel
theorem dX5_explore_42 : decode cX5_explore 42 = .ok (.ifCond .eq 15, 3) := by decide +kernel
theorem dX5_explore_45 : decode cX5_explore 45 = .ok (.aload_n 0, 1) := by decide +kernel
theorem dX5_explore_46 : decode cX5_explore 46 = .ok (.getfield 29, 3) := by decide +kernel
theorem dX5_explore_49 : decode cX5_explore 49 = .ok (.ifCond .lt 8, 3) := by decide +kernel
theorem dX5_explore_52 : decode cX5_explore 52 = .ok (.aload_n 0, 1) := by decide +kernel
theorem dX5_explore_53 : decode cX5_explore 53 = .ok (.getfield 29, 3) := by decide +kernel
theorem dX5_explore_56 : decode cX5_explore 56 = .ok (.ireturn, 1) := by decide +kernel
theorem dX5_explore_57 : decode cX5_explore 57 = .ok (.aload_n 0, 1) := by decide +kernel
theorem dX5_explore_58 : decode cX5_explore 58 = .ok (.getfield 26, 3) := by decide +kernel
theorem dX5_explore_61 : decode cX5_explore 61 = .ok (.istore 6, 2) := by decide +kernel
theorem dX5_explore_63 : decode cX5_explore 63 = .ok (.iload 4, 2) := by decide +kernel
theorem dX5_explore_65 : decode cX5_explore 65 = .ok (.istore 7, 2) := by decide +kernel
theorem dX5_explore_67 : decode cX5_explore 67 = .ok (.iload 7, 2) := by decide +kernel
theorem dX5_explore_69 : decode cX5_explore 69 = .ok (.iload 6, 2) := by decide +kernel
theorem dX5_explore_71 : decode cX5_explore 71 = .ok (.if_icmp .ge 22, 3) := by decide +kernel
theorem dX5_explore_74 : decode cX5_explore 74 = .ok (.aload_n 0, 1) := by decide +kernel
theorem dX5_explore_75 : decode cX5_explore 75 = .ok (.aload_n 1, 1) := by decide +kernel
theorem dX5_explore_76 : decode cX5_explore 76 = .ok (.aload_n 0, 1) := by decide +kernel
theorem dX5_explore_77 : decode cX5_explore 77 = .ok (.iload 7, 2) := by decide +kernel
theorem dX5_explore_79 : decode cX5_explore 79 = .ok (.invokevirtual 52, 3) := by decide +kernel
theorem dX5_explore_82 : decode cX5_explore 82 = .ok (.iload 5, 2) := by decide +kernel
theorem dX5_explore_84 : decode cX5_explore 84 = .ok (.invokevirtual 56, 3) := by decide +kernel
theorem dX5_explore_87 : decode cX5_explore 87 = .ok (.iinc 7 1, 3) := by decide +kernel
theorem dX5_explore_90 : decode cX5_explore 90 = .ok (.goto (-23), 3) := by decide +kernel
theorem dX5_explore_93 : decode cX5_explore 93 = .ok (.iload 6, 2) := by decide +kernel
theorem dX5_explore_95 : decode cX5_explore 95 = .ok (.istore 4, 2) := by decide +kernel
theorem dX5_explore_97 : decode cX5_explore 97 = .ok (.iinc 5 1, 3) := by decide +kernel
theorem dX5_explore_100 : decode cX5_explore 100 = .ok (.goto (-76), 3) := by decide +kernel
theorem dX5_explore_103 : decode cX5_explore 103 = .ok (.aload_n 0, 1) := by decide +kernel
theorem dX5_explore_104 : decode cX5_explore 104 = .ok (.getfield 29, 3) := by decide +kernel
theorem dX5_explore_107 : decode cX5_explore 107 = .ok (.ireturn, 1) := by decide +kernel
theorem dX5_restart_0 : decode cX5_restart 0 = .ok (.aload_n 0, 1) := by decide +kernel
theorem dX5_restart_1 : decode cX5_restart 1 = .ok (.dup, 1) := by decide +kernel
theorem dX5_restart_2 : decode cX5_restart 2 = .ok (.getfield 22, 3) := by decide +kernel
theorem dX5_restart_5 : decode cX5_restart 5 = .ok (.iconst 1, 1) := by decide +kernel
theorem dX5_restart_6 : decode cX5_restart 6 = .ok (.iadd, 1) := by decide +kernel
theorem dX5_restart_7 : decode cX5_restart 7 = .ok (.putfield 22, 3) := by decide +kernel
theorem dX5_restart_10 : decode cX5_restart 10 = .ok (.aload_n 0, 1) := by decide +kernel
theorem dX5_restart_11 : decode cX5_restart 11 = .ok (.iconst 0, 1) := by decide +kernel
theorem dX5_restart_12 : decode cX5_restart 12 = .ok (.putfield 26, 3) := by decide +kernel
theorem dX5_restart_15 : decode cX5_restart 15 = .ok (.aload_n 0, 1) := by decide +kernel
theorem dX5_restart_16 : decode cX5_restart 16 = .ok (.iconst (-1), 1) := by decide +kernel
theorem dX5_restart_17 : decode cX5_restart 17 = .ok (.putfield 29, 3) := by decide +kernel
theorem dX5_restart_20 : decode cX5_restart 20 = .ok (.iconst 0, 1) := by decide +kernel
theorem dX5_restart_21 : decode cX5_restart 21 = .ok (.istore_n 1, 1) := by decide +kernel
theorem dX5_restart_22 : decode cX5_restart 22 = .ok (.iload_n 1, 1) := by decide +kernel
theorem dX5_restart_23 : decode cX5_restart 23 = .ok (.aload_n 0, 1) := by decide +kernel
theorem dX5_restart_24 : decode cX5_restart 24 = .ok (.getfield 18, 3) := by decide +kernel
theorem dX5_restart_27 : decode cX5_restart 27 = .ok (.arraylength, 1) := by decide +kernel
theorem dX5_restart_28 : decode cX5_restart 28 = .ok (.if_icmp .ge 16, 3) := by decide +kernel
theorem dX5_restart_31 : decode cX5_restart 31 = .ok (.aload_n 0, 1) := by decide +kernel
theorem dX5_restart_32 : decode cX5_restart 32 = .ok (.getfield 18, 3) := by decide +kernel
theorem dX5_restart_35 : decode cX5_restart 35 = .ok (.iload_n 1, 1) := by decide +kernel
theorem dX5_restart_36 : decode cX5_restart 36 = .ok (.iconst 0, 1) := by decide +kernel
theorem dX5_restart_37 : decode cX5_restart 37 = .ok (.bastore, 1) := by decide +kernel
theorem dX5_restart_38 : decode cX5_restart 38 = .ok (.iinc 1 1, 3) := by decide +kernel
theorem dX5_restart_41 : decode cX5_restart 41 = .ok (.goto (-19), 3) := by decide +kernel
theorem dX5_restart_44 : decode cX5_restart 44 = .ok (.return_, 1) := by decide +kernel
set_option maxRecDepth 20000 in
theorem ggX5_tryInputsFrom_X0_unpack : GoodIn wsX5_tryInputsFrom wsX0_unpack := goodIn_r _ [6, 7, 8, 9, 10, 85, 86, 87, 88, 89] (by decide +kernel) (by decide +kernel)
set_option maxRecDepth 20000 in
theorem gX5_tryInputsFrom_X0_unpack : GoodIn wsX5_tryInputsFrom (wsV RX5 60 RX0 yX0_unpack wsX0_unpack) := goodIn_app (goodIn_of _ (by decide +kernel)) ggX5_tryInputsFrom_X0_unpack
set_option maxRecDepth 20000 in
theorem ggX5_tryInputsFrom_X0_stands : GoodIn wsX5_tryInputsFrom wsX0_stands := goodIn_r _ [14, 8, 7, 15, 16, 17, 5, 18, 9, 19, 20, 21, 22, 23, 24, 85, 86, 87, 88, 89, 90, 91, 92] (by decide +kernel) (by decide +kernel)
set_option maxRecDepth 20000 in
theorem gX5_tryInputsFrom_X0_stands : GoodIn wsX5_tryInputsFrom (wsV RX5 63 RX0 yX0_stands wsX0_stands) := goodIn_app (goodIn_of _ (by decide +kernel)) ggX5_tryInputsFrom_X0_stands
set_option maxRecDepth 20000 in
theorem ggX5_tryInputsFrom_X0_move : GoodIn wsX5_tryInputsFrom wsX0_move := goodIn_r _ [28, 8, 10, 29, 12, 13, 5, 14, 7, 15, 16, 17, 18, 9, 19, 20, 21, 22, 23, 24, 30, 31, 32, 33, 34, 35, 36, 37, 38, 39, 40, 41, 42, 43, 44, 45, 46, 47, 48, 49, 50, 51, 52, 53, 54, 85, 86, 87, 88, 89, 90, 91, 92] (by decide +kernel) (by decide +kernel)
set_option maxRecDepth 20000 in
theorem gX5_tryInputsFrom_X0_move : GoodIn wsX5_tryInputsFrom (wsV RX5 67 RX0 yX0_move wsX0_move) := goodIn_app (goodIn_of _ (by decide +kernel)) ggX5_tryInputsFrom_X0_move
set_option maxRecDepth 20000 in
theorem ggX5_tryInputsFrom_X5_noteBody : GoodIn wsX5_tryInputsFrom wsX5_noteBody := goodIn_r _ [59, 1, 60, 61, 38, 39, 40, 62, 63, 64, 5, 65, 7, 8, 9, 66, 67, 68, 58, 69, 70, 71, 72, 73, 74, 75, 76, 77, 78, 79, 80, 81, 82, 83, 84, 85, 86, 87, 88, 89] (by decide +kernel) (by decide +kernel)
set_option maxRecDepth 20000 in
theorem gX5_tryInputsFrom_X5_noteBody : GoodIn wsX5_tryInputsFrom (wsV RX5 48 RX5 yX5_noteBody wsX5_noteBody) := goodIn_app (goodIn_of _ (by decide +kernel)) ggX5_tryInputsFrom_X5_noteBody
theorem dX5_tryInputsFrom_0 : decode cX5_tryInputsFrom 0 = .ok (.aload_n 0, 1) := by decide +kernel
theorem dX5_tryInputsFrom_1 : decode cX5_tryInputsFrom 1 = .ok (.getfield 37, 3) := by decide +kernel
theorem dX5_tryInputsFrom_4 : decode cX5_tryInputsFrom 4 = .ok (.iload_n 2, 1) := by decide +kernel
theorem dX5_tryInputsFrom_5 : decode cX5_tryInputsFrom 5 = .ok (.invokevirtual 60, 3) := by decide +kernel
theorem dX5_tryInputsFrom_8 : decode cX5_tryInputsFrom 8 = .ok (.aload_n 0, 1) := by decide +kernel
theorem dX5_tryInputsFrom_9 : decode cX5_tryInputsFrom 9 = .ok (.getfield 37, 3) := by decide +kernel
theorem dX5_tryInputsFrom_12 : decode cX5_tryInputsFrom 12 = .ok (.aload_n 1, 1) := by decide +kernel
theorem dX5_tryInputsFrom_13 : decode cX5_tryInputsFrom 13 = .ok (.invokevirtual 63, 3) := by decide +kernel
theorem dX5_tryInputsFrom_16 : decode cX5_tryInputsFrom 16 = .ok (.ifCond .eq 8, 3) := by decide +kernel
theorem dX5_tryInputsFrom_19 : decode cX5_tryInputsFrom 19 = .ok (.bipush 6, 2) := by decide +kernel
theorem dX5_tryInputsFrom_21 : decode cX5_tryInputsFrom 21 = .ok (.goto 4, 3) := by decide +kernel
theorem dX5_tryInputsFrom_24 : decode cX5_tryInputsFrom 24 = .ok (.iconst 3, 1) := by decide +kernel
theorem dX5_tryInputsFrom_25 : decode cX5_tryInputsFrom 25 = .ok (.istore 4, 2) := by decide +kernel
theorem dX5_tryInputsFrom_27 : decode cX5_tryInputsFrom 27 = .ok (.iconst 0, 1) := by decide +kernel
theorem dX5_tryInputsFrom_28 : decode cX5_tryInputsFrom 28 = .ok (.istore 5, 2) := by decide +kernel
theorem dX5_tryInputsFrom_30 : decode cX5_tryInputsFrom 30 = .ok (.iload 5, 2) := by decide +kernel
theorem dX5_tryInputsFrom_32 : decode cX5_tryInputsFrom 32 = .ok (.iload 4, 2) := by decide +kernel
theorem dX5_tryInputsFrom_34 : decode cX5_tryInputsFrom 34 = .ok (.if_icmp .ge 32, 3) := by decide +kernel
theorem dX5_tryInputsFrom_37 : decode cX5_tryInputsFrom 37 = .ok (.aload_n 0, 1) := by decide +kernel
theorem dX5_tryInputsFrom_38 : decode cX5_tryInputsFrom 38 = .ok (.getfield 37, 3) := by decide +kernel
theorem dX5_tryInputsFrom_41 : decode cX5_tryInputsFrom 41 = .ok (.iload_n 2, 1) := by decide +kernel
theorem dX5_tryInputsFrom_42 : decode cX5_tryInputsFrom 42 = .ok (.invokevirtual 60, 3) := by decide +kernel
theorem dX5_tryInputsFrom_45 : decode cX5_tryInputsFrom 45 = .ok (.aload_n 0, 1) := by decide +kernel
theorem dX5_tryInputsFrom_46 : decode cX5_tryInputsFrom 46 = .ok (.getfield 37, 3) := by decide +kernel
theorem dX5_tryInputsFrom_49 : decode cX5_tryInputsFrom 49 = .ok (.aload_n 1, 1) := by decide +kernel
theorem dX5_tryInputsFrom_50 : decode cX5_tryInputsFrom 50 = .ok (.iload 5, 2) := by decide +kernel
theorem dX5_tryInputsFrom_52 : decode cX5_tryInputsFrom 52 = .ok (.invokevirtual 67, 3) := by decide +kernel
theorem dX5_tryInputsFrom_55 : decode cX5_tryInputsFrom 55 = .ok (.aload_n 0, 1) := by decide +kernel
theorem dX5_tryInputsFrom_56 : decode cX5_tryInputsFrom 56 = .ok (.iload_n 3, 1) := by decide +kernel
theorem dX5_tryInputsFrom_57 : decode cX5_tryInputsFrom 57 = .ok (.invokevirtual 48, 3) := by decide +kernel
theorem dX5_tryInputsFrom_60 : decode cX5_tryInputsFrom 60 = .ok (.iinc 5 1, 3) := by decide +kernel
theorem dX5_tryInputsFrom_63 : decode cX5_tryInputsFrom 63 = .ok (.goto (-33), 3) := by decide +kernel
theorem dX5_tryInputsFrom_66 : decode cX5_tryInputsFrom 66 = .ok (.return_, 1) := by decide +kernel
set_option maxRecDepth 20000 in
theorem ggX5_noteBody_X7_isCell : GoodIn wsX5_noteBody wsX7_isCell := goodIn_r _ [6] (by decide +kernel) (by decide +kernel)
set_option maxRecDepth 20000 in
theorem gX5_noteBody_X7_isCell_n76 : GoodIn wsX5_noteBody (wsX7_isCell) := ggX5_noteBody_X7_isCell
set_option maxRecDepth 20000 in
theorem ggX5_noteBody_X0_packed : GoodIn wsX5_noteBody wsX0_packed := goodIn_r _ [11, 12, 13, 14, 35, 36, 37, 38, 39] (by decide +kernel) (by decide +kernel)
set_option maxRecDepth 20000 in
theorem gX5_noteBody_X0_packed : GoodIn wsX5_noteBody (wsV RX5 80 RX0 yX0_packed wsX0_packed) := goodIn_app (goodIn_of _ (by decide +kernel)) ggX5_noteBody_X0_packed
set_option maxRecDepth 20000 in
theorem ggX5_noteBody_X5_enqueueNew : GoodIn wsX5_noteBody wsX5_enqueueNew := goodIn_r _ [19, 20, 21, 22, 23, 24, 18, 25, 26, 27, 28, 29, 30, 31, 32, 33, 34] (by decide +kernel) (by decide +kernel)
set_option maxRecDepth 20000 in
theorem gX5_noteBody_X5_enqueueNew : GoodIn wsX5_noteBody (wsV RX5 84 RX5 yX5_enqueueNew wsX5_enqueueNew) := goodIn_app (goodIn_of _ (by decide +kernel)) ggX5_noteBody_X5_enqueueNew
theorem dX5_noteBody_0 : decode cX5_noteBody 0 = .ok (.aload_n 0, 1) := by decide +kernel
theorem dX5_noteBody_1 : decode cX5_noteBody 1 = .ok (.getfield 37, 3) := by decide +kernel
theorem dX5_noteBody_4 : decode cX5_noteBody 4 = .ok (.getfield 70, 3) := by decide +kernel
theorem dX5_noteBody_7 : decode cX5_noteBody 7 = .ok (.iconst 3, 1) := by decide +kernel
theorem dX5_noteBody_8 : decode cX5_noteBody 8 = .ok (.if_icmp .eq 16, 3) := by decide +kernel
theorem dX5_noteBody_11 : decode cX5_noteBody 11 = .ok (.aload_n 0, 1) := by decide +kernel
theorem dX5_noteBody_12 : decode cX5_noteBody 12 = .ok (.getfield 37, 3) := by decide +kernel
theorem dX5_noteBody_15 : decode cX5_noteBody 15 = .ok (.getfield 73, 3) := by decide +kernel
theorem dX5_noteBody_18 : decode cX5_noteBody 18 = .ok (.invokestatic 76, 3) := by decide +kernel
theorem dX5_noteBody_21 : decode cX5_noteBody 21 = .ok (.ifCond .ne 4, 3) := by decide +kernel
theorem dX5_noteBody_24 : decode cX5_noteBody 24 = .ok (.return_, 1) := by decide +kernel
theorem dX5_noteBody_25 : decode cX5_noteBody 25 = .ok (.aload_n 0, 1) := by decide +kernel
theorem dX5_noteBody_26 : decode cX5_noteBody 26 = .ok (.getfield 18, 3) := by decide +kernel
theorem dX5_noteBody_29 : decode cX5_noteBody 29 = .ok (.aload_n 0, 1) := by decide +kernel
theorem dX5_noteBody_30 : decode cX5_noteBody 30 = .ok (.getfield 37, 3) := by decide +kernel
theorem dX5_noteBody_33 : decode cX5_noteBody 33 = .ok (.getfield 73, 3) := by decide +kernel
theorem dX5_noteBody_36 : decode cX5_noteBody 36 = .ok (.iconst 1, 1) := by decide +kernel
theorem dX5_noteBody_37 : decode cX5_noteBody 37 = .ok (.bastore, 1) := by decide +kernel
theorem dX5_noteBody_38 : decode cX5_noteBody 38 = .ok (.aload_n 0, 1) := by decide +kernel
theorem dX5_noteBody_39 : decode cX5_noteBody 39 = .ok (.getfield 37, 3) := by decide +kernel
theorem dX5_noteBody_42 : decode cX5_noteBody 42 = .ok (.getfield 70, 3) := by decide +kernel
theorem dX5_noteBody_45 : decode cX5_noteBody 45 = .ok (.iconst 1, 1) := by decide +kernel
theorem dX5_noteBody_46 : decode cX5_noteBody 46 = .ok (.if_icmp .ne 17, 3) := by decide +kernel
theorem dX5_noteBody_49 : decode cX5_noteBody 49 = .ok (.aload_n 0, 1) := by decide +kernel
theorem dX5_noteBody_50 : decode cX5_noteBody 50 = .ok (.aload_n 0, 1) := by decide +kernel
theorem dX5_noteBody_51 : decode cX5_noteBody 51 = .ok (.getfield 37, 3) := by decide +kernel
theorem dX5_noteBody_54 : decode cX5_noteBody 54 = .ok (.invokevirtual 80, 3) := by decide +kernel
theorem dX5_noteBody_57 : decode cX5_noteBody 57 = .ok (.invokevirtual 84, 3) := by decide +kernel
theorem dX5_noteBody_60 : decode cX5_noteBody 60 = .ok (.goto 15, 3) := by decide +kernel
theorem dX5_noteBody_63 : decode cX5_noteBody 63 = .ok (.aload_n 0, 1) := by decide +kernel
theorem dX5_noteBody_64 : decode cX5_noteBody 64 = .ok (.getfield 29, 3) := by decide +kernel
theorem dX5_noteBody_67 : decode cX5_noteBody 67 = .ok (.ifCond .ge 8, 3) := by decide +kernel
theorem dX5_noteBody_70 : decode cX5_noteBody 70 = .ok (.aload_n 0, 1) := by decide +kernel
theorem dX5_noteBody_71 : decode cX5_noteBody 71 = .ok (.iload_n 1, 1) := by decide +kernel
theorem dX5_noteBody_72 : decode cX5_noteBody 72 = .ok (.putfield 29, 3) := by decide +kernel
theorem dX5_noteBody_75 : decode cX5_noteBody 75 = .ok (.return_, 1) := by decide +kernel
set_option maxRecDepth 20000 in
theorem ggX5_enqueueNew_X5_enqueue : GoodIn wsX5_enqueueNew wsX5_enqueue := goodIn_r _ [7, 8, 9, 10, 11, 12, 13, 14, 15, 16] (by decide +kernel) (by decide +kernel)
set_option maxRecDepth 20000 in
theorem gX5_enqueueNew_X5_enqueue : GoodIn wsX5_enqueueNew (wsV RX5 87 RX5 yX5_enqueue wsX5_enqueue) := goodIn_app (goodIn_of _ (by decide +kernel)) ggX5_enqueueNew_X5_enqueue
theorem dX5_enqueueNew_0 : decode cX5_enqueueNew 0 = .ok (.iload_n 1, 1) := by decide +kernel
theorem dX5_enqueueNew_1 : decode cX5_enqueueNew 1 = .ok (.ifCond .lt 40, 3) := by decide +kernel
theorem dX5_enqueueNew_4 : decode cX5_enqueueNew 4 = .ok (.iload_n 1, 1) := by decide +kernel
theorem dX5_enqueueNew_5 : decode cX5_enqueueNew 5 = .ok (.aload_n 0, 1) := by decide +kernel
theorem dX5_enqueueNew_6 : decode cX5_enqueueNew 6 = .ok (.getfield 15, 3) := by decide +kernel
theorem dX5_enqueueNew_9 : decode cX5_enqueueNew 9 = .ok (.arraylength, 1) := by decide +kernel
theorem dX5_enqueueNew_10 : decode cX5_enqueueNew 10 = .ok (.if_icmp .ge 31, 3) := by decide +kernel
theorem dX5_enqueueNew_13 : decode cX5_enqueueNew 13 = .ok (.aload_n 0, 1) := by decide +kernel
theorem dX5_enqueueNew_14 : decode cX5_enqueueNew 14 = .ok (.getfield 15, 3) := by decide +kernel
theorem dX5_enqueueNew_17 : decode cX5_enqueueNew 17 = .ok (.iload_n 1, 1) := by decide +kernel
theorem dX5_enqueueNew_18 : decode cX5_enqueueNew 18 = .ok (.iaload, 1) := by decide +kernel
theorem dX5_enqueueNew_19 : decode cX5_enqueueNew 19 = .ok (.aload_n 0, 1) := by decide +kernel
theorem dX5_enqueueNew_20 : decode cX5_enqueueNew 20 = .ok (.getfield 22, 3) := by decide +kernel
theorem dX5_enqueueNew_23 : decode cX5_enqueueNew 23 = .ok (.if_icmp .eq 18, 3) := by decide +kernel
theorem dX5_enqueueNew_26 : decode cX5_enqueueNew 26 = .ok (.aload_n 0, 1) := by decide +kernel
theorem dX5_enqueueNew_27 : decode cX5_enqueueNew 27 = .ok (.getfield 15, 3) := by decide +kernel
theorem dX5_enqueueNew_30 : decode cX5_enqueueNew 30 = .ok (.iload_n 1, 1) := by decide +kernel
theorem dX5_enqueueNew_31 : decode cX5_enqueueNew 31 = .ok (.aload_n 0, 1) := by decide +kernel
theorem dX5_enqueueNew_32 : decode cX5_enqueueNew 32 = .ok (.getfield 22, 3) := by decide +kernel
theorem dX5_enqueueNew_35 : decode cX5_enqueueNew 35 = .ok (.iastore, 1) := by decide +kernel
theorem dX5_enqueueNew_36 : decode cX5_enqueueNew 36 = .ok (.aload_n 0, 1) := by decide +kernel
theorem dX5_enqueueNew_37 : decode cX5_enqueueNew 37 = .ok (.iload_n 1, 1) := by decide +kernel
theorem dX5_enqueueNew_38 : decode cX5_enqueueNew 38 = .ok (.invokevirtual 87, 3) := by decide +kernel
theorem dX5_enqueueNew_41 : decode cX5_enqueueNew 41 = .ok (.return_, 1) := by decide +kernel
theorem dX5_enqueue_0 : decode cX5_enqueue 0 = .ok (.aload_n 0, 1) := by decide +kernel
theorem dX5_enqueue_1 : decode cX5_enqueue 1 = .ok (.getfield 26, 3) := by decide +kernel
theorem dX5_enqueue_4 : decode cX5_enqueue 4 = .ok (.ifCond .lt 35, 3) := by decide +kernel
theorem dX5_enqueue_7 : decode cX5_enqueue 7 = .ok (.aload_n 0, 1) := by decide +kernel
theorem dX5_enqueue_8 : decode cX5_enqueue 8 = .ok (.getfield 26, 3) := by decide +kernel
theorem dX5_enqueue_11 : decode cX5_enqueue 11 = .ok (.aload_n 0, 1) := by decide +kernel
theorem dX5_enqueue_12 : decode cX5_enqueue 12 = .ok (.getfield 9, 3) := by decide +kernel
theorem dX5_enqueue_15 : decode cX5_enqueue 15 = .ok (.arraylength, 1) := by decide +kernel
theorem dX5_enqueue_16 : decode cX5_enqueue 16 = .ok (.if_icmp .ge 23, 3) := by decide +kernel
theorem dX5_enqueue_19 : decode cX5_enqueue 19 = .ok (.aload_n 0, 1) := by decide +kernel
theorem dX5_enqueue_20 : decode cX5_enqueue 20 = .ok (.getfield 9, 3) := by decide +kernel
theorem dX5_enqueue_23 : decode cX5_enqueue 23 = .ok (.aload_n 0, 1) := by decide +kernel
theorem dX5_enqueue_24 : decode cX5_enqueue 24 = .ok (.getfield 26, 3) := by decide +kernel
theorem dX5_enqueue_27 : decode cX5_enqueue 27 = .ok (.iload_n 1, 1) := by decide +kernel
theorem dX5_enqueue_28 : decode cX5_enqueue 28 = .ok (.iastore, 1) := by decide +kernel
theorem dX5_enqueue_29 : decode cX5_enqueue 29 = .ok (.aload_n 0, 1) := by decide +kernel
theorem dX5_enqueue_30 : decode cX5_enqueue 30 = .ok (.dup, 1) := by decide +kernel
theorem dX5_enqueue_31 : decode cX5_enqueue 31 = .ok (.getfield 26, 3) := by decide +kernel
theorem dX5_enqueue_34 : decode cX5_enqueue 34 = .ok (.iconst 1, 1) := by decide +kernel
theorem dX5_enqueue_35 : decode cX5_enqueue 35 = .ok (.iadd, 1) := by decide +kernel
theorem dX5_enqueue_36 : decode cX5_enqueue 36 = .ok (.putfield 26, 3) := by decide +kernel
theorem dX5_enqueue_39 : decode cX5_enqueue 39 = .ok (.return_, 1) := by decide +kernel
theorem dX5_queuedAt_0 : decode cX5_queuedAt 0 = .ok (.iload_n 1, 1) := by decide +kernel
theorem dX5_queuedAt_1 : decode cX5_queuedAt 1 = .ok (.ifCond .lt 21, 3) := by decide +kernel
theorem dX5_queuedAt_4 : decode cX5_queuedAt 4 = .ok (.iload_n 1, 1) := by decide +kernel
theorem dX5_queuedAt_5 : decode cX5_queuedAt 5 = .ok (.aload_n 0, 1) := by decide +kernel
theorem dX5_queuedAt_6 : decode cX5_queuedAt 6 = .ok (.getfield 9, 3) := by decide +kernel
theorem dX5_queuedAt_9 : decode cX5_queuedAt 9 = .ok (.arraylength, 1) := by decide +kernel
theorem dX5_queuedAt_10 : decode cX5_queuedAt 10 = .ok (.if_icmp .ge 12, 3) := by decide +kernel
theorem dX5_queuedAt_13 : decode cX5_queuedAt 13 = .ok (.aload_n 0, 1) := by decide +kernel
theorem dX5_queuedAt_14 : decode cX5_queuedAt 14 = .ok (.getfield 9, 3) := by decide +kernel
theorem dX5_queuedAt_17 : decode cX5_queuedAt 17 = .ok (.iload_n 1, 1) := by decide +kernel
theorem dX5_queuedAt_18 : decode cX5_queuedAt 18 = .ok (.iaload, 1) := by decide +kernel
theorem dX5_queuedAt_19 : decode cX5_queuedAt 19 = .ok (.goto 4, 3) := by decide +kernel
theorem dX5_queuedAt_22 : decode cX5_queuedAt 22 = .ok (.iconst 0, 1) := by decide +kernel
theorem dX5_queuedAt_23 : decode cX5_queuedAt 23 = .ok (.ireturn, 1) := by decide +kernel
set_option maxRecDepth 20000 in
theorem ggX5_fewestStepsByRows_X5_restart : GoodIn wsX5_fewestStepsByRows wsX5_restart := goodIn_r _ [7, 8, 2, 9, 10, 84, 85, 86, 87, 88, 89, 90] (by decide +kernel) (by decide +kernel)
set_option maxRecDepth 20000 in
theorem gX5_fewestStepsByRows_X5_restart : GoodIn wsX5_fewestStepsByRows (wsV RX5 41 RX5 yX5_restart wsX5_restart) := goodIn_app (goodIn_of _ (by decide +kernel)) ggX5_fewestStepsByRows_X5_restart
set_option maxRecDepth 20000 in
theorem ggX5_fewestStepsByRows_X0_placeAtStart : GoodIn wsX5_fewestStepsByRows wsX0_placeAtStart := goodIn_r _ [15, 16, 17, 18, 19, 20, 21, 14, 22, 23, 24, 25, 26, 27, 28, 29, 30, 31, 32, 33, 34, 35, 36, 37, 91, 92, 93, 94, 95, 96, 97, 98] (by decide +kernel) (by decide +kernel)
set_option maxRecDepth 20000 in
theorem gX5_fewestStepsByRows_X0_placeAtStart : GoodIn wsX5_fewestStepsByRows (wsV RX5 44 RX0 yX0_placeAtStart wsX0_placeAtStart) := goodIn_app (goodIn_of _ (by decide +kernel)) ggX5_fewestStepsByRows_X0_placeAtStart
set_option maxRecDepth 20000 in
theorem ggX5_fewestStepsByRows_X0_packed : GoodIn wsX5_fewestStepsByRows wsX0_packed := goodIn_r _ [41, 23, 16, 17, 91, 92, 93, 94, 95] (by decide +kernel) (by decide +kernel)
set_option maxRecDepth 20000 in
theorem gX5_fewestStepsByRows_X0_packed : GoodIn wsX5_fewestStepsByRows (wsV RX5 80 RX0 yX0_packed wsX0_packed) := goodIn_app (goodIn_of _ (by decide +kernel)) ggX5_fewestStepsByRows_X0_packed
set_option maxRecDepth 20000 in
theorem ggX5_fewestStepsByRows_X5_enqueue : GoodIn wsX5_fewestStepsByRows wsX5_enqueue := goodIn_r _ [45, 2, 46, 84, 85, 86, 87, 88, 89, 90] (by decide +kernel) (by decide +kernel)
set_option maxRecDepth 20000 in
theorem gX5_fewestStepsByRows_X5_enqueue : GoodIn wsX5_fewestStepsByRows (wsV RX5 87 RX5 yX5_enqueue wsX5_enqueue) := goodIn_app (goodIn_of _ (by decide +kernel)) ggX5_fewestStepsByRows_X5_enqueue
set_option maxRecDepth 20000 in
theorem ggX5_fewestStepsByRows_X5_queuedAt : GoodIn wsX5_fewestStepsByRows wsX5_queuedAt := goodIn_r _ [50, 46, 84, 85, 86, 87, 88, 89, 90] (by decide +kernel) (by decide +kernel)
set_option maxRecDepth 20000 in
theorem gX5_fewestStepsByRows_X5_queuedAt : GoodIn wsX5_fewestStepsByRows (wsV RX5 52 RX5 yX5_queuedAt wsX5_queuedAt) := goodIn_app (goodIn_of _ (by decide +kernel)) ggX5_fewestStepsByRows_X5_queuedAt
set_option maxRecDepth 20000 in
theorem ggX5_fewestStepsByRows_X5_winsByOneMore : GoodIn wsX5_fewestStepsByRows wsX5_winsByOneMore := goodIn_r _ [54, 1, 55, 56, 57, 14, 58, 23, 16, 17, 18, 59, 60, 61, 62, 63, 64, 65, 66, 67, 68, 69, 70, 27, 28, 29, 30, 31, 32, 71, 72, 73, 74, 19, 20, 21, 22, 24, 25, 26, 33, 34, 35, 36, 37, 75, 76, 77, 78, 79, 80, 81, 82, 83, 38, 39, 40, 41, 42, 43, 44, 6, 45, 2, 46, 84, 85, 86, 87, 88, 89, 90, 91, 92, 93, 94, 95, 96, 97, 98] (by decide +kernel) (by decide +kernel)
set_option maxRecDepth 20000 in
theorem gX5_fewestStepsByRows_X5_winsByOneMore : GoodIn wsX5_fewestStepsByRows (wsV RX5 90 RX5 yX5_winsByOneMore wsX5_winsByOneMore) := goodIn_app (goodIn_of _ (by decide +kernel)) ggX5_fewestStepsByRows_X5_winsByOneMore
theorem dX5_fewestStepsByRows_0 : decode cX5_fewestStepsByRows 0 = .ok (.aload_n 0, 1) := by decide +kernel
theorem dX5_fewestStepsByRows_1 : decode cX5_fewestStepsByRows 1 = .ok (.invokevirtual 41, 3) := by decide +kernel
theorem dX5_fewestStepsByRows_4 : decode cX5_fewestStepsByRows 4 = .ok (.aload_n 0, 1) := by decide +kernel
theorem dX5_fewestStepsByRows_5 : decode cX5_fewestStepsByRows 5 = .ok (.getfield 37, 3) := by decide +kernel
theorem dX5_fewestStepsByRows_8 : decode cX5_fewestStepsByRows 8 = .ok (.aload_n 1, 1) := by decide +kernel
theorem dX5_fewestStepsByRows_9 : decode cX5_fewestStepsByRows 9 = .ok (.iload_n 2, 1) := by decide +kernel
theorem dX5_fewestStepsByRows_10 : decode cX5_fewestStepsByRows 10 = .ok (.invokevirtual 44, 3) := by decide +kernel
theorem dX5_fewestStepsByRows_13 : decode cX5_fewestStepsByRows 13 = .ok (.aload_n 0, 1) := by decide +kernel
theorem dX5_fewestStepsByRows_14 : decode cX5_fewestStepsByRows 14 = .ok (.getfield 37, 3) := by decide +kernel
theorem dX5_fewestStepsByRows_17 : decode cX5_fewestStepsByRows 17 = .ok (.getfield 70, 3) := by decide +kernel
theorem dX5_fewestStepsByRows_20 : decode cX5_fewestStepsByRows 20 = .ok (.iconst 1, 1) := by decide +kernel
theorem dX5_fewestStepsByRows_21 : decode cX5_fewestStepsByRows 21 = .ok (.if_icmp .eq 20, 3) := by decide +kernel
theorem dX5_fewestStepsByRows_24 : decode cX5_fewestStepsByRows 24 = .ok (.aload_n 0, 1) := by decide +kernel
theorem dX5_fewestStepsByRows_25 : decode cX5_fewestStepsByRows 25 = .ok (.getfield 37, 3) := by decide +kernel
theorem dX5_fewestStepsByRows_28 : decode cX5_fewestStepsByRows 28 = .ok (.getfield 70, 3) := by decide +kernel
theorem dX5_fewestStepsByRows_31 : decode cX5_fewestStepsByRows 31 = .ok (.iconst 2, 1) := by decide +kernel
theorem dX5_fewestStepsByRows_32 : decode cX5_fewestStepsByRows 32 = .ok (.if_icmp .ne 7, 3) := by decide +kernel
theorem dX5_fewestStepsByRows_35 : decode cX5_fewestStepsByRows 35 = .ok (.iconst 0, 1) := by decide +kernel
theorem dX5_fewestStepsByRows_36 : decode cX5_fewestStepsByRows 36 = .ok (.goto 4, 3) := by decide +kernel
theorem dX5_fewestStepsByRows_39 : decode cX5_fewestStepsByRows 39 = .ok (.iconst (-1), 1) := by decide +kernel
theorem dX5_fewestStepsByRows_40 : decode cX5_fewestStepsByRows 40 = .ok (.ireturn, 1) := by decide +kernel
theorem dX5_fewestStepsByRows_41 : decode cX5_fewestStepsByRows 41 = .ok (.aload_n 0, 1) := by decide +kernel
theorem dX5_fewestStepsByRows_42 : decode cX5_fewestStepsByRows 42 = .ok (.aload_n 0, 1) := by decide +kernel
theorem dX5_fewestStepsByRows_43 : decode cX5_fewestStepsByRows 43 = .ok (.getfield 37, 3) := by decide +kernel
theorem dX5_fewestStepsByRows_46 : decode cX5_fewestStepsByRows 46 = .ok (.invokevirtual 80, 3) := by decide +kernel
theorem dX5_fewestStepsByRows_49 : decode cX5_fewestStepsByRows 49 = .ok (.invokevirtual 87, 3) := by decide +kernel
theorem dX5_fewestStepsByRows_52 : decode cX5_fewestStepsByRows 52 = .ok (.iconst 0, 1) := by decide +kernel
theorem dX5_fewestStepsByRows_53 : decode cX5_fewestStepsByRows 53 = .ok (.istore 4, 2) := by decide +kernel
theorem dX5_fewestStepsByRows_55 : decode cX5_fewestStepsByRows 55 = .ok (.iconst 1, 1) := by decide +kernel
theorem dX5_fewestStepsByRows_56 : decode cX5_fewestStepsByRows 56 = .ok (.istore 5, 2) := by decide +kernel
theorem dX5_fewestStepsByRows_58 : decode cX5_fewestStepsByRows 58 = .ok (.iload 5, 2) := by decide +kernel
theorem dX5_fewestStepsByRows_60 : decode cX5_fewestStepsByRows 60 = .ok (.iload_n 3, 1) := by decide +kernel
theorem dX5_fewestStepsByRows_61 : decode cX5_fewestStepsByRows 61 = .ok (.if_icmp .gt 64, 3) := by decide +kernel
theorem dX5_fewestStepsByRows_64 : decode cX5_fewestStepsByRows 64 = .ok (.aload_n 0, 1) := by decide +kernel
theorem dX5_fewestStepsByRows_65 : decode cX5_fewestStepsByRows 65 = .ok (.getfield 26, 3) := by decide +kernel
theorem dX5_fewestStepsByRows_68 : decode cX5_fewestStepsByRows 68 = .ok (.istore 6, 2) := by decide +kernel
theorem dX5_fewestStepsByRows_70 : decode cX5_fewestStepsByRows 70 = .ok (.iload 4, 2) := by decide +kernel
theorem dX5_fewestStepsByRows_72 : decode cX5_fewestStepsByRows 72 = .ok (.istore 7, 2) := by decide +kernel
theorem dX5_fewestStepsByRows_74 : decode cX5_fewestStepsByRows 74 = .ok (.iload 7, 2) := by decide +kernel
theorem dX5_fewestStepsByRows_76 : decode cX5_fewestStepsByRows 76 = .ok (.iload 6, 2) := by decide +kernel
theorem dX5_fewestStepsByRows_78 : decode cX5_fewestStepsByRows 78 = .ok (.if_icmp .ge 37, 3) := by decide +kernel
theorem dX5_fewestStepsByRows_81 : decode cX5_fewestStepsByRows 81 = .ok (.aload_n 0, 1) := by decide +kernel
theorem dX5_fewestStepsByRows_82 : decode cX5_fewestStepsByRows 82 = .ok (.aload_n 1, 1) := by decide +kernel
theorem dX5_fewestStepsByRows_83 : decode cX5_fewestStepsByRows 83 = .ok (.aload_n 0, 1) := by decide +kernel
theorem dX5_fewestStepsByRows_84 : decode cX5_fewestStepsByRows 84 = .ok (.iload 7, 2) := by decide +kernel
theorem dX5_fewestStepsByRows_86 : decode cX5_fewestStepsByRows 86 = .ok (.invokevirtual 52, 3) := by decide +kernel
theorem dX5_fewestStepsByRows_89 : decode cX5_fewestStepsByRows 89 = .ok (.iload 5, 2) := by decide +kernel
theorem dX5_fewestStepsByRows_91 : decode cX5_fewestStepsByRows 91 = .ok (.iload_n 3, 1) := by decide +kernel
theorem dX5_fewestStepsByRows_92 : decode cX5_fewestStepsByRows 92 = .ok (.if_icmp .ge 7, 3) := by decide +kernel
theorem dX5_fewestStepsByRows_95 : decode cX5_fewestStepsByRows 95 = .ok (.iconst 1, 1) := by decide +kernel
theorem dX5_fewestStepsByRows_96 : decode cX5_fewestStepsByRows 96 = .ok (.goto 4, 3) := by decide +kernel
theorem dX5_fewestStepsByRows_99 : decode cX5_fewestStepsByRows 99 = .ok (.iconst 0, 1) := by decide +kernel
theorem dX5_fewestStepsByRows_100 : decode cX5_fewestStepsByRows 100 = .ok (.invokevirtual 90, 3) := by decide +kernel
theorem dX5_fewestStepsByRows_103 : decode cX5_fewestStepsByRows 103 = .ok (.ifCond .eq 6, 3) := by decide +kernel
theorem dX5_fewestStepsByRows_106 : decode cX5_fewestStepsByRows 106 = .ok (.iload 5, 2) := by decide +kernel
theorem dX5_fewestStepsByRows_108 : decode cX5_fewestStepsByRows 108 = .ok (.ireturn, 1) := by decide +kernel
theorem dX5_fewestStepsByRows_109 : decode cX5_fewestStepsByRows 109 = .ok (.iinc 7 1, 3) := by decide +kernel
theorem dX5_fewestStepsByRows_112 : decode cX5_fewestStepsByRows 112 = .ok (.goto (-38), 3) := by decide +kernel
theorem dX5_fewestStepsByRows_115 : decode cX5_fewestStepsByRows 115 = .ok (.iload 6, 2) := by decide +kernel
theorem dX5_fewestStepsByRows_117 : decode cX5_fewestStepsByRows 117 = .ok (.istore 4, 2) := by decide +kernel
theorem dX5_fewestStepsByRows_119 : decode cX5_fewestStepsByRows 119 = .ok (.iinc 5 1, 3) := by decide +kernel
theorem dX5_fewestStepsByRows_122 : decode cX5_fewestStepsByRows 122 = .ok (.goto (-64), 3) := by decide +kernel
theorem dX5_fewestStepsByRows_125 : decode cX5_fewestStepsByRows 125 = .ok (.iconst (-1), 1) := by decide +kernel
theorem dX5_fewestStepsByRows_126 : decode cX5_fewestStepsByRows 126 = .ok (.ireturn, 1) := by decide +kernel
set_option maxRecDepth 20000 in
theorem ggX5_winsByOneMore_X0_unpack : GoodIn wsX5_winsByOneMore wsX0_unpack := goodIn_r _ [6, 7, 8, 9, 10, 72, 73, 74, 75, 76] (by decide +kernel) (by decide +kernel)
set_option maxRecDepth 20000 in
theorem gX5_winsByOneMore_X0_unpack : GoodIn wsX5_winsByOneMore (wsV RX5 60 RX0 yX0_unpack wsX0_unpack) := goodIn_app (goodIn_of _ (by decide +kernel)) ggX5_winsByOneMore_X0_unpack
set_option maxRecDepth 20000 in
theorem ggX5_winsByOneMore_X0_move : GoodIn wsX5_winsByOneMore wsX0_move := goodIn_r _ [14, 8, 10, 15, 16, 17, 5, 18, 7, 19, 20, 21, 22, 9, 23, 24, 25, 26, 27, 28, 29, 30, 31, 32, 33, 34, 35, 36, 37, 38, 39, 40, 41, 42, 43, 44, 45, 46, 47, 48, 49, 50, 51, 52, 53, 72, 73, 74, 75, 76, 77, 78, 79] (by decide +kernel) (by decide +kernel)
set_option maxRecDepth 20000 in
theorem gX5_winsByOneMore_X0_move : GoodIn wsX5_winsByOneMore (wsV RX5 67 RX0 yX0_move wsX0_move) := goodIn_app (goodIn_of _ (by decide +kernel)) ggX5_winsByOneMore_X0_move
set_option maxRecDepth 20000 in
theorem ggX5_winsByOneMore_X0_packed : GoodIn wsX5_winsByOneMore wsX0_packed := goodIn_r _ [57, 7, 8, 9, 72, 73, 74, 75, 76] (by decide +kernel) (by decide +kernel)
set_option maxRecDepth 20000 in
theorem gX5_winsByOneMore_X0_packed : GoodIn wsX5_winsByOneMore (wsV RX5 80 RX0 yX0_packed wsX0_packed) := goodIn_app (goodIn_of _ (by decide +kernel)) ggX5_winsByOneMore_X0_packed
set_option maxRecDepth 20000 in
theorem ggX5_winsByOneMore_X5_enqueue : GoodIn wsX5_winsByOneMore wsX5_enqueue := goodIn_r _ [62, 63, 64, 65, 66, 67, 68, 69, 70, 71] (by decide +kernel) (by decide +kernel)
set_option maxRecDepth 20000 in
theorem gX5_winsByOneMore_X5_enqueue : GoodIn wsX5_winsByOneMore (wsV RX5 87 RX5 yX5_enqueue wsX5_enqueue) := goodIn_app (goodIn_of _ (by decide +kernel)) ggX5_winsByOneMore_X5_enqueue
theorem dX5_winsByOneMore_0 : decode cX5_winsByOneMore 0 = .ok (.iconst 0, 1) := by decide +kernel
theorem dX5_winsByOneMore_1 : decode cX5_winsByOneMore 1 = .ok (.istore 4, 2) := by decide +kernel
theorem dX5_winsByOneMore_3 : decode cX5_winsByOneMore 3 = .ok (.iload 4, 2) := by decide +kernel
theorem dX5_winsByOneMore_5 : decode cX5_winsByOneMore 5 = .ok (.bipush 6, 2) := by decide +kernel
theorem dX5_winsByOneMore_7 : decode cX5_winsByOneMore 7 = .ok (.if_icmp .ge 66, 3) := by decide +kernel
theorem dX5_winsByOneMore_10 : decode cX5_winsByOneMore 10 = .ok (.aload_n 0, 1) := by decide +kernel
theorem dX5_winsByOneMore_11 : decode cX5_winsByOneMore 11 = .ok (.getfield 37, 3) := by decide +kernel
theorem dX5_winsByOneMore_14 : decode cX5_winsByOneMore 14 = .ok (.iload_n 2, 1) := by decide +kernel
theorem dX5_winsByOneMore_15 : decode cX5_winsByOneMore 15 = .ok (.invokevirtual 60, 3) := by decide +kernel
theorem dX5_winsByOneMore_18 : decode cX5_winsByOneMore 18 = .ok (.aload_n 0, 1) := by decide +kernel
theorem dX5_winsByOneMore_19 : decode cX5_winsByOneMore 19 = .ok (.getfield 37, 3) := by decide +kernel
theorem dX5_winsByOneMore_22 : decode cX5_winsByOneMore 22 = .ok (.aload_n 1, 1) := by decide +kernel
theorem dX5_winsByOneMore_23 : decode cX5_winsByOneMore 23 = .ok (.iload 4, 2) := by decide +kernel
theorem dX5_winsByOneMore_25 : decode cX5_winsByOneMore 25 = .ok (.invokevirtual 67, 3) := by decide +kernel
theorem dX5_winsByOneMore_28 : decode cX5_winsByOneMore 28 = .ok (.aload_n 0, 1) := by decide +kernel
theorem dX5_winsByOneMore_29 : decode cX5_winsByOneMore 29 = .ok (.getfield 37, 3) := by decide +kernel
theorem dX5_winsByOneMore_32 : decode cX5_winsByOneMore 32 = .ok (.getfield 70, 3) := by decide +kernel
theorem dX5_winsByOneMore_35 : decode cX5_winsByOneMore 35 = .ok (.iconst 2, 1) := by decide +kernel
theorem dX5_winsByOneMore_36 : decode cX5_winsByOneMore 36 = .ok (.if_icmp .ne 5, 3) := by decide +kernel
theorem dX5_winsByOneMore_39 : decode cX5_winsByOneMore 39 = .ok (.iconst 1, 1) := by decide +kernel
theorem dX5_winsByOneMore_40 : decode cX5_winsByOneMore 40 = .ok (.ireturn, 1) := by decide +kernel
theorem dX5_winsByOneMore_41 : decode cX5_winsByOneMore 41 = .ok (.iload_n 3, 1) := by decide +kernel
theorem dX5_winsByOneMore_42 : decode cX5_winsByOneMore 42 = .ok (.ifCond .eq 25, 3) := by decide +kernel
theorem dX5_winsByOneMore_45 : decode cX5_winsByOneMore 45 = .ok (.aload_n 0, 1) := by decide +kernel
theorem dX5_winsByOneMore_46 : decode cX5_winsByOneMore 46 = .ok (.getfield 37, 3) := by decide +kernel
theorem dX5_winsByOneMore_49 : decode cX5_winsByOneMore 49 = .ok (.getfield 70, 3) := by decide +kernel
theorem dX5_winsByOneMore_52 : decode cX5_winsByOneMore 52 = .ok (.iconst 1, 1) := by decide +kernel
theorem dX5_winsByOneMore_53 : decode cX5_winsByOneMore 53 = .ok (.if_icmp .ne 14, 3) := by decide +kernel
theorem dX5_winsByOneMore_56 : decode cX5_winsByOneMore 56 = .ok (.aload_n 0, 1) := by decide +kernel
theorem dX5_winsByOneMore_57 : decode cX5_winsByOneMore 57 = .ok (.aload_n 0, 1) := by decide +kernel
theorem dX5_winsByOneMore_58 : decode cX5_winsByOneMore 58 = .ok (.getfield 37, 3) := by decide +kernel
theorem dX5_winsByOneMore_61 : decode cX5_winsByOneMore 61 = .ok (.invokevirtual 80, 3) := by decide +kernel
theorem dX5_winsByOneMore_64 : decode cX5_winsByOneMore 64 = .ok (.invokevirtual 87, 3) := by decide +kernel
theorem dX5_winsByOneMore_67 : decode cX5_winsByOneMore 67 = .ok (.iinc 4 1, 3) := by decide +kernel
theorem dX5_winsByOneMore_70 : decode cX5_winsByOneMore 70 = .ok (.goto (-67), 3) := by decide +kernel
theorem dX5_winsByOneMore_73 : decode cX5_winsByOneMore 73 = .ok (.iconst 0, 1) := by decide +kernel
theorem dX5_winsByOneMore_74 : decode cX5_winsByOneMore 74 = .ok (.ireturn, 1) := by decide +kernel
theorem dX5_reachedCount_0 : decode cX5_reachedCount 0 = .ok (.iconst 0, 1) := by decide +kernel
theorem dX5_reachedCount_1 : decode cX5_reachedCount 1 = .ok (.istore_n 1, 1) := by decide +kernel
theorem dX5_reachedCount_2 : decode cX5_reachedCount 2 = .ok (.aload_n 0, 1) := by decide +kernel
theorem dX5_reachedCount_3 : decode cX5_reachedCount 3 = .ok (.getfield 18, 3) := by decide +kernel
theorem dX5_reachedCount_6 : decode cX5_reachedCount 6 = .ok (.astore_n 2, 1) := by decide +kernel
theorem dX5_reachedCount_7 : decode cX5_reachedCount 7 = .ok (.aload_n 2, 1) := by decide +kernel
theorem dX5_reachedCount_8 : decode cX5_reachedCount 8 = .ok (.arraylength, 1) := by decide +kernel
theorem dX5_reachedCount_9 : decode cX5_reachedCount 9 = .ok (.istore_n 3, 1) := by decide +kernel
theorem dX5_reachedCount_10 : decode cX5_reachedCount 10 = .ok (.iconst 0, 1) := by decide +kernel
theorem dX5_reachedCount_11 : decode cX5_reachedCount 11 = .ok (.istore 4, 2) := by decide +kernel
theorem dX5_reachedCount_13 : decode cX5_reachedCount 13 = .ok (.iload 4, 2) := by decide +kernel
theorem dX5_reachedCount_15 : decode cX5_reachedCount 15 = .ok (.iload_n 3, 1) := by decide +kernel
theorem dX5_reachedCount_16 : decode cX5_reachedCount 16 = .ok (.if_icmp .ge 23, 3) := by decide +kernel
theorem dX5_reachedCount_19 : decode cX5_reachedCount 19 = .ok (.aload_n 2, 1) := by decide +kernel
theorem dX5_reachedCount_20 : decode cX5_reachedCount 20 = .ok (.iload 4, 2) := by decide +kernel
theorem dX5_reachedCount_22 : decode cX5_reachedCount 22 = .ok (.baload, 1) := by decide +kernel
theorem dX5_reachedCount_23 : decode cX5_reachedCount 23 = .ok (.istore 5, 2) := by decide +kernel
theorem dX5_reachedCount_25 : decode cX5_reachedCount 25 = .ok (.iload 5, 2) := by decide +kernel
theorem dX5_reachedCount_27 : decode cX5_reachedCount 27 = .ok (.ifCond .eq 6, 3) := by decide +kernel
theorem dX5_reachedCount_30 : decode cX5_reachedCount 30 = .ok (.iinc 1 1, 3) := by decide +kernel
theorem dX5_reachedCount_33 : decode cX5_reachedCount 33 = .ok (.iinc 4 1, 3) := by decide +kernel
theorem dX5_reachedCount_36 : decode cX5_reachedCount 36 = .ok (.goto (-23), 3) := by decide +kernel
theorem dX5_reachedCount_39 : decode cX5_reachedCount 39 = .ok (.iload_n 1, 1) := by decide +kernel
theorem dX5_reachedCount_40 : decode cX5_reachedCount 40 = .ok (.ireturn, 1) := by decide +kernel
set_option maxRecDepth 20000 in
theorem ggX5_farthestReached_X7_isCell : GoodIn wsX5_farthestReached wsX7_isCell := goodIn_r _ [4] (by decide +kernel) (by decide +kernel)
set_option maxRecDepth 20000 in
theorem gX5_farthestReached_X7_isCell_n76 : GoodIn wsX5_farthestReached (wsX7_isCell) := ggX5_farthestReached_X7_isCell
theorem dX5_farthestReached_0 : decode cX5_farthestReached 0 = .ok (.bipush 11, 2) := by decide +kernel
theorem dX5_farthestReached_2 : decode cX5_farthestReached 2 = .ok (.istore_n 1, 1) := by decide +kernel
theorem dX5_farthestReached_3 : decode cX5_farthestReached 3 = .ok (.iload_n 1, 1) := by decide +kernel
theorem dX5_farthestReached_4 : decode cX5_farthestReached 4 = .ok (.ifCond .lt 48, 3) := by decide +kernel
theorem dX5_farthestReached_7 : decode cX5_farthestReached 7 = .ok (.iconst 0, 1) := by decide +kernel
theorem dX5_farthestReached_8 : decode cX5_farthestReached 8 = .ok (.istore_n 2, 1) := by decide +kernel
theorem dX5_farthestReached_9 : decode cX5_farthestReached 9 = .ok (.iload_n 2, 1) := by decide +kernel
theorem dX5_farthestReached_10 : decode cX5_farthestReached 10 = .ok (.bipush 8, 2) := by decide +kernel
theorem dX5_farthestReached_12 : decode cX5_farthestReached 12 = .ok (.if_icmp .ge 34, 3) := by decide +kernel
theorem dX5_farthestReached_15 : decode cX5_farthestReached 15 = .ok (.bipush 12, 2) := by decide +kernel
theorem dX5_farthestReached_17 : decode cX5_farthestReached 17 = .ok (.iload_n 2, 1) := by decide +kernel
theorem dX5_farthestReached_18 : decode cX5_farthestReached 18 = .ok (.imul, 1) := by decide +kernel
theorem dX5_farthestReached_19 : decode cX5_farthestReached 19 = .ok (.iload_n 1, 1) := by decide +kernel
theorem dX5_farthestReached_20 : decode cX5_farthestReached 20 = .ok (.iadd, 1) := by decide +kernel
theorem dX5_farthestReached_21 : decode cX5_farthestReached 21 = .ok (.istore_n 3, 1) := by decide +kernel
theorem dX5_farthestReached_22 : decode cX5_farthestReached 22 = .ok (.iload_n 3, 1) := by decide +kernel
theorem dX5_farthestReached_23 : decode cX5_farthestReached 23 = .ok (.invokestatic 76, 3) := by decide +kernel
theorem dX5_farthestReached_26 : decode cX5_farthestReached 26 = .ok (.ifCond .eq 14, 3) := by decide +kernel
theorem dX5_farthestReached_29 : decode cX5_farthestReached 29 = .ok (.aload_n 0, 1) := by decide +kernel
theorem dX5_farthestReached_30 : decode cX5_farthestReached 30 = .ok (.getfield 18, 3) := by decide +kernel
theorem dX5_farthestReached_33 : decode cX5_farthestReached 33 = .ok (.iload_n 3, 1) := by decide +kernel
theorem dX5_farthestReached_34 : decode cX5_farthestReached 34 = .ok (.baload, 1) := by decide +kernel
theorem dX5_farthestReached_35 : decode cX5_farthestReached 35 = .ok (.ifCond .eq 5, 3) := by decide +kernel
theorem dX5_farthestReached_38 : decode cX5_farthestReached 38 = .ok (.iload_n 3, 1) := by decide +kernel
theorem dX5_farthestReached_39 : decode cX5_farthestReached 39 = .ok (.ireturn, 1) := by decide +kernel
theorem dX5_farthestReached_40 : decode cX5_farthestReached 40 = .ok (.iinc 2 1, 3) := by decide +kernel
theorem dX5_farthestReached_43 : decode cX5_farthestReached 43 = .ok (.goto (-34), 3) := by decide +kernel
theorem dX5_farthestReached_46 : decode cX5_farthestReached 46 = .ok (.iinc 1 (-1), 3) := by decide +kernel
theorem dX5_farthestReached_49 : decode cX5_farthestReached 49 = .ok (.goto (-46), 3) := by decide +kernel
theorem dX5_farthestReached_52 : decode cX5_farthestReached 52 = .ok (.iconst (-1), 1) := by decide +kernel
theorem dX5_farthestReached_53 : decode cX5_farthestReached 53 = .ok (.ireturn, 1) := by decide +kernel
set_option maxRecDepth 20000 in
theorem ggX6_init_X1_init : GoodIn wsX6_init wsX1_init := goodIn_r _ [17, 18, 2, 3, 8, 19, 20, 21, 41, 42, 43] (by decide +kernel) (by decide +kernel)
set_option maxRecDepth 20000 in
theorem gX6_init_X1_init_n11 : GoodIn wsX6_init (wsX1_init) := ggX6_init_X1_init
set_option maxRecDepth 20000 in
theorem ggX6_init_X1_putAllOf : GoodIn wsX6_init wsX1_putAllOf := goodIn_r _ [25, 26, 27, 28, 6, 29, 19, 30, 31, 32, 33, 34, 35, 36, 37, 38, 39, 40, 20, 21, 41, 42, 43] (by decide +kernel) (by decide +kernel)
set_option maxRecDepth 20000 in
theorem gX6_init_X1_putAllOf : GoodIn wsX6_init (wsV RX6 41 RX1 yX1_putAllOf wsX1_putAllOf) := goodIn_app (goodIn_of _ (by decide +kernel)) ggX6_init_X1_putAllOf
theorem dX6_init_0 : decode cX6_init 0 = .ok (.aload_n 0, 1) := by decide +kernel
theorem dX6_init_1 : decode cX6_init 1 = .ok (.invokespecial 3, 3) := by decide +kernel
theorem dX6_init_4 : decode cX6_init 4 = .ok (.aload_n 0, 1) := by decide +kernel
theorem dX6_init_5 : decode cX6_init 5 = .ok (.new 9, 3) := by decide +kernel
theorem dX6_init_8 : decode cX6_init 8 = .ok (.dup, 1) := by decide +kernel
theorem dX6_init_9 : decode cX6_init 9 = .ok (.invokespecial 11, 3) := by decide +kernel
theorem dX6_init_12 : decode cX6_init 12 = .ok (.putfield 12, 3) := by decide +kernel
theorem dX6_init_15 : decode cX6_init 15 = .ok (.aload_n 0, 1) := by decide +kernel
theorem dX6_init_16 : decode cX6_init 16 = .ok (.bipush 6, 2) := by decide +kernel
theorem dX6_init_18 : decode cX6_init 18 = .ok (.newarray .int, 2) := by decide +kernel
theorem dX6_init_20 : decode cX6_init 20 = .ok (.putfield 18, 3) := by decide +kernel
theorem dX6_init_23 : decode cX6_init 23 = .ok (.aload_n 0, 1) := by decide +kernel
theorem dX6_init_24 : decode cX6_init 24 = .ok (.iconst (-1), 1) := by decide +kernel
theorem dX6_init_25 : decode cX6_init 25 = .ok (.putfield 22, 3) := by decide +kernel
theorem dX6_init_28 : decode cX6_init 28 = .ok (.aload_n 0, 1) := by decide +kernel
theorem dX6_init_29 : decode cX6_init 29 = .ok (.iload_n 1, 1) := by decide +kernel
theorem dX6_init_30 : decode cX6_init 30 = .ok (.putfield 26, 3) := by decide +kernel
theorem dX6_init_33 : decode cX6_init 33 = .ok (.aload_n 0, 1) := by decide +kernel
theorem dX6_init_34 : decode cX6_init 34 = .ok (.aload_n 2, 1) := by decide +kernel
theorem dX6_init_35 : decode cX6_init 35 = .ok (.getfield 29, 3) := by decide +kernel
theorem dX6_init_38 : decode cX6_init 38 = .ok (.putfield 34, 3) := by decide +kernel
theorem dX6_init_41 : decode cX6_init 41 = .ok (.aload_n 0, 1) := by decide +kernel
theorem dX6_init_42 : decode cX6_init 42 = .ok (.aload_n 2, 1) := by decide +kernel
theorem dX6_init_43 : decode cX6_init 43 = .ok (.getfield 35, 3) := by decide +kernel
theorem dX6_init_46 : decode cX6_init 46 = .ok (.putfield 39, 3) := by decide +kernel
theorem dX6_init_49 : decode cX6_init 49 = .ok (.aload_n 0, 1) := by decide +kernel
theorem dX6_init_50 : decode cX6_init 50 = .ok (.getfield 12, 3) := by decide +kernel
theorem dX6_init_53 : decode cX6_init 53 = .ok (.aload_n 2, 1) := by decide +kernel
theorem dX6_init_54 : decode cX6_init 54 = .ok (.getfield 40, 3) := by decide +kernel
theorem dX6_init_57 : decode cX6_init 57 = .ok (.invokevirtual 41, 3) := by decide +kernel
theorem dX6_init_60 : decode cX6_init 60 = .ok (.aload_n 0, 1) := by decide +kernel
theorem dX6_init_61 : decode cX6_init 61 = .ok (.aload_n 2, 1) := by decide +kernel
theorem dX6_init_62 : decode cX6_init 62 = .ok (.getfield 45, 3) := by decide +kernel
theorem dX6_init_65 : decode cX6_init 65 = .ok (.putfield 48, 3) := by decide +kernel
theorem dX6_init_68 : decode cX6_init 68 = .ok (.aload_n 0, 1) := by decide +kernel
theorem dX6_init_69 : decode cX6_init 69 = .ok (.aload_n 2, 1) := by decide +kernel
theorem dX6_init_70 : decode cX6_init 70 = .ok (.getfield 49, 3) := by decide +kernel
theorem dX6_init_73 : decode cX6_init 73 = .ok (.putfield 52, 3) := by decide +kernel
theorem dX6_init_76 : decode cX6_init 76 = .ok (.return_, 1) := by decide +kernel
theorem dX6_starSum_0 : decode cX6_starSum 0 = .ok (.iconst 0, 1) := by decide +kernel
theorem dX6_starSum_1 : decode cX6_starSum 1 = .ok (.istore_n 1, 1) := by decide +kernel
theorem dX6_starSum_2 : decode cX6_starSum 2 = .ok (.aload_n 0, 1) := by decide +kernel
theorem dX6_starSum_3 : decode cX6_starSum 3 = .ok (.getfield 18, 3) := by decide +kernel
theorem dX6_starSum_6 : decode cX6_starSum 6 = .ok (.astore_n 2, 1) := by decide +kernel
theorem dX6_starSum_7 : decode cX6_starSum 7 = .ok (.aload_n 2, 1) := by decide +kernel
theorem dX6_starSum_8 : decode cX6_starSum 8 = .ok (.arraylength, 1) := by decide +kernel
theorem dX6_starSum_9 : decode cX6_starSum 9 = .ok (.istore_n 3, 1) := by decide +kernel
theorem dX6_starSum_10 : decode cX6_starSum 10 = .ok (.iconst 0, 1) := by decide +kernel
theorem dX6_starSum_11 : decode cX6_starSum 11 = .ok (.istore 4, 2) := by decide +kernel
theorem dX6_starSum_13 : decode cX6_starSum 13 = .ok (.iload 4, 2) := by decide +kernel
theorem dX6_starSum_15 : decode cX6_starSum 15 = .ok (.iload_n 3, 1) := by decide +kernel
theorem dX6_starSum_16 : decode cX6_starSum 16 = .ok (.if_icmp .ge 20, 3) := by decide +kernel
theorem dX6_starSum_19 : decode cX6_starSum 19 = .ok (.aload_n 2, 1) := by decide +kernel
theorem dX6_starSum_20 : decode cX6_starSum 20 = .ok (.iload 4, 2) := by decide +kernel
theorem dX6_starSum_22 : decode cX6_starSum 22 = .ok (.iaload, 1) := by decide +kernel
theorem dX6_starSum_23 : decode cX6_starSum 23 = .ok (.istore 5, 2) := by decide +kernel
theorem dX6_starSum_25 : decode cX6_starSum 25 = .ok (.iload_n 1, 1) := by decide +kernel
theorem dX6_starSum_26 : decode cX6_starSum 26 = .ok (.iload 5, 2) := by decide +kernel
theorem dX6_starSum_28 : decode cX6_starSum 28 = .ok (.iadd, 1) := by decide +kernel
theorem dX6_starSum_29 : decode cX6_starSum 29 = .ok (.istore_n 1, 1) := by decide +kernel
theorem dX6_starSum_30 : decode cX6_starSum 30 = .ok (.iinc 4 1, 3) := by decide +kernel
theorem dX6_starSum_33 : decode cX6_starSum 33 = .ok (.goto (-20), 3) := by decide +kernel
theorem dX6_starSum_36 : decode cX6_starSum 36 = .ok (.iload_n 1, 1) := by decide +kernel
theorem dX6_starSum_37 : decode cX6_starSum 37 = .ok (.ireturn, 1) := by decide +kernel
theorem dX6_comesFrom_0 : decode cX6_comesFrom 0 = .ok (.aload_n 0, 1) := by decide +kernel
theorem dX6_comesFrom_1 : decode cX6_comesFrom 1 = .ok (.astore_n 2, 1) := by decide +kernel
theorem dX6_comesFrom_2 : decode cX6_comesFrom 2 = .ok (.aload_n 2, 1) := by decide +kernel
theorem dX6_comesFrom_3 : decode cX6_comesFrom 3 = .ok (.ifnull 18, 3) := by decide +kernel
theorem dX6_comesFrom_6 : decode cX6_comesFrom 6 = .ok (.aload_n 2, 1) := by decide +kernel
theorem dX6_comesFrom_7 : decode cX6_comesFrom 7 = .ok (.aload_n 1, 1) := by decide +kernel
theorem dX6_comesFrom_8 : decode cX6_comesFrom 8 = .ok (.if_acmp .ne 5, 3) := by decide +kernel
theorem dX6_comesFrom_11 : decode cX6_comesFrom 11 = .ok (.iconst 1, 1) := by decide +kernel
theorem dX6_comesFrom_12 : decode cX6_comesFrom 12 = .ok (.ireturn, 1) := by decide +kernel
theorem dX6_comesFrom_13 : decode cX6_comesFrom 13 = .ok (.aload_n 2, 1) := by decide +kernel
theorem dX6_comesFrom_14 : decode cX6_comesFrom 14 = .ok (.getfield 39, 3) := by decide +kernel
theorem dX6_comesFrom_17 : decode cX6_comesFrom 17 = .ok (.astore_n 2, 1) := by decide +kernel
theorem dX6_comesFrom_18 : decode cX6_comesFrom 18 = .ok (.goto (-16), 3) := by decide +kernel
theorem dX6_comesFrom_21 : decode cX6_comesFrom 21 = .ok (.iconst 0, 1) := by decide +kernel
theorem dX6_comesFrom_22 : decode cX6_comesFrom 22 = .ok (.ireturn, 1) := by decide +kernel
theorem dX6_comesFromWorkBy_0 : decode cX6_comesFromWorkBy 0 = .ok (.aload_n 0, 1) := by decide +kernel
theorem dX6_comesFromWorkBy_1 : decode cX6_comesFromWorkBy 1 = .ok (.astore_n 2, 1) := by decide +kernel
theorem dX6_comesFromWorkBy_2 : decode cX6_comesFromWorkBy 2 = .ok (.aload_n 2, 1) := by decide +kernel
theorem dX6_comesFromWorkBy_3 : decode cX6_comesFromWorkBy 3 = .ok (.ifnull 21, 3) := by decide +kernel
theorem dX6_comesFromWorkBy_6 : decode cX6_comesFromWorkBy 6 = .ok (.aload_n 2, 1) := by decide +kernel
theorem dX6_comesFromWorkBy_7 : decode cX6_comesFromWorkBy 7 = .ok (.getfield 34, 3) := by decide +kernel
theorem dX6_comesFromWorkBy_10 : decode cX6_comesFromWorkBy 10 = .ok (.iload_n 1, 1) := by decide +kernel
theorem dX6_comesFromWorkBy_11 : decode cX6_comesFromWorkBy 11 = .ok (.if_icmp .ne 5, 3) := by decide +kernel
theorem dX6_comesFromWorkBy_14 : decode cX6_comesFromWorkBy 14 = .ok (.iconst 1, 1) := by decide +kernel
theorem dX6_comesFromWorkBy_15 : decode cX6_comesFromWorkBy 15 = .ok (.ireturn, 1) := by decide +kernel
theorem dX6_comesFromWorkBy_16 : decode cX6_comesFromWorkBy 16 = .ok (.aload_n 2, 1) := by decide +kernel
theorem dX6_comesFromWorkBy_17 : decode cX6_comesFromWorkBy 17 = .ok (.getfield 39, 3) := by decide +kernel
theorem dX6_comesFromWorkBy_20 : decode cX6_comesFromWorkBy 20 = .ok (.astore_n 2, 1) := by decide +kernel
theorem dX6_comesFromWorkBy_21 : decode cX6_comesFromWorkBy 21 = .ok (.goto (-19), 3) := by decide +kernel
theorem dX6_comesFromWorkBy_24 : decode cX6_comesFromWorkBy 24 = .ok (.iconst 0, 1) := by decide +kernel
theorem dX6_comesFromWorkBy_25 : decode cX6_comesFromWorkBy 25 = .ok (.ireturn, 1) := by decide +kernel
theorem dX6_noteWin_0 : decode cX6_noteWin 0 = .ok (.aload_n 0, 1) := by decide +kernel
theorem dX6_noteWin_1 : decode cX6_noteWin 1 = .ok (.getfield 22, 3) := by decide +kernel
theorem dX6_noteWin_4 : decode cX6_noteWin 4 = .ok (.ifCond .lt 11, 3) := by decide +kernel
theorem dX6_noteWin_7 : decode cX6_noteWin 7 = .ok (.iload_n 1, 1) := by decide +kernel
theorem dX6_noteWin_8 : decode cX6_noteWin 8 = .ok (.aload_n 0, 1) := by decide +kernel
theorem dX6_noteWin_9 : decode cX6_noteWin 9 = .ok (.getfield 22, 3) := by decide +kernel
theorem dX6_noteWin_12 : decode cX6_noteWin 12 = .ok (.if_icmp .ge 8, 3) := by decide +kernel
theorem dX6_noteWin_15 : decode cX6_noteWin 15 = .ok (.aload_n 0, 1) := by decide +kernel
theorem dX6_noteWin_16 : decode cX6_noteWin 16 = .ok (.iload_n 1, 1) := by decide +kernel
theorem dX6_noteWin_17 : decode cX6_noteWin 17 = .ok (.putfield 22, 3) := by decide +kernel
theorem dX6_noteWin_20 : decode cX6_noteWin 20 = .ok (.return_, 1) := by decide +kernel
theorem dJ6_bitCount_0f7a4_0 : decode cJ6_bitCount_0f7a4 0 = .ok (.iload_n 0, 1) := by decide +kernel
theorem dJ6_bitCount_0f7a4_1 : decode cJ6_bitCount_0f7a4 1 = .ok (.iload_n 0, 1) := by decide +kernel
theorem dJ6_bitCount_0f7a4_2 : decode cJ6_bitCount_0f7a4 2 = .ok (.iconst 1, 1) := by decide +kernel
theorem dJ6_bitCount_0f7a4_3 : decode cJ6_bitCount_0f7a4 3 = .ok (.iushr, 1) := by decide +kernel
theorem dJ6_bitCount_0f7a4_4 : decode cJ6_bitCount_0f7a4 4 = .ok (.ldc_w 265, 3) := by decide +kernel
theorem dJ6_bitCount_0f7a4_7 : decode cJ6_bitCount_0f7a4 7 = .ok (.iand, 1) := by decide +kernel
theorem dJ6_bitCount_0f7a4_8 : decode cJ6_bitCount_0f7a4 8 = .ok (.isub, 1) := by decide +kernel
theorem dJ6_bitCount_0f7a4_9 : decode cJ6_bitCount_0f7a4 9 = .ok (.istore_n 0, 1) := by decide +kernel
theorem dJ6_bitCount_0f7a4_10 : decode cJ6_bitCount_0f7a4 10 = .ok (.iload_n 0, 1) := by decide +kernel
theorem dJ6_bitCount_0f7a4_11 : decode cJ6_bitCount_0f7a4 11 = .ok (.ldc_w 266, 3) := by decide +kernel
theorem dJ6_bitCount_0f7a4_14 : decode cJ6_bitCount_0f7a4 14 = .ok (.iand, 1) := by decide +kernel
theorem dJ6_bitCount_0f7a4_15 : decode cJ6_bitCount_0f7a4 15 = .ok (.iload_n 0, 1) := by decide +kernel
theorem dJ6_bitCount_0f7a4_16 : decode cJ6_bitCount_0f7a4 16 = .ok (.iconst 2, 1) := by decide +kernel
theorem dJ6_bitCount_0f7a4_17 : decode cJ6_bitCount_0f7a4 17 = .ok (.iushr, 1) := by decide +kernel
theorem dJ6_bitCount_0f7a4_18 : decode cJ6_bitCount_0f7a4 18 = .ok (.ldc_w 266, 3) := by decide +kernel
theorem dJ6_bitCount_0f7a4_21 : decode cJ6_bitCount_0f7a4 21 = .ok (.iand, 1) := by decide +kernel
theorem dJ6_bitCount_0f7a4_22 : decode cJ6_bitCount_0f7a4 22 = .ok (.iadd, 1) := by decide +kernel
theorem dJ6_bitCount_0f7a4_23 : decode cJ6_bitCount_0f7a4 23 = .ok (.istore_n 0, 1) := by decide +kernel
theorem dJ6_bitCount_0f7a4_24 : decode cJ6_bitCount_0f7a4 24 = .ok (.iload_n 0, 1) := by decide +kernel
theorem dJ6_bitCount_0f7a4_25 : decode cJ6_bitCount_0f7a4 25 = .ok (.iload_n 0, 1) := by decide +kernel
theorem dJ6_bitCount_0f7a4_26 : decode cJ6_bitCount_0f7a4 26 = .ok (.iconst 4, 1) := by decide +kernel
theorem dJ6_bitCount_0f7a4_27 : decode cJ6_bitCount_0f7a4 27 = .ok (.iushr, 1) := by decide +kernel
theorem dJ6_bitCount_0f7a4_28 : decode cJ6_bitCount_0f7a4 28 = .ok (.iadd, 1) := by decide +kernel
theorem dJ6_bitCount_0f7a4_29 : decode cJ6_bitCount_0f7a4 29 = .ok (.ldc_w 267, 3) := by decide +kernel
theorem dJ6_bitCount_0f7a4_32 : decode cJ6_bitCount_0f7a4 32 = .ok (.iand, 1) := by decide +kernel
theorem dJ6_bitCount_0f7a4_33 : decode cJ6_bitCount_0f7a4 33 = .ok (.istore_n 0, 1) := by decide +kernel
theorem dJ6_bitCount_0f7a4_34 : decode cJ6_bitCount_0f7a4 34 = .ok (.iload_n 0, 1) := by decide +kernel
theorem dJ6_bitCount_0f7a4_35 : decode cJ6_bitCount_0f7a4 35 = .ok (.iload_n 0, 1) := by decide +kernel
theorem dJ6_bitCount_0f7a4_36 : decode cJ6_bitCount_0f7a4 36 = .ok (.bipush 8, 2) := by decide +kernel
theorem dJ6_bitCount_0f7a4_38 : decode cJ6_bitCount_0f7a4 38 = .ok (.iushr, 1) := by decide +kernel
theorem dJ6_bitCount_0f7a4_39 : decode cJ6_bitCount_0f7a4 39 = .ok (.iadd, 1) := by decide +kernel
theorem dJ6_bitCount_0f7a4_40 : decode cJ6_bitCount_0f7a4 40 = .ok (.istore_n 0, 1) := by decide +kernel
theorem dJ6_bitCount_0f7a4_41 : decode cJ6_bitCount_0f7a4 41 = .ok (.iload_n 0, 1) := by decide +kernel
theorem dJ6_bitCount_0f7a4_42 : decode cJ6_bitCount_0f7a4 42 = .ok (.iload_n 0, 1) := by decide +kernel
theorem dJ6_bitCount_0f7a4_43 : decode cJ6_bitCount_0f7a4 43 = .ok (.bipush 16, 2) := by decide +kernel
theorem dJ6_bitCount_0f7a4_45 : decode cJ6_bitCount_0f7a4 45 = .ok (.iushr, 1) := by decide +kernel
theorem dJ6_bitCount_0f7a4_46 : decode cJ6_bitCount_0f7a4 46 = .ok (.iadd, 1) := by decide +kernel
theorem dJ6_bitCount_0f7a4_47 : decode cJ6_bitCount_0f7a4 47 = .ok (.istore_n 0, 1) := by decide +kernel
theorem dJ6_bitCount_0f7a4_48 : decode cJ6_bitCount_0f7a4 48 = .ok (.iload_n 0, 1) := by decide +kernel
theorem dJ6_bitCount_0f7a4_49 : decode cJ6_bitCount_0f7a4 49 = .ok (.bipush 63, 2) := by decide +kernel
theorem dJ6_bitCount_0f7a4_51 : decode cJ6_bitCount_0f7a4 51 = .ok (.iand, 1) := by decide +kernel
theorem dJ6_bitCount_0f7a4_52 : decode cJ6_bitCount_0f7a4 52 = .ok (.ireturn, 1) := by decide +kernel
