theorem dX5_read_0 : decode cX5_read 0 = .ok (.aload_n 0, 1) := by decide +kernel
theorem dX5_read_1 : decode cX5_read 1 = .ok (.getfield 12, 3) := by decide +kernel
theorem dX5_read_4 : decode cX5_read 4 = .ok (.getfield 63, 3) := by decide +kernel
theorem dX5_read_7 : decode cX5_read 7 = .ok (.iload_n 1, 1) := by decide +kernel
theorem dX5_read_8 : decode cX5_read 8 = .ok (.invokevirtual 89, 3) := by decide +kernel
theorem dX5_read_11 : decode cX5_read 11 = .ok (.ifCond .ne 5, 3) := by decide +kernel
theorem dX5_read_14 : decode cX5_read 14 = .ok (.iconst (-1), 1) := by decide +kernel
theorem dX5_read_15 : decode cX5_read 15 = .ok (.ireturn, 1) := by decide +kernel
theorem dX5_read_16 : decode cX5_read 16 = .ok (.iload_n 2, 1) := by decide +kernel
theorem dX5_read_17 : decode cX5_read 17 = .ok (.ifCond .lt 10, 3) := by decide +kernel
theorem dX5_read_20 : decode cX5_read 20 = .ok (.iload_n 2, 1) := by decide +kernel
theorem dX5_read_21 : decode cX5_read 21 = .ok (.sipush 9999, 3) := by decide +kernel
theorem dX5_read_24 : decode cX5_read 24 = .ok (.if_icmp .le 6, 3) := by decide +kernel
theorem dX5_read_27 : decode cX5_read 27 = .ok (.bipush (-2), 2) := by decide +kernel
theorem dX5_read_29 : decode cX5_read 29 = .ok (.ireturn, 1) := by decide +kernel
theorem dX5_read_30 : decode cX5_read 30 = .ok (.iload_n 2, 1) := by decide +kernel
theorem dX5_read_31 : decode cX5_read 31 = .ok (.aload_n 0, 1) := by decide +kernel
theorem dX5_read_32 : decode cX5_read 32 = .ok (.getfield 12, 3) := by decide +kernel
theorem dX5_read_35 : decode cX5_read 35 = .ok (.getfield 92, 3) := by decide +kernel
theorem dX5_read_38 : decode cX5_read 38 = .ok (.iload_n 1, 1) := by decide +kernel
theorem dX5_read_39 : decode cX5_read 39 = .ok (.iaload, 1) := by decide +kernel
theorem dX5_read_40 : decode cX5_read 40 = .ok (.if_icmp .ge 6, 3) := by decide +kernel
theorem dX5_read_43 : decode cX5_read 43 = .ok (.bipush (-4), 2) := by decide +kernel
theorem dX5_read_45 : decode cX5_read 45 = .ok (.ireturn, 1) := by decide +kernel
theorem dX5_read_46 : decode cX5_read 46 = .ok (.iload_n 2, 1) := by decide +kernel
theorem dX5_read_47 : decode cX5_read 47 = .ok (.aload_n 0, 1) := by decide +kernel
theorem dX5_read_48 : decode cX5_read 48 = .ok (.getfield 12, 3) := by decide +kernel
theorem dX5_read_51 : decode cX5_read 51 = .ok (.getfield 95, 3) := by decide +kernel
theorem dX5_read_54 : decode cX5_read 54 = .ok (.iload_n 1, 1) := by decide +kernel
theorem dX5_read_55 : decode cX5_read 55 = .ok (.iaload, 1) := by decide +kernel
theorem dX5_read_56 : decode cX5_read 56 = .ok (.if_icmp .ne 6, 3) := by decide +kernel
theorem dX5_read_59 : decode cX5_read 59 = .ok (.bipush (-5), 2) := by decide +kernel
theorem dX5_read_61 : decode cX5_read 61 = .ok (.ireturn, 1) := by decide +kernel
theorem dX5_read_62 : decode cX5_read 62 = .ok (.aload_n 0, 1) := by decide +kernel
theorem dX5_read_63 : decode cX5_read 63 = .ok (.getfield 26, 3) := by decide +kernel
theorem dX5_read_66 : decode cX5_read 66 = .ok (.aload_n 0, 1) := by decide +kernel
theorem dX5_read_67 : decode cX5_read 67 = .ok (.getfield 12, 3) := by decide +kernel
theorem dX5_read_70 : decode cX5_read 70 = .ok (.invokevirtual 51, 3) := by decide +kernel
theorem dX5_read_73 : decode cX5_read 73 = .ok (.aload_n 0, 1) := by decide +kernel
theorem dX5_read_74 : decode cX5_read 74 = .ok (.getfield 12, 3) := by decide +kernel
theorem dX5_read_77 : decode cX5_read 77 = .ok (.getfield 95, 3) := by decide +kernel
theorem dX5_read_80 : decode cX5_read 80 = .ok (.iload_n 1, 1) := by decide +kernel
theorem dX5_read_81 : decode cX5_read 81 = .ok (.iload_n 2, 1) := by decide +kernel
theorem dX5_read_82 : decode cX5_read 82 = .ok (.iastore, 1) := by decide +kernel
theorem dX5_read_83 : decode cX5_read 83 = .ok (.aload_n 0, 1) := by decide +kernel
theorem dX5_read_84 : decode cX5_read 84 = .ok (.getfield 12, 3) := by decide +kernel
theorem dX5_read_87 : decode cX5_read 87 = .ok (.invokevirtual 98, 3) := by decide +kernel
theorem dX5_read_90 : decode cX5_read 90 = .ok (.aload_n 0, 1) := by decide +kernel
theorem dX5_read_91 : decode cX5_read 91 = .ok (.getfield 12, 3) := by decide +kernel
theorem dX5_read_94 : decode cX5_read 94 = .ok (.getfield 63, 3) := by decide +kernel
theorem dX5_read_97 : decode cX5_read 97 = .ok (.getfield 101, 3) := by decide +kernel
theorem dX5_read_100 : decode cX5_read 100 = .ok (.iload_n 1, 1) := by decide +kernel
theorem dX5_read_101 : decode cX5_read 101 = .ok (.iaload, 1) := by decide +kernel
theorem dX5_read_102 : decode cX5_read 102 = .ok (.ireturn, 1) := by decide +kernel
set_option maxRecDepth 20000 in
theorem ggX5_mark_X4_hasDevice : GoodIn wsX5_mark wsX4_hasDevice := goodIn_r _ [9, 10, 75, 76, 77, 78, 79, 80, 81, 82] (by decide +kernel) (by decide +kernel)
set_option maxRecDepth 20000 in
theorem gX5_mark_X4_hasDevice : GoodIn wsX5_mark (wsV RX5 89 RX4 yX4_hasDevice wsX4_hasDevice) := goodIn_app (goodIn_of _ (by decide +kernel)) ggX5_mark_X4_hasDevice
set_option maxRecDepth 20000 in
theorem ggX5_mark_X1_remember : GoodIn wsX5_mark wsX1_remember := goodIn_r _ [15, 16, 17, 18, 19, 20, 21, 22, 23, 24, 25, 26, 27, 28, 29, 30, 31, 32, 33, 34, 35, 36, 37, 38, 39, 40, 41, 42, 8, 43, 44, 45, 10, 46, 47, 48, 49, 50, 51, 83, 84, 85, 63, 64, 65, 66, 67, 68, 69, 70, 71, 72, 73, 74, 75, 76, 77, 78, 79, 80, 81, 82] (by decide +kernel) (by decide +kernel)
set_option maxRecDepth 20000 in
theorem gX5_mark_X1_remember : GoodIn wsX5_mark (wsV RX5 51 RX1 yX1_remember wsX1_remember) := goodIn_app (goodIn_of _ (by decide +kernel)) ggX5_mark_X1_remember
set_option maxRecDepth 20000 in
theorem ggX5_mark_X2_faultyCount : GoodIn wsX5_mark wsX2_faultyCount := goodIn_r _ [55, 37, 56, 34, 63, 64, 65, 66, 67, 68, 69, 70, 71, 72, 73, 74, 75, 76, 77, 78, 79, 80, 81, 82] (by decide +kernel) (by decide +kernel)
set_option maxRecDepth 20000 in
theorem gX5_mark_X2_faultyCount : GoodIn wsX5_mark (wsV RX5 108 RX2 yX2_faultyCount wsX2_faultyCount) := goodIn_app (goodIn_of _ (by decide +kernel)) ggX5_mark_X2_faultyCount
theorem dX5_mark_0 : decode cX5_mark 0 = .ok (.aload_n 0, 1) := by decide +kernel
theorem dX5_mark_1 : decode cX5_mark 1 = .ok (.getfield 12, 3) := by decide +kernel
theorem dX5_mark_4 : decode cX5_mark 4 = .ok (.getfield 63, 3) := by decide +kernel
theorem dX5_mark_7 : decode cX5_mark 7 = .ok (.iload_n 1, 1) := by decide +kernel
theorem dX5_mark_8 : decode cX5_mark 8 = .ok (.invokevirtual 89, 3) := by decide +kernel
theorem dX5_mark_11 : decode cX5_mark 11 = .ok (.ifCond .ne 5, 3) := by decide +kernel
theorem dX5_mark_14 : decode cX5_mark 14 = .ok (.iconst (-1), 1) := by decide +kernel
theorem dX5_mark_15 : decode cX5_mark 15 = .ok (.ireturn, 1) := by decide +kernel
theorem dX5_mark_16 : decode cX5_mark 16 = .ok (.aload_n 0, 1) := by decide +kernel
theorem dX5_mark_17 : decode cX5_mark 17 = .ok (.getfield 12, 3) := by decide +kernel
theorem dX5_mark_20 : decode cX5_mark 20 = .ok (.getfield 104, 3) := by decide +kernel
theorem dX5_mark_23 : decode cX5_mark 23 = .ok (.iload_n 1, 1) := by decide +kernel
theorem dX5_mark_24 : decode cX5_mark 24 = .ok (.baload, 1) := by decide +kernel
theorem dX5_mark_25 : decode cX5_mark 25 = .ok (.iload_n 2, 1) := by decide +kernel
theorem dX5_mark_26 : decode cX5_mark 26 = .ok (.if_icmp .ne 6, 3) := by decide +kernel
theorem dX5_mark_29 : decode cX5_mark 29 = .ok (.bipush (-5), 2) := by decide +kernel
theorem dX5_mark_31 : decode cX5_mark 31 = .ok (.ireturn, 1) := by decide +kernel
theorem dX5_mark_32 : decode cX5_mark 32 = .ok (.aload_n 0, 1) := by decide +kernel
theorem dX5_mark_33 : decode cX5_mark 33 = .ok (.getfield 26, 3) := by decide +kernel
theorem dX5_mark_36 : decode cX5_mark 36 = .ok (.aload_n 0, 1) := by decide +kernel
theorem dX5_mark_37 : decode cX5_mark 37 = .ok (.getfield 12, 3) := by decide +kernel
theorem dX5_mark_40 : decode cX5_mark 40 = .ok (.invokevirtual 51, 3) := by decide +kernel
theorem dX5_mark_43 : decode cX5_mark 43 = .ok (.aload_n 0, 1) := by decide +kernel
theorem dX5_mark_44 : decode cX5_mark 44 = .ok (.getfield 12, 3) := by decide +kernel
theorem dX5_mark_47 : decode cX5_mark 47 = .ok (.getfield 104, 3) := by decide +kernel
theorem dX5_mark_50 : decode cX5_mark 50 = .ok (.iload_n 1, 1) := by decide +kernel
theorem dX5_mark_51 : decode cX5_mark 51 = .ok (.iload_n 2, 1) := by decide +kernel
theorem dX5_mark_52 : decode cX5_mark 52 = .ok (.bastore, 1) := by decide +kernel
theorem dX5_mark_53 : decode cX5_mark 53 = .ok (.aload_n 0, 1) := by decide +kernel
theorem dX5_mark_54 : decode cX5_mark 54 = .ok (.getfield 12, 3) := by decide +kernel
theorem dX5_mark_57 : decode cX5_mark 57 = .ok (.invokevirtual 108, 3) := by decide +kernel
theorem dX5_mark_60 : decode cX5_mark 60 = .ok (.ireturn, 1) := by decide +kernel
set_option maxRecDepth 20000 in
theorem ggX5_readAll_X3_parse : GoodIn wsX5_readAll wsX3_parse := goodIn_r _ [10, 11, 12, 13, 14, 15, 16, 9, 17, 18, 19, 20, 21, 22, 23, 24, 25, 26, 27, 28, 29, 30, 31, 32, 33, 34, 35, 36, 37, 38, 39, 40, 41, 111, 112, 113, 114, 115, 116, 117] (by decide +kernel) (by decide +kernel)
set_option maxRecDepth 20000 in
theorem gX5_readAll_X3_parse : GoodIn wsX5_readAll (wsV RX5 112 RX3 yX3_parse wsX3_parse) := goodIn_app (goodIn_of _ (by decide +kernel)) ggX5_readAll_X3_parse
set_option maxRecDepth 20000 in
theorem ggX5_readAll_X3_namesOnlyDevicesOf : GoodIn wsX5_readAll wsX3_namesOnlyDevicesOf := goodIn_r _ [45, 12, 46, 18, 47, 48, 49, 50, 51, 52, 111, 112, 113, 114, 115, 116, 117, 118, 119, 120, 121, 122, 123, 124, 125, 126, 127, 128, 129, 130, 131, 132, 133, 134, 135, 136, 137] (by decide +kernel) (by decide +kernel)
set_option maxRecDepth 20000 in
theorem gX5_readAll_X3_namesOnlyDevicesOf : GoodIn wsX5_readAll (wsV RX5 119 RX3 yX3_namesOnlyDevicesOf wsX3_namesOnlyDevicesOf) := goodIn_app (goodIn_of _ (by decide +kernel)) ggX5_readAll_X3_namesOnlyDevicesOf
set_option maxRecDepth 20000 in
theorem ggX5_readAll_X3_isPossibleFor : GoodIn wsX5_readAll wsX3_isPossibleFor := goodIn_r _ [56, 12, 20, 57, 18, 111, 112, 113, 114, 115, 116, 117, 118, 119, 120, 121, 122, 123, 124, 125, 126, 127, 128, 129] (by decide +kernel) (by decide +kernel)
set_option maxRecDepth 20000 in
theorem gX5_readAll_X3_isPossibleFor : GoodIn wsX5_readAll (wsV RX5 123 RX3 yX3_isPossibleFor wsX3_isPossibleFor) := goodIn_app (goodIn_of _ (by decide +kernel)) ggX5_readAll_X3_isPossibleFor
set_option maxRecDepth 20000 in
theorem ggX5_readAll_X1_remember : GoodIn wsX5_readAll wsX1_remember := goodIn_r _ [62, 63, 64, 65, 66, 67, 68, 69, 70, 71, 72, 73, 74, 75, 76, 77, 78, 79, 80, 81, 82, 83, 84, 85, 86, 87, 88, 89, 50, 90, 91, 92, 52, 93, 94, 95, 96, 97, 98, 138, 139, 140, 118, 119, 120, 121, 122, 123, 124, 125, 126, 127, 128, 129, 130, 131, 132, 133, 134, 135, 136, 137] (by decide +kernel) (by decide +kernel)
set_option maxRecDepth 20000 in
theorem gX5_readAll_X1_remember : GoodIn wsX5_readAll (wsV RX5 51 RX1 yX1_remember wsX1_remember) := goodIn_app (goodIn_of _ (by decide +kernel)) ggX5_readAll_X1_remember
set_option maxRecDepth 20000 in
theorem ggX5_readAll_X3_tellTo : GoodIn wsX5_readAll wsX3_tellTo := goodIn_r _ [102, 12, 18, 103, 20, 104, 111, 112, 113, 114, 115, 116, 117, 118, 119, 120, 121, 122, 123, 124, 125, 126, 127, 128, 129] (by decide +kernel) (by decide +kernel)
set_option maxRecDepth 20000 in
theorem gX5_readAll_X3_tellTo : GoodIn wsX5_readAll (wsV RX5 126 RX3 yX3_tellTo wsX3_tellTo) := goodIn_app (goodIn_of _ (by decide +kernel)) ggX5_readAll_X3_tellTo
theorem dX5_readAll_0 : decode cX5_readAll 0 = .ok (.aload_n 0, 1) := by decide +kernel
theorem dX5_readAll_1 : decode cX5_readAll 1 = .ok (.getfield 33, 3) := by decide +kernel
theorem dX5_readAll_4 : decode cX5_readAll 4 = .ok (.invokevirtual 112, 3) := by decide +kernel
theorem dX5_readAll_7 : decode cX5_readAll 7 = .ok (.ifCond .ne 14, 3) := by decide +kernel
theorem dX5_readAll_10 : decode cX5_readAll 10 = .ok (.bipush (-100), 2) := by decide +kernel
theorem dX5_readAll_12 : decode cX5_readAll 12 = .ok (.aload_n 0, 1) := by decide +kernel
theorem dX5_readAll_13 : decode cX5_readAll 13 = .ok (.getfield 33, 3) := by decide +kernel
theorem dX5_readAll_16 : decode cX5_readAll 16 = .ok (.getfield 116, 3) := by decide +kernel
theorem dX5_readAll_19 : decode cX5_readAll 19 = .ok (.isub, 1) := by decide +kernel
theorem dX5_readAll_20 : decode cX5_readAll 20 = .ok (.ireturn, 1) := by decide +kernel
theorem dX5_readAll_21 : decode cX5_readAll 21 = .ok (.aload_n 0, 1) := by decide +kernel
theorem dX5_readAll_22 : decode cX5_readAll 22 = .ok (.getfield 33, 3) := by decide +kernel
theorem dX5_readAll_25 : decode cX5_readAll 25 = .ok (.aload_n 0, 1) := by decide +kernel
theorem dX5_readAll_26 : decode cX5_readAll 26 = .ok (.getfield 12, 3) := by decide +kernel
theorem dX5_readAll_29 : decode cX5_readAll 29 = .ok (.invokevirtual 119, 3) := by decide +kernel
theorem dX5_readAll_32 : decode cX5_readAll 32 = .ok (.ifCond .ne 5, 3) := by decide +kernel
theorem dX5_readAll_35 : decode cX5_readAll 35 = .ok (.iconst (-1), 1) := by decide +kernel
theorem dX5_readAll_36 : decode cX5_readAll 36 = .ok (.ireturn, 1) := by decide +kernel
theorem dX5_readAll_37 : decode cX5_readAll 37 = .ok (.aload_n 0, 1) := by decide +kernel
theorem dX5_readAll_38 : decode cX5_readAll 38 = .ok (.getfield 33, 3) := by decide +kernel
theorem dX5_readAll_41 : decode cX5_readAll 41 = .ok (.aload_n 0, 1) := by decide +kernel
theorem dX5_readAll_42 : decode cX5_readAll 42 = .ok (.getfield 12, 3) := by decide +kernel
theorem dX5_readAll_45 : decode cX5_readAll 45 = .ok (.invokevirtual 123, 3) := by decide +kernel
theorem dX5_readAll_48 : decode cX5_readAll 48 = .ok (.ifCond .ne 6, 3) := by decide +kernel
theorem dX5_readAll_51 : decode cX5_readAll 51 = .ok (.bipush (-4), 2) := by decide +kernel
theorem dX5_readAll_53 : decode cX5_readAll 53 = .ok (.ireturn, 1) := by decide +kernel
theorem dX5_readAll_54 : decode cX5_readAll 54 = .ok (.aload_n 0, 1) := by decide +kernel
theorem dX5_readAll_55 : decode cX5_readAll 55 = .ok (.getfield 26, 3) := by decide +kernel
theorem dX5_readAll_58 : decode cX5_readAll 58 = .ok (.aload_n 0, 1) := by decide +kernel
theorem dX5_readAll_59 : decode cX5_readAll 59 = .ok (.getfield 12, 3) := by decide +kernel
theorem dX5_readAll_62 : decode cX5_readAll 62 = .ok (.invokevirtual 51, 3) := by decide +kernel
theorem dX5_readAll_65 : decode cX5_readAll 65 = .ok (.aload_n 0, 1) := by decide +kernel
theorem dX5_readAll_66 : decode cX5_readAll 66 = .ok (.getfield 33, 3) := by decide +kernel
theorem dX5_readAll_69 : decode cX5_readAll 69 = .ok (.aload_n 0, 1) := by decide +kernel
theorem dX5_readAll_70 : decode cX5_readAll 70 = .ok (.getfield 12, 3) := by decide +kernel
theorem dX5_readAll_73 : decode cX5_readAll 73 = .ok (.invokevirtual 126, 3) := by decide +kernel
theorem dX5_readAll_76 : decode cX5_readAll 76 = .ok (.aload_n 0, 1) := by decide +kernel
theorem dX5_readAll_77 : decode cX5_readAll 77 = .ok (.getfield 33, 3) := by decide +kernel
theorem dX5_readAll_80 : decode cX5_readAll 80 = .ok (.getfield 129, 3) := by decide +kernel
theorem dX5_readAll_83 : decode cX5_readAll 83 = .ok (.ireturn, 1) := by decide +kernel
set_option maxRecDepth 20000 in
theorem ggX5_move_X2_hasFlat : GoodIn wsX5_move wsX2_hasFlat := goodIn_r _ [9, 10, 67, 68, 69, 70, 71, 72, 73, 74, 75, 76, 77, 78] (by decide +kernel) (by decide +kernel)
set_option maxRecDepth 20000 in
theorem gX5_move_X2_hasFlat : GoodIn wsX5_move (wsV RX5 59 RX2 yX2_hasFlat wsX2_hasFlat) := goodIn_app (goodIn_of _ (by decide +kernel)) ggX5_move_X2_hasFlat
set_option maxRecDepth 20000 in
theorem ggX5_move_X4_hasMove : GoodIn wsX5_move wsX4_hasMove := goodIn_r _ [15, 16, 79, 80, 81, 82, 83, 84, 85, 86] (by decide +kernel) (by decide +kernel)
set_option maxRecDepth 20000 in
theorem gX5_move_X4_hasMove : GoodIn wsX5_move (wsV RX5 132 RX4 yX4_hasMove wsX4_hasMove) := goodIn_app (goodIn_of _ (by decide +kernel)) ggX5_move_X4_hasMove
set_option maxRecDepth 20000 in
theorem ggX5_move_X1_remember : GoodIn wsX5_move wsX1_remember := goodIn_r _ [21, 22, 23, 24, 25, 26, 27, 8, 28, 10, 29, 30, 31, 32, 33, 34, 35, 36, 37, 38, 39, 40, 41, 42, 43, 44, 45, 46, 14, 47, 48, 49, 50, 16, 51, 52, 53, 54, 55, 87, 88, 89, 67, 68, 69, 70, 71, 72, 73, 74, 75, 76, 77, 78, 79, 80, 81, 82, 83, 84, 85, 86] (by decide +kernel) (by decide +kernel)
set_option maxRecDepth 20000 in
theorem gX5_move_X1_remember : GoodIn wsX5_move (wsV RX5 51 RX1 yX1_remember wsX1_remember) := goodIn_app (goodIn_of _ (by decide +kernel)) ggX5_move_X1_remember
set_option maxRecDepth 20000 in
theorem ggX5_move_X5_weightsAhead : GoodIn wsX5_move wsX5_weightsAhead := goodIn_r _ [59, 60] (by decide +kernel) (by decide +kernel)
set_option maxRecDepth 20000 in
theorem gX5_move_X5_weightsAhead : GoodIn wsX5_move (va_wsS RX5 138 yX5_weightsAhead wsX5_weightsAhead) := goodIn_app (goodIn_of _ (by decide +kernel)) ggX5_move_X5_weightsAhead
theorem dX5_move_0 : decode cX5_move 0 = .ok (.aload_n 0, 1) := by decide +kernel
theorem dX5_move_1 : decode cX5_move 1 = .ok (.getfield 12, 3) := by decide +kernel
theorem dX5_move_4 : decode cX5_move 4 = .ok (.iload_n 1, 1) := by decide +kernel
theorem dX5_move_5 : decode cX5_move 5 = .ok (.invokevirtual 59, 3) := by decide +kernel
theorem dX5_move_8 : decode cX5_move 8 = .ok (.ifCond .ne 5, 3) := by decide +kernel
theorem dX5_move_11 : decode cX5_move 11 = .ok (.iconst (-1), 1) := by decide +kernel
theorem dX5_move_12 : decode cX5_move 12 = .ok (.ireturn, 1) := by decide +kernel
theorem dX5_move_13 : decode cX5_move 13 = .ok (.iload_n 2, 1) := by decide +kernel
theorem dX5_move_14 : decode cX5_move 14 = .ok (.iconst 1, 1) := by decide +kernel
theorem dX5_move_15 : decode cX5_move 15 = .ok (.if_icmp .lt 9, 3) := by decide +kernel
theorem dX5_move_18 : decode cX5_move 18 = .ok (.iload_n 2, 1) := by decide +kernel
theorem dX5_move_19 : decode cX5_move 19 = .ok (.bipush 12, 2) := by decide +kernel
theorem dX5_move_21 : decode cX5_move 21 = .ok (.if_icmp .lt 6, 3) := by decide +kernel
theorem dX5_move_24 : decode cX5_move 24 = .ok (.bipush (-2), 2) := by decide +kernel
theorem dX5_move_26 : decode cX5_move 26 = .ok (.ireturn, 1) := by decide +kernel
theorem dX5_move_27 : decode cX5_move 27 = .ok (.aload_n 0, 1) := by decide +kernel
theorem dX5_move_28 : decode cX5_move 28 = .ok (.getfield 12, 3) := by decide +kernel
theorem dX5_move_31 : decode cX5_move 31 = .ok (.getfield 63, 3) := by decide +kernel
theorem dX5_move_34 : decode cX5_move 34 = .ok (.iload_n 1, 1) := by decide +kernel
theorem dX5_move_35 : decode cX5_move 35 = .ok (.invokevirtual 132, 3) := by decide +kernel
theorem dX5_move_38 : decode cX5_move 38 = .ok (.ifCond .eq 6, 3) := by decide +kernel
theorem dX5_move_41 : decode cX5_move 41 = .ok (.bipush (-4), 2) := by decide +kernel
theorem dX5_move_43 : decode cX5_move 43 = .ok (.ireturn, 1) := by decide +kernel
theorem dX5_move_44 : decode cX5_move 44 = .ok (.aload_n 0, 1) := by decide +kernel
theorem dX5_move_45 : decode cX5_move 45 = .ok (.getfield 26, 3) := by decide +kernel
theorem dX5_move_48 : decode cX5_move 48 = .ok (.aload_n 0, 1) := by decide +kernel
theorem dX5_move_49 : decode cX5_move 49 = .ok (.getfield 12, 3) := by decide +kernel
theorem dX5_move_52 : decode cX5_move 52 = .ok (.invokevirtual 51, 3) := by decide +kernel
theorem dX5_move_55 : decode cX5_move 55 = .ok (.aload_n 0, 1) := by decide +kernel
theorem dX5_move_56 : decode cX5_move 56 = .ok (.getfield 12, 3) := by decide +kernel
theorem dX5_move_59 : decode cX5_move 59 = .ok (.getfield 63, 3) := by decide +kernel
theorem dX5_move_62 : decode cX5_move 62 = .ok (.getfield 135, 3) := by decide +kernel
theorem dX5_move_65 : decode cX5_move 65 = .ok (.iload_n 1, 1) := by decide +kernel
theorem dX5_move_66 : decode cX5_move 66 = .ok (.iload_n 2, 1) := by decide +kernel
theorem dX5_move_67 : decode cX5_move 67 = .ok (.iastore, 1) := by decide +kernel
theorem dX5_move_68 : decode cX5_move 68 = .ok (.iload_n 2, 1) := by decide +kernel
theorem dX5_move_69 : decode cX5_move 69 = .ok (.invokestatic 138, 3) := by decide +kernel
theorem dX5_move_72 : decode cX5_move 72 = .ok (.ireturn, 1) := by decide +kernel
set_option maxRecDepth 20000 in
theorem ggX5_between_X2_hasFlat : GoodIn wsX5_between wsX2_hasFlat := goodIn_r _ [9, 10, 62, 63, 64, 65, 66, 67, 68, 69, 70, 71, 72, 73] (by decide +kernel) (by decide +kernel)
set_option maxRecDepth 20000 in
theorem gX5_between_X2_hasFlat : GoodIn wsX5_between (wsV RX5 59 RX2 yX2_hasFlat wsX2_hasFlat) := goodIn_app (goodIn_of _ (by decide +kernel)) ggX5_between_X2_hasFlat
set_option maxRecDepth 20000 in
theorem ggX5_between_X4_hasMove : GoodIn wsX5_between wsX4_hasMove := goodIn_r _ [15, 16, 74, 75, 76, 77, 78, 79, 80, 81] (by decide +kernel) (by decide +kernel)
set_option maxRecDepth 20000 in
theorem gX5_between_X4_hasMove : GoodIn wsX5_between (wsV RX5 132 RX4 yX4_hasMove wsX4_hasMove) := goodIn_app (goodIn_of _ (by decide +kernel)) ggX5_between_X4_hasMove
set_option maxRecDepth 20000 in
theorem ggX5_between_X1_remember : GoodIn wsX5_between wsX1_remember := goodIn_r _ [21, 22, 23, 24, 25, 26, 27, 8, 28, 10, 29, 30, 31, 32, 33, 34, 35, 36, 37, 38, 39, 40, 41, 42, 43, 44, 45, 46, 14, 47, 48, 49, 50, 16, 51, 52, 53, 54, 55, 82, 83, 84, 62, 63, 64, 65, 66, 67, 68, 69, 70, 71, 72, 73, 74, 75, 76, 77, 78, 79, 80, 81] (by decide +kernel) (by decide +kernel)
set_option maxRecDepth 20000 in
theorem gX5_between_X1_remember : GoodIn wsX5_between (wsV RX5 51 RX1 yX1_remember wsX1_remember) := goodIn_app (goodIn_of _ (by decide +kernel)) ggX5_between_X1_remember
theorem dX5_between_0 : decode cX5_between 0 = .ok (.aload_n 0, 1) := by decide +kernel
theorem dX5_between_1 : decode cX5_between 1 = .ok (.getfield 12, 3) := by decide +kernel
theorem dX5_between_4 : decode cX5_between 4 = .ok (.iload_n 1, 1) := by decide +kernel
theorem dX5_between_5 : decode cX5_between 5 = .ok (.invokevirtual 59, 3) := by decide +kernel
theorem dX5_between_8 : decode cX5_between 8 = .ok (.ifCond .ne 5, 3) := by decide +kernel
theorem dX5_between_11 : decode cX5_between 11 = .ok (.iconst (-1), 1) := by decide +kernel
theorem dX5_between_12 : decode cX5_between 12 = .ok (.ireturn, 1) := by decide +kernel
theorem dX5_between_13 : decode cX5_between 13 = .ok (.iload_n 2, 1) := by decide +kernel
theorem dX5_between_14 : decode cX5_between 14 = .ok (.ifCond .lt 10, 3) := by decide +kernel
theorem dX5_between_17 : decode cX5_between 17 = .ok (.iload_n 2, 1) := by decide +kernel
theorem dX5_between_18 : decode cX5_between 18 = .ok (.sipush 1000, 3) := by decide +kernel
theorem dX5_between_21 : decode cX5_between 21 = .ok (.if_icmp .le 6, 3) := by decide +kernel
theorem dX5_between_24 : decode cX5_between 24 = .ok (.bipush (-2), 2) := by decide +kernel
theorem dX5_between_26 : decode cX5_between 26 = .ok (.ireturn, 1) := by decide +kernel
theorem dX5_between_27 : decode cX5_between 27 = .ok (.aload_n 0, 1) := by decide +kernel
theorem dX5_between_28 : decode cX5_between 28 = .ok (.getfield 12, 3) := by decide +kernel
theorem dX5_between_31 : decode cX5_between 31 = .ok (.getfield 63, 3) := by decide +kernel
theorem dX5_between_34 : decode cX5_between 34 = .ok (.iload_n 1, 1) := by decide +kernel
theorem dX5_between_35 : decode cX5_between 35 = .ok (.invokevirtual 132, 3) := by decide +kernel
theorem dX5_between_38 : decode cX5_between 38 = .ok (.ifCond .ne 6, 3) := by decide +kernel
theorem dX5_between_41 : decode cX5_between 41 = .ok (.bipush (-4), 2) := by decide +kernel
theorem dX5_between_43 : decode cX5_between 43 = .ok (.ireturn, 1) := by decide +kernel
theorem dX5_between_44 : decode cX5_between 44 = .ok (.aload_n 0, 1) := by decide +kernel
theorem dX5_between_45 : decode cX5_between 45 = .ok (.getfield 12, 3) := by decide +kernel
theorem dX5_between_48 : decode cX5_between 48 = .ok (.getfield 63, 3) := by decide +kernel
theorem dX5_between_51 : decode cX5_between 51 = .ok (.getfield 141, 3) := by decide +kernel
theorem dX5_between_54 : decode cX5_between 54 = .ok (.iload_n 1, 1) := by decide +kernel
theorem dX5_between_55 : decode cX5_between 55 = .ok (.iaload, 1) := by decide +kernel
theorem dX5_between_56 : decode cX5_between 56 = .ok (.istore_n 3, 1) := by decide +kernel
theorem dX5_between_57 : decode cX5_between 57 = .ok (.iload_n 3, 1) := by decide +kernel
theorem dX5_between_58 : decode cX5_between 58 = .ok (.iload_n 2, 1) := by decide +kernel
theorem dX5_between_59 : decode cX5_between 59 = .ok (.if_icmp .ne 6, 3) := by decide +kernel
theorem dX5_between_62 : decode cX5_between 62 = .ok (.bipush (-5), 2) := by decide +kernel
theorem dX5_between_64 : decode cX5_between 64 = .ok (.ireturn, 1) := by decide +kernel
theorem dX5_between_65 : decode cX5_between 65 = .ok (.aload_n 0, 1) := by decide +kernel
theorem dX5_between_66 : decode cX5_between 66 = .ok (.getfield 26, 3) := by decide +kernel
theorem dX5_between_69 : decode cX5_between 69 = .ok (.aload_n 0, 1) := by decide +kernel
theorem dX5_between_70 : decode cX5_between 70 = .ok (.getfield 12, 3) := by decide +kernel
theorem dX5_between_73 : decode cX5_between 73 = .ok (.invokevirtual 51, 3) := by decide +kernel
theorem dX5_between_76 : decode cX5_between 76 = .ok (.aload_n 0, 1) := by decide +kernel
theorem dX5_between_77 : decode cX5_between 77 = .ok (.getfield 12, 3) := by decide +kernel
theorem dX5_between_80 : decode cX5_between 80 = .ok (.getfield 63, 3) := by decide +kernel
theorem dX5_between_83 : decode cX5_between 83 = .ok (.getfield 141, 3) := by decide +kernel
theorem dX5_between_86 : decode cX5_between 86 = .ok (.iload_n 1, 1) := by decide +kernel
theorem dX5_between_87 : decode cX5_between 87 = .ok (.iload_n 2, 1) := by decide +kernel
theorem dX5_between_88 : decode cX5_between 88 = .ok (.iastore, 1) := by decide +kernel
theorem dX5_between_89 : decode cX5_between 89 = .ok (.iload_n 3, 1) := by decide +kernel
theorem dX5_between_90 : decode cX5_between 90 = .ok (.bipush (-5), 2) := by decide +kernel
theorem dX5_between_92 : decode cX5_between 92 = .ok (.if_icmp .ne 7, 3) := by decide +kernel
theorem dX5_between_95 : decode cX5_between 95 = .ok (.iconst 1, 1) := by decide +kernel
theorem dX5_between_96 : decode cX5_between 96 = .ok (.goto 4, 3) := by decide +kernel
theorem dX5_between_99 : decode cX5_between 99 = .ok (.iconst 0, 1) := by decide +kernel
theorem dX5_between_100 : decode cX5_between 100 = .ok (.ireturn, 1) := by decide +kernel
set_option maxRecDepth 20000 in
theorem ggX5_close_X1_remember : GoodIn wsX5_close wsX1_remember := goodIn_r _ [12, 13, 14, 15, 16, 17, 18, 19, 20, 21, 22, 23, 24, 25, 26, 27, 28, 29, 30, 31, 32, 33, 34, 35, 36, 37, 38, 39, 40, 41, 42, 43, 44, 45, 46, 47, 48, 49, 50, 169, 170, 171, 152, 153, 154, 155, 156, 157, 158, 159, 160, 161, 162, 163, 172, 173, 174, 175, 176, 177, 178, 179] (by decide +kernel) (by decide +kernel)
set_option maxRecDepth 20000 in
theorem gX5_close_X1_remember : GoodIn wsX5_close (wsV RX5 51 RX1 yX1_remember wsX1_remember) := goodIn_app (goodIn_of _ (by decide +kernel)) ggX5_close_X1_remember
set_option maxRecDepth 20000 in
theorem ggX5_close_X5_drawUpOpenYear : GoodIn wsX5_close wsX5_drawUpOpenYear := goodIn_r _ [55, 1, 5, 6, 56, 57, 58, 19, 59, 34, 60, 31, 30, 29, 61, 28, 62, 63, 64, 65, 35, 32, 66, 67, 68, 69, 36, 70, 71, 72, 40, 73, 44, 74, 75, 76, 77, 78, 79, 80, 81, 82, 83, 84, 85, 86, 87, 88, 89, 90, 91, 92, 93, 94, 95, 96, 97, 54, 98, 99, 100, 101, 102, 103, 104, 105, 106, 107, 108, 146, 147, 148, 149, 150, 151, 152, 153, 154, 155, 156, 157, 158, 159, 160, 161, 162, 163, 172, 173, 174, 175, 176, 177, 178, 179, 164, 165, 166, 167, 168] (by decide +kernel) (by decide +kernel)
set_option maxRecDepth 20000 in
theorem gX5_close_X5_drawUpOpenYear : GoodIn wsX5_close (wsV RX5 144 RX5 yX5_drawUpOpenYear wsX5_drawUpOpenYear) := goodIn_app (goodIn_of _ (by decide +kernel)) ggX5_close_X5_drawUpOpenYear
set_option maxRecDepth 20000 in
theorem ggX5_close_X0_splitByTenants : GoodIn wsX5_close wsX0_splitByTenants := goodIn_r _ [112, 113, 93, 85, 86, 87, 88, 114, 115, 116, 77, 117, 95, 96, 118, 119, 120, 40, 121, 45, 122, 123, 124, 125, 126, 127, 128, 129, 130, 47, 131, 54, 132, 133, 134, 135, 164, 165, 166, 167, 168, 152, 153, 154, 155, 156, 157, 158, 159, 160, 161, 162, 163, 172, 173, 174, 175, 176, 177, 178, 179] (by decide +kernel) (by decide +kernel)
set_option maxRecDepth 20000 in
theorem gX5_close_X0_splitByTenants : GoodIn wsX5_close (wsV RX5 147 RX0 yX0_splitByTenants wsX0_splitByTenants) := goodIn_app (goodIn_of _ (by decide +kernel)) ggX5_close_X0_splitByTenants
set_option maxRecDepth 20000 in
theorem ggX5_close_X2_closeWith : GoodIn wsX5_close wsX2_closeWith := goodIn_r _ [139, 35, 36, 34, 140, 23, 24, 25, 26, 30, 29, 37, 38, 39, 40, 41, 42, 43, 44, 45, 46, 47, 48, 49, 50, 141, 142, 143, 144, 145, 86, 87, 88, 152, 153, 154, 155, 156, 157, 158, 159, 160, 161, 162, 163, 172, 173, 174, 175, 176, 177, 178, 179] (by decide +kernel) (by decide +kernel)
set_option maxRecDepth 20000 in
theorem gX5_close_X2_closeWith : GoodIn wsX5_close (wsV RX5 154 RX2 yX2_closeWith wsX2_closeWith) := goodIn_app (goodIn_of _ (by decide +kernel)) ggX5_close_X2_closeWith
theorem dX5_close_0 : decode cX5_close 0 = .ok (.aload_n 0, 1) := by decide +kernel
theorem dX5_close_1 : decode cX5_close 1 = .ok (.getfield 12, 3) := by decide +kernel
theorem dX5_close_4 : decode cX5_close 4 = .ok (.getfield 48, 3) := by decide +kernel
theorem dX5_close_7 : decode cX5_close 7 = .ok (.iconst 4, 1) := by decide +kernel
theorem dX5_close_8 : decode cX5_close 8 = .ok (.if_icmp .lt 6, 3) := by decide +kernel
theorem dX5_close_11 : decode cX5_close 11 = .ok (.bipush (-3), 2) := by decide +kernel
theorem dX5_close_13 : decode cX5_close 13 = .ok (.ireturn, 1) := by decide +kernel
theorem dX5_close_14 : decode cX5_close 14 = .ok (.aload_n 0, 1) := by decide +kernel
theorem dX5_close_15 : decode cX5_close 15 = .ok (.getfield 12, 3) := by decide +kernel
theorem dX5_close_18 : decode cX5_close 18 = .ok (.getfield 44, 3) := by decide +kernel
theorem dX5_close_21 : decode cX5_close 21 = .ok (.iconst 1, 1) := by decide +kernel
theorem dX5_close_22 : decode cX5_close 22 = .ok (.if_icmp .ge 6, 3) := by decide +kernel
theorem dX5_close_25 : decode cX5_close 25 = .ok (.bipush (-4), 2) := by decide +kernel
theorem dX5_close_27 : decode cX5_close 27 = .ok (.ireturn, 1) := by decide +kernel
theorem dX5_close_28 : decode cX5_close 28 = .ok (.aload_n 0, 1) := by decide +kernel
theorem dX5_close_29 : decode cX5_close 29 = .ok (.getfield 26, 3) := by decide +kernel
theorem dX5_close_32 : decode cX5_close 32 = .ok (.aload_n 0, 1) := by decide +kernel
theorem dX5_close_33 : decode cX5_close 33 = .ok (.getfield 12, 3) := by decide +kernel
theorem dX5_close_36 : decode cX5_close 36 = .ok (.invokevirtual 51, 3) := by decide +kernel
theorem dX5_close_39 : decode cX5_close 39 = .ok (.aload_n 0, 1) := by decide +kernel
theorem dX5_close_40 : decode cX5_close 40 = .ok (.invokevirtual 144, 3) := by decide +kernel
theorem dX5_close_43 : decode cX5_close 43 = .ok (.aload_n 0, 1) := by decide +kernel
theorem dX5_close_44 : decode cX5_close 44 = .ok (.getfield 40, 3) := by decide +kernel
theorem dX5_close_47 : decode cX5_close 47 = .ok (.aload_n 0, 1) := by decide +kernel
theorem dX5_close_48 : decode cX5_close 48 = .ok (.getfield 12, 3) := by decide +kernel
theorem dX5_close_51 : decode cX5_close 51 = .ok (.aload_n 0, 1) := by decide +kernel
theorem dX5_close_52 : decode cX5_close 52 = .ok (.getfield 12, 3) := by decide +kernel
theorem dX5_close_55 : decode cX5_close 55 = .ok (.getfield 63, 3) := by decide +kernel
theorem dX5_close_58 : decode cX5_close 58 = .ok (.invokevirtual 147, 3) := by decide +kernel
theorem dX5_close_61 : decode cX5_close 61 = .ok (.aload_n 0, 1) := by decide +kernel
theorem dX5_close_62 : decode cX5_close 62 = .ok (.getfield 12, 3) := by decide +kernel
theorem dX5_close_65 : decode cX5_close 65 = .ok (.aload_n 0, 1) := by decide +kernel
theorem dX5_close_66 : decode cX5_close 66 = .ok (.getfield 40, 3) := by decide +kernel
theorem dX5_close_69 : decode cX5_close 69 = .ok (.getfield 151, 3) := by decide +kernel
theorem dX5_close_72 : decode cX5_close 72 = .ok (.invokevirtual 154, 3) := by decide +kernel
theorem dX5_close_75 : decode cX5_close 75 = .ok (.ireturn, 1) := by decide +kernel
set_option maxRecDepth 20000 in
theorem ggX5_correct_X2_closedYear : GoodIn wsX5_correct wsX2_closedYear := goodIn_r _ [12, 13, 14, 140, 141, 142, 143, 144, 145, 146, 147, 148, 149, 150, 151] (by decide +kernel) (by decide +kernel)
set_option maxRecDepth 20000 in
theorem gX5_correct_X2_closedYear : GoodIn wsX5_correct (wsV RX5 158 RX2 yX2_closedYear wsX2_closedYear) := goodIn_app (goodIn_of _ (by decide +kernel)) ggX5_correct_X2_closedYear
set_option maxRecDepth 20000 in
theorem ggX5_correct_X4_hasDevice : GoodIn wsX5_correct wsX4_hasDevice := goodIn_r _ [19, 20, 132, 133, 134, 135, 136, 137, 138, 139] (by decide +kernel) (by decide +kernel)
set_option maxRecDepth 20000 in
theorem gX5_correct_X4_hasDevice : GoodIn wsX5_correct (wsV RX5 89 RX4 yX4_hasDevice wsX4_hasDevice) := goodIn_app (goodIn_of _ (by decide +kernel)) ggX5_correct_X4_hasDevice
set_option maxRecDepth 20000 in
theorem ggX5_correct_X1_remember : GoodIn wsX5_correct wsX1_remember := goodIn_r _ [25, 26, 27, 28, 29, 30, 31, 11, 32, 33, 34, 35, 36, 37, 38, 39, 40, 41, 42, 43, 44, 45, 46, 13, 14, 47, 48, 49, 18, 50, 51, 52, 20, 53, 54, 55, 56, 57, 58, 157, 158, 159, 140, 141, 142, 143, 144, 145, 146, 147, 148, 149, 150, 151, 132, 133, 134, 135, 136, 137, 138, 139] (by decide +kernel) (by decide +kernel)
set_option maxRecDepth 20000 in
theorem gX5_correct_X1_remember : GoodIn wsX5_correct (wsV RX5 51 RX1 yX1_remember wsX1_remember) := goodIn_app (goodIn_of _ (by decide +kernel)) ggX5_correct_X1_remember
set_option maxRecDepth 20000 in
theorem ggX5_correct_X0_drawUp : GoodIn wsX5_correct wsX0_drawUp := goodIn_r _ [63, 64, 65, 66, 67, 68, 69, 70, 71, 72, 73, 74, 75, 76, 62, 77, 78, 79, 80, 81, 82, 83, 84, 85, 86, 87, 88, 89, 90, 91, 92, 93, 94, 152, 153, 154, 155, 156, 132, 133, 134, 135, 136, 137, 138, 139, 140, 141, 142, 143, 144, 145, 146, 147, 148, 149, 150, 151] (by decide +kernel) (by decide +kernel)
set_option maxRecDepth 20000 in
theorem gX5_correct_X0_drawUp : GoodIn wsX5_correct (wsV RX5 166 RX0 yX0_drawUp wsX0_drawUp) := goodIn_app (goodIn_of _ (by decide +kernel)) ggX5_correct_X0_drawUp
set_option maxRecDepth 20000 in
theorem ggX5_correct_X0_splitByTenants : GoodIn wsX5_correct wsX0_splitByTenants := goodIn_r _ [98, 99, 78, 70, 71, 72, 73, 100, 101, 102, 62, 103, 80, 81, 104, 105, 106, 18, 107, 53, 108, 109, 110, 111, 112, 113, 114, 115, 116, 55, 117, 83, 118, 119, 120, 121, 152, 153, 154, 155, 156, 140, 141, 142, 143, 144, 145, 146, 147, 148, 149, 150, 151, 132, 133, 134, 135, 136, 137, 138, 139] (by decide +kernel) (by decide +kernel)
set_option maxRecDepth 20000 in
theorem gX5_correct_X0_splitByTenants : GoodIn wsX5_correct (wsV RX5 147 RX0 yX0_splitByTenants wsX0_splitByTenants) := goodIn_app (goodIn_of _ (by decide +kernel)) ggX5_correct_X0_splitByTenants
set_option maxRecDepth 20000 in
theorem ggX5_correct_X4_chargeAnew : GoodIn wsX5_correct wsX4_chargeAnew := goodIn_r _ [125, 57, 58, 132, 133, 134, 135, 136, 137, 138, 139] (by decide +kernel) (by decide +kernel)
set_option maxRecDepth 20000 in
theorem gX5_correct_X4_chargeAnew : GoodIn wsX5_correct (wsV RX5 169 RX4 yX4_chargeAnew wsX4_chargeAnew) := goodIn_app (goodIn_of _ (by decide +kernel)) ggX5_correct_X4_chargeAnew
theorem dX5_correct_0 : decode cX5_correct 0 = .ok (.aload_n 0, 1) := by decide +kernel
theorem dX5_correct_1 : decode cX5_correct 1 = .ok (.getfield 12, 3) := by decide +kernel
theorem dX5_correct_4 : decode cX5_correct 4 = .ok (.iload_n 1, 1) := by decide +kernel
theorem dX5_correct_5 : decode cX5_correct 5 = .ok (.invokevirtual 158, 3) := by decide +kernel
theorem dX5_correct_8 : decode cX5_correct 8 = .ok (.astore 4, 2) := by decide +kernel
theorem dX5_correct_10 : decode cX5_correct 10 = .ok (.aload 4, 2) := by decide +kernel
theorem dX5_correct_12 : decode cX5_correct 12 = .ok (.ifnull 12, 3) := by decide +kernel
theorem dX5_correct_15 : decode cX5_correct 15 = .ok (.aload 4, 2) := by decide +kernel
theorem dX5_correct_17 : decode cX5_correct 17 = .ok (.iload_n 2, 1) := by decide +kernel
theorem dX5_correct_18 : decode cX5_correct 18 = .ok (.invokevirtual 89, 3) := by decide +kernel
theorem dX5_correct_21 : decode cX5_correct 21 = .ok (.ifCond .ne 5, 3) := by decide +kernel
theorem dX5_correct_24 : decode cX5_correct 24 = .ok (.iconst (-1), 1) := by decide +kernel
theorem dX5_correct_25 : decode cX5_correct 25 = .ok (.ireturn, 1) := by decide +kernel
theorem dX5_correct_26 : decode cX5_correct 26 = .ok (.iload_n 3, 1) := by decide +kernel
theorem dX5_correct_27 : decode cX5_correct 27 = .ok (.ifCond .lt 9, 3) := by decide +kernel
theorem dX5_correct_30 : decode cX5_correct 30 = .ok (.iload_n 3, 1) := by decide +kernel
theorem dX5_correct_31 : decode cX5_correct 31 = .ok (.ldc 162, 2) := by decide +kernel
theorem dX5_correct_33 : decode cX5_correct 33 = .ok (.if_icmp .le 6, 3) := by decide +kernel
theorem dX5_correct_36 : decode cX5_correct 36 = .ok (.bipush (-2), 2) := by decide +kernel
theorem dX5_correct_38 : decode cX5_correct 38 = .ok (.ireturn, 1) := by decide +kernel
theorem dX5_correct_39 : decode cX5_correct 39 = .ok (.aload 4, 2) := by decide +kernel
theorem dX5_correct_41 : decode cX5_correct 41 = .ok (.getfield 101, 3) := by decide +kernel
theorem dX5_correct_44 : decode cX5_correct 44 = .ok (.iload_n 2, 1) := by decide +kernel
theorem dX5_correct_45 : decode cX5_correct 45 = .ok (.iaload, 1) := by decide +kernel
theorem dX5_correct_46 : decode cX5_correct 46 = .ok (.iload_n 3, 1) := by decide +kernel
theorem dX5_correct_47 : decode cX5_correct 47 = .ok (.if_icmp .ne 6, 3) := by decide +kernel
theorem dX5_correct_50 : decode cX5_correct 50 = .ok (.bipush (-5), 2) := by decide +kernel
theorem dX5_correct_52 : decode cX5_correct 52 = .ok (.ireturn, 1) := by decide +kernel
theorem dX5_correct_53 : decode cX5_correct 53 = .ok (.aload_n 0, 1) := by decide +kernel
theorem dX5_correct_54 : decode cX5_correct 54 = .ok (.getfield 26, 3) := by decide +kernel
theorem dX5_correct_57 : decode cX5_correct 57 = .ok (.aload_n 0, 1) := by decide +kernel
theorem dX5_correct_58 : decode cX5_correct 58 = .ok (.getfield 12, 3) := by decide +kernel
theorem dX5_correct_61 : decode cX5_correct 61 = .ok (.invokevirtual 51, 3) := by decide +kernel
theorem dX5_correct_64 : decode cX5_correct 64 = .ok (.aload_n 0, 1) := by decide +kernel
theorem dX5_correct_65 : decode cX5_correct 65 = .ok (.getfield 12, 3) := by decide +kernel
theorem dX5_correct_68 : decode cX5_correct 68 = .ok (.dup, 1) := by decide +kernel
theorem dX5_correct_69 : decode cX5_correct 69 = .ok (.getfield 163, 3) := by decide +kernel
theorem dX5_correct_72 : decode cX5_correct 72 = .ok (.iconst 1, 1) := by decide +kernel
theorem dX5_correct_73 : decode cX5_correct 73 = .ok (.iadd, 1) := by decide +kernel
theorem dX5_correct_74 : decode cX5_correct 74 = .ok (.putfield 163, 3) := by decide +kernel
theorem dX5_correct_77 : decode cX5_correct 77 = .ok (.aload 4, 2) := by decide +kernel
theorem dX5_correct_79 : decode cX5_correct 79 = .ok (.getfield 101, 3) := by decide +kernel
theorem dX5_correct_82 : decode cX5_correct 82 = .ok (.iload_n 2, 1) := by decide +kernel
theorem dX5_correct_83 : decode cX5_correct 83 = .ok (.iload_n 3, 1) := by decide +kernel
theorem dX5_correct_84 : decode cX5_correct 84 = .ok (.iastore, 1) := by decide +kernel
theorem dX5_correct_85 : decode cX5_correct 85 = .ok (.aload_n 0, 1) := by decide +kernel
theorem dX5_correct_86 : decode cX5_correct 86 = .ok (.getfield 40, 3) := by decide +kernel
theorem dX5_correct_89 : decode cX5_correct 89 = .ok (.aload_n 0, 1) := by decide +kernel
theorem dX5_correct_90 : decode cX5_correct 90 = .ok (.getfield 12, 3) := by decide +kernel
theorem dX5_correct_93 : decode cX5_correct 93 = .ok (.aload 4, 2) := by decide +kernel
theorem dX5_correct_95 : decode cX5_correct 95 = .ok (.invokevirtual 166, 3) := by decide +kernel
theorem dX5_correct_98 : decode cX5_correct 98 = .ok (.aload_n 0, 1) := by decide +kernel
theorem dX5_correct_99 : decode cX5_correct 99 = .ok (.getfield 40, 3) := by decide +kernel
theorem dX5_correct_102 : decode cX5_correct 102 = .ok (.aload_n 0, 1) := by decide +kernel
theorem dX5_correct_103 : decode cX5_correct 103 = .ok (.getfield 12, 3) := by decide +kernel
theorem dX5_correct_106 : decode cX5_correct 106 = .ok (.aload 4, 2) := by decide +kernel
theorem dX5_correct_108 : decode cX5_correct 108 = .ok (.invokevirtual 147, 3) := by decide +kernel
theorem dX5_correct_111 : decode cX5_correct 111 = .ok (.aload 4, 2) := by decide +kernel
theorem dX5_correct_113 : decode cX5_correct 113 = .ok (.aload_n 0, 1) := by decide +kernel
theorem dX5_correct_114 : decode cX5_correct 114 = .ok (.getfield 40, 3) := by decide +kernel
theorem dX5_correct_117 : decode cX5_correct 117 = .ok (.getfield 151, 3) := by decide +kernel
theorem dX5_correct_120 : decode cX5_correct 120 = .ok (.invokevirtual 169, 3) := by decide +kernel
theorem dX5_correct_123 : decode cX5_correct 123 = .ok (.ireturn, 1) := by decide +kernel
set_option maxRecDepth 20000 in
theorem ggX5_type_X3_append : GoodIn wsX5_type wsX3_append := goodIn_r _ [7, 8, 9, 16, 17, 18, 19, 20, 21, 22] (by decide +kernel) (by decide +kernel)
set_option maxRecDepth 20000 in
theorem gX5_type_X3_append : GoodIn wsX5_type (wsV RX5 172 RX3 yX3_append wsX3_append) := goodIn_app (goodIn_of _ (by decide +kernel)) ggX5_type_X3_append
theorem dX5_type_0 : decode cX5_type 0 = .ok (.aload_n 0, 1) := by decide +kernel
theorem dX5_type_1 : decode cX5_type 1 = .ok (.getfield 33, 3) := by decide +kernel
theorem dX5_type_4 : decode cX5_type 4 = .ok (.iload_n 1, 1) := by decide +kernel
theorem dX5_type_5 : decode cX5_type 5 = .ok (.invokevirtual 172, 3) := by decide +kernel
theorem dX5_type_8 : decode cX5_type 8 = .ok (.ifCond .eq 13, 3) := by decide +kernel
theorem dX5_type_11 : decode cX5_type 11 = .ok (.aload_n 0, 1) := by decide +kernel
theorem dX5_type_12 : decode cX5_type 12 = .ok (.getfield 33, 3) := by decide +kernel
theorem dX5_type_15 : decode cX5_type 15 = .ok (.getfield 176, 3) := by decide +kernel
theorem dX5_type_18 : decode cX5_type 18 = .ok (.goto 5, 3) := by decide +kernel
theorem dX5_type_21 : decode cX5_type 21 = .ok (.bipush (-3), 2) := by decide +kernel
theorem dX5_type_23 : decode cX5_type 23 = .ok (.ireturn, 1) := by decide +kernel
theorem dX5_clearText_0 : decode cX5_clearText 0 = .ok (.aload_n 0, 1) := by decide +kernel
theorem dX5_clearText_1 : decode cX5_clearText 1 = .ok (.getfield 33, 3) := by decide +kernel
theorem dX5_clearText_4 : decode cX5_clearText 4 = .ok (.getfield 176, 3) := by decide +kernel
theorem dX5_clearText_7 : decode cX5_clearText 7 = .ok (.istore_n 1, 1) := by decide +kernel
theorem dX5_clearText_8 : decode cX5_clearText 8 = .ok (.aload_n 0, 1) := by decide +kernel
theorem dX5_clearText_9 : decode cX5_clearText 9 = .ok (.getfield 33, 3) := by decide +kernel
theorem dX5_clearText_12 : decode cX5_clearText 12 = .ok (.iconst 0, 1) := by decide +kernel
theorem dX5_clearText_13 : decode cX5_clearText 13 = .ok (.putfield 176, 3) := by decide +kernel
theorem dX5_clearText_16 : decode cX5_clearText 16 = .ok (.iload_n 1, 1) := by decide +kernel
theorem dX5_clearText_17 : decode cX5_clearText 17 = .ok (.ireturn, 1) := by decide +kernel
set_option maxRecDepth 20000 in
theorem ggX5_undo_X1_removeLatest : GoodIn wsX5_undo wsX1_removeLatest := goodIn_r _ [8, 9, 10, 11, 53, 54, 55] (by decide +kernel) (by decide +kernel)
set_option maxRecDepth 20000 in
theorem gX5_undo_X1_removeLatest : GoodIn wsX5_undo (wsV RX5 179 RX1 yX1_removeLatest wsX1_removeLatest) := goodIn_app (goodIn_of _ (by decide +kernel)) ggX5_undo_X1_removeLatest
set_option maxRecDepth 20000 in
theorem ggX5_undo_X2_copyFrom : GoodIn wsX5_undo wsX2_copyFrom := goodIn_r _ [16, 17, 18, 19, 20, 21, 22, 23, 24, 25, 26, 27, 28, 29, 30, 31, 32, 33, 34, 35, 36, 37, 38, 39, 40, 41, 42, 43, 44, 45, 46, 56, 57, 58, 59, 60, 61, 62, 63, 64, 65, 66, 67, 68, 69, 70, 71, 72, 73, 74, 75] (by decide +kernel) (by decide +kernel)
set_option maxRecDepth 20000 in
theorem gX5_undo_X2_copyFrom : GoodIn wsX5_undo (wsV RX5 183 RX2 yX2_copyFrom wsX2_copyFrom) := goodIn_app (goodIn_of _ (by decide +kernel)) ggX5_undo_X2_copyFrom
theorem dX5_undo_0 : decode cX5_undo 0 = .ok (.aload_n 0, 1) := by decide +kernel
theorem dX5_undo_1 : decode cX5_undo 1 = .ok (.getfield 26, 3) := by decide +kernel
theorem dX5_undo_4 : decode cX5_undo 4 = .ok (.invokevirtual 179, 3) := by decide +kernel
theorem dX5_undo_7 : decode cX5_undo 7 = .ok (.astore_n 1, 1) := by decide +kernel
theorem dX5_undo_8 : decode cX5_undo 8 = .ok (.aload_n 1, 1) := by decide +kernel
theorem dX5_undo_9 : decode cX5_undo 9 = .ok (.ifnonnull 6, 3) := by decide +kernel
theorem dX5_undo_12 : decode cX5_undo 12 = .ok (.bipush (-5), 2) := by decide +kernel
theorem dX5_undo_14 : decode cX5_undo 14 = .ok (.ireturn, 1) := by decide +kernel
theorem dX5_undo_15 : decode cX5_undo 15 = .ok (.aload_n 0, 1) := by decide +kernel
theorem dX5_undo_16 : decode cX5_undo 16 = .ok (.getfield 12, 3) := by decide +kernel
theorem dX5_undo_19 : decode cX5_undo 19 = .ok (.aload_n 1, 1) := by decide +kernel
theorem dX5_undo_20 : decode cX5_undo 20 = .ok (.invokevirtual 183, 3) := by decide +kernel
theorem dX5_undo_23 : decode cX5_undo 23 = .ok (.aload_n 0, 1) := by decide +kernel
theorem dX5_undo_24 : decode cX5_undo 24 = .ok (.getfield 26, 3) := by decide +kernel
theorem dX5_undo_27 : decode cX5_undo 27 = .ok (.getfield 186, 3) := by decide +kernel
theorem dX5_undo_30 : decode cX5_undo 30 = .ok (.ireturn, 1) := by decide +kernel
set_option maxRecDepth 20000 in
theorem ggX5_keep_X2_copyFrom : GoodIn wsX5_keep wsX2_copyFrom := goodIn_r _ [9, 10, 11, 12, 13, 14, 15, 16, 17, 18, 19, 20, 21, 22, 23, 24, 25, 26, 27, 28, 29, 30, 31, 32, 33, 34, 35, 36, 37, 38, 39, 46, 47, 48, 49, 50, 51, 52, 53, 54, 55, 56, 57, 58, 59, 60, 61, 62, 63, 64, 65] (by decide +kernel) (by decide +kernel)
set_option maxRecDepth 20000 in
theorem gX5_keep_X2_copyFrom : GoodIn wsX5_keep (wsV RX5 183 RX2 yX2_copyFrom wsX2_copyFrom) := goodIn_app (goodIn_of _ (by decide +kernel)) ggX5_keep_X2_copyFrom
theorem dX5_keep_0 : decode cX5_keep 0 = .ok (.aload_n 0, 1) := by decide +kernel
theorem dX5_keep_1 : decode cX5_keep 1 = .ok (.getfield 16, 3) := by decide +kernel
theorem dX5_keep_4 : decode cX5_keep 4 = .ok (.aload_n 0, 1) := by decide +kernel
theorem dX5_keep_5 : decode cX5_keep 5 = .ok (.getfield 12, 3) := by decide +kernel
theorem dX5_keep_8 : decode cX5_keep 8 = .ok (.invokevirtual 183, 3) := by decide +kernel
theorem dX5_keep_11 : decode cX5_keep 11 = .ok (.aload_n 0, 1) := by decide +kernel
theorem dX5_keep_12 : decode cX5_keep 12 = .ok (.iconst 1, 1) := by decide +kernel
theorem dX5_keep_13 : decode cX5_keep 13 = .ok (.putfield 19, 3) := by decide +kernel
theorem dX5_keep_16 : decode cX5_keep 16 = .ok (.aload_n 0, 1) := by decide +kernel
theorem dX5_keep_17 : decode cX5_keep 17 = .ok (.getfield 12, 3) := by decide +kernel
theorem dX5_keep_20 : decode cX5_keep 20 = .ok (.getfield 48, 3) := by decide +kernel
theorem dX5_keep_23 : decode cX5_keep 23 = .ok (.ireturn, 1) := by decide +kernel
set_option maxRecDepth 20000 in
theorem ggX5_restore_X1_remember : GoodIn wsX5_restore wsX1_remember := goodIn_r _ [10, 11, 12, 13, 14, 15, 16, 17, 18, 19, 20, 21, 22, 23, 24, 25, 26, 27, 28, 29, 30, 31, 32, 33, 34, 35, 36, 37, 38, 39, 40, 41, 42, 43, 44, 45, 46, 47, 48, 68, 69, 70, 56, 57, 58, 59, 60, 61, 62, 63, 64, 65, 66, 67, 71, 72, 73, 74, 75, 76, 77, 78] (by decide +kernel) (by decide +kernel)
set_option maxRecDepth 20000 in
theorem gX5_restore_X1_remember : GoodIn wsX5_restore (wsV RX5 51 RX1 yX1_remember wsX1_remember) := goodIn_app (goodIn_of _ (by decide +kernel)) ggX5_restore_X1_remember
set_option maxRecDepth 20000 in
theorem ggX5_restore_X2_copyFrom : GoodIn wsX5_restore wsX2_copyFrom := goodIn_r _ [18, 19, 20, 21, 22, 23, 24, 25, 26, 27, 28, 29, 30, 31, 32, 33, 34, 35, 36, 37, 38, 39, 40, 41, 42, 43, 44, 45, 46, 47, 48, 56, 57, 58, 59, 60, 61, 62, 63, 64, 65, 66, 67, 71, 72, 73, 74, 75, 76, 77, 78] (by decide +kernel) (by decide +kernel)
set_option maxRecDepth 20000 in
theorem gX5_restore_X2_copyFrom : GoodIn wsX5_restore (wsV RX5 183 RX2 yX2_copyFrom wsX2_copyFrom) := goodIn_app (goodIn_of _ (by decide +kernel)) ggX5_restore_X2_copyFrom
theorem dX5_restore_0 : decode cX5_restore 0 = .ok (.aload_n 0, 1) := by decide +kernel
theorem dX5_restore_1 : decode cX5_restore 1 = .ok (.getfield 19, 3) := by decide +kernel
theorem dX5_restore_4 : decode cX5_restore 4 = .ok (.ifCond .ne 6, 3) := by decide +kernel
theorem dX5_restore_7 : decode cX5_restore 7 = .ok (.bipush (-5), 2) := by decide +kernel
theorem dX5_restore_9 : decode cX5_restore 9 = .ok (.ireturn, 1) := by decide +kernel
theorem dX5_restore_10 : decode cX5_restore 10 = .ok (.aload_n 0, 1) := by decide +kernel
theorem dX5_restore_11 : decode cX5_restore 11 = .ok (.getfield 26, 3) := by decide +kernel
theorem dX5_restore_14 : decode cX5_restore 14 = .ok (.aload_n 0, 1) := by decide +kernel
theorem dX5_restore_15 : decode cX5_restore 15 = .ok (.getfield 12, 3) := by decide +kernel
theorem dX5_restore_18 : decode cX5_restore 18 = .ok (.invokevirtual 51, 3) := by decide +kernel
theorem dX5_restore_21 : decode cX5_restore 21 = .ok (.aload_n 0, 1) := by decide +kernel
theorem dX5_restore_22 : decode cX5_restore 22 = .ok (.getfield 12, 3) := by decide +kernel
theorem dX5_restore_25 : decode cX5_restore 25 = .ok (.aload_n 0, 1) := by decide +kernel
theorem dX5_restore_26 : decode cX5_restore 26 = .ok (.getfield 16, 3) := by decide +kernel
theorem dX5_restore_29 : decode cX5_restore 29 = .ok (.invokevirtual 183, 3) := by decide +kernel
theorem dX5_restore_32 : decode cX5_restore 32 = .ok (.aload_n 0, 1) := by decide +kernel
theorem dX5_restore_33 : decode cX5_restore 33 = .ok (.getfield 12, 3) := by decide +kernel
theorem dX5_restore_36 : decode cX5_restore 36 = .ok (.getfield 48, 3) := by decide +kernel
theorem dX5_restore_39 : decode cX5_restore 39 = .ok (.ireturn, 1) := by decide +kernel
set_option maxRecDepth 20000 in
theorem ggX5_flat_X2_hasFlat : GoodIn wsX5_flat wsX2_hasFlat := goodIn_r _ [14, 15, 99, 100, 101, 102, 103, 104, 105, 106, 107, 108, 109, 110] (by decide +kernel) (by decide +kernel)
set_option maxRecDepth 20000 in
theorem gX5_flat_X2_hasFlat : GoodIn wsX5_flat (wsV RX5 59 RX2 yX2_hasFlat wsX2_hasFlat) := goodIn_app (goodIn_of _ (by decide +kernel)) ggX5_flat_X2_hasFlat
set_option maxRecDepth 20000 in
theorem ggX5_flat_X5_drawUpOpenYear : GoodIn wsX5_flat wsX5_drawUpOpenYear := goodIn_r _ [20, 1, 3, 7, 21, 22, 23, 13, 24, 25, 26, 27, 28, 29, 30, 31, 32, 33, 34, 35, 36, 37, 38, 39, 40, 41, 42, 43, 44, 45, 46, 47, 48, 49, 50, 51, 52, 53, 54, 55, 56, 57, 58, 59, 60, 61, 62, 63, 64, 65, 66, 67, 68, 69, 70, 71, 72, 19, 73, 74, 75, 76, 77, 78, 79, 80, 81, 82, 83, 93, 94, 95, 96, 97, 98, 99, 100, 101, 102, 103, 104, 105, 106, 107, 108, 109, 110, 116, 117, 118, 119, 120, 121, 122, 123, 111, 112, 113, 114, 115] (by decide +kernel) (by decide +kernel)
set_option maxRecDepth 20000 in
theorem gX5_flat_X5_drawUpOpenYear : GoodIn wsX5_flat (wsV RX5 144 RX5 yX5_drawUpOpenYear wsX5_drawUpOpenYear) := goodIn_app (goodIn_of _ (by decide +kernel)) ggX5_flat_X5_drawUpOpenYear
set_option maxRecDepth 20000 in
theorem ggX5_flat_X2_devicesAsBits : GoodIn wsX5_flat wsX2_devicesAsBits := goodIn_r _ [87, 25, 26, 88, 99, 100, 101, 102, 103, 104, 105, 106, 107, 108, 109, 110, 116, 117, 118, 119, 120, 121, 122, 123] (by decide +kernel) (by decide +kernel)
set_option maxRecDepth 20000 in
theorem gX5_flat_X2_devicesAsBits : GoodIn wsX5_flat (wsV RX5 189 RX2 yX2_devicesAsBits wsX2_devicesAsBits) := goodIn_app (goodIn_of _ (by decide +kernel)) ggX5_flat_X2_devicesAsBits
set_option maxRecDepth 20000 in
theorem ggX5_flat_X0_billOfFlat : GoodIn wsX5_flat wsX0_billOfFlat := goodIn_r _ [92, 70, 71, 111, 112, 113, 114, 115] (by decide +kernel) (by decide +kernel)
set_option maxRecDepth 20000 in
theorem gX5_flat_X0_billOfFlat : GoodIn wsX5_flat (wsV RX5 201 RX0 yX0_billOfFlat wsX0_billOfFlat) := goodIn_app (goodIn_of _ (by decide +kernel)) ggX5_flat_X0_billOfFlat
theorem dX5_flat_0 : decode cX5_flat 0 = .ok (.aload_n 0, 1) := by decide +kernel
theorem dX5_flat_1 : decode cX5_flat 1 = .ok (.getfield 12, 3) := by decide +kernel
theorem dX5_flat_4 : decode cX5_flat 4 = .ok (.iload_n 1, 1) := by decide +kernel
theorem dX5_flat_5 : decode cX5_flat 5 = .ok (.invokevirtual 59, 3) := by decide +kernel
theorem dX5_flat_8 : decode cX5_flat 8 = .ok (.ifCond .ne 5, 3) := by decide +kernel
theorem dX5_flat_11 : decode cX5_flat 11 = .ok (.iconst (-1), 1) := by decide +kernel
theorem dX5_flat_12 : decode cX5_flat 12 = .ok (.ireturn, 1) := by decide +kernel
theorem dX5_flat_13 : decode cX5_flat 13 = .ok (.iload_n 2, 1) := by decide +kernel
theorem dX5_flat_14 : decode cX5_flat 14 = .ok (.ifCond .lt 9, 3) := by decide +kernel
theorem dX5_flat_17 : decode cX5_flat 17 = .ok (.iload_n 2, 1) := by decide +kernel
theorem dX5_flat_18 : decode cX5_flat 18 = .ok (.bipush 7, 2) := by decide +kernel
theorem dX5_flat_20 : decode cX5_flat 20 = .ok (.if_icmp .le 6, 3) := by decide +kernel
theorem dX5_flat_23 : decode cX5_flat 23 = .ok (.bipush (-2), 2) := by decide +kernel
theorem dX5_flat_25 : decode cX5_flat 25 = .ok (.ireturn, 1) := by decide +kernel
theorem dX5_flat_26 : decode cX5_flat 26 = .ok (.aload_n 0, 1) := by decide +kernel
theorem dX5_flat_27 : decode cX5_flat 27 = .ok (.invokevirtual 144, 3) := by decide +kernel
theorem dX5_flat_30 : decode cX5_flat 30 = .ok (.iload_n 2, 1) := by decide +kernel
theorem dX5_flat_31 : decode cX5_flat 31 = .ok (.tableswitch 112 0 6 #[41, 51, 60, 70, 80, 90, 99], 41) := by decide +kernel
theorem dX5_flat_72 : decode cX5_flat 72 = .ok (.aload_n 0, 1) := by decide +kernel
theorem dX5_flat_73 : decode cX5_flat 73 = .ok (.getfield 12, 3) := by decide +kernel
theorem dX5_flat_76 : decode cX5_flat 76 = .ok (.getfield 55, 3) := by decide +kernel
theorem dX5_flat_79 : decode cX5_flat 79 = .ok (.iload_n 1, 1) := by decide +kernel
theorem dX5_flat_80 : decode cX5_flat 80 = .ok (.iaload, 1) := by decide +kernel
theorem dX5_flat_81 : decode cX5_flat 81 = .ok (.ireturn, 1) := by decide +kernel
theorem dX5_flat_82 : decode cX5_flat 82 = .ok (.aload_n 0, 1) := by decide +kernel
theorem dX5_flat_83 : decode cX5_flat 83 = .ok (.getfield 12, 3) := by decide +kernel
theorem dX5_flat_86 : decode cX5_flat 86 = .ok (.iload_n 1, 1) := by decide +kernel
theorem dX5_flat_87 : decode cX5_flat 87 = .ok (.invokevirtual 189, 3) := by decide +kernel
theorem dX5_flat_90 : decode cX5_flat 90 = .ok (.ireturn, 1) := by decide +kernel
theorem dX5_flat_91 : decode cX5_flat 91 = .ok (.aload_n 0, 1) := by decide +kernel
theorem dX5_flat_92 : decode cX5_flat 92 = .ok (.getfield 40, 3) := by decide +kernel
theorem dX5_flat_95 : decode cX5_flat 95 = .ok (.getfield 192, 3) := by decide +kernel
theorem dX5_flat_98 : decode cX5_flat 98 = .ok (.iload_n 1, 1) := by decide +kernel
theorem dX5_flat_99 : decode cX5_flat 99 = .ok (.iaload, 1) := by decide +kernel
theorem dX5_flat_100 : decode cX5_flat 100 = .ok (.ireturn, 1) := by decide +kernel
theorem dX5_flat_101 : decode cX5_flat 101 = .ok (.aload_n 0, 1) := by decide +kernel
theorem dX5_flat_102 : decode cX5_flat 102 = .ok (.getfield 40, 3) := by decide +kernel
theorem dX5_flat_105 : decode cX5_flat 105 = .ok (.getfield 195, 3) := by decide +kernel
theorem dX5_flat_108 : decode cX5_flat 108 = .ok (.iload_n 1, 1) := by decide +kernel
theorem dX5_flat_109 : decode cX5_flat 109 = .ok (.iaload, 1) := by decide +kernel
theorem dX5_flat_110 : decode cX5_flat 110 = .ok (.ireturn, 1) := by decide +kernel
theorem dX5_flat_111 : decode cX5_flat 111 = .ok (.aload_n 0, 1) := by decide +kernel
theorem dX5_flat_112 : decode cX5_flat 112 = .ok (.getfield 40, 3) := by decide +kernel
theorem dX5_flat_115 : decode cX5_flat 115 = .ok (.getfield 198, 3) := by decide +kernel
theorem dX5_flat_118 : decode cX5_flat 118 = .ok (.iload_n 1, 1) := by decide +kernel
theorem dX5_flat_119 : decode cX5_flat 119 = .ok (.iaload, 1) := by decide +kernel
theorem dX5_flat_120 : decode cX5_flat 120 = .ok (.ireturn, 1) := by decide +kernel
theorem dX5_flat_121 : decode cX5_flat 121 = .ok (.aload_n 0, 1) := by decide +kernel
theorem dX5_flat_122 : decode cX5_flat 122 = .ok (.getfield 40, 3) := by decide +kernel
theorem dX5_flat_125 : decode cX5_flat 125 = .ok (.iload_n 1, 1) := by decide +kernel
theorem dX5_flat_126 : decode cX5_flat 126 = .ok (.invokevirtual 201, 3) := by decide +kernel
theorem dX5_flat_129 : decode cX5_flat 129 = .ok (.ireturn, 1) := by decide +kernel
theorem dX5_flat_130 : decode cX5_flat 130 = .ok (.aload_n 0, 1) := by decide +kernel
theorem dX5_flat_131 : decode cX5_flat 131 = .ok (.getfield 12, 3) := by decide +kernel
theorem dX5_flat_134 : decode cX5_flat 134 = .ok (.getfield 63, 3) := by decide +kernel
theorem dX5_flat_137 : decode cX5_flat 137 = .ok (.getfield 135, 3) := by decide +kernel
theorem dX5_flat_140 : decode cX5_flat 140 = .ok (.iload_n 1, 1) := by decide +kernel
theorem dX5_flat_141 : decode cX5_flat 141 = .ok (.iaload, 1) := by decide +kernel
theorem dX5_flat_142 : decode cX5_flat 142 = .ok (.ireturn, 1) := by decide +kernel
theorem dX5_flat_143 : decode cX5_flat 143 = .ok (.aload_n 0, 1) := by decide +kernel
theorem dX5_flat_144 : decode cX5_flat 144 = .ok (.getfield 12, 3) := by decide +kernel
theorem dX5_flat_147 : decode cX5_flat 147 = .ok (.getfield 63, 3) := by decide +kernel
theorem dX5_flat_150 : decode cX5_flat 150 = .ok (.getfield 141, 3) := by decide +kernel
theorem dX5_flat_153 : decode cX5_flat 153 = .ok (.iload_n 1, 1) := by decide +kernel
theorem dX5_flat_154 : decode cX5_flat 154 = .ok (.iaload, 1) := by decide +kernel
theorem dX5_flat_155 : decode cX5_flat 155 = .ok (.ireturn, 1) := by decide +kernel
set_option maxRecDepth 20000 in
theorem ggX5_device_X4_hasDevice : GoodIn wsX5_device wsX4_hasDevice := goodIn_r _ [13, 14, 57, 58, 59, 60, 61, 62, 63, 64] (by decide +kernel) (by decide +kernel)
set_option maxRecDepth 20000 in
theorem gX5_device_X4_hasDevice : GoodIn wsX5_device (wsV RX5 89 RX4 yX4_hasDevice wsX4_hasDevice) := goodIn_app (goodIn_of _ (by decide +kernel)) ggX5_device_X4_hasDevice
set_option maxRecDepth 20000 in
theorem ggX5_device_X2_countUnits : GoodIn wsX5_device wsX2_countUnits := goodIn_r _ [19, 20, 21, 22, 23, 24, 25, 26, 27, 28, 29, 18, 30, 31, 32, 33, 34, 35, 36, 37, 38, 10, 11, 12, 13, 14, 45, 46, 47, 48, 49, 50, 51, 52, 53, 54, 55, 56, 57, 58, 59, 60, 61, 62, 63, 64] (by decide +kernel) (by decide +kernel)
set_option maxRecDepth 20000 in
theorem gX5_device_X2_countUnits : GoodIn wsX5_device (wsV RX5 98 RX2 yX2_countUnits wsX2_countUnits) := goodIn_app (goodIn_of _ (by decide +kernel)) ggX5_device_X2_countUnits
theorem dX5_device_0 : decode cX5_device 0 = .ok (.aload_n 0, 1) := by decide +kernel
theorem dX5_device_1 : decode cX5_device 1 = .ok (.getfield 12, 3) := by decide +kernel
theorem dX5_device_4 : decode cX5_device 4 = .ok (.getfield 63, 3) := by decide +kernel
theorem dX5_device_7 : decode cX5_device 7 = .ok (.iload_n 1, 1) := by decide +kernel
theorem dX5_device_8 : decode cX5_device 8 = .ok (.invokevirtual 89, 3) := by decide +kernel
theorem dX5_device_11 : decode cX5_device 11 = .ok (.ifCond .ne 5, 3) := by decide +kernel
theorem dX5_device_14 : decode cX5_device 14 = .ok (.iconst (-1), 1) := by decide +kernel
theorem dX5_device_15 : decode cX5_device 15 = .ok (.ireturn, 1) := by decide +kernel
theorem dX5_device_16 : decode cX5_device 16 = .ok (.iload_n 2, 1) := by decide +kernel
theorem dX5_device_17 : decode cX5_device 17 = .ok (.ifCond .lt 8, 3) := by decide +kernel
theorem dX5_device_20 : decode cX5_device 20 = .ok (.iload_n 2, 1) := by decide +kernel
theorem dX5_device_21 : decode cX5_device 21 = .ok (.iconst 5, 1) := by decide +kernel
theorem dX5_device_22 : decode cX5_device 22 = .ok (.if_icmp .le 6, 3) := by decide +kernel
theorem dX5_device_25 : decode cX5_device 25 = .ok (.bipush (-2), 2) := by decide +kernel
theorem dX5_device_27 : decode cX5_device 27 = .ok (.ireturn, 1) := by decide +kernel
theorem dX5_device_28 : decode cX5_device 28 = .ok (.iload_n 2, 1) := by decide +kernel
theorem dX5_device_29 : decode cX5_device 29 = .ok (.tableswitch 93 0 4 #[35, 45, 55, 65, 75], 35) := by decide +kernel
theorem dX5_device_64 : decode cX5_device 64 = .ok (.aload_n 0, 1) := by decide +kernel
theorem dX5_device_65 : decode cX5_device 65 = .ok (.getfield 12, 3) := by decide +kernel
theorem dX5_device_68 : decode cX5_device 68 = .ok (.getfield 72, 3) := by decide +kernel
theorem dX5_device_71 : decode cX5_device 71 = .ok (.iload_n 1, 1) := by decide +kernel
theorem dX5_device_72 : decode cX5_device 72 = .ok (.iaload, 1) := by decide +kernel
theorem dX5_device_73 : decode cX5_device 73 = .ok (.ireturn, 1) := by decide +kernel
theorem dX5_device_74 : decode cX5_device 74 = .ok (.aload_n 0, 1) := by decide +kernel
theorem dX5_device_75 : decode cX5_device 75 = .ok (.getfield 12, 3) := by decide +kernel
theorem dX5_device_78 : decode cX5_device 78 = .ok (.getfield 75, 3) := by decide +kernel
theorem dX5_device_81 : decode cX5_device 81 = .ok (.iload_n 1, 1) := by decide +kernel
theorem dX5_device_82 : decode cX5_device 82 = .ok (.iaload, 1) := by decide +kernel
theorem dX5_device_83 : decode cX5_device 83 = .ok (.ireturn, 1) := by decide +kernel
theorem dX5_device_84 : decode cX5_device 84 = .ok (.aload_n 0, 1) := by decide +kernel
theorem dX5_device_85 : decode cX5_device 85 = .ok (.getfield 12, 3) := by decide +kernel
theorem dX5_device_88 : decode cX5_device 88 = .ok (.getfield 92, 3) := by decide +kernel
theorem dX5_device_91 : decode cX5_device 91 = .ok (.iload_n 1, 1) := by decide +kernel
theorem dX5_device_92 : decode cX5_device 92 = .ok (.iaload, 1) := by decide +kernel
theorem dX5_device_93 : decode cX5_device 93 = .ok (.ireturn, 1) := by decide +kernel
theorem dX5_device_94 : decode cX5_device 94 = .ok (.aload_n 0, 1) := by decide +kernel
theorem dX5_device_95 : decode cX5_device 95 = .ok (.getfield 12, 3) := by decide +kernel
theorem dX5_device_98 : decode cX5_device 98 = .ok (.getfield 95, 3) := by decide +kernel
theorem dX5_device_101 : decode cX5_device 101 = .ok (.iload_n 1, 1) := by decide +kernel
theorem dX5_device_102 : decode cX5_device 102 = .ok (.iaload, 1) := by decide +kernel
theorem dX5_device_103 : decode cX5_device 103 = .ok (.ireturn, 1) := by decide +kernel
theorem dX5_device_104 : decode cX5_device 104 = .ok (.aload_n 0, 1) := by decide +kernel
theorem dX5_device_105 : decode cX5_device 105 = .ok (.getfield 12, 3) := by decide +kernel
theorem dX5_device_108 : decode cX5_device 108 = .ok (.getfield 104, 3) := by decide +kernel
theorem dX5_device_111 : decode cX5_device 111 = .ok (.iload_n 1, 1) := by decide +kernel
theorem dX5_device_112 : decode cX5_device 112 = .ok (.baload, 1) := by decide +kernel
theorem dX5_device_113 : decode cX5_device 113 = .ok (.ifCond .eq 7, 3) := by decide +kernel
theorem dX5_device_116 : decode cX5_device 116 = .ok (.iconst 1, 1) := by decide +kernel
theorem dX5_device_117 : decode cX5_device 117 = .ok (.goto 4, 3) := by decide +kernel
theorem dX5_device_120 : decode cX5_device 120 = .ok (.iconst 0, 1) := by decide +kernel
theorem dX5_device_121 : decode cX5_device 121 = .ok (.ireturn, 1) := by decide +kernel
theorem dX5_device_122 : decode cX5_device 122 = .ok (.aload_n 0, 1) := by decide +kernel
theorem dX5_device_123 : decode cX5_device 123 = .ok (.getfield 12, 3) := by decide +kernel
theorem dX5_device_126 : decode cX5_device 126 = .ok (.invokevirtual 98, 3) := by decide +kernel
theorem dX5_device_129 : decode cX5_device 129 = .ok (.aload_n 0, 1) := by decide +kernel
theorem dX5_device_130 : decode cX5_device 130 = .ok (.getfield 12, 3) := by decide +kernel
theorem dX5_device_133 : decode cX5_device 133 = .ok (.getfield 63, 3) := by decide +kernel
theorem dX5_device_136 : decode cX5_device 136 = .ok (.getfield 101, 3) := by decide +kernel
theorem dX5_device_139 : decode cX5_device 139 = .ok (.iload_n 1, 1) := by decide +kernel
theorem dX5_device_140 : decode cX5_device 140 = .ok (.iaload, 1) := by decide +kernel
theorem dX5_device_141 : decode cX5_device 141 = .ok (.ireturn, 1) := by decide +kernel
set_option maxRecDepth 20000 in
theorem ggX5_draft_X2_hasFlat : GoodIn wsX5_draft wsX2_hasFlat := goodIn_r _ [9, 10, 116, 117, 118, 119, 120, 121, 122, 123, 124, 125, 126, 127] (by decide +kernel) (by decide +kernel)
set_option maxRecDepth 20000 in
theorem gX5_draft_X2_hasFlat : GoodIn wsX5_draft (wsV RX5 59 RX2 yX2_hasFlat wsX2_hasFlat) := goodIn_app (goodIn_of _ (by decide +kernel)) ggX5_draft_X2_hasFlat
set_option maxRecDepth 20000 in
theorem ggX5_draft_X4_hasMove : GoodIn wsX5_draft wsX4_hasMove := goodIn_r _ [15, 16, 133, 134, 135, 136, 137, 138, 139, 140] (by decide +kernel) (by decide +kernel)
set_option maxRecDepth 20000 in
theorem gX5_draft_X4_hasMove : GoodIn wsX5_draft (wsV RX5 132 RX4 yX4_hasMove wsX4_hasMove) := goodIn_app (goodIn_of _ (by decide +kernel)) ggX5_draft_X4_hasMove
set_option maxRecDepth 20000 in
theorem ggX5_draft_X5_drawUpOpenYear : GoodIn wsX5_draft wsX5_drawUpOpenYear := goodIn_r _ [21, 1, 3, 2, 22, 23, 24, 8, 25, 26, 27, 28, 29, 30, 31, 32, 33, 34, 35, 36, 37, 38, 39, 40, 41, 42, 43, 44, 45, 46, 14, 47, 48, 49, 50, 51, 52, 53, 54, 55, 56, 57, 58, 59, 60, 61, 62, 63, 64, 65, 66, 67, 68, 69, 70, 71, 72, 20, 73, 74, 75, 76, 77, 78, 79, 80, 81, 82, 83, 110, 111, 112, 113, 114, 115, 116, 117, 118, 119, 120, 121, 122, 123, 124, 125, 126, 127, 133, 134, 135, 136, 137, 138, 139, 140, 128, 129, 130, 131, 132] (by decide +kernel) (by decide +kernel)
set_option maxRecDepth 20000 in
theorem gX5_draft_X5_drawUpOpenYear : GoodIn wsX5_draft (wsV RX5 144 RX5 yX5_drawUpOpenYear wsX5_drawUpOpenYear) := goodIn_app (goodIn_of _ (by decide +kernel)) ggX5_draft_X5_drawUpOpenYear
set_option maxRecDepth 20000 in
theorem ggX5_draft_X0_splitByTenants : GoodIn wsX5_draft wsX0_splitByTenants := goodIn_r _ [87, 88, 68, 60, 61, 62, 63, 89, 90, 91, 52, 92, 70, 71, 93, 12, 13, 14, 15, 16, 94, 95, 96, 97, 98, 99, 100, 101, 102, 103, 104, 20, 105, 106, 107, 108, 128, 129, 130, 131, 132, 116, 117, 118, 119, 120, 121, 122, 123, 124, 125, 126, 127, 133, 134, 135, 136, 137, 138, 139, 140] (by decide +kernel) (by decide +kernel)
set_option maxRecDepth 20000 in
theorem gX5_draft_X0_splitByTenants : GoodIn wsX5_draft (wsV RX5 147 RX0 yX0_splitByTenants wsX0_splitByTenants) := goodIn_app (goodIn_of _ (by decide +kernel)) ggX5_draft_X0_splitByTenants
set_option maxRecDepth 20000 in
theorem ggX5_draft_X5_tenantOf : GoodIn wsX5_draft wsX5_tenantOf := goodIn_r _ [108] (by decide +kernel) (by decide +kernel)
set_option maxRecDepth 20000 in
theorem gX5_draft_X5_tenantOf : GoodIn wsX5_draft (va_wsS RX5 204 yX5_tenantOf wsX5_tenantOf) := goodIn_app (goodIn_of _ (by decide +kernel)) ggX5_draft_X5_tenantOf
theorem dX5_draft_0 : decode cX5_draft 0 = .ok (.aload_n 0, 1) := by decide +kernel
theorem dX5_draft_1 : decode cX5_draft 1 = .ok (.getfield 12, 3) := by decide +kernel
theorem dX5_draft_4 : decode cX5_draft 4 = .ok (.iload_n 1, 1) := by decide +kernel
theorem dX5_draft_5 : decode cX5_draft 5 = .ok (.invokevirtual 59, 3) := by decide +kernel
theorem dX5_draft_8 : decode cX5_draft 8 = .ok (.ifCond .eq 21, 3) := by decide +kernel
theorem dX5_draft_11 : decode cX5_draft 11 = .ok (.iload_n 2, 1) := by decide +kernel
theorem dX5_draft_12 : decode cX5_draft 12 = .ok (.ifCond .eq 19, 3) := by decide +kernel
theorem dX5_draft_15 : decode cX5_draft 15 = .ok (.aload_n 0, 1) := by decide +kernel
theorem dX5_draft_16 : decode cX5_draft 16 = .ok (.getfield 12, 3) := by decide +kernel
theorem dX5_draft_19 : decode cX5_draft 19 = .ok (.getfield 63, 3) := by decide +kernel
theorem dX5_draft_22 : decode cX5_draft 22 = .ok (.iload_n 1, 1) := by decide +kernel
theorem dX5_draft_23 : decode cX5_draft 23 = .ok (.invokevirtual 132, 3) := by decide +kernel
theorem dX5_draft_26 : decode cX5_draft 26 = .ok (.ifCond .ne 5, 3) := by decide +kernel
theorem dX5_draft_29 : decode cX5_draft 29 = .ok (.iconst (-1), 1) := by decide +kernel
theorem dX5_draft_30 : decode cX5_draft 30 = .ok (.ireturn, 1) := by decide +kernel
theorem dX5_draft_31 : decode cX5_draft 31 = .ok (.aload_n 0, 1) := by decide +kernel
theorem dX5_draft_32 : decode cX5_draft 32 = .ok (.invokevirtual 144, 3) := by decide +kernel
theorem dX5_draft_35 : decode cX5_draft 35 = .ok (.aload_n 0, 1) := by decide +kernel
theorem dX5_draft_36 : decode cX5_draft 36 = .ok (.getfield 40, 3) := by decide +kernel
theorem dX5_draft_39 : decode cX5_draft 39 = .ok (.aload_n 0, 1) := by decide +kernel
theorem dX5_draft_40 : decode cX5_draft 40 = .ok (.getfield 12, 3) := by decide +kernel
theorem dX5_draft_43 : decode cX5_draft 43 = .ok (.aload_n 0, 1) := by decide +kernel
theorem dX5_draft_44 : decode cX5_draft 44 = .ok (.getfield 12, 3) := by decide +kernel
theorem dX5_draft_47 : decode cX5_draft 47 = .ok (.getfield 63, 3) := by decide +kernel
theorem dX5_draft_50 : decode cX5_draft 50 = .ok (.invokevirtual 147, 3) := by decide +kernel
theorem dX5_draft_53 : decode cX5_draft 53 = .ok (.aload_n 0, 1) := by decide +kernel
theorem dX5_draft_54 : decode cX5_draft 54 = .ok (.getfield 40, 3) := by decide +kernel
theorem dX5_draft_57 : decode cX5_draft 57 = .ok (.getfield 151, 3) := by decide +kernel
theorem dX5_draft_60 : decode cX5_draft 60 = .ok (.iload_n 1, 1) := by decide +kernel
theorem dX5_draft_61 : decode cX5_draft 61 = .ok (.iload_n 2, 1) := by decide +kernel
theorem dX5_draft_62 : decode cX5_draft 62 = .ok (.invokestatic 204, 3) := by decide +kernel
theorem dX5_draft_65 : decode cX5_draft 65 = .ok (.iaload, 1) := by decide +kernel
theorem dX5_draft_66 : decode cX5_draft 66 = .ok (.ireturn, 1) := by decide +kernel
set_option maxRecDepth 20000 in
theorem ggX5_bill_X2_closedYear : GoodIn wsX5_bill wsX2_closedYear := goodIn_r _ [9, 10, 11, 41, 42, 43, 44, 45, 46, 47, 48, 49, 50, 51, 52] (by decide +kernel) (by decide +kernel)
set_option maxRecDepth 20000 in
theorem gX5_bill_X2_closedYear : GoodIn wsX5_bill (wsV RX5 158 RX2 yX2_closedYear wsX2_closedYear) := goodIn_app (goodIn_of _ (by decide +kernel)) ggX5_bill_X2_closedYear
set_option maxRecDepth 20000 in
theorem ggX5_bill_X2_hasFlat : GoodIn wsX5_bill wsX2_hasFlat := goodIn_r _ [15, 16, 41, 42, 43, 44, 45, 46, 47, 48, 49, 50, 51, 52] (by decide +kernel) (by decide +kernel)
set_option maxRecDepth 20000 in
theorem gX5_bill_X2_hasFlat : GoodIn wsX5_bill (wsV RX5 59 RX2 yX2_hasFlat wsX2_hasFlat) := goodIn_app (goodIn_of _ (by decide +kernel)) ggX5_bill_X2_hasFlat
set_option maxRecDepth 20000 in
theorem ggX5_bill_X4_hasMove : GoodIn wsX5_bill wsX4_hasMove := goodIn_r _ [21, 22, 33, 34, 35, 36, 37, 38, 39, 40] (by decide +kernel) (by decide +kernel)
set_option maxRecDepth 20000 in
theorem gX5_bill_X4_hasMove : GoodIn wsX5_bill (wsV RX5 132 RX4 yX4_hasMove wsX4_hasMove) := goodIn_app (goodIn_of _ (by decide +kernel)) ggX5_bill_X4_hasMove
set_option maxRecDepth 20000 in
theorem ggX5_bill_X5_tenantOf : GoodIn wsX5_bill wsX5_tenantOf := goodIn_r _ [26] (by decide +kernel) (by decide +kernel)
set_option maxRecDepth 20000 in
theorem gX5_bill_X5_tenantOf : GoodIn wsX5_bill (va_wsS RX5 204 yX5_tenantOf wsX5_tenantOf) := goodIn_app (goodIn_of _ (by decide +kernel)) ggX5_bill_X5_tenantOf
theorem dX5_bill_0 : decode cX5_bill 0 = .ok (.aload_n 0, 1) := by decide +kernel
theorem dX5_bill_1 : decode cX5_bill 1 = .ok (.getfield 12, 3) := by decide +kernel
theorem dX5_bill_4 : decode cX5_bill 4 = .ok (.iload_n 1, 1) := by decide +kernel
theorem dX5_bill_5 : decode cX5_bill 5 = .ok (.invokevirtual 158, 3) := by decide +kernel
theorem dX5_bill_8 : decode cX5_bill 8 = .ok (.astore 5, 2) := by decide +kernel
theorem dX5_bill_10 : decode cX5_bill 10 = .ok (.aload 5, 2) := by decide +kernel
theorem dX5_bill_12 : decode cX5_bill 12 = .ok (.ifnull 14, 3) := by decide +kernel
theorem dX5_bill_15 : decode cX5_bill 15 = .ok (.aload_n 0, 1) := by decide +kernel
theorem dX5_bill_16 : decode cX5_bill 16 = .ok (.getfield 12, 3) := by decide +kernel
theorem dX5_bill_19 : decode cX5_bill 19 = .ok (.iload_n 2, 1) := by decide +kernel
theorem dX5_bill_20 : decode cX5_bill 20 = .ok (.invokevirtual 59, 3) := by decide +kernel
theorem dX5_bill_23 : decode cX5_bill 23 = .ok (.ifCond .ne 5, 3) := by decide +kernel
theorem dX5_bill_26 : decode cX5_bill 26 = .ok (.iconst (-1), 1) := by decide +kernel
theorem dX5_bill_27 : decode cX5_bill 27 = .ok (.ireturn, 1) := by decide +kernel
theorem dX5_bill_28 : decode cX5_bill 28 = .ok (.iload_n 3, 1) := by decide +kernel
theorem dX5_bill_29 : decode cX5_bill 29 = .ok (.ifCond .eq 14, 3) := by decide +kernel
theorem dX5_bill_32 : decode cX5_bill 32 = .ok (.aload 5, 2) := by decide +kernel
theorem dX5_bill_34 : decode cX5_bill 34 = .ok (.iload_n 2, 1) := by decide +kernel
theorem dX5_bill_35 : decode cX5_bill 35 = .ok (.invokevirtual 132, 3) := by decide +kernel
theorem dX5_bill_38 : decode cX5_bill 38 = .ok (.ifCond .ne 5, 3) := by decide +kernel
theorem dX5_bill_41 : decode cX5_bill 41 = .ok (.iconst (-1), 1) := by decide +kernel
theorem dX5_bill_42 : decode cX5_bill 42 = .ok (.ireturn, 1) := by decide +kernel
theorem dX5_bill_43 : decode cX5_bill 43 = .ok (.iload_n 2, 1) := by decide +kernel
theorem dX5_bill_44 : decode cX5_bill 44 = .ok (.iload_n 3, 1) := by decide +kernel
theorem dX5_bill_45 : decode cX5_bill 45 = .ok (.invokestatic 204, 3) := by decide +kernel
theorem dX5_bill_48 : decode cX5_bill 48 = .ok (.istore 6, 2) := by decide +kernel
theorem dX5_bill_50 : decode cX5_bill 50 = .ok (.iload 4, 2) := by decide +kernel
theorem dX5_bill_52 : decode cX5_bill 52 = .ok (.ifCond .eq 17, 3) := by decide +kernel
theorem dX5_bill_55 : decode cX5_bill 55 = .ok (.ldc 208, 2) := by decide +kernel
theorem dX5_bill_57 : decode cX5_bill 57 = .ok (.aload 5, 2) := by decide +kernel
theorem dX5_bill_59 : decode cX5_bill 59 = .ok (.getfield 209, 3) := by decide +kernel
theorem dX5_bill_62 : decode cX5_bill 62 = .ok (.iload 6, 2) := by decide +kernel
theorem dX5_bill_64 : decode cX5_bill 64 = .ok (.iaload, 1) := by decide +kernel
theorem dX5_bill_65 : decode cX5_bill 65 = .ok (.iadd, 1) := by decide +kernel
theorem dX5_bill_66 : decode cX5_bill 66 = .ok (.goto 11, 3) := by decide +kernel
theorem dX5_bill_69 : decode cX5_bill 69 = .ok (.aload 5, 2) := by decide +kernel
theorem dX5_bill_71 : decode cX5_bill 71 = .ok (.getfield 212, 3) := by decide +kernel
theorem dX5_bill_74 : decode cX5_bill 74 = .ok (.iload 6, 2) := by decide +kernel
theorem dX5_bill_76 : decode cX5_bill 76 = .ok (.iaload, 1) := by decide +kernel
theorem dX5_bill_77 : decode cX5_bill 77 = .ok (.ireturn, 1) := by decide +kernel
set_option maxRecDepth 20000 in
theorem ggX5_units_X2_closedYear : GoodIn wsX5_units wsX2_closedYear := goodIn_r _ [7, 8, 9, 30, 31, 32, 33, 34, 35, 36, 37, 38, 39, 40, 41] (by decide +kernel) (by decide +kernel)
set_option maxRecDepth 20000 in
theorem gX5_units_X2_closedYear : GoodIn wsX5_units (wsV RX5 158 RX2 yX2_closedYear wsX2_closedYear) := goodIn_app (goodIn_of _ (by decide +kernel)) ggX5_units_X2_closedYear
set_option maxRecDepth 20000 in
theorem ggX5_units_X4_hasDevice : GoodIn wsX5_units wsX4_hasDevice := goodIn_r _ [14, 15, 22, 23, 24, 25, 26, 27, 28, 29] (by decide +kernel) (by decide +kernel)
set_option maxRecDepth 20000 in
theorem gX5_units_X4_hasDevice : GoodIn wsX5_units (wsV RX5 89 RX4 yX4_hasDevice wsX4_hasDevice) := goodIn_app (goodIn_of _ (by decide +kernel)) ggX5_units_X4_hasDevice
theorem dX5_units_0 : decode cX5_units 0 = .ok (.aload_n 0, 1) := by decide +kernel
theorem dX5_units_1 : decode cX5_units 1 = .ok (.getfield 12, 3) := by decide +kernel
theorem dX5_units_4 : decode cX5_units 4 = .ok (.iload_n 1, 1) := by decide +kernel
theorem dX5_units_5 : decode cX5_units 5 = .ok (.invokevirtual 158, 3) := by decide +kernel
theorem dX5_units_8 : decode cX5_units 8 = .ok (.astore_n 3, 1) := by decide +kernel
theorem dX5_units_9 : decode cX5_units 9 = .ok (.aload_n 3, 1) := by decide +kernel
theorem dX5_units_10 : decode cX5_units 10 = .ok (.ifnull 11, 3) := by decide +kernel
theorem dX5_units_13 : decode cX5_units 13 = .ok (.aload_n 3, 1) := by decide +kernel
theorem dX5_units_14 : decode cX5_units 14 = .ok (.iload_n 2, 1) := by decide +kernel
theorem dX5_units_15 : decode cX5_units 15 = .ok (.invokevirtual 89, 3) := by decide +kernel
theorem dX5_units_18 : decode cX5_units 18 = .ok (.ifCond .ne 5, 3) := by decide +kernel
theorem dX5_units_21 : decode cX5_units 21 = .ok (.iconst (-1), 1) := by decide +kernel
theorem dX5_units_22 : decode cX5_units 22 = .ok (.ireturn, 1) := by decide +kernel
theorem dX5_units_23 : decode cX5_units 23 = .ok (.aload_n 3, 1) := by decide +kernel
theorem dX5_units_24 : decode cX5_units 24 = .ok (.getfield 101, 3) := by decide +kernel
theorem dX5_units_27 : decode cX5_units 27 = .ok (.iload_n 2, 1) := by decide +kernel
theorem dX5_units_28 : decode cX5_units 28 = .ok (.iaload, 1) := by decide +kernel
theorem dX5_units_29 : decode cX5_units 29 = .ok (.ireturn, 1) := by decide +kernel
set_option maxRecDepth 20000 in
theorem ggX5_greatest_X5_drawUpOpenYear : GoodIn wsX5_greatest wsX5_drawUpOpenYear := goodIn_r _ [8, 1, 3, 9, 10, 11, 12, 13, 14, 15, 16, 17, 18, 19, 20, 21, 22, 23, 24, 25, 26, 27, 28, 29, 30, 31, 32, 33, 34, 35, 36, 37, 38, 39, 40, 41, 42, 43, 44, 45, 46, 47, 48, 49, 50, 51, 52, 53, 54, 55, 56, 57, 58, 59, 60, 61, 62, 7, 63, 64, 65, 66, 67, 68, 69, 70, 71, 72, 73, 78, 79, 80, 81, 82, 83, 84, 85, 86, 87, 88, 89, 90, 91, 92, 93, 94, 95, 96, 97, 98, 99, 100, 101, 102, 103, 104, 105, 106, 107, 108] (by decide +kernel) (by decide +kernel)
set_option maxRecDepth 20000 in
theorem gX5_greatest_X5_drawUpOpenYear : GoodIn wsX5_greatest (wsV RX5 144 RX5 yX5_drawUpOpenYear wsX5_drawUpOpenYear) := goodIn_app (goodIn_of _ (by decide +kernel)) ggX5_greatest_X5_drawUpOpenYear
set_option maxRecDepth 20000 in
theorem ggX5_greatest_X0_flatsAheadOf : GoodIn wsX5_greatest wsX0_flatsAheadOf := goodIn_r _ [77, 61, 104, 105, 106, 107, 108] (by decide +kernel) (by decide +kernel)
set_option maxRecDepth 20000 in
theorem gX5_greatest_X0_flatsAheadOf : GoodIn wsX5_greatest (wsV RX5 213 RX0 yX0_flatsAheadOf wsX0_flatsAheadOf) := goodIn_app (goodIn_of _ (by decide +kernel)) ggX5_greatest_X0_flatsAheadOf
theorem dX5_greatest_0 : decode cX5_greatest 0 = .ok (.iload_n 1, 1) := by decide +kernel
theorem dX5_greatest_1 : decode cX5_greatest 1 = .ok (.ifCond .ge 6, 3) := by decide +kernel
theorem dX5_greatest_4 : decode cX5_greatest 4 = .ok (.bipush (-2), 2) := by decide +kernel
theorem dX5_greatest_6 : decode cX5_greatest 6 = .ok (.ireturn, 1) := by decide +kernel
theorem dX5_greatest_7 : decode cX5_greatest 7 = .ok (.aload_n 0, 1) := by decide +kernel
theorem dX5_greatest_8 : decode cX5_greatest 8 = .ok (.invokevirtual 144, 3) := by decide +kernel
theorem dX5_greatest_11 : decode cX5_greatest 11 = .ok (.iconst 0, 1) := by decide +kernel
theorem dX5_greatest_12 : decode cX5_greatest 12 = .ok (.istore_n 2, 1) := by decide +kernel
theorem dX5_greatest_13 : decode cX5_greatest 13 = .ok (.iload_n 2, 1) := by decide +kernel
theorem dX5_greatest_14 : decode cX5_greatest 14 = .ok (.aload_n 0, 1) := by decide +kernel
theorem dX5_greatest_15 : decode cX5_greatest 15 = .ok (.getfield 12, 3) := by decide +kernel
theorem dX5_greatest_18 : decode cX5_greatest 18 = .ok (.getfield 44, 3) := by decide +kernel
theorem dX5_greatest_21 : decode cX5_greatest 21 = .ok (.if_icmp .ge 30, 3) := by decide +kernel
theorem dX5_greatest_24 : decode cX5_greatest 24 = .ok (.aload_n 0, 1) := by decide +kernel
theorem dX5_greatest_25 : decode cX5_greatest 25 = .ok (.getfield 40, 3) := by decide +kernel
theorem dX5_greatest_28 : decode cX5_greatest 28 = .ok (.iload_n 2, 1) := by decide +kernel
theorem dX5_greatest_29 : decode cX5_greatest 29 = .ok (.aload_n 0, 1) := by decide +kernel
theorem dX5_greatest_30 : decode cX5_greatest 30 = .ok (.getfield 12, 3) := by decide +kernel
theorem dX5_greatest_33 : decode cX5_greatest 33 = .ok (.getfield 44, 3) := by decide +kernel
theorem dX5_greatest_36 : decode cX5_greatest 36 = .ok (.invokevirtual 213, 3) := by decide +kernel
theorem dX5_greatest_39 : decode cX5_greatest 39 = .ok (.iload_n 1, 1) := by decide +kernel
theorem dX5_greatest_40 : decode cX5_greatest 40 = .ok (.if_icmp .ne 5, 3) := by decide +kernel
theorem dX5_greatest_43 : decode cX5_greatest 43 = .ok (.iload_n 2, 1) := by decide +kernel
theorem dX5_greatest_44 : decode cX5_greatest 44 = .ok (.ireturn, 1) := by decide +kernel
theorem dX5_greatest_45 : decode cX5_greatest 45 = .ok (.iinc 2 1, 3) := by decide +kernel
theorem dX5_greatest_48 : decode cX5_greatest 48 = .ok (.goto (-35), 3) := by decide +kernel
theorem dX5_greatest_51 : decode cX5_greatest 51 = .ok (.bipush (-5), 2) := by decide +kernel
theorem dX5_greatest_53 : decode cX5_greatest 53 = .ok (.ireturn, 1) := by decide +kernel
set_option maxRecDepth 20000 in
theorem ggX5_billIf_X2_hasFlat : GoodIn wsX5_billIf wsX2_hasFlat := goodIn_r _ [6, 7, 94, 95, 96, 97, 98, 99, 100, 101, 102, 103, 104, 105] (by decide +kernel) (by decide +kernel)
set_option maxRecDepth 20000 in
theorem gX5_billIf_X2_hasFlat : GoodIn wsX5_billIf (wsV RX5 59 RX2 yX2_hasFlat wsX2_hasFlat) := goodIn_app (goodIn_of _ (by decide +kernel)) ggX5_billIf_X2_hasFlat
set_option maxRecDepth 20000 in
theorem ggX5_billIf_X5_drawUpOpenYear : GoodIn wsX5_billIf wsX5_drawUpOpenYear := goodIn_r _ [12, 1, 13, 14, 15, 16, 17, 5, 18, 19, 20, 21, 22, 23, 24, 25, 26, 27, 28, 29, 30, 31, 32, 33, 34, 35, 36, 37, 38, 39, 40, 41, 42, 43, 44, 45, 46, 47, 48, 49, 50, 51, 52, 53, 54, 55, 56, 57, 58, 59, 60, 61, 62, 63, 64, 65, 66, 11, 67, 68, 69, 70, 71, 72, 73, 74, 75, 76, 77, 88, 89, 90, 91, 92, 93, 94, 95, 96, 97, 98, 99, 100, 101, 102, 103, 104, 105, 106, 107, 108, 109, 110, 111, 112, 113, 114, 115, 116, 117, 118] (by decide +kernel) (by decide +kernel)
set_option maxRecDepth 20000 in
theorem gX5_billIf_X5_drawUpOpenYear : GoodIn wsX5_billIf (wsV RX5 144 RX5 yX5_drawUpOpenYear wsX5_drawUpOpenYear) := goodIn_app (goodIn_of _ (by decide +kernel)) ggX5_billIf_X5_drawUpOpenYear
set_option maxRecDepth 20000 in
theorem ggX5_billIf_X5_billWithShare : GoodIn wsX5_billIf wsX5_billWithShare := goodIn_r _ [81, 13, 1, 14, 82, 83, 59, 60, 46, 61, 48, 62, 63, 64, 65, 66, 11, 67, 68, 69, 70, 71, 72, 73, 74, 75, 76, 77, 84, 85, 86, 87, 88, 89, 90, 91, 92, 93, 94, 95, 96, 97, 98, 99, 100, 101, 102, 103, 104, 105, 106, 107, 108, 109, 110, 111, 112, 113, 114, 115, 116, 117, 118] (by decide +kernel) (by decide +kernel)
set_option maxRecDepth 20000 in
theorem gX5_billIf_X5_billWithShare : GoodIn wsX5_billIf (wsV RX5 217 RX5 yX5_billWithShare wsX5_billWithShare) := goodIn_app (goodIn_of _ (by decide +kernel)) ggX5_billIf_X5_billWithShare
theorem dX5_billIf_0 : decode cX5_billIf 0 = .ok (.aload_n 0, 1) := by decide +kernel
theorem dX5_billIf_1 : decode cX5_billIf 1 = .ok (.getfield 12, 3) := by decide +kernel
theorem dX5_billIf_4 : decode cX5_billIf 4 = .ok (.iload_n 1, 1) := by decide +kernel
theorem dX5_billIf_5 : decode cX5_billIf 5 = .ok (.invokevirtual 59, 3) := by decide +kernel
theorem dX5_billIf_8 : decode cX5_billIf 8 = .ok (.ifCond .ne 5, 3) := by decide +kernel
theorem dX5_billIf_11 : decode cX5_billIf 11 = .ok (.iconst (-1), 1) := by decide +kernel
theorem dX5_billIf_12 : decode cX5_billIf 12 = .ok (.ireturn, 1) := by decide +kernel
theorem dX5_billIf_13 : decode cX5_billIf 13 = .ok (.iload_n 2, 1) := by decide +kernel
theorem dX5_billIf_14 : decode cX5_billIf 14 = .ok (.ifCond .lt 9, 3) := by decide +kernel
theorem dX5_billIf_17 : decode cX5_billIf 17 = .ok (.iload_n 2, 1) := by decide +kernel
theorem dX5_billIf_18 : decode cX5_billIf 18 = .ok (.bipush 100, 2) := by decide +kernel
theorem dX5_billIf_20 : decode cX5_billIf 20 = .ok (.if_icmp .le 6, 3) := by decide +kernel
theorem dX5_billIf_23 : decode cX5_billIf 23 = .ok (.bipush (-2), 2) := by decide +kernel
theorem dX5_billIf_25 : decode cX5_billIf 25 = .ok (.ireturn, 1) := by decide +kernel
theorem dX5_billIf_26 : decode cX5_billIf 26 = .ok (.aload_n 0, 1) := by decide +kernel
theorem dX5_billIf_27 : decode cX5_billIf 27 = .ok (.invokevirtual 144, 3) := by decide +kernel
theorem dX5_billIf_30 : decode cX5_billIf 30 = .ok (.aload_n 0, 1) := by decide +kernel
theorem dX5_billIf_31 : decode cX5_billIf 31 = .ok (.iload_n 1, 1) := by decide +kernel
theorem dX5_billIf_32 : decode cX5_billIf 32 = .ok (.iload_n 2, 1) := by decide +kernel
theorem dX5_billIf_33 : decode cX5_billIf 33 = .ok (.invokevirtual 217, 3) := by decide +kernel
theorem dX5_billIf_36 : decode cX5_billIf 36 = .ok (.ireturn, 1) := by decide +kernel
set_option maxRecDepth 20000 in
theorem ggX5_bestShare_X2_hasFlat : GoodIn wsX5_bestShare wsX2_hasFlat := goodIn_r _ [6, 7, 94, 95, 96, 97, 98, 99, 100, 101, 102, 103, 104, 105] (by decide +kernel) (by decide +kernel)
set_option maxRecDepth 20000 in
theorem gX5_bestShare_X2_hasFlat : GoodIn wsX5_bestShare (wsV RX5 59 RX2 yX2_hasFlat wsX2_hasFlat) := goodIn_app (goodIn_of _ (by decide +kernel)) ggX5_bestShare_X2_hasFlat
set_option maxRecDepth 20000 in
theorem ggX5_bestShare_X5_drawUpOpenYear : GoodIn wsX5_bestShare wsX5_drawUpOpenYear := goodIn_r _ [12, 1, 13, 14, 15, 16, 17, 5, 18, 19, 20, 21, 22, 23, 24, 25, 26, 27, 28, 29, 30, 31, 32, 33, 34, 35, 36, 37, 38, 39, 40, 41, 42, 43, 44, 45, 46, 47, 48, 49, 50, 51, 52, 53, 54, 55, 56, 57, 58, 59, 60, 61, 62, 63, 64, 65, 66, 11, 67, 68, 69, 70, 71, 72, 73, 74, 75, 76, 77, 88, 89, 90, 91, 92, 93, 94, 95, 96, 97, 98, 99, 100, 101, 102, 103, 104, 105, 106, 107, 108, 109, 110, 111, 112, 113, 114, 115, 116, 117, 118] (by decide +kernel) (by decide +kernel)
set_option maxRecDepth 20000 in
theorem gX5_bestShare_X5_drawUpOpenYear : GoodIn wsX5_bestShare (wsV RX5 144 RX5 yX5_drawUpOpenYear wsX5_drawUpOpenYear) := goodIn_app (goodIn_of _ (by decide +kernel)) ggX5_bestShare_X5_drawUpOpenYear
set_option maxRecDepth 20000 in
theorem ggX5_bestShare_X5_billWithShare : GoodIn wsX5_bestShare wsX5_billWithShare := goodIn_r _ [81, 13, 1, 14, 82, 83, 59, 60, 46, 61, 48, 62, 63, 64, 65, 66, 11, 67, 68, 69, 70, 71, 72, 73, 74, 75, 76, 77, 84, 85, 86, 87, 88, 89, 90, 91, 92, 93, 94, 95, 96, 97, 98, 99, 100, 101, 102, 103, 104, 105, 106, 107, 108, 109, 110, 111, 112, 113, 114, 115, 116, 117, 118] (by decide +kernel) (by decide +kernel)
set_option maxRecDepth 20000 in
theorem gX5_bestShare_X5_billWithShare : GoodIn wsX5_bestShare (wsV RX5 217 RX5 yX5_billWithShare wsX5_billWithShare) := goodIn_app (goodIn_of _ (by decide +kernel)) ggX5_bestShare_X5_billWithShare
theorem dX5_bestShare_0 : decode cX5_bestShare 0 = .ok (.aload_n 0, 1) := by decide +kernel
theorem dX5_bestShare_1 : decode cX5_bestShare 1 = .ok (.getfield 12, 3) := by decide +kernel
theorem dX5_bestShare_4 : decode cX5_bestShare 4 = .ok (.iload_n 1, 1) := by decide +kernel
theorem dX5_bestShare_5 : decode cX5_bestShare 5 = .ok (.invokevirtual 59, 3) := by decide +kernel
theorem dX5_bestShare_8 : decode cX5_bestShare 8 = .ok (.ifCond .ne 5, 3) := by decide +kernel
theorem dX5_bestShare_11 : decode cX5_bestShare 11 = .ok (.iconst (-1), 1) := by decide +kernel
theorem dX5_bestShare_12 : decode cX5_bestShare 12 = .ok (.ireturn, 1) := by decide +kernel
theorem dX5_bestShare_13 : decode cX5_bestShare 13 = .ok (.aload_n 0, 1) := by decide +kernel
theorem dX5_bestShare_14 : decode cX5_bestShare 14 = .ok (.invokevirtual 144, 3) := by decide +kernel
theorem dX5_bestShare_17 : decode cX5_bestShare 17 = .ok (.iconst 0, 1) := by decide +kernel
theorem dX5_bestShare_18 : decode cX5_bestShare 18 = .ok (.istore_n 2, 1) := by decide +kernel
theorem dX5_bestShare_19 : decode cX5_bestShare 19 = .ok (.aload_n 0, 1) := by decide +kernel
theorem dX5_bestShare_20 : decode cX5_bestShare 20 = .ok (.iload_n 1, 1) := by decide +kernel
theorem dX5_bestShare_21 : decode cX5_bestShare 21 = .ok (.iconst 0, 1) := by decide +kernel
theorem dX5_bestShare_22 : decode cX5_bestShare 22 = .ok (.invokevirtual 217, 3) := by decide +kernel
theorem dX5_bestShare_25 : decode cX5_bestShare 25 = .ok (.istore_n 3, 1) := by decide +kernel
theorem dX5_bestShare_26 : decode cX5_bestShare 26 = .ok (.iconst 1, 1) := by decide +kernel
theorem dX5_bestShare_27 : decode cX5_bestShare 27 = .ok (.istore 4, 2) := by decide +kernel
theorem dX5_bestShare_29 : decode cX5_bestShare 29 = .ok (.iload 4, 2) := by decide +kernel
theorem dX5_bestShare_31 : decode cX5_bestShare 31 = .ok (.bipush 100, 2) := by decide +kernel
theorem dX5_bestShare_33 : decode cX5_bestShare 33 = .ok (.if_icmp .gt 30, 3) := by decide +kernel
theorem dX5_bestShare_36 : decode cX5_bestShare 36 = .ok (.aload_n 0, 1) := by decide +kernel
theorem dX5_bestShare_37 : decode cX5_bestShare 37 = .ok (.iload_n 1, 1) := by decide +kernel
theorem dX5_bestShare_38 : decode cX5_bestShare 38 = .ok (.iload 4, 2) := by decide +kernel
theorem dX5_bestShare_40 : decode cX5_bestShare 40 = .ok (.invokevirtual 217, 3) := by decide +kernel
