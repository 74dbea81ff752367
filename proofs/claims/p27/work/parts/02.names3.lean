theorem dX2_countUnits_93 : decode cX2_countUnits 93 = .ok (.getfield 71, 3) := by decide +kernel
theorem dX2_countUnits_96 : decode cX2_countUnits 96 = .ok (.if_icmp .ge 34, 3) := by decide +kernel
theorem dX2_countUnits_99 : decode cX2_countUnits 99 = .ok (.aload_n 0, 1) := by decide +kernel
theorem dX2_countUnits_100 : decode cX2_countUnits 100 = .ok (.getfield 31, 3) := by decide +kernel
theorem dX2_countUnits_103 : decode cX2_countUnits 103 = .ok (.iload_n 3, 1) := by decide +kernel
theorem dX2_countUnits_104 : decode cX2_countUnits 104 = .ok (.baload, 1) := by decide +kernel
theorem dX2_countUnits_105 : decode cX2_countUnits 105 = .ok (.ifCond .eq 19, 3) := by decide +kernel
theorem dX2_countUnits_108 : decode cX2_countUnits 108 = .ok (.aload_n 0, 1) := by decide +kernel
theorem dX2_countUnits_109 : decode cX2_countUnits 109 = .ok (.getfield 44, 3) := by decide +kernel
theorem dX2_countUnits_112 : decode cX2_countUnits 112 = .ok (.getfield 85, 3) := by decide +kernel
theorem dX2_countUnits_115 : decode cX2_countUnits 115 = .ok (.iload_n 3, 1) := by decide +kernel
theorem dX2_countUnits_116 : decode cX2_countUnits 116 = .ok (.aload_n 0, 1) := by decide +kernel
theorem dX2_countUnits_117 : decode cX2_countUnits 117 = .ok (.iload_n 3, 1) := by decide +kernel
theorem dX2_countUnits_118 : decode cX2_countUnits 118 = .ok (.iload_n 1, 1) := by decide +kernel
theorem dX2_countUnits_119 : decode cX2_countUnits 119 = .ok (.iload_n 2, 1) := by decide +kernel
theorem dX2_countUnits_120 : decode cX2_countUnits 120 = .ok (.invokevirtual 88, 3) := by decide +kernel
theorem dX2_countUnits_123 : decode cX2_countUnits 123 = .ok (.iastore, 1) := by decide +kernel
theorem dX2_countUnits_124 : decode cX2_countUnits 124 = .ok (.iinc 3 1, 3) := by decide +kernel
theorem dX2_countUnits_127 : decode cX2_countUnits 127 = .ok (.goto (-39), 3) := by decide +kernel
theorem dX2_countUnits_130 : decode cX2_countUnits 130 = .ok (.return_, 1) := by decide +kernel
set_option maxRecDepth 20000 in
theorem ggX2_estimate_X2_closedYear : GoodIn wsX2_estimate wsX2_closedYear := goodIn_r _ [9, 1, 10, 17, 18, 19, 20, 21, 22, 23, 24, 25, 26, 27, 28] (by decide +kernel) (by decide +kernel)
set_option maxRecDepth 20000 in
theorem gX2_estimate_X2_closedYear : GoodIn wsX2_estimate (wsV RX2 92 RX2 yX2_closedYear wsX2_closedYear) := goodIn_app (goodIn_of _ (by decide +kernel)) ggX2_estimate_X2_closedYear
set_option maxRecDepth 20000 in
theorem ggX2_estimate_X4_hasDevice : GoodIn wsX2_estimate wsX4_hasDevice := goodIn_r _ [15, 16, 29, 30, 31, 32, 33, 34, 35, 36] (by decide +kernel) (by decide +kernel)
set_option maxRecDepth 20000 in
theorem gX2_estimate_X4_hasDevice : GoodIn wsX2_estimate (wsV RX2 96 RX4 yX4_hasDevice wsX4_hasDevice) := goodIn_app (goodIn_of _ (by decide +kernel)) ggX2_estimate_X4_hasDevice
theorem dX2_estimate_0 : decode cX2_estimate 0 = .ok (.aload_n 0, 1) := by decide +kernel
theorem dX2_estimate_1 : decode cX2_estimate 1 = .ok (.aload_n 0, 1) := by decide +kernel
theorem dX2_estimate_2 : decode cX2_estimate 2 = .ok (.getfield 48, 3) := by decide +kernel
theorem dX2_estimate_5 : decode cX2_estimate 5 = .ok (.iconst 1, 1) := by decide +kernel
theorem dX2_estimate_6 : decode cX2_estimate 6 = .ok (.isub, 1) := by decide +kernel
theorem dX2_estimate_7 : decode cX2_estimate 7 = .ok (.invokevirtual 92, 3) := by decide +kernel
theorem dX2_estimate_10 : decode cX2_estimate 10 = .ok (.astore 4, 2) := by decide +kernel
theorem dX2_estimate_12 : decode cX2_estimate 12 = .ok (.aload_n 0, 1) := by decide +kernel
theorem dX2_estimate_13 : decode cX2_estimate 13 = .ok (.getfield 35, 3) := by decide +kernel
theorem dX2_estimate_16 : decode cX2_estimate 16 = .ok (.iconst 1, 1) := by decide +kernel
theorem dX2_estimate_17 : decode cX2_estimate 17 = .ok (.if_icmp .ne 25, 3) := by decide +kernel
theorem dX2_estimate_20 : decode cX2_estimate 20 = .ok (.aload 4, 2) := by decide +kernel
theorem dX2_estimate_22 : decode cX2_estimate 22 = .ok (.ifnull 20, 3) := by decide +kernel
theorem dX2_estimate_25 : decode cX2_estimate 25 = .ok (.aload 4, 2) := by decide +kernel
theorem dX2_estimate_27 : decode cX2_estimate 27 = .ok (.iload_n 1, 1) := by decide +kernel
theorem dX2_estimate_28 : decode cX2_estimate 28 = .ok (.invokevirtual 96, 3) := by decide +kernel
theorem dX2_estimate_31 : decode cX2_estimate 31 = .ok (.ifCond .eq 11, 3) := by decide +kernel
theorem dX2_estimate_34 : decode cX2_estimate 34 = .ok (.aload 4, 2) := by decide +kernel
theorem dX2_estimate_36 : decode cX2_estimate 36 = .ok (.getfield 85, 3) := by decide +kernel
theorem dX2_estimate_39 : decode cX2_estimate 39 = .ok (.iload_n 1, 1) := by decide +kernel
theorem dX2_estimate_40 : decode cX2_estimate 40 = .ok (.iaload, 1) := by decide +kernel
theorem dX2_estimate_41 : decode cX2_estimate 41 = .ok (.ireturn, 1) := by decide +kernel
theorem dX2_estimate_42 : decode cX2_estimate 42 = .ok (.iload_n 3, 1) := by decide +kernel
theorem dX2_estimate_43 : decode cX2_estimate 43 = .ok (.ifCond .le 16, 3) := by decide +kernel
theorem dX2_estimate_46 : decode cX2_estimate 46 = .ok (.aload_n 0, 1) := by decide +kernel
theorem dX2_estimate_47 : decode cX2_estimate 47 = .ok (.getfield 22, 3) := by decide +kernel
theorem dX2_estimate_50 : decode cX2_estimate 50 = .ok (.iload_n 1, 1) := by decide +kernel
theorem dX2_estimate_51 : decode cX2_estimate 51 = .ok (.iaload, 1) := by decide +kernel
theorem dX2_estimate_52 : decode cX2_estimate 52 = .ok (.iload_n 2, 1) := by decide +kernel
theorem dX2_estimate_53 : decode cX2_estimate 53 = .ok (.imul, 1) := by decide +kernel
theorem dX2_estimate_54 : decode cX2_estimate 54 = .ok (.iload_n 3, 1) := by decide +kernel
theorem dX2_estimate_55 : decode cX2_estimate 55 = .ok (.idiv, 1) := by decide +kernel
theorem dX2_estimate_56 : decode cX2_estimate 56 = .ok (.goto 4, 3) := by decide +kernel
theorem dX2_estimate_59 : decode cX2_estimate 59 = .ok (.iconst 0, 1) := by decide +kernel
theorem dX2_estimate_60 : decode cX2_estimate 60 = .ok (.ireturn, 1) := by decide +kernel
set_option maxRecDepth 20000 in
theorem ggX2_closeWith_X4_copyFrom : GoodIn wsX2_closeWith wsX4_copyFrom := goodIn_r _ [15, 16, 17, 18, 19, 20, 6, 7, 8, 21, 22, 23, 24, 45, 46, 47, 48, 49, 50, 51, 52] (by decide +kernel) (by decide +kernel)
set_option maxRecDepth 20000 in
theorem gX2_closeWith_X4_copyFrom : GoodIn wsX2_closeWith (wsV RX2 61 RX4 yX4_copyFrom wsX4_copyFrom) := goodIn_app (goodIn_of _ (by decide +kernel)) ggX2_closeWith_X4_copyFrom
set_option maxRecDepth 20000 in
theorem ggX2_closeWith_X4_startAnew : GoodIn wsX2_closeWith wsX4_startAnew := goodIn_r _ [28, 16, 19, 21, 29, 30, 31, 32, 45, 46, 47, 48, 49, 50, 51, 52] (by decide +kernel) (by decide +kernel)
set_option maxRecDepth 20000 in
theorem gX2_closeWith_X4_startAnew : GoodIn wsX2_closeWith (wsV RX2 99 RX4 yX4_startAnew wsX4_startAnew) := goodIn_app (goodIn_of _ (by decide +kernel)) ggX2_closeWith_X4_startAnew
theorem dX2_closeWith_0 : decode cX2_closeWith 0 = .ok (.aload_n 0, 1) := by decide +kernel
theorem dX2_closeWith_1 : decode cX2_closeWith 1 = .ok (.getfield 48, 3) := by decide +kernel
theorem dX2_closeWith_4 : decode cX2_closeWith 4 = .ok (.istore_n 2, 1) := by decide +kernel
theorem dX2_closeWith_5 : decode cX2_closeWith 5 = .ok (.aload_n 0, 1) := by decide +kernel
theorem dX2_closeWith_6 : decode cX2_closeWith 6 = .ok (.getfield 51, 3) := by decide +kernel
theorem dX2_closeWith_9 : decode cX2_closeWith 9 = .ok (.iload_n 2, 1) := by decide +kernel
theorem dX2_closeWith_10 : decode cX2_closeWith 10 = .ok (.aaload, 1) := by decide +kernel
theorem dX2_closeWith_11 : decode cX2_closeWith 11 = .ok (.astore_n 3, 1) := by decide +kernel
theorem dX2_closeWith_12 : decode cX2_closeWith 12 = .ok (.aload_n 3, 1) := by decide +kernel
theorem dX2_closeWith_13 : decode cX2_closeWith 13 = .ok (.aload_n 0, 1) := by decide +kernel
theorem dX2_closeWith_14 : decode cX2_closeWith 14 = .ok (.getfield 44, 3) := by decide +kernel
theorem dX2_closeWith_17 : decode cX2_closeWith 17 = .ok (.invokevirtual 61, 3) := by decide +kernel
theorem dX2_closeWith_20 : decode cX2_closeWith 20 = .ok (.aload_n 1, 1) := by decide +kernel
theorem dX2_closeWith_21 : decode cX2_closeWith 21 = .ok (.iconst 0, 1) := by decide +kernel
theorem dX2_closeWith_22 : decode cX2_closeWith 22 = .ok (.aload_n 3, 1) := by decide +kernel
theorem dX2_closeWith_23 : decode cX2_closeWith 23 = .ok (.getfield 78, 3) := by decide +kernel
theorem dX2_closeWith_26 : decode cX2_closeWith 26 = .ok (.iconst 0, 1) := by decide +kernel
theorem dX2_closeWith_27 : decode cX2_closeWith 27 = .ok (.bipush 16, 2) := by decide +kernel
theorem dX2_closeWith_29 : decode cX2_closeWith 29 = .ok (.invokestatic 55, 3) := by decide +kernel
theorem dX2_closeWith_32 : decode cX2_closeWith 32 = .ok (.aload_n 0, 1) := by decide +kernel
theorem dX2_closeWith_33 : decode cX2_closeWith 33 = .ok (.iload_n 2, 1) := by decide +kernel
theorem dX2_closeWith_34 : decode cX2_closeWith 34 = .ok (.iconst 1, 1) := by decide +kernel
theorem dX2_closeWith_35 : decode cX2_closeWith 35 = .ok (.iadd, 1) := by decide +kernel
theorem dX2_closeWith_36 : decode cX2_closeWith 36 = .ok (.putfield 48, 3) := by decide +kernel
theorem dX2_closeWith_39 : decode cX2_closeWith 39 = .ok (.aload_n 0, 1) := by decide +kernel
theorem dX2_closeWith_40 : decode cX2_closeWith 40 = .ok (.getfield 44, 3) := by decide +kernel
theorem dX2_closeWith_43 : decode cX2_closeWith 43 = .ok (.invokevirtual 99, 3) := by decide +kernel
theorem dX2_closeWith_46 : decode cX2_closeWith 46 = .ok (.aload_n 0, 1) := by decide +kernel
theorem dX2_closeWith_47 : decode cX2_closeWith 47 = .ok (.getfield 28, 3) := by decide +kernel
theorem dX2_closeWith_50 : decode cX2_closeWith 50 = .ok (.iconst 0, 1) := by decide +kernel
theorem dX2_closeWith_51 : decode cX2_closeWith 51 = .ok (.aload_n 0, 1) := by decide +kernel
theorem dX2_closeWith_52 : decode cX2_closeWith 52 = .ok (.getfield 25, 3) := by decide +kernel
theorem dX2_closeWith_55 : decode cX2_closeWith 55 = .ok (.iconst 0, 1) := by decide +kernel
theorem dX2_closeWith_56 : decode cX2_closeWith 56 = .ok (.bipush 20, 2) := by decide +kernel
theorem dX2_closeWith_58 : decode cX2_closeWith 58 = .ok (.invokestatic 55, 3) := by decide +kernel
theorem dX2_closeWith_61 : decode cX2_closeWith 61 = .ok (.iload_n 2, 1) := by decide +kernel
theorem dX2_closeWith_62 : decode cX2_closeWith 62 = .ok (.ireturn, 1) := by decide +kernel
theorem dX3_init_0 : decode cX3_init 0 = .ok (.aload_n 0, 1) := by decide +kernel
theorem dX3_init_1 : decode cX3_init 1 = .ok (.invokespecial 3, 3) := by decide +kernel
theorem dX3_init_4 : decode cX3_init 4 = .ok (.aload_n 0, 1) := by decide +kernel
theorem dX3_init_5 : decode cX3_init 5 = .ok (.bipush 60, 2) := by decide +kernel
theorem dX3_init_7 : decode cX3_init 7 = .ok (.newarray .char, 2) := by decide +kernel
theorem dX3_init_9 : decode cX3_init 9 = .ok (.putfield 9, 3) := by decide +kernel
theorem dX3_init_12 : decode cX3_init 12 = .ok (.aload_n 0, 1) := by decide +kernel
theorem dX3_init_13 : decode cX3_init 13 = .ok (.iconst 0, 1) := by decide +kernel
theorem dX3_init_14 : decode cX3_init 14 = .ok (.putfield 15, 3) := by decide +kernel
theorem dX3_init_17 : decode cX3_init 17 = .ok (.aload_n 0, 1) := by decide +kernel
theorem dX3_init_18 : decode cX3_init 18 = .ok (.iconst 0, 1) := by decide +kernel
theorem dX3_init_19 : decode cX3_init 19 = .ok (.putfield 19, 3) := by decide +kernel
theorem dX3_init_22 : decode cX3_init 22 = .ok (.aload_n 0, 1) := by decide +kernel
theorem dX3_init_23 : decode cX3_init 23 = .ok (.iconst 0, 1) := by decide +kernel
theorem dX3_init_24 : decode cX3_init 24 = .ok (.putfield 22, 3) := by decide +kernel
theorem dX3_init_27 : decode cX3_init 27 = .ok (.aload_n 0, 1) := by decide +kernel
theorem dX3_init_28 : decode cX3_init 28 = .ok (.iconst 0, 1) := by decide +kernel
theorem dX3_init_29 : decode cX3_init 29 = .ok (.putfield 25, 3) := by decide +kernel
theorem dX3_init_32 : decode cX3_init 32 = .ok (.aload_n 0, 1) := by decide +kernel
theorem dX3_init_33 : decode cX3_init 33 = .ok (.bipush 15, 2) := by decide +kernel
theorem dX3_init_35 : decode cX3_init 35 = .ok (.newarray .int, 2) := by decide +kernel
theorem dX3_init_37 : decode cX3_init 37 = .ok (.putfield 28, 3) := by decide +kernel
theorem dX3_init_40 : decode cX3_init 40 = .ok (.aload_n 0, 1) := by decide +kernel
theorem dX3_init_41 : decode cX3_init 41 = .ok (.bipush 15, 2) := by decide +kernel
theorem dX3_init_43 : decode cX3_init 43 = .ok (.newarray .int, 2) := by decide +kernel
theorem dX3_init_45 : decode cX3_init 45 = .ok (.putfield 32, 3) := by decide +kernel
theorem dX3_init_48 : decode cX3_init 48 = .ok (.return_, 1) := by decide +kernel
theorem dX3_append_0 : decode cX3_append 0 = .ok (.aload_n 0, 1) := by decide +kernel
theorem dX3_append_1 : decode cX3_append 1 = .ok (.getfield 15, 3) := by decide +kernel
theorem dX3_append_4 : decode cX3_append 4 = .ok (.bipush 60, 2) := by decide +kernel
theorem dX3_append_6 : decode cX3_append 6 = .ok (.if_icmp .lt 5, 3) := by decide +kernel
theorem dX3_append_9 : decode cX3_append 9 = .ok (.iconst 0, 1) := by decide +kernel
theorem dX3_append_10 : decode cX3_append 10 = .ok (.ireturn, 1) := by decide +kernel
theorem dX3_append_11 : decode cX3_append 11 = .ok (.aload_n 0, 1) := by decide +kernel
theorem dX3_append_12 : decode cX3_append 12 = .ok (.getfield 9, 3) := by decide +kernel
theorem dX3_append_15 : decode cX3_append 15 = .ok (.aload_n 0, 1) := by decide +kernel
theorem dX3_append_16 : decode cX3_append 16 = .ok (.getfield 15, 3) := by decide +kernel
theorem dX3_append_19 : decode cX3_append 19 = .ok (.iload_n 1, 1) := by decide +kernel
theorem dX3_append_20 : decode cX3_append 20 = .ok (.castore, 1) := by decide +kernel
theorem dX3_append_21 : decode cX3_append 21 = .ok (.aload_n 0, 1) := by decide +kernel
theorem dX3_append_22 : decode cX3_append 22 = .ok (.dup, 1) := by decide +kernel
theorem dX3_append_23 : decode cX3_append 23 = .ok (.getfield 15, 3) := by decide +kernel
theorem dX3_append_26 : decode cX3_append 26 = .ok (.iconst 1, 1) := by decide +kernel
theorem dX3_append_27 : decode cX3_append 27 = .ok (.iadd, 1) := by decide +kernel
theorem dX3_append_28 : decode cX3_append 28 = .ok (.putfield 15, 3) := by decide +kernel
theorem dX3_append_31 : decode cX3_append 31 = .ok (.iconst 1, 1) := by decide +kernel
theorem dX3_append_32 : decode cX3_append 32 = .ok (.ireturn, 1) := by decide +kernel
set_option maxRecDepth 20000 in
theorem ggX3_parse_X3_takeReading : GoodIn wsX3_parse wsX3_takeReading := goodIn_r _ [8, 9, 10, 11, 12, 13, 14, 7, 15, 1, 16, 17, 18, 19, 3, 20, 21, 22, 23, 24, 25, 26, 27, 28, 29, 30, 31, 32, 33, 34, 35, 36, 37, 38, 39] (by decide +kernel) (by decide +kernel)
set_option maxRecDepth 20000 in
theorem gX3_parse_X3_takeReading : GoodIn wsX3_parse (wsV RX3 35 RX3 yX3_takeReading wsX3_takeReading) := goodIn_app (goodIn_of _ (by decide +kernel)) ggX3_parse_X3_takeReading
set_option maxRecDepth 20000 in
theorem ggX3_parse_X3_take : GoodIn wsX3_parse wsX3_take := goodIn_r _ [32, 1, 3, 20, 33, 34, 35, 36, 37, 38, 39] (by decide +kernel) (by decide +kernel)
set_option maxRecDepth 20000 in
theorem gX3_parse_X3_take : GoodIn wsX3_parse (wsV RX3 39 RX3 yX3_take wsX3_take) := goodIn_app (goodIn_of _ (by decide +kernel)) ggX3_parse_X3_take
theorem dX3_parse_0 : decode cX3_parse 0 = .ok (.aload_n 0, 1) := by decide +kernel
theorem dX3_parse_1 : decode cX3_parse 1 = .ok (.iconst 0, 1) := by decide +kernel
theorem dX3_parse_2 : decode cX3_parse 2 = .ok (.putfield 19, 3) := by decide +kernel
theorem dX3_parse_5 : decode cX3_parse 5 = .ok (.aload_n 0, 1) := by decide +kernel
theorem dX3_parse_6 : decode cX3_parse 6 = .ok (.iconst 0, 1) := by decide +kernel
theorem dX3_parse_7 : decode cX3_parse 7 = .ok (.putfield 25, 3) := by decide +kernel
theorem dX3_parse_10 : decode cX3_parse 10 = .ok (.iconst 0, 1) := by decide +kernel
theorem dX3_parse_11 : decode cX3_parse 11 = .ok (.istore_n 1, 1) := by decide +kernel
theorem dX3_parse_12 : decode cX3_parse 12 = .ok (.iload_n 1, 1) := by decide +kernel
theorem dX3_parse_13 : decode cX3_parse 13 = .ok (.bipush 15, 2) := by decide +kernel
theorem dX3_parse_15 : decode cX3_parse 15 = .ok (.if_icmp .ge 50, 3) := by decide +kernel
theorem dX3_parse_18 : decode cX3_parse 18 = .ok (.aload_n 0, 1) := by decide +kernel
theorem dX3_parse_19 : decode cX3_parse 19 = .ok (.iload_n 1, 1) := by decide +kernel
theorem dX3_parse_20 : decode cX3_parse 20 = .ok (.invokevirtual 35, 3) := by decide +kernel
theorem dX3_parse_23 : decode cX3_parse 23 = .ok (.ifCond .ne 5, 3) := by decide +kernel
theorem dX3_parse_26 : decode cX3_parse 26 = .ok (.iconst 0, 1) := by decide +kernel
theorem dX3_parse_27 : decode cX3_parse 27 = .ok (.ireturn, 1) := by decide +kernel
theorem dX3_parse_28 : decode cX3_parse 28 = .ok (.aload_n 0, 1) := by decide +kernel
theorem dX3_parse_29 : decode cX3_parse 29 = .ok (.iload_n 1, 1) := by decide +kernel
theorem dX3_parse_30 : decode cX3_parse 30 = .ok (.iconst 1, 1) := by decide +kernel
theorem dX3_parse_31 : decode cX3_parse 31 = .ok (.iadd, 1) := by decide +kernel
theorem dX3_parse_32 : decode cX3_parse 32 = .ok (.putfield 25, 3) := by decide +kernel
theorem dX3_parse_35 : decode cX3_parse 35 = .ok (.aload_n 0, 1) := by decide +kernel
theorem dX3_parse_36 : decode cX3_parse 36 = .ok (.getfield 19, 3) := by decide +kernel
theorem dX3_parse_39 : decode cX3_parse 39 = .ok (.aload_n 0, 1) := by decide +kernel
theorem dX3_parse_40 : decode cX3_parse 40 = .ok (.getfield 15, 3) := by decide +kernel
theorem dX3_parse_43 : decode cX3_parse 43 = .ok (.if_icmp .ne 5, 3) := by decide +kernel
theorem dX3_parse_46 : decode cX3_parse 46 = .ok (.iconst 1, 1) := by decide +kernel
theorem dX3_parse_47 : decode cX3_parse 47 = .ok (.ireturn, 1) := by decide +kernel
theorem dX3_parse_48 : decode cX3_parse 48 = .ok (.aload_n 0, 1) := by decide +kernel
theorem dX3_parse_49 : decode cX3_parse 49 = .ok (.bipush 59, 2) := by decide +kernel
theorem dX3_parse_51 : decode cX3_parse 51 = .ok (.invokevirtual 39, 3) := by decide +kernel
theorem dX3_parse_54 : decode cX3_parse 54 = .ok (.ifCond .ne 5, 3) := by decide +kernel
theorem dX3_parse_57 : decode cX3_parse 57 = .ok (.iconst 0, 1) := by decide +kernel
theorem dX3_parse_58 : decode cX3_parse 58 = .ok (.ireturn, 1) := by decide +kernel
theorem dX3_parse_59 : decode cX3_parse 59 = .ok (.iinc 1 1, 3) := by decide +kernel
theorem dX3_parse_62 : decode cX3_parse 62 = .ok (.goto (-50), 3) := by decide +kernel
theorem dX3_parse_65 : decode cX3_parse 65 = .ok (.iconst 0, 1) := by decide +kernel
theorem dX3_parse_66 : decode cX3_parse 66 = .ok (.ireturn, 1) := by decide +kernel
set_option maxRecDepth 20000 in
theorem ggX3_takeReading_X3_takeNumber : GoodIn wsX3_takeReading wsX3_takeNumber := goodIn_r _ [8, 2, 9, 10, 11, 12, 7, 13, 14, 15, 16, 17, 18, 19, 20, 21, 22, 23, 28, 29, 30, 31, 32, 33, 34] (by decide +kernel) (by decide +kernel)
set_option maxRecDepth 20000 in
theorem gX3_takeReading_X3_takeNumber : GoodIn wsX3_takeReading (wsV RX3 43 RX3 yX3_takeNumber wsX3_takeNumber) := goodIn_app (goodIn_of _ (by decide +kernel)) ggX3_takeReading_X3_takeNumber
set_option maxRecDepth 20000 in
theorem ggX3_takeReading_X3_take : GoodIn wsX3_takeReading wsX3_take := goodIn_r _ [27, 9, 14, 15, 28, 29, 30, 31, 32, 33, 34] (by decide +kernel) (by decide +kernel)
set_option maxRecDepth 20000 in
theorem gX3_takeReading_X3_take : GoodIn wsX3_takeReading (wsV RX3 39 RX3 yX3_take wsX3_take) := goodIn_app (goodIn_of _ (by decide +kernel)) ggX3_takeReading_X3_take
theorem dX3_takeReading_0 : decode cX3_takeReading 0 = .ok (.aload_n 0, 1) := by decide +kernel
theorem dX3_takeReading_1 : decode cX3_takeReading 1 = .ok (.bipush 19, 2) := by decide +kernel
theorem dX3_takeReading_3 : decode cX3_takeReading 3 = .ok (.invokevirtual 43, 3) := by decide +kernel
theorem dX3_takeReading_6 : decode cX3_takeReading 6 = .ok (.ifCond .ne 5, 3) := by decide +kernel
theorem dX3_takeReading_9 : decode cX3_takeReading 9 = .ok (.iconst 0, 1) := by decide +kernel
theorem dX3_takeReading_10 : decode cX3_takeReading 10 = .ok (.ireturn, 1) := by decide +kernel
theorem dX3_takeReading_11 : decode cX3_takeReading 11 = .ok (.aload_n 0, 1) := by decide +kernel
theorem dX3_takeReading_12 : decode cX3_takeReading 12 = .ok (.getfield 28, 3) := by decide +kernel
theorem dX3_takeReading_15 : decode cX3_takeReading 15 = .ok (.iload_n 1, 1) := by decide +kernel
theorem dX3_takeReading_16 : decode cX3_takeReading 16 = .ok (.aload_n 0, 1) := by decide +kernel
theorem dX3_takeReading_17 : decode cX3_takeReading 17 = .ok (.getfield 22, 3) := by decide +kernel
theorem dX3_takeReading_20 : decode cX3_takeReading 20 = .ok (.iastore, 1) := by decide +kernel
theorem dX3_takeReading_21 : decode cX3_takeReading 21 = .ok (.aload_n 0, 1) := by decide +kernel
theorem dX3_takeReading_22 : decode cX3_takeReading 22 = .ok (.bipush 61, 2) := by decide +kernel
theorem dX3_takeReading_24 : decode cX3_takeReading 24 = .ok (.invokevirtual 39, 3) := by decide +kernel
theorem dX3_takeReading_27 : decode cX3_takeReading 27 = .ok (.ifCond .ne 5, 3) := by decide +kernel
theorem dX3_takeReading_30 : decode cX3_takeReading 30 = .ok (.iconst 0, 1) := by decide +kernel
theorem dX3_takeReading_31 : decode cX3_takeReading 31 = .ok (.ireturn, 1) := by decide +kernel
theorem dX3_takeReading_32 : decode cX3_takeReading 32 = .ok (.aload_n 0, 1) := by decide +kernel
theorem dX3_takeReading_33 : decode cX3_takeReading 33 = .ok (.bipush 63, 2) := by decide +kernel
theorem dX3_takeReading_35 : decode cX3_takeReading 35 = .ok (.invokevirtual 39, 3) := by decide +kernel
theorem dX3_takeReading_38 : decode cX3_takeReading 38 = .ok (.ifCond .eq 13, 3) := by decide +kernel
theorem dX3_takeReading_41 : decode cX3_takeReading 41 = .ok (.aload_n 0, 1) := by decide +kernel
theorem dX3_takeReading_42 : decode cX3_takeReading 42 = .ok (.getfield 32, 3) := by decide +kernel
theorem dX3_takeReading_45 : decode cX3_takeReading 45 = .ok (.iload_n 1, 1) := by decide +kernel
theorem dX3_takeReading_46 : decode cX3_takeReading 46 = .ok (.bipush (-5), 2) := by decide +kernel
theorem dX3_takeReading_48 : decode cX3_takeReading 48 = .ok (.iastore, 1) := by decide +kernel
theorem dX3_takeReading_49 : decode cX3_takeReading 49 = .ok (.iconst 1, 1) := by decide +kernel
theorem dX3_takeReading_50 : decode cX3_takeReading 50 = .ok (.ireturn, 1) := by decide +kernel
theorem dX3_takeReading_51 : decode cX3_takeReading 51 = .ok (.aload_n 0, 1) := by decide +kernel
theorem dX3_takeReading_52 : decode cX3_takeReading 52 = .ok (.sipush 9999, 3) := by decide +kernel
theorem dX3_takeReading_55 : decode cX3_takeReading 55 = .ok (.invokevirtual 43, 3) := by decide +kernel
theorem dX3_takeReading_58 : decode cX3_takeReading 58 = .ok (.ifCond .ne 5, 3) := by decide +kernel
theorem dX3_takeReading_61 : decode cX3_takeReading 61 = .ok (.iconst 0, 1) := by decide +kernel
theorem dX3_takeReading_62 : decode cX3_takeReading 62 = .ok (.ireturn, 1) := by decide +kernel
theorem dX3_takeReading_63 : decode cX3_takeReading 63 = .ok (.aload_n 0, 1) := by decide +kernel
theorem dX3_takeReading_64 : decode cX3_takeReading 64 = .ok (.getfield 32, 3) := by decide +kernel
theorem dX3_takeReading_67 : decode cX3_takeReading 67 = .ok (.iload_n 1, 1) := by decide +kernel
theorem dX3_takeReading_68 : decode cX3_takeReading 68 = .ok (.aload_n 0, 1) := by decide +kernel
theorem dX3_takeReading_69 : decode cX3_takeReading 69 = .ok (.getfield 22, 3) := by decide +kernel
theorem dX3_takeReading_72 : decode cX3_takeReading 72 = .ok (.iastore, 1) := by decide +kernel
theorem dX3_takeReading_73 : decode cX3_takeReading 73 = .ok (.iconst 1, 1) := by decide +kernel
theorem dX3_takeReading_74 : decode cX3_takeReading 74 = .ok (.ireturn, 1) := by decide +kernel
theorem dX3_take_0 : decode cX3_take 0 = .ok (.aload_n 0, 1) := by decide +kernel
theorem dX3_take_1 : decode cX3_take 1 = .ok (.getfield 19, 3) := by decide +kernel
theorem dX3_take_4 : decode cX3_take 4 = .ok (.aload_n 0, 1) := by decide +kernel
theorem dX3_take_5 : decode cX3_take 5 = .ok (.getfield 15, 3) := by decide +kernel
theorem dX3_take_8 : decode cX3_take 8 = .ok (.if_icmp .ge 16, 3) := by decide +kernel
theorem dX3_take_11 : decode cX3_take 11 = .ok (.aload_n 0, 1) := by decide +kernel
theorem dX3_take_12 : decode cX3_take 12 = .ok (.getfield 9, 3) := by decide +kernel
theorem dX3_take_15 : decode cX3_take 15 = .ok (.aload_n 0, 1) := by decide +kernel
theorem dX3_take_16 : decode cX3_take 16 = .ok (.getfield 19, 3) := by decide +kernel
theorem dX3_take_19 : decode cX3_take 19 = .ok (.caload, 1) := by decide +kernel
theorem dX3_take_20 : decode cX3_take 20 = .ok (.iload_n 1, 1) := by decide +kernel
theorem dX3_take_21 : decode cX3_take 21 = .ok (.if_icmp .eq 5, 3) := by decide +kernel
theorem dX3_take_24 : decode cX3_take 24 = .ok (.iconst 0, 1) := by decide +kernel
theorem dX3_take_25 : decode cX3_take 25 = .ok (.ireturn, 1) := by decide +kernel
theorem dX3_take_26 : decode cX3_take 26 = .ok (.aload_n 0, 1) := by decide +kernel
theorem dX3_take_27 : decode cX3_take 27 = .ok (.dup, 1) := by decide +kernel
theorem dX3_take_28 : decode cX3_take 28 = .ok (.getfield 19, 3) := by decide +kernel
theorem dX3_take_31 : decode cX3_take 31 = .ok (.iconst 1, 1) := by decide +kernel
theorem dX3_take_32 : decode cX3_take 32 = .ok (.iadd, 1) := by decide +kernel
theorem dX3_take_33 : decode cX3_take 33 = .ok (.putfield 19, 3) := by decide +kernel
theorem dX3_take_36 : decode cX3_take 36 = .ok (.iconst 1, 1) := by decide +kernel
theorem dX3_take_37 : decode cX3_take 37 = .ok (.ireturn, 1) := by decide +kernel
set_option maxRecDepth 20000 in
theorem ggX3_takeNumber_X3_isAtDigit : GoodIn wsX3_takeNumber wsX3_isAtDigit := goodIn_r _ [7, 2, 8, 9, 18, 19, 20, 21, 22, 23, 24] (by decide +kernel) (by decide +kernel)
set_option maxRecDepth 20000 in
theorem gX3_takeNumber_X3_isAtDigit : GoodIn wsX3_takeNumber (wsV RX3 46 RX3 yX3_isAtDigit wsX3_isAtDigit) := goodIn_app (goodIn_of _ (by decide +kernel)) ggX3_takeNumber_X3_isAtDigit
set_option maxRecDepth 20000 in
theorem ggX3_takeNumber_X3_digit : GoodIn wsX3_takeNumber wsX3_digit := goodIn_r _ [13, 9, 2, 18, 19, 20, 21, 22, 23, 24] (by decide +kernel) (by decide +kernel)
set_option maxRecDepth 20000 in
theorem gX3_takeNumber_X3_digit : GoodIn wsX3_takeNumber (wsV RX3 50 RX3 yX3_digit wsX3_digit) := goodIn_app (goodIn_of _ (by decide +kernel)) ggX3_takeNumber_X3_digit
set_option maxRecDepth 20000 in
theorem ggX3_takeNumber_X3_isDigitFitting : GoodIn wsX3_takeNumber wsX3_isDigitFitting := goodIn_r _ [17, 1, 3, 4, 5, 6, 7, 2, 8, 9, 10, 11, 12, 13, 18, 19, 20, 21, 22, 23, 24] (by decide +kernel) (by decide +kernel)
set_option maxRecDepth 20000 in
theorem gX3_takeNumber_X3_isDigitFitting : GoodIn wsX3_takeNumber (wsV RX3 54 RX3 yX3_isDigitFitting wsX3_isDigitFitting) := goodIn_app (goodIn_of _ (by decide +kernel)) ggX3_takeNumber_X3_isDigitFitting
theorem dX3_takeNumber_0 : decode cX3_takeNumber 0 = .ok (.aload_n 0, 1) := by decide +kernel
theorem dX3_takeNumber_1 : decode cX3_takeNumber 1 = .ok (.invokevirtual 46, 3) := by decide +kernel
theorem dX3_takeNumber_4 : decode cX3_takeNumber 4 = .ok (.ifCond .ne 5, 3) := by decide +kernel
theorem dX3_takeNumber_7 : decode cX3_takeNumber 7 = .ok (.iconst 0, 1) := by decide +kernel
theorem dX3_takeNumber_8 : decode cX3_takeNumber 8 = .ok (.ireturn, 1) := by decide +kernel
theorem dX3_takeNumber_9 : decode cX3_takeNumber 9 = .ok (.aload_n 0, 1) := by decide +kernel
theorem dX3_takeNumber_10 : decode cX3_takeNumber 10 = .ok (.aload_n 0, 1) := by decide +kernel
theorem dX3_takeNumber_11 : decode cX3_takeNumber 11 = .ok (.invokevirtual 50, 3) := by decide +kernel
theorem dX3_takeNumber_14 : decode cX3_takeNumber 14 = .ok (.putfield 22, 3) := by decide +kernel
theorem dX3_takeNumber_17 : decode cX3_takeNumber 17 = .ok (.aload_n 0, 1) := by decide +kernel
theorem dX3_takeNumber_18 : decode cX3_takeNumber 18 = .ok (.dup, 1) := by decide +kernel
theorem dX3_takeNumber_19 : decode cX3_takeNumber 19 = .ok (.getfield 19, 3) := by decide +kernel
theorem dX3_takeNumber_22 : decode cX3_takeNumber 22 = .ok (.iconst 1, 1) := by decide +kernel
theorem dX3_takeNumber_23 : decode cX3_takeNumber 23 = .ok (.iadd, 1) := by decide +kernel
theorem dX3_takeNumber_24 : decode cX3_takeNumber 24 = .ok (.putfield 19, 3) := by decide +kernel
theorem dX3_takeNumber_27 : decode cX3_takeNumber 27 = .ok (.iconst 1, 1) := by decide +kernel
theorem dX3_takeNumber_28 : decode cX3_takeNumber 28 = .ok (.istore_n 2, 1) := by decide +kernel
theorem dX3_takeNumber_29 : decode cX3_takeNumber 29 = .ok (.iload_n 2, 1) := by decide +kernel
theorem dX3_takeNumber_30 : decode cX3_takeNumber 30 = .ok (.bipush 60, 2) := by decide +kernel
theorem dX3_takeNumber_32 : decode cX3_takeNumber 32 = .ok (.if_icmp .ge 43, 3) := by decide +kernel
theorem dX3_takeNumber_35 : decode cX3_takeNumber 35 = .ok (.aload_n 0, 1) := by decide +kernel
theorem dX3_takeNumber_36 : decode cX3_takeNumber 36 = .ok (.iload_n 1, 1) := by decide +kernel
theorem dX3_takeNumber_37 : decode cX3_takeNumber 37 = .ok (.invokevirtual 54, 3) := by decide +kernel
theorem dX3_takeNumber_40 : decode cX3_takeNumber 40 = .ok (.ifCond .eq 35, 3) := by decide +kernel
theorem dX3_takeNumber_43 : decode cX3_takeNumber 43 = .ok (.aload_n 0, 1) := by decide +kernel
theorem dX3_takeNumber_44 : decode cX3_takeNumber 44 = .ok (.bipush 10, 2) := by decide +kernel
theorem dX3_takeNumber_46 : decode cX3_takeNumber 46 = .ok (.aload_n 0, 1) := by decide +kernel
theorem dX3_takeNumber_47 : decode cX3_takeNumber 47 = .ok (.getfield 22, 3) := by decide +kernel
theorem dX3_takeNumber_50 : decode cX3_takeNumber 50 = .ok (.imul, 1) := by decide +kernel
theorem dX3_takeNumber_51 : decode cX3_takeNumber 51 = .ok (.aload_n 0, 1) := by decide +kernel
theorem dX3_takeNumber_52 : decode cX3_takeNumber 52 = .ok (.invokevirtual 50, 3) := by decide +kernel
theorem dX3_takeNumber_55 : decode cX3_takeNumber 55 = .ok (.iadd, 1) := by decide +kernel
theorem dX3_takeNumber_56 : decode cX3_takeNumber 56 = .ok (.putfield 22, 3) := by decide +kernel
theorem dX3_takeNumber_59 : decode cX3_takeNumber 59 = .ok (.aload_n 0, 1) := by decide +kernel
theorem dX3_takeNumber_60 : decode cX3_takeNumber 60 = .ok (.dup, 1) := by decide +kernel
theorem dX3_takeNumber_61 : decode cX3_takeNumber 61 = .ok (.getfield 19, 3) := by decide +kernel
theorem dX3_takeNumber_64 : decode cX3_takeNumber 64 = .ok (.iconst 1, 1) := by decide +kernel
theorem dX3_takeNumber_65 : decode cX3_takeNumber 65 = .ok (.iadd, 1) := by decide +kernel
theorem dX3_takeNumber_66 : decode cX3_takeNumber 66 = .ok (.putfield 19, 3) := by decide +kernel
theorem dX3_takeNumber_69 : decode cX3_takeNumber 69 = .ok (.iinc 2 1, 3) := by decide +kernel
theorem dX3_takeNumber_72 : decode cX3_takeNumber 72 = .ok (.goto (-43), 3) := by decide +kernel
theorem dX3_takeNumber_75 : decode cX3_takeNumber 75 = .ok (.iconst 1, 1) := by decide +kernel
theorem dX3_takeNumber_76 : decode cX3_takeNumber 76 = .ok (.ireturn, 1) := by decide +kernel
set_option maxRecDepth 20000 in
theorem ggX3_isDigitFitting_X3_isAtDigit : GoodIn wsX3_isDigitFitting wsX3_isAtDigit := goodIn_r _ [6, 7, 8, 9, 14, 15, 16, 17, 18, 19, 20] (by decide +kernel) (by decide +kernel)
set_option maxRecDepth 20000 in
theorem gX3_isDigitFitting_X3_isAtDigit : GoodIn wsX3_isDigitFitting (wsV RX3 46 RX3 yX3_isAtDigit wsX3_isAtDigit) := goodIn_app (goodIn_of _ (by decide +kernel)) ggX3_isDigitFitting_X3_isAtDigit
set_option maxRecDepth 20000 in
theorem ggX3_isDigitFitting_X3_digit : GoodIn wsX3_isDigitFitting wsX3_digit := goodIn_r _ [13, 9, 7, 14, 15, 16, 17, 18, 19, 20] (by decide +kernel) (by decide +kernel)
set_option maxRecDepth 20000 in
theorem gX3_isDigitFitting_X3_digit : GoodIn wsX3_isDigitFitting (wsV RX3 50 RX3 yX3_digit wsX3_digit) := goodIn_app (goodIn_of _ (by decide +kernel)) ggX3_isDigitFitting_X3_digit
theorem dX3_isDigitFitting_0 : decode cX3_isDigitFitting 0 = .ok (.aload_n 0, 1) := by decide +kernel
theorem dX3_isDigitFitting_1 : decode cX3_isDigitFitting 1 = .ok (.invokevirtual 46, 3) := by decide +kernel
theorem dX3_isDigitFitting_4 : decode cX3_isDigitFitting 4 = .ok (.ifCond .eq 30, 3) := by decide +kernel
theorem dX3_isDigitFitting_7 : decode cX3_isDigitFitting 7 = .ok (.aload_n 0, 1) := by decide +kernel
theorem dX3_isDigitFitting_8 : decode cX3_isDigitFitting 8 = .ok (.getfield 22, 3) := by decide +kernel
theorem dX3_isDigitFitting_11 : decode cX3_isDigitFitting 11 = .ok (.ifCond .le 23, 3) := by decide +kernel
theorem dX3_isDigitFitting_14 : decode cX3_isDigitFitting 14 = .ok (.bipush 10, 2) := by decide +kernel
theorem dX3_isDigitFitting_16 : decode cX3_isDigitFitting 16 = .ok (.aload_n 0, 1) := by decide +kernel
theorem dX3_isDigitFitting_17 : decode cX3_isDigitFitting 17 = .ok (.getfield 22, 3) := by decide +kernel
theorem dX3_isDigitFitting_20 : decode cX3_isDigitFitting 20 = .ok (.imul, 1) := by decide +kernel
theorem dX3_isDigitFitting_21 : decode cX3_isDigitFitting 21 = .ok (.aload_n 0, 1) := by decide +kernel
theorem dX3_isDigitFitting_22 : decode cX3_isDigitFitting 22 = .ok (.invokevirtual 50, 3) := by decide +kernel
theorem dX3_isDigitFitting_25 : decode cX3_isDigitFitting 25 = .ok (.iadd, 1) := by decide +kernel
theorem dX3_isDigitFitting_26 : decode cX3_isDigitFitting 26 = .ok (.iload_n 1, 1) := by decide +kernel
theorem dX3_isDigitFitting_27 : decode cX3_isDigitFitting 27 = .ok (.if_icmp .gt 7, 3) := by decide +kernel
theorem dX3_isDigitFitting_30 : decode cX3_isDigitFitting 30 = .ok (.iconst 1, 1) := by decide +kernel
theorem dX3_isDigitFitting_31 : decode cX3_isDigitFitting 31 = .ok (.goto 4, 3) := by decide +kernel
theorem dX3_isDigitFitting_34 : decode cX3_isDigitFitting 34 = .ok (.iconst 0, 1) := by decide +kernel
theorem dX3_isDigitFitting_35 : decode cX3_isDigitFitting 35 = .ok (.ireturn, 1) := by decide +kernel
theorem dX3_digit_0 : decode cX3_digit 0 = .ok (.aload_n 0, 1) := by decide +kernel
theorem dX3_digit_1 : decode cX3_digit 1 = .ok (.getfield 9, 3) := by decide +kernel
theorem dX3_digit_4 : decode cX3_digit 4 = .ok (.aload_n 0, 1) := by decide +kernel
theorem dX3_digit_5 : decode cX3_digit 5 = .ok (.getfield 19, 3) := by decide +kernel
theorem dX3_digit_8 : decode cX3_digit 8 = .ok (.caload, 1) := by decide +kernel
theorem dX3_digit_9 : decode cX3_digit 9 = .ok (.bipush 48, 2) := by decide +kernel
theorem dX3_digit_11 : decode cX3_digit 11 = .ok (.isub, 1) := by decide +kernel
theorem dX3_digit_12 : decode cX3_digit 12 = .ok (.ireturn, 1) := by decide +kernel
theorem dX3_isAtDigit_0 : decode cX3_isAtDigit 0 = .ok (.aload_n 0, 1) := by decide +kernel
theorem dX3_isAtDigit_1 : decode cX3_isAtDigit 1 = .ok (.getfield 19, 3) := by decide +kernel
theorem dX3_isAtDigit_4 : decode cX3_isAtDigit 4 = .ok (.aload_n 0, 1) := by decide +kernel
theorem dX3_isAtDigit_5 : decode cX3_isAtDigit 5 = .ok (.getfield 15, 3) := by decide +kernel
theorem dX3_isAtDigit_8 : decode cX3_isAtDigit 8 = .ok (.if_icmp .ge 35, 3) := by decide +kernel
theorem dX3_isAtDigit_11 : decode cX3_isAtDigit 11 = .ok (.aload_n 0, 1) := by decide +kernel
theorem dX3_isAtDigit_12 : decode cX3_isAtDigit 12 = .ok (.getfield 9, 3) := by decide +kernel
theorem dX3_isAtDigit_15 : decode cX3_isAtDigit 15 = .ok (.aload_n 0, 1) := by decide +kernel
theorem dX3_isAtDigit_16 : decode cX3_isAtDigit 16 = .ok (.getfield 19, 3) := by decide +kernel
theorem dX3_isAtDigit_19 : decode cX3_isAtDigit 19 = .ok (.caload, 1) := by decide +kernel
theorem dX3_isAtDigit_20 : decode cX3_isAtDigit 20 = .ok (.bipush 48, 2) := by decide +kernel
theorem dX3_isAtDigit_22 : decode cX3_isAtDigit 22 = .ok (.if_icmp .lt 21, 3) := by decide +kernel
theorem dX3_isAtDigit_25 : decode cX3_isAtDigit 25 = .ok (.aload_n 0, 1) := by decide +kernel
theorem dX3_isAtDigit_26 : decode cX3_isAtDigit 26 = .ok (.getfield 9, 3) := by decide +kernel
theorem dX3_isAtDigit_29 : decode cX3_isAtDigit 29 = .ok (.aload_n 0, 1) := by decide +kernel
theorem dX3_isAtDigit_30 : decode cX3_isAtDigit 30 = .ok (.getfield 19, 3) := by decide +kernel
theorem dX3_isAtDigit_33 : decode cX3_isAtDigit 33 = .ok (.caload, 1) := by decide +kernel
theorem dX3_isAtDigit_34 : decode cX3_isAtDigit 34 = .ok (.bipush 57, 2) := by decide +kernel
theorem dX3_isAtDigit_36 : decode cX3_isAtDigit 36 = .ok (.if_icmp .gt 7, 3) := by decide +kernel
theorem dX3_isAtDigit_39 : decode cX3_isAtDigit 39 = .ok (.iconst 1, 1) := by decide +kernel
theorem dX3_isAtDigit_40 : decode cX3_isAtDigit 40 = .ok (.goto 4, 3) := by decide +kernel
theorem dX3_isAtDigit_43 : decode cX3_isAtDigit 43 = .ok (.iconst 0, 1) := by decide +kernel
theorem dX3_isAtDigit_44 : decode cX3_isAtDigit 44 = .ok (.ireturn, 1) := by decide +kernel
set_option maxRecDepth 20000 in
theorem ggX3_namesOnlyDevicesOf_X4_hasDevice : GoodIn wsX3_namesOnlyDevicesOf wsX4_hasDevice := goodIn_r _ [8, 9, 29, 30, 31, 32, 33, 34, 35, 36] (by decide +kernel) (by decide +kernel)
set_option maxRecDepth 20000 in
theorem gX3_namesOnlyDevicesOf_X4_hasDevice : GoodIn wsX3_namesOnlyDevicesOf (wsV RX3 63 RX4 yX4_hasDevice wsX4_hasDevice) := goodIn_app (goodIn_of _ (by decide +kernel)) ggX3_namesOnlyDevicesOf_X4_hasDevice
theorem dX3_namesOnlyDevicesOf_0 : decode cX3_namesOnlyDevicesOf 0 = .ok (.iconst 0, 1) := by decide +kernel
theorem dX3_namesOnlyDevicesOf_1 : decode cX3_namesOnlyDevicesOf 1 = .ok (.istore_n 2, 1) := by decide +kernel
theorem dX3_namesOnlyDevicesOf_2 : decode cX3_namesOnlyDevicesOf 2 = .ok (.iload_n 2, 1) := by decide +kernel
theorem dX3_namesOnlyDevicesOf_3 : decode cX3_namesOnlyDevicesOf 3 = .ok (.aload_n 0, 1) := by decide +kernel
theorem dX3_namesOnlyDevicesOf_4 : decode cX3_namesOnlyDevicesOf 4 = .ok (.getfield 25, 3) := by decide +kernel
theorem dX3_namesOnlyDevicesOf_7 : decode cX3_namesOnlyDevicesOf 7 = .ok (.if_icmp .ge 27, 3) := by decide +kernel
theorem dX3_namesOnlyDevicesOf_10 : decode cX3_namesOnlyDevicesOf 10 = .ok (.aload_n 1, 1) := by decide +kernel
theorem dX3_namesOnlyDevicesOf_11 : decode cX3_namesOnlyDevicesOf 11 = .ok (.getfield 57, 3) := by decide +kernel
theorem dX3_namesOnlyDevicesOf_14 : decode cX3_namesOnlyDevicesOf 14 = .ok (.aload_n 0, 1) := by decide +kernel
theorem dX3_namesOnlyDevicesOf_15 : decode cX3_namesOnlyDevicesOf 15 = .ok (.getfield 28, 3) := by decide +kernel
theorem dX3_namesOnlyDevicesOf_18 : decode cX3_namesOnlyDevicesOf 18 = .ok (.iload_n 2, 1) := by decide +kernel
theorem dX3_namesOnlyDevicesOf_19 : decode cX3_namesOnlyDevicesOf 19 = .ok (.iaload, 1) := by decide +kernel
theorem dX3_namesOnlyDevicesOf_20 : decode cX3_namesOnlyDevicesOf 20 = .ok (.invokevirtual 63, 3) := by decide +kernel
theorem dX3_namesOnlyDevicesOf_23 : decode cX3_namesOnlyDevicesOf 23 = .ok (.ifCond .ne 5, 3) := by decide +kernel
theorem dX3_namesOnlyDevicesOf_26 : decode cX3_namesOnlyDevicesOf 26 = .ok (.iconst 0, 1) := by decide +kernel
theorem dX3_namesOnlyDevicesOf_27 : decode cX3_namesOnlyDevicesOf 27 = .ok (.ireturn, 1) := by decide +kernel
theorem dX3_namesOnlyDevicesOf_28 : decode cX3_namesOnlyDevicesOf 28 = .ok (.iinc 2 1, 3) := by decide +kernel
theorem dX3_namesOnlyDevicesOf_31 : decode cX3_namesOnlyDevicesOf 31 = .ok (.goto (-29), 3) := by decide +kernel
theorem dX3_namesOnlyDevicesOf_34 : decode cX3_namesOnlyDevicesOf 34 = .ok (.iconst 1, 1) := by decide +kernel
theorem dX3_namesOnlyDevicesOf_35 : decode cX3_namesOnlyDevicesOf 35 = .ok (.ireturn, 1) := by decide +kernel
theorem dX3_isPossibleFor_0 : decode cX3_isPossibleFor 0 = .ok (.iconst 0, 1) := by decide +kernel
theorem dX3_isPossibleFor_1 : decode cX3_isPossibleFor 1 = .ok (.istore_n 2, 1) := by decide +kernel
theorem dX3_isPossibleFor_2 : decode cX3_isPossibleFor 2 = .ok (.iload_n 2, 1) := by decide +kernel
theorem dX3_isPossibleFor_3 : decode cX3_isPossibleFor 3 = .ok (.aload_n 0, 1) := by decide +kernel
theorem dX3_isPossibleFor_4 : decode cX3_isPossibleFor 4 = .ok (.getfield 25, 3) := by decide +kernel
theorem dX3_isPossibleFor_7 : decode cX3_isPossibleFor 7 = .ok (.if_icmp .ge 52, 3) := by decide +kernel
theorem dX3_isPossibleFor_10 : decode cX3_isPossibleFor 10 = .ok (.aload_n 0, 1) := by decide +kernel
theorem dX3_isPossibleFor_11 : decode cX3_isPossibleFor 11 = .ok (.getfield 32, 3) := by decide +kernel
theorem dX3_isPossibleFor_14 : decode cX3_isPossibleFor 14 = .ok (.iload_n 2, 1) := by decide +kernel
theorem dX3_isPossibleFor_15 : decode cX3_isPossibleFor 15 = .ok (.iaload, 1) := by decide +kernel
theorem dX3_isPossibleFor_16 : decode cX3_isPossibleFor 16 = .ok (.bipush (-5), 2) := by decide +kernel
theorem dX3_isPossibleFor_18 : decode cX3_isPossibleFor 18 = .ok (.if_icmp .ne 7, 3) := by decide +kernel
theorem dX3_isPossibleFor_21 : decode cX3_isPossibleFor 21 = .ok (.iconst 1, 1) := by decide +kernel
theorem dX3_isPossibleFor_22 : decode cX3_isPossibleFor 22 = .ok (.goto 4, 3) := by decide +kernel
theorem dX3_isPossibleFor_25 : decode cX3_isPossibleFor 25 = .ok (.iconst 0, 1) := by decide +kernel
theorem dX3_isPossibleFor_26 : decode cX3_isPossibleFor 26 = .ok (.istore_n 3, 1) := by decide +kernel
theorem dX3_isPossibleFor_27 : decode cX3_isPossibleFor 27 = .ok (.iload_n 3, 1) := by decide +kernel
theorem dX3_isPossibleFor_28 : decode cX3_isPossibleFor 28 = .ok (.ifCond .ne 25, 3) := by decide +kernel
theorem dX3_isPossibleFor_31 : decode cX3_isPossibleFor 31 = .ok (.aload_n 0, 1) := by decide +kernel
theorem dX3_isPossibleFor_32 : decode cX3_isPossibleFor 32 = .ok (.getfield 32, 3) := by decide +kernel
theorem dX3_isPossibleFor_35 : decode cX3_isPossibleFor 35 = .ok (.iload_n 2, 1) := by decide +kernel
theorem dX3_isPossibleFor_36 : decode cX3_isPossibleFor 36 = .ok (.iaload, 1) := by decide +kernel
theorem dX3_isPossibleFor_37 : decode cX3_isPossibleFor 37 = .ok (.aload_n 1, 1) := by decide +kernel
theorem dX3_isPossibleFor_38 : decode cX3_isPossibleFor 38 = .ok (.getfield 68, 3) := by decide +kernel
theorem dX3_isPossibleFor_41 : decode cX3_isPossibleFor 41 = .ok (.aload_n 0, 1) := by decide +kernel
theorem dX3_isPossibleFor_42 : decode cX3_isPossibleFor 42 = .ok (.getfield 28, 3) := by decide +kernel
theorem dX3_isPossibleFor_45 : decode cX3_isPossibleFor 45 = .ok (.iload_n 2, 1) := by decide +kernel
theorem dX3_isPossibleFor_46 : decode cX3_isPossibleFor 46 = .ok (.iaload, 1) := by decide +kernel
theorem dX3_isPossibleFor_47 : decode cX3_isPossibleFor 47 = .ok (.iaload, 1) := by decide +kernel
theorem dX3_isPossibleFor_48 : decode cX3_isPossibleFor 48 = .ok (.if_icmp .ge 5, 3) := by decide +kernel
theorem dX3_isPossibleFor_51 : decode cX3_isPossibleFor 51 = .ok (.iconst 0, 1) := by decide +kernel
theorem dX3_isPossibleFor_52 : decode cX3_isPossibleFor 52 = .ok (.ireturn, 1) := by decide +kernel
theorem dX3_isPossibleFor_53 : decode cX3_isPossibleFor 53 = .ok (.iinc 2 1, 3) := by decide +kernel
theorem dX3_isPossibleFor_56 : decode cX3_isPossibleFor 56 = .ok (.goto (-54), 3) := by decide +kernel
theorem dX3_isPossibleFor_59 : decode cX3_isPossibleFor 59 = .ok (.iconst 1, 1) := by decide +kernel
theorem dX3_isPossibleFor_60 : decode cX3_isPossibleFor 60 = .ok (.ireturn, 1) := by decide +kernel
theorem dX3_tellTo_0 : decode cX3_tellTo 0 = .ok (.iconst 0, 1) := by decide +kernel
theorem dX3_tellTo_1 : decode cX3_tellTo 1 = .ok (.istore_n 2, 1) := by decide +kernel
theorem dX3_tellTo_2 : decode cX3_tellTo 2 = .ok (.iload_n 2, 1) := by decide +kernel
theorem dX3_tellTo_3 : decode cX3_tellTo 3 = .ok (.aload_n 0, 1) := by decide +kernel
theorem dX3_tellTo_4 : decode cX3_tellTo 4 = .ok (.getfield 25, 3) := by decide +kernel
theorem dX3_tellTo_7 : decode cX3_tellTo 7 = .ok (.if_icmp .ge 61, 3) := by decide +kernel
theorem dX3_tellTo_10 : decode cX3_tellTo 10 = .ok (.aload_n 0, 1) := by decide +kernel
theorem dX3_tellTo_11 : decode cX3_tellTo 11 = .ok (.getfield 28, 3) := by decide +kernel
theorem dX3_tellTo_14 : decode cX3_tellTo 14 = .ok (.iload_n 2, 1) := by decide +kernel
theorem dX3_tellTo_15 : decode cX3_tellTo 15 = .ok (.iaload, 1) := by decide +kernel
theorem dX3_tellTo_16 : decode cX3_tellTo 16 = .ok (.istore_n 3, 1) := by decide +kernel
theorem dX3_tellTo_17 : decode cX3_tellTo 17 = .ok (.aload_n 1, 1) := by decide +kernel
theorem dX3_tellTo_18 : decode cX3_tellTo 18 = .ok (.getfield 71, 3) := by decide +kernel
theorem dX3_tellTo_21 : decode cX3_tellTo 21 = .ok (.iload_n 3, 1) := by decide +kernel
theorem dX3_tellTo_22 : decode cX3_tellTo 22 = .ok (.aload_n 0, 1) := by decide +kernel
theorem dX3_tellTo_23 : decode cX3_tellTo 23 = .ok (.getfield 32, 3) := by decide +kernel
theorem dX3_tellTo_26 : decode cX3_tellTo 26 = .ok (.iload_n 2, 1) := by decide +kernel
theorem dX3_tellTo_27 : decode cX3_tellTo 27 = .ok (.iaload, 1) := by decide +kernel
theorem dX3_tellTo_28 : decode cX3_tellTo 28 = .ok (.bipush (-5), 2) := by decide +kernel
theorem dX3_tellTo_30 : decode cX3_tellTo 30 = .ok (.if_icmp .ne 7, 3) := by decide +kernel
theorem dX3_tellTo_33 : decode cX3_tellTo 33 = .ok (.iconst 1, 1) := by decide +kernel
theorem dX3_tellTo_34 : decode cX3_tellTo 34 = .ok (.goto 4, 3) := by decide +kernel
theorem dX3_tellTo_37 : decode cX3_tellTo 37 = .ok (.iconst 0, 1) := by decide +kernel
theorem dX3_tellTo_38 : decode cX3_tellTo 38 = .ok (.bastore, 1) := by decide +kernel
theorem dX3_tellTo_39 : decode cX3_tellTo 39 = .ok (.aload_n 0, 1) := by decide +kernel
theorem dX3_tellTo_40 : decode cX3_tellTo 40 = .ok (.getfield 32, 3) := by decide +kernel
theorem dX3_tellTo_43 : decode cX3_tellTo 43 = .ok (.iload_n 2, 1) := by decide +kernel
theorem dX3_tellTo_44 : decode cX3_tellTo 44 = .ok (.iaload, 1) := by decide +kernel
theorem dX3_tellTo_45 : decode cX3_tellTo 45 = .ok (.bipush (-5), 2) := by decide +kernel
theorem dX3_tellTo_47 : decode cX3_tellTo 47 = .ok (.if_icmp .eq 15, 3) := by decide +kernel
theorem dX3_tellTo_50 : decode cX3_tellTo 50 = .ok (.aload_n 1, 1) := by decide +kernel
theorem dX3_tellTo_51 : decode cX3_tellTo 51 = .ok (.getfield 75, 3) := by decide +kernel
theorem dX3_tellTo_54 : decode cX3_tellTo 54 = .ok (.iload_n 3, 1) := by decide +kernel
theorem dX3_tellTo_55 : decode cX3_tellTo 55 = .ok (.aload_n 0, 1) := by decide +kernel
theorem dX3_tellTo_56 : decode cX3_tellTo 56 = .ok (.getfield 32, 3) := by decide +kernel
theorem dX3_tellTo_59 : decode cX3_tellTo 59 = .ok (.iload_n 2, 1) := by decide +kernel
theorem dX3_tellTo_60 : decode cX3_tellTo 60 = .ok (.iaload, 1) := by decide +kernel
theorem dX3_tellTo_61 : decode cX3_tellTo 61 = .ok (.iastore, 1) := by decide +kernel
theorem dX3_tellTo_62 : decode cX3_tellTo 62 = .ok (.iinc 2 1, 3) := by decide +kernel
theorem dX3_tellTo_65 : decode cX3_tellTo 65 = .ok (.goto (-63), 3) := by decide +kernel
theorem dX3_tellTo_68 : decode cX3_tellTo 68 = .ok (.return_, 1) := by decide +kernel
set_option maxRecDepth 20000 in
theorem ggX4_init_J7_fill_53178 : GoodIn wsX4_init wsJ7_fill_53178 := goodIn_r _ [16] (by decide +kernel) (by decide +kernel)
set_option maxRecDepth 20000 in
theorem gX4_init_J7_fill_53178 : GoodIn wsX4_init (va_wsS RX4 37 yJ7_fill_53178 wsJ7_fill_53178) := goodIn_app (goodIn_of _ (by decide +kernel)) ggX4_init_J7_fill_53178
theorem dX4_init_0 : decode cX4_init 0 = .ok (.aload_n 0, 1) := by decide +kernel
theorem dX4_init_1 : decode cX4_init 1 = .ok (.invokespecial 3, 3) := by decide +kernel
theorem dX4_init_4 : decode cX4_init 4 = .ok (.aload_n 0, 1) := by decide +kernel
theorem dX4_init_5 : decode cX4_init 5 = .ok (.iconst 0, 1) := by decide +kernel
theorem dX4_init_6 : decode cX4_init 6 = .ok (.putfield 9, 3) := by decide +kernel
theorem dX4_init_9 : decode cX4_init 9 = .ok (.aload_n 0, 1) := by decide +kernel
theorem dX4_init_10 : decode cX4_init 10 = .ok (.bipush 40, 2) := by decide +kernel
theorem dX4_init_12 : decode cX4_init 12 = .ok (.putfield 15, 3) := by decide +kernel
theorem dX4_init_15 : decode cX4_init 15 = .ok (.aload_n 0, 1) := by decide +kernel
theorem dX4_init_16 : decode cX4_init 16 = .ok (.iconst 0, 1) := by decide +kernel
theorem dX4_init_17 : decode cX4_init 17 = .ok (.putfield 18, 3) := by decide +kernel
theorem dX4_init_20 : decode cX4_init 20 = .ok (.aload_n 0, 1) := by decide +kernel
theorem dX4_init_21 : decode cX4_init 21 = .ok (.bipush 8, 2) := by decide +kernel
theorem dX4_init_23 : decode cX4_init 23 = .ok (.newarray .int, 2) := by decide +kernel
theorem dX4_init_25 : decode cX4_init 25 = .ok (.putfield 21, 3) := by decide +kernel
theorem dX4_init_28 : decode cX4_init 28 = .ok (.aload_n 0, 1) := by decide +kernel
theorem dX4_init_29 : decode cX4_init 29 = .ok (.bipush 8, 2) := by decide +kernel
theorem dX4_init_31 : decode cX4_init 31 = .ok (.newarray .int, 2) := by decide +kernel
theorem dX4_init_33 : decode cX4_init 33 = .ok (.putfield 25, 3) := by decide +kernel
theorem dX4_init_36 : decode cX4_init 36 = .ok (.aload_n 0, 1) := by decide +kernel
theorem dX4_init_37 : decode cX4_init 37 = .ok (.bipush 20, 2) := by decide +kernel
theorem dX4_init_39 : decode cX4_init 39 = .ok (.newarray .int, 2) := by decide +kernel
theorem dX4_init_41 : decode cX4_init 41 = .ok (.putfield 28, 3) := by decide +kernel
theorem dX4_init_44 : decode cX4_init 44 = .ok (.aload_n 0, 1) := by decide +kernel
theorem dX4_init_45 : decode cX4_init 45 = .ok (.bipush 16, 2) := by decide +kernel
theorem dX4_init_47 : decode cX4_init 47 = .ok (.newarray .int, 2) := by decide +kernel
theorem dX4_init_49 : decode cX4_init 49 = .ok (.putfield 31, 3) := by decide +kernel
theorem dX4_init_52 : decode cX4_init 52 = .ok (.aload_n 0, 1) := by decide +kernel
theorem dX4_init_53 : decode cX4_init 53 = .ok (.bipush 16, 2) := by decide +kernel
theorem dX4_init_55 : decode cX4_init 55 = .ok (.newarray .int, 2) := by decide +kernel
theorem dX4_init_57 : decode cX4_init 57 = .ok (.putfield 34, 3) := by decide +kernel
theorem dX4_init_60 : decode cX4_init 60 = .ok (.aload_n 0, 1) := by decide +kernel
theorem dX4_init_61 : decode cX4_init 61 = .ok (.getfield 21, 3) := by decide +kernel
theorem dX4_init_64 : decode cX4_init 64 = .ok (.bipush (-5), 2) := by decide +kernel
theorem dX4_init_66 : decode cX4_init 66 = .ok (.invokestatic 37, 3) := by decide +kernel
theorem dX4_init_69 : decode cX4_init 69 = .ok (.aload_n 0, 1) := by decide +kernel
theorem dX4_init_70 : decode cX4_init 70 = .ok (.getfield 25, 3) := by decide +kernel
theorem dX4_init_73 : decode cX4_init 73 = .ok (.bipush (-5), 2) := by decide +kernel
theorem dX4_init_75 : decode cX4_init 75 = .ok (.invokestatic 37, 3) := by decide +kernel
theorem dX4_init_78 : decode cX4_init 78 = .ok (.return_, 1) := by decide +kernel
theorem dX4_copyFrom_0 : decode cX4_copyFrom 0 = .ok (.aload_n 0, 1) := by decide +kernel
theorem dX4_copyFrom_1 : decode cX4_copyFrom 1 = .ok (.aload_n 1, 1) := by decide +kernel
theorem dX4_copyFrom_2 : decode cX4_copyFrom 2 = .ok (.getfield 9, 3) := by decide +kernel
theorem dX4_copyFrom_5 : decode cX4_copyFrom 5 = .ok (.putfield 9, 3) := by decide +kernel
theorem dX4_copyFrom_8 : decode cX4_copyFrom 8 = .ok (.aload_n 0, 1) := by decide +kernel
theorem dX4_copyFrom_9 : decode cX4_copyFrom 9 = .ok (.aload_n 1, 1) := by decide +kernel
theorem dX4_copyFrom_10 : decode cX4_copyFrom 10 = .ok (.getfield 15, 3) := by decide +kernel
theorem dX4_copyFrom_13 : decode cX4_copyFrom 13 = .ok (.putfield 15, 3) := by decide +kernel
theorem dX4_copyFrom_16 : decode cX4_copyFrom 16 = .ok (.aload_n 0, 1) := by decide +kernel
theorem dX4_copyFrom_17 : decode cX4_copyFrom 17 = .ok (.aload_n 1, 1) := by decide +kernel
theorem dX4_copyFrom_18 : decode cX4_copyFrom 18 = .ok (.getfield 18, 3) := by decide +kernel
theorem dX4_copyFrom_21 : decode cX4_copyFrom 21 = .ok (.putfield 18, 3) := by decide +kernel
theorem dX4_copyFrom_24 : decode cX4_copyFrom 24 = .ok (.aload_n 1, 1) := by decide +kernel
theorem dX4_copyFrom_25 : decode cX4_copyFrom 25 = .ok (.getfield 21, 3) := by decide +kernel
theorem dX4_copyFrom_28 : decode cX4_copyFrom 28 = .ok (.iconst 0, 1) := by decide +kernel
theorem dX4_copyFrom_29 : decode cX4_copyFrom 29 = .ok (.aload_n 0, 1) := by decide +kernel
theorem dX4_copyFrom_30 : decode cX4_copyFrom 30 = .ok (.getfield 21, 3) := by decide +kernel
theorem dX4_copyFrom_33 : decode cX4_copyFrom 33 = .ok (.iconst 0, 1) := by decide +kernel
theorem dX4_copyFrom_34 : decode cX4_copyFrom 34 = .ok (.bipush 8, 2) := by decide +kernel
theorem dX4_copyFrom_36 : decode cX4_copyFrom 36 = .ok (.invokestatic 43, 3) := by decide +kernel
theorem dX4_copyFrom_39 : decode cX4_copyFrom 39 = .ok (.aload_n 1, 1) := by decide +kernel
theorem dX4_copyFrom_40 : decode cX4_copyFrom 40 = .ok (.getfield 25, 3) := by decide +kernel
theorem dX4_copyFrom_43 : decode cX4_copyFrom 43 = .ok (.iconst 0, 1) := by decide +kernel
theorem dX4_copyFrom_44 : decode cX4_copyFrom 44 = .ok (.aload_n 0, 1) := by decide +kernel
theorem dX4_copyFrom_45 : decode cX4_copyFrom 45 = .ok (.getfield 25, 3) := by decide +kernel
theorem dX4_copyFrom_48 : decode cX4_copyFrom 48 = .ok (.iconst 0, 1) := by decide +kernel
theorem dX4_copyFrom_49 : decode cX4_copyFrom 49 = .ok (.bipush 8, 2) := by decide +kernel
theorem dX4_copyFrom_51 : decode cX4_copyFrom 51 = .ok (.invokestatic 43, 3) := by decide +kernel
theorem dX4_copyFrom_54 : decode cX4_copyFrom 54 = .ok (.aload_n 1, 1) := by decide +kernel
theorem dX4_copyFrom_55 : decode cX4_copyFrom 55 = .ok (.getfield 28, 3) := by decide +kernel
theorem dX4_copyFrom_58 : decode cX4_copyFrom 58 = .ok (.iconst 0, 1) := by decide +kernel
theorem dX4_copyFrom_59 : decode cX4_copyFrom 59 = .ok (.aload_n 0, 1) := by decide +kernel
theorem dX4_copyFrom_60 : decode cX4_copyFrom 60 = .ok (.getfield 28, 3) := by decide +kernel
theorem dX4_copyFrom_63 : decode cX4_copyFrom 63 = .ok (.iconst 0, 1) := by decide +kernel
theorem dX4_copyFrom_64 : decode cX4_copyFrom 64 = .ok (.bipush 20, 2) := by decide +kernel
theorem dX4_copyFrom_66 : decode cX4_copyFrom 66 = .ok (.invokestatic 43, 3) := by decide +kernel
theorem dX4_copyFrom_69 : decode cX4_copyFrom 69 = .ok (.aload_n 1, 1) := by decide +kernel
theorem dX4_copyFrom_70 : decode cX4_copyFrom 70 = .ok (.getfield 31, 3) := by decide +kernel
theorem dX4_copyFrom_73 : decode cX4_copyFrom 73 = .ok (.iconst 0, 1) := by decide +kernel
theorem dX4_copyFrom_74 : decode cX4_copyFrom 74 = .ok (.aload_n 0, 1) := by decide +kernel
theorem dX4_copyFrom_75 : decode cX4_copyFrom 75 = .ok (.getfield 31, 3) := by decide +kernel
theorem dX4_copyFrom_78 : decode cX4_copyFrom 78 = .ok (.iconst 0, 1) := by decide +kernel
theorem dX4_copyFrom_79 : decode cX4_copyFrom 79 = .ok (.bipush 16, 2) := by decide +kernel
theorem dX4_copyFrom_81 : decode cX4_copyFrom 81 = .ok (.invokestatic 43, 3) := by decide +kernel
theorem dX4_copyFrom_84 : decode cX4_copyFrom 84 = .ok (.aload_n 1, 1) := by decide +kernel
theorem dX4_copyFrom_85 : decode cX4_copyFrom 85 = .ok (.getfield 34, 3) := by decide +kernel
theorem dX4_copyFrom_88 : decode cX4_copyFrom 88 = .ok (.iconst 0, 1) := by decide +kernel
theorem dX4_copyFrom_89 : decode cX4_copyFrom 89 = .ok (.aload_n 0, 1) := by decide +kernel
theorem dX4_copyFrom_90 : decode cX4_copyFrom 90 = .ok (.getfield 34, 3) := by decide +kernel
theorem dX4_copyFrom_93 : decode cX4_copyFrom 93 = .ok (.iconst 0, 1) := by decide +kernel
theorem dX4_copyFrom_94 : decode cX4_copyFrom 94 = .ok (.bipush 16, 2) := by decide +kernel
theorem dX4_copyFrom_96 : decode cX4_copyFrom 96 = .ok (.invokestatic 43, 3) := by decide +kernel
theorem dX4_copyFrom_99 : decode cX4_copyFrom 99 = .ok (.return_, 1) := by decide +kernel
set_option maxRecDepth 20000 in
theorem ggX4_startAnew_J7_fill_53178 : GoodIn wsX4_startAnew wsJ7_fill_53178 := goodIn_r _ [7] (by decide +kernel) (by decide +kernel)
set_option maxRecDepth 20000 in
theorem gX4_startAnew_J7_fill_53178 : GoodIn wsX4_startAnew (va_wsS RX4 37 yJ7_fill_53178 wsJ7_fill_53178) := goodIn_app (goodIn_of _ (by decide +kernel)) ggX4_startAnew_J7_fill_53178
theorem dX4_startAnew_0 : decode cX4_startAnew 0 = .ok (.aload_n 0, 1) := by decide +kernel
theorem dX4_startAnew_1 : decode cX4_startAnew 1 = .ok (.iconst 0, 1) := by decide +kernel
theorem dX4_startAnew_2 : decode cX4_startAnew 2 = .ok (.putfield 9, 3) := by decide +kernel
theorem dX4_startAnew_5 : decode cX4_startAnew 5 = .ok (.aload_n 0, 1) := by decide +kernel
theorem dX4_startAnew_6 : decode cX4_startAnew 6 = .ok (.getfield 21, 3) := by decide +kernel
theorem dX4_startAnew_9 : decode cX4_startAnew 9 = .ok (.bipush (-5), 2) := by decide +kernel
theorem dX4_startAnew_11 : decode cX4_startAnew 11 = .ok (.invokestatic 37, 3) := by decide +kernel
theorem dX4_startAnew_14 : decode cX4_startAnew 14 = .ok (.aload_n 0, 1) := by decide +kernel
theorem dX4_startAnew_15 : decode cX4_startAnew 15 = .ok (.getfield 25, 3) := by decide +kernel
theorem dX4_startAnew_18 : decode cX4_startAnew 18 = .ok (.bipush (-5), 2) := by decide +kernel
theorem dX4_startAnew_20 : decode cX4_startAnew 20 = .ok (.invokestatic 37, 3) := by decide +kernel
theorem dX4_startAnew_23 : decode cX4_startAnew 23 = .ok (.return_, 1) := by decide +kernel
theorem dX4_hasDevice_0 : decode cX4_hasDevice 0 = .ok (.iload_n 1, 1) := by decide +kernel
theorem dX4_hasDevice_1 : decode cX4_hasDevice 1 = .ok (.ifCond .lt 15, 3) := by decide +kernel
theorem dX4_hasDevice_4 : decode cX4_hasDevice 4 = .ok (.iload_n 1, 1) := by decide +kernel
theorem dX4_hasDevice_5 : decode cX4_hasDevice 5 = .ok (.aload_n 0, 1) := by decide +kernel
theorem dX4_hasDevice_6 : decode cX4_hasDevice 6 = .ok (.getfield 18, 3) := by decide +kernel
theorem dX4_hasDevice_9 : decode cX4_hasDevice 9 = .ok (.if_icmp .ge 7, 3) := by decide +kernel
theorem dX4_hasDevice_12 : decode cX4_hasDevice 12 = .ok (.iconst 1, 1) := by decide +kernel
theorem dX4_hasDevice_13 : decode cX4_hasDevice 13 = .ok (.goto 4, 3) := by decide +kernel
theorem dX4_hasDevice_16 : decode cX4_hasDevice 16 = .ok (.iconst 0, 1) := by decide +kernel
theorem dX4_hasDevice_17 : decode cX4_hasDevice 17 = .ok (.ireturn, 1) := by decide +kernel
theorem dX4_hasMove_0 : decode cX4_hasMove 0 = .ok (.aload_n 0, 1) := by decide +kernel
theorem dX4_hasMove_1 : decode cX4_hasMove 1 = .ok (.getfield 21, 3) := by decide +kernel
theorem dX4_hasMove_4 : decode cX4_hasMove 4 = .ok (.iload_n 1, 1) := by decide +kernel
theorem dX4_hasMove_5 : decode cX4_hasMove 5 = .ok (.iaload, 1) := by decide +kernel
theorem dX4_hasMove_6 : decode cX4_hasMove 6 = .ok (.bipush (-5), 2) := by decide +kernel
theorem dX4_hasMove_8 : decode cX4_hasMove 8 = .ok (.if_icmp .eq 7, 3) := by decide +kernel
theorem dX4_hasMove_11 : decode cX4_hasMove 11 = .ok (.iconst 1, 1) := by decide +kernel
theorem dX4_hasMove_12 : decode cX4_hasMove 12 = .ok (.goto 4, 3) := by decide +kernel
theorem dX4_hasMove_15 : decode cX4_hasMove 15 = .ok (.iconst 0, 1) := by decide +kernel
theorem dX4_hasMove_16 : decode cX4_hasMove 16 = .ok (.ireturn, 1) := by decide +kernel
set_option maxRecDepth 20000 in
theorem ggX4_thousandthsOfFirst_X5_weightsAhead : GoodIn wsX4_thousandthsOfFirst wsX5_weightsAhead := goodIn_r _ [5, 6] (by decide +kernel) (by decide +kernel)
set_option maxRecDepth 20000 in
theorem gX4_thousandthsOfFirst_X5_weightsAhead_n49 : GoodIn wsX4_thousandthsOfFirst (wsX5_weightsAhead) := ggX4_thousandthsOfFirst_X5_weightsAhead
theorem dX4_thousandthsOfFirst_0 : decode cX4_thousandthsOfFirst 0 = .ok (.aload_n 0, 1) := by decide +kernel
theorem dX4_thousandthsOfFirst_1 : decode cX4_thousandthsOfFirst 1 = .ok (.getfield 25, 3) := by decide +kernel
theorem dX4_thousandthsOfFirst_4 : decode cX4_thousandthsOfFirst 4 = .ok (.iload_n 1, 1) := by decide +kernel
theorem dX4_thousandthsOfFirst_5 : decode cX4_thousandthsOfFirst 5 = .ok (.iaload, 1) := by decide +kernel
theorem dX4_thousandthsOfFirst_6 : decode cX4_thousandthsOfFirst 6 = .ok (.bipush (-5), 2) := by decide +kernel
theorem dX4_thousandthsOfFirst_8 : decode cX4_thousandthsOfFirst 8 = .ok (.if_icmp .eq 12, 3) := by decide +kernel
theorem dX4_thousandthsOfFirst_11 : decode cX4_thousandthsOfFirst 11 = .ok (.aload_n 0, 1) := by decide +kernel
theorem dX4_thousandthsOfFirst_12 : decode cX4_thousandthsOfFirst 12 = .ok (.getfield 25, 3) := by decide +kernel
theorem dX4_thousandthsOfFirst_15 : decode cX4_thousandthsOfFirst 15 = .ok (.iload_n 1, 1) := by decide +kernel
theorem dX4_thousandthsOfFirst_16 : decode cX4_thousandthsOfFirst 16 = .ok (.iaload, 1) := by decide +kernel
theorem dX4_thousandthsOfFirst_17 : decode cX4_thousandthsOfFirst 17 = .ok (.goto 12, 3) := by decide +kernel
theorem dX4_thousandthsOfFirst_20 : decode cX4_thousandthsOfFirst 20 = .ok (.aload_n 0, 1) := by decide +kernel
theorem dX4_thousandthsOfFirst_21 : decode cX4_thousandthsOfFirst 21 = .ok (.getfield 21, 3) := by decide +kernel
theorem dX4_thousandthsOfFirst_24 : decode cX4_thousandthsOfFirst 24 = .ok (.iload_n 1, 1) := by decide +kernel
theorem dX4_thousandthsOfFirst_25 : decode cX4_thousandthsOfFirst 25 = .ok (.iaload, 1) := by decide +kernel
theorem dX4_thousandthsOfFirst_26 : decode cX4_thousandthsOfFirst 26 = .ok (.invokestatic 49, 3) := by decide +kernel
theorem dX4_thousandthsOfFirst_29 : decode cX4_thousandthsOfFirst 29 = .ok (.ireturn, 1) := by decide +kernel
theorem dX4_chargeAnew_0 : decode cX4_chargeAnew 0 = .ok (.iconst 0, 1) := by decide +kernel
theorem dX4_chargeAnew_1 : decode cX4_chargeAnew 1 = .ok (.istore_n 2, 1) := by decide +kernel
theorem dX4_chargeAnew_2 : decode cX4_chargeAnew 2 = .ok (.iconst 0, 1) := by decide +kernel
theorem dX4_chargeAnew_3 : decode cX4_chargeAnew 3 = .ok (.istore_n 3, 1) := by decide +kernel
theorem dX4_chargeAnew_4 : decode cX4_chargeAnew 4 = .ok (.iload_n 3, 1) := by decide +kernel
theorem dX4_chargeAnew_5 : decode cX4_chargeAnew 5 = .ok (.bipush 16, 2) := by decide +kernel
theorem dX4_chargeAnew_7 : decode cX4_chargeAnew 7 = .ok (.if_icmp .ge 49, 3) := by decide +kernel
theorem dX4_chargeAnew_10 : decode cX4_chargeAnew 10 = .ok (.aload_n 1, 1) := by decide +kernel
theorem dX4_chargeAnew_11 : decode cX4_chargeAnew 11 = .ok (.iload_n 3, 1) := by decide +kernel
theorem dX4_chargeAnew_12 : decode cX4_chargeAnew 12 = .ok (.iaload, 1) := by decide +kernel
theorem dX4_chargeAnew_13 : decode cX4_chargeAnew 13 = .ok (.aload_n 0, 1) := by decide +kernel
theorem dX4_chargeAnew_14 : decode cX4_chargeAnew 14 = .ok (.getfield 31, 3) := by decide +kernel
theorem dX4_chargeAnew_17 : decode cX4_chargeAnew 17 = .ok (.iload_n 3, 1) := by decide +kernel
theorem dX4_chargeAnew_18 : decode cX4_chargeAnew 18 = .ok (.iaload, 1) := by decide +kernel
theorem dX4_chargeAnew_19 : decode cX4_chargeAnew 19 = .ok (.isub, 1) := by decide +kernel
theorem dX4_chargeAnew_20 : decode cX4_chargeAnew 20 = .ok (.istore 4, 2) := by decide +kernel
theorem dX4_chargeAnew_22 : decode cX4_chargeAnew 22 = .ok (.iload 4, 2) := by decide +kernel
theorem dX4_chargeAnew_24 : decode cX4_chargeAnew 24 = .ok (.ifCond .eq 6, 3) := by decide +kernel
theorem dX4_chargeAnew_27 : decode cX4_chargeAnew 27 = .ok (.iinc 2 1, 3) := by decide +kernel
theorem dX4_chargeAnew_30 : decode cX4_chargeAnew 30 = .ok (.aload_n 0, 1) := by decide +kernel
theorem dX4_chargeAnew_31 : decode cX4_chargeAnew 31 = .ok (.getfield 34, 3) := by decide +kernel
theorem dX4_chargeAnew_34 : decode cX4_chargeAnew 34 = .ok (.iload_n 3, 1) := by decide +kernel
theorem dX4_chargeAnew_35 : decode cX4_chargeAnew 35 = .ok (.dup2, 1) := by decide +kernel
theorem dX4_chargeAnew_36 : decode cX4_chargeAnew 36 = .ok (.iaload, 1) := by decide +kernel
theorem dX4_chargeAnew_37 : decode cX4_chargeAnew 37 = .ok (.iload 4, 2) := by decide +kernel
theorem dX4_chargeAnew_39 : decode cX4_chargeAnew 39 = .ok (.iadd, 1) := by decide +kernel
theorem dX4_chargeAnew_40 : decode cX4_chargeAnew 40 = .ok (.iastore, 1) := by decide +kernel
theorem dX4_chargeAnew_41 : decode cX4_chargeAnew 41 = .ok (.aload_n 0, 1) := by decide +kernel
theorem dX4_chargeAnew_42 : decode cX4_chargeAnew 42 = .ok (.getfield 31, 3) := by decide +kernel
theorem dX4_chargeAnew_45 : decode cX4_chargeAnew 45 = .ok (.iload_n 3, 1) := by decide +kernel
theorem dX4_chargeAnew_46 : decode cX4_chargeAnew 46 = .ok (.aload_n 1, 1) := by decide +kernel
theorem dX4_chargeAnew_47 : decode cX4_chargeAnew 47 = .ok (.iload_n 3, 1) := by decide +kernel
theorem dX4_chargeAnew_48 : decode cX4_chargeAnew 48 = .ok (.iaload, 1) := by decide +kernel
theorem dX4_chargeAnew_49 : decode cX4_chargeAnew 49 = .ok (.iastore, 1) := by decide +kernel
theorem dX4_chargeAnew_50 : decode cX4_chargeAnew 50 = .ok (.iinc 3 1, 3) := by decide +kernel
theorem dX4_chargeAnew_53 : decode cX4_chargeAnew 53 = .ok (.goto (-49), 3) := by decide +kernel
theorem dX4_chargeAnew_56 : decode cX4_chargeAnew 56 = .ok (.iload_n 2, 1) := by decide +kernel
theorem dX4_chargeAnew_57 : decode cX4_chargeAnew 57 = .ok (.ireturn, 1) := by decide +kernel
set_option maxRecDepth 20000 in
theorem ggX5_init_X2_init : GoodIn wsX5_init wsX2_init := goodIn_r _ [24, 25, 2, 3, 26, 27, 28, 29, 30, 31, 32, 33, 34, 35, 36, 37, 38, 39, 40, 41, 42, 43, 44, 45, 46, 47, 48, 49, 50, 51, 52, 53, 54, 55, 56, 57, 58, 90, 91, 92, 93, 94, 95, 96, 97, 98, 99, 100, 101, 123, 124, 125, 126, 127, 128, 129, 130] (by decide +kernel) (by decide +kernel)
set_option maxRecDepth 20000 in
theorem gX5_init_X2_init : GoodIn wsX5_init (wsX2_init) := ggX5_init_X2_init
set_option maxRecDepth 20000 in
theorem ggX5_init_X1_init : GoodIn wsX5_init wsX1_init := goodIn_r _ [61, 62, 2, 3, 63, 64, 5, 6, 65, 66, 67, 23, 24, 25, 26, 27, 28, 29, 30, 31, 32, 33, 34, 35, 36, 37, 38, 39, 40, 41, 42, 43, 44, 45, 46, 47, 48, 49, 50, 51, 52, 53, 54, 55, 56, 57, 58, 108, 109, 110, 90, 91, 92, 93, 94, 95, 96, 97, 98, 99, 100, 101, 123, 124, 125, 126, 127, 128, 129, 130] (by decide +kernel) (by decide +kernel)
set_option maxRecDepth 20000 in
theorem gX5_init_X1_init : GoodIn wsX5_init (wsX1_init) := ggX5_init_X1_init
set_option maxRecDepth 20000 in
theorem ggX5_init_X3_init : GoodIn wsX5_init wsX3_init := goodIn_r _ [70, 71, 2, 3, 72, 73, 74, 75, 76, 77, 27, 78, 79, 111, 112, 113, 114, 115, 116, 117] (by decide +kernel) (by decide +kernel)
set_option maxRecDepth 20000 in
theorem gX5_init_X3_init : GoodIn wsX5_init (wsX3_init) := ggX5_init_X3_init
set_option maxRecDepth 20000 in
theorem ggX5_init_X0_init : GoodIn wsX5_init wsX0_init := goodIn_r _ [82, 83, 2, 3, 27, 84, 85, 86, 87, 88, 89, 118, 119, 120, 121, 122] (by decide +kernel) (by decide +kernel)
set_option maxRecDepth 20000 in
theorem gX5_init_X0_init : GoodIn wsX5_init (wsX0_init) := ggX5_init_X0_init
theorem dX5_init_0 : decode cX5_init 0 = .ok (.aload_n 0, 1) := by decide +kernel
theorem dX5_init_1 : decode cX5_init 1 = .ok (.invokespecial 3, 3) := by decide +kernel
theorem dX5_init_4 : decode cX5_init 4 = .ok (.aload_n 0, 1) := by decide +kernel
theorem dX5_init_5 : decode cX5_init 5 = .ok (.new 9, 3) := by decide +kernel
theorem dX5_init_8 : decode cX5_init 8 = .ok (.dup, 1) := by decide +kernel
theorem dX5_init_9 : decode cX5_init 9 = .ok (.invokespecial 11, 3) := by decide +kernel
theorem dX5_init_12 : decode cX5_init 12 = .ok (.putfield 12, 3) := by decide +kernel
theorem dX5_init_15 : decode cX5_init 15 = .ok (.aload_n 0, 1) := by decide +kernel
theorem dX5_init_16 : decode cX5_init 16 = .ok (.new 9, 3) := by decide +kernel
theorem dX5_init_19 : decode cX5_init 19 = .ok (.dup, 1) := by decide +kernel
theorem dX5_init_20 : decode cX5_init 20 = .ok (.invokespecial 11, 3) := by decide +kernel
theorem dX5_init_23 : decode cX5_init 23 = .ok (.putfield 16, 3) := by decide +kernel
theorem dX5_init_26 : decode cX5_init 26 = .ok (.aload_n 0, 1) := by decide +kernel
theorem dX5_init_27 : decode cX5_init 27 = .ok (.iconst 0, 1) := by decide +kernel
theorem dX5_init_28 : decode cX5_init 28 = .ok (.putfield 19, 3) := by decide +kernel
theorem dX5_init_31 : decode cX5_init 31 = .ok (.aload_n 0, 1) := by decide +kernel
theorem dX5_init_32 : decode cX5_init 32 = .ok (.new 23, 3) := by decide +kernel
theorem dX5_init_35 : decode cX5_init 35 = .ok (.dup, 1) := by decide +kernel
theorem dX5_init_36 : decode cX5_init 36 = .ok (.invokespecial 25, 3) := by decide +kernel
theorem dX5_init_39 : decode cX5_init 39 = .ok (.putfield 26, 3) := by decide +kernel
theorem dX5_init_42 : decode cX5_init 42 = .ok (.aload_n 0, 1) := by decide +kernel
theorem dX5_init_43 : decode cX5_init 43 = .ok (.new 30, 3) := by decide +kernel
theorem dX5_init_46 : decode cX5_init 46 = .ok (.dup, 1) := by decide +kernel
theorem dX5_init_47 : decode cX5_init 47 = .ok (.invokespecial 32, 3) := by decide +kernel
theorem dX5_init_50 : decode cX5_init 50 = .ok (.putfield 33, 3) := by decide +kernel
theorem dX5_init_53 : decode cX5_init 53 = .ok (.aload_n 0, 1) := by decide +kernel
theorem dX5_init_54 : decode cX5_init 54 = .ok (.new 37, 3) := by decide +kernel
theorem dX5_init_57 : decode cX5_init 57 = .ok (.dup, 1) := by decide +kernel
theorem dX5_init_58 : decode cX5_init 58 = .ok (.invokespecial 39, 3) := by decide +kernel
theorem dX5_init_61 : decode cX5_init 61 = .ok (.putfield 40, 3) := by decide +kernel
theorem dX5_init_64 : decode cX5_init 64 = .ok (.return_, 1) := by decide +kernel
set_option maxRecDepth 20000 in
theorem ggX5_addFlat_X1_remember : GoodIn wsX5_addFlat wsX1_remember := goodIn_r _ [10, 11, 12, 13, 14, 15, 16, 17, 18, 19, 20, 21, 22, 23, 24, 25, 26, 27, 28, 29, 30, 31, 32, 33, 34, 35, 36, 37, 38, 39, 40, 41, 42, 43, 44, 45, 46, 47, 48, 67, 68, 69, 55, 56, 57, 58, 59, 60, 61, 62, 63, 64, 65, 66, 70, 71, 72, 73, 74, 75, 76, 77] (by decide +kernel) (by decide +kernel)
set_option maxRecDepth 20000 in
theorem gX5_addFlat_X1_remember : GoodIn wsX5_addFlat (wsV RX5 51 RX1 yX1_remember wsX1_remember) := goodIn_app (goodIn_of _ (by decide +kernel)) ggX5_addFlat_X1_remember
theorem dX5_addFlat_0 : decode cX5_addFlat 0 = .ok (.iload_n 1, 1) := by decide +kernel
theorem dX5_addFlat_1 : decode cX5_addFlat 1 = .ok (.iconst 1, 1) := by decide +kernel
theorem dX5_addFlat_2 : decode cX5_addFlat 2 = .ok (.if_icmp .lt 10, 3) := by decide +kernel
theorem dX5_addFlat_5 : decode cX5_addFlat 5 = .ok (.iload_n 1, 1) := by decide +kernel
theorem dX5_addFlat_6 : decode cX5_addFlat 6 = .ok (.sipush 200, 3) := by decide +kernel
theorem dX5_addFlat_9 : decode cX5_addFlat 9 = .ok (.if_icmp .le 6, 3) := by decide +kernel
theorem dX5_addFlat_12 : decode cX5_addFlat 12 = .ok (.bipush (-2), 2) := by decide +kernel
theorem dX5_addFlat_14 : decode cX5_addFlat 14 = .ok (.ireturn, 1) := by decide +kernel
theorem dX5_addFlat_15 : decode cX5_addFlat 15 = .ok (.aload_n 0, 1) := by decide +kernel
theorem dX5_addFlat_16 : decode cX5_addFlat 16 = .ok (.getfield 12, 3) := by decide +kernel
theorem dX5_addFlat_19 : decode cX5_addFlat 19 = .ok (.getfield 44, 3) := by decide +kernel
theorem dX5_addFlat_22 : decode cX5_addFlat 22 = .ok (.bipush 8, 2) := by decide +kernel
theorem dX5_addFlat_24 : decode cX5_addFlat 24 = .ok (.if_icmp .lt 6, 3) := by decide +kernel
theorem dX5_addFlat_27 : decode cX5_addFlat 27 = .ok (.bipush (-3), 2) := by decide +kernel
theorem dX5_addFlat_29 : decode cX5_addFlat 29 = .ok (.ireturn, 1) := by decide +kernel
theorem dX5_addFlat_30 : decode cX5_addFlat 30 = .ok (.aload_n 0, 1) := by decide +kernel
theorem dX5_addFlat_31 : decode cX5_addFlat 31 = .ok (.getfield 12, 3) := by decide +kernel
theorem dX5_addFlat_34 : decode cX5_addFlat 34 = .ok (.getfield 48, 3) := by decide +kernel
theorem dX5_addFlat_37 : decode cX5_addFlat 37 = .ok (.ifCond .le 6, 3) := by decide +kernel
theorem dX5_addFlat_40 : decode cX5_addFlat 40 = .ok (.bipush (-4), 2) := by decide +kernel
theorem dX5_addFlat_42 : decode cX5_addFlat 42 = .ok (.ireturn, 1) := by decide +kernel
theorem dX5_addFlat_43 : decode cX5_addFlat 43 = .ok (.aload_n 0, 1) := by decide +kernel
theorem dX5_addFlat_44 : decode cX5_addFlat 44 = .ok (.getfield 26, 3) := by decide +kernel
theorem dX5_addFlat_47 : decode cX5_addFlat 47 = .ok (.aload_n 0, 1) := by decide +kernel
theorem dX5_addFlat_48 : decode cX5_addFlat 48 = .ok (.getfield 12, 3) := by decide +kernel
theorem dX5_addFlat_51 : decode cX5_addFlat 51 = .ok (.invokevirtual 51, 3) := by decide +kernel
theorem dX5_addFlat_54 : decode cX5_addFlat 54 = .ok (.aload_n 0, 1) := by decide +kernel
theorem dX5_addFlat_55 : decode cX5_addFlat 55 = .ok (.getfield 12, 3) := by decide +kernel
theorem dX5_addFlat_58 : decode cX5_addFlat 58 = .ok (.getfield 44, 3) := by decide +kernel
theorem dX5_addFlat_61 : decode cX5_addFlat 61 = .ok (.istore_n 2, 1) := by decide +kernel
theorem dX5_addFlat_62 : decode cX5_addFlat 62 = .ok (.aload_n 0, 1) := by decide +kernel
theorem dX5_addFlat_63 : decode cX5_addFlat 63 = .ok (.getfield 12, 3) := by decide +kernel
theorem dX5_addFlat_66 : decode cX5_addFlat 66 = .ok (.getfield 55, 3) := by decide +kernel
theorem dX5_addFlat_69 : decode cX5_addFlat 69 = .ok (.iload_n 2, 1) := by decide +kernel
theorem dX5_addFlat_70 : decode cX5_addFlat 70 = .ok (.iload_n 1, 1) := by decide +kernel
theorem dX5_addFlat_71 : decode cX5_addFlat 71 = .ok (.iastore, 1) := by decide +kernel
theorem dX5_addFlat_72 : decode cX5_addFlat 72 = .ok (.aload_n 0, 1) := by decide +kernel
theorem dX5_addFlat_73 : decode cX5_addFlat 73 = .ok (.getfield 12, 3) := by decide +kernel
theorem dX5_addFlat_76 : decode cX5_addFlat 76 = .ok (.iload_n 2, 1) := by decide +kernel
theorem dX5_addFlat_77 : decode cX5_addFlat 77 = .ok (.iconst 1, 1) := by decide +kernel
theorem dX5_addFlat_78 : decode cX5_addFlat 78 = .ok (.iadd, 1) := by decide +kernel
theorem dX5_addFlat_79 : decode cX5_addFlat 79 = .ok (.putfield 44, 3) := by decide +kernel
theorem dX5_addFlat_82 : decode cX5_addFlat 82 = .ok (.iload_n 2, 1) := by decide +kernel
theorem dX5_addFlat_83 : decode cX5_addFlat 83 = .ok (.ireturn, 1) := by decide +kernel
set_option maxRecDepth 20000 in
theorem ggX5_addDevice_X2_hasFlat : GoodIn wsX5_addDevice wsX2_hasFlat := goodIn_r _ [11, 12, 60, 61, 62, 63, 64, 65, 66, 67, 68, 69, 70, 71] (by decide +kernel) (by decide +kernel)
set_option maxRecDepth 20000 in
theorem gX5_addDevice_X2_hasFlat : GoodIn wsX5_addDevice (wsV RX5 59 RX2 yX2_hasFlat wsX2_hasFlat) := goodIn_app (goodIn_of _ (by decide +kernel)) ggX5_addDevice_X2_hasFlat
set_option maxRecDepth 20000 in
theorem ggX5_addDevice_X1_remember : GoodIn wsX5_addDevice wsX1_remember := goodIn_r _ [17, 18, 19, 20, 21, 22, 23, 10, 24, 12, 25, 26, 27, 28, 29, 30, 31, 32, 33, 34, 35, 36, 37, 38, 39, 40, 41, 42, 43, 44, 45, 46, 47, 48, 49, 50, 51, 52, 53, 80, 81, 82, 60, 61, 62, 63, 64, 65, 66, 67, 68, 69, 70, 71, 72, 73, 74, 75, 76, 77, 78, 79] (by decide +kernel) (by decide +kernel)
set_option maxRecDepth 20000 in
theorem gX5_addDevice_X1_remember : GoodIn wsX5_addDevice (wsV RX5 51 RX1 yX1_remember wsX1_remember) := goodIn_app (goodIn_of _ (by decide +kernel)) ggX5_addDevice_X1_remember
theorem dX5_addDevice_0 : decode cX5_addDevice 0 = .ok (.aload_n 0, 1) := by decide +kernel
theorem dX5_addDevice_1 : decode cX5_addDevice 1 = .ok (.getfield 12, 3) := by decide +kernel
theorem dX5_addDevice_4 : decode cX5_addDevice 4 = .ok (.iload_n 1, 1) := by decide +kernel
theorem dX5_addDevice_5 : decode cX5_addDevice 5 = .ok (.invokevirtual 59, 3) := by decide +kernel
theorem dX5_addDevice_8 : decode cX5_addDevice 8 = .ok (.ifCond .ne 5, 3) := by decide +kernel
theorem dX5_addDevice_11 : decode cX5_addDevice 11 = .ok (.iconst (-1), 1) := by decide +kernel
theorem dX5_addDevice_12 : decode cX5_addDevice 12 = .ok (.ireturn, 1) := by decide +kernel
theorem dX5_addDevice_13 : decode cX5_addDevice 13 = .ok (.iload_n 2, 1) := by decide +kernel
theorem dX5_addDevice_14 : decode cX5_addDevice 14 = .ok (.iconst 1, 1) := by decide +kernel
theorem dX5_addDevice_15 : decode cX5_addDevice 15 = .ok (.if_icmp .lt 9, 3) := by decide +kernel
theorem dX5_addDevice_18 : decode cX5_addDevice 18 = .ok (.iload_n 2, 1) := by decide +kernel
theorem dX5_addDevice_19 : decode cX5_addDevice 19 = .ok (.bipush 20, 2) := by decide +kernel
theorem dX5_addDevice_21 : decode cX5_addDevice 21 = .ok (.if_icmp .le 6, 3) := by decide +kernel
theorem dX5_addDevice_24 : decode cX5_addDevice 24 = .ok (.bipush (-2), 2) := by decide +kernel
theorem dX5_addDevice_26 : decode cX5_addDevice 26 = .ok (.ireturn, 1) := by decide +kernel
theorem dX5_addDevice_27 : decode cX5_addDevice 27 = .ok (.aload_n 0, 1) := by decide +kernel
theorem dX5_addDevice_28 : decode cX5_addDevice 28 = .ok (.getfield 12, 3) := by decide +kernel
theorem dX5_addDevice_31 : decode cX5_addDevice 31 = .ok (.getfield 63, 3) := by decide +kernel
theorem dX5_addDevice_34 : decode cX5_addDevice 34 = .ok (.getfield 67, 3) := by decide +kernel
theorem dX5_addDevice_37 : decode cX5_addDevice 37 = .ok (.bipush 20, 2) := by decide +kernel
theorem dX5_addDevice_39 : decode cX5_addDevice 39 = .ok (.if_icmp .lt 6, 3) := by decide +kernel
theorem dX5_addDevice_42 : decode cX5_addDevice 42 = .ok (.bipush (-3), 2) := by decide +kernel
theorem dX5_addDevice_44 : decode cX5_addDevice 44 = .ok (.ireturn, 1) := by decide +kernel
theorem dX5_addDevice_45 : decode cX5_addDevice 45 = .ok (.aload_n 0, 1) := by decide +kernel
theorem dX5_addDevice_46 : decode cX5_addDevice 46 = .ok (.getfield 26, 3) := by decide +kernel
theorem dX5_addDevice_49 : decode cX5_addDevice 49 = .ok (.aload_n 0, 1) := by decide +kernel
theorem dX5_addDevice_50 : decode cX5_addDevice 50 = .ok (.getfield 12, 3) := by decide +kernel
theorem dX5_addDevice_53 : decode cX5_addDevice 53 = .ok (.invokevirtual 51, 3) := by decide +kernel
theorem dX5_addDevice_56 : decode cX5_addDevice 56 = .ok (.aload_n 0, 1) := by decide +kernel
theorem dX5_addDevice_57 : decode cX5_addDevice 57 = .ok (.getfield 12, 3) := by decide +kernel
theorem dX5_addDevice_60 : decode cX5_addDevice 60 = .ok (.getfield 63, 3) := by decide +kernel
theorem dX5_addDevice_63 : decode cX5_addDevice 63 = .ok (.getfield 67, 3) := by decide +kernel
theorem dX5_addDevice_66 : decode cX5_addDevice 66 = .ok (.istore_n 3, 1) := by decide +kernel
theorem dX5_addDevice_67 : decode cX5_addDevice 67 = .ok (.aload_n 0, 1) := by decide +kernel
theorem dX5_addDevice_68 : decode cX5_addDevice 68 = .ok (.getfield 12, 3) := by decide +kernel
theorem dX5_addDevice_71 : decode cX5_addDevice 71 = .ok (.getfield 72, 3) := by decide +kernel
theorem dX5_addDevice_74 : decode cX5_addDevice 74 = .ok (.iload_n 3, 1) := by decide +kernel
theorem dX5_addDevice_75 : decode cX5_addDevice 75 = .ok (.iload_n 1, 1) := by decide +kernel
theorem dX5_addDevice_76 : decode cX5_addDevice 76 = .ok (.iastore, 1) := by decide +kernel
theorem dX5_addDevice_77 : decode cX5_addDevice 77 = .ok (.aload_n 0, 1) := by decide +kernel
theorem dX5_addDevice_78 : decode cX5_addDevice 78 = .ok (.getfield 12, 3) := by decide +kernel
theorem dX5_addDevice_81 : decode cX5_addDevice 81 = .ok (.getfield 75, 3) := by decide +kernel
theorem dX5_addDevice_84 : decode cX5_addDevice 84 = .ok (.iload_n 3, 1) := by decide +kernel
theorem dX5_addDevice_85 : decode cX5_addDevice 85 = .ok (.iload_n 2, 1) := by decide +kernel
theorem dX5_addDevice_86 : decode cX5_addDevice 86 = .ok (.iastore, 1) := by decide +kernel
theorem dX5_addDevice_87 : decode cX5_addDevice 87 = .ok (.aload_n 0, 1) := by decide +kernel
theorem dX5_addDevice_88 : decode cX5_addDevice 88 = .ok (.getfield 12, 3) := by decide +kernel
theorem dX5_addDevice_91 : decode cX5_addDevice 91 = .ok (.getfield 63, 3) := by decide +kernel
theorem dX5_addDevice_94 : decode cX5_addDevice 94 = .ok (.iload_n 3, 1) := by decide +kernel
theorem dX5_addDevice_95 : decode cX5_addDevice 95 = .ok (.iconst 1, 1) := by decide +kernel
theorem dX5_addDevice_96 : decode cX5_addDevice 96 = .ok (.iadd, 1) := by decide +kernel
theorem dX5_addDevice_97 : decode cX5_addDevice 97 = .ok (.putfield 67, 3) := by decide +kernel
theorem dX5_addDevice_100 : decode cX5_addDevice 100 = .ok (.iload_n 3, 1) := by decide +kernel
theorem dX5_addDevice_101 : decode cX5_addDevice 101 = .ok (.ireturn, 1) := by decide +kernel
set_option maxRecDepth 20000 in
theorem ggX5_set_X2_setting : GoodIn wsX5_set wsX2_setting := goodIn_r _ [8, 9, 10, 11, 12, 63, 64, 65, 66, 67, 68, 69, 70, 71, 72, 73, 74, 75, 76, 77, 78, 79, 80, 81, 82] (by decide +kernel) (by decide +kernel)
set_option maxRecDepth 20000 in
theorem gX5_set_X2_setting : GoodIn wsX5_set (wsV RX5 81 RX2 yX2_setting wsX2_setting) := goodIn_app (goodIn_of _ (by decide +kernel)) ggX5_set_X2_setting
set_option maxRecDepth 20000 in
theorem ggX5_set_X1_remember : GoodIn wsX5_set wsX1_remember := goodIn_r _ [17, 18, 19, 20, 21, 22, 23, 7, 24, 25, 26, 27, 28, 29, 30, 31, 32, 33, 34, 35, 12, 36, 9, 37, 38, 39, 40, 41, 42, 43, 44, 45, 46, 47, 48, 49, 50, 51, 52, 83, 84, 85, 63, 64, 65, 66, 67, 68, 69, 70, 71, 72, 73, 74, 75, 76, 77, 78, 79, 80, 81, 82] (by decide +kernel) (by decide +kernel)
set_option maxRecDepth 20000 in
theorem gX5_set_X1_remember : GoodIn wsX5_set (wsV RX5 51 RX1 yX1_remember wsX1_remember) := goodIn_app (goodIn_of _ (by decide +kernel)) ggX5_set_X1_remember
set_option maxRecDepth 20000 in
theorem ggX5_set_X2_putSetting : GoodIn wsX5_set wsX2_putSetting := goodIn_r _ [56, 9, 10, 11, 12, 63, 64, 65, 66, 67, 68, 69, 70, 71, 72, 73, 74, 75, 76, 77, 78, 79, 80, 81, 82] (by decide +kernel) (by decide +kernel)
set_option maxRecDepth 20000 in
theorem gX5_set_X2_putSetting : GoodIn wsX5_set (wsV RX5 85 RX2 yX2_putSetting wsX2_putSetting) := goodIn_app (goodIn_of _ (by decide +kernel)) ggX5_set_X2_putSetting
theorem dX5_set_0 : decode cX5_set 0 = .ok (.iload_n 1, 1) := by decide +kernel
theorem dX5_set_1 : decode cX5_set 1 = .ok (.ifCond .lt 11, 3) := by decide +kernel
theorem dX5_set_4 : decode cX5_set 4 = .ok (.iload_n 1, 1) := by decide +kernel
theorem dX5_set_5 : decode cX5_set 5 = .ok (.getstatic 78, 3) := by decide +kernel
theorem dX5_set_8 : decode cX5_set 8 = .ok (.arraylength, 1) := by decide +kernel
theorem dX5_set_9 : decode cX5_set 9 = .ok (.if_icmp .lt 6, 3) := by decide +kernel
theorem dX5_set_12 : decode cX5_set 12 = .ok (.bipush (-2), 2) := by decide +kernel
theorem dX5_set_14 : decode cX5_set 14 = .ok (.ireturn, 1) := by decide +kernel
theorem dX5_set_15 : decode cX5_set 15 = .ok (.iload_n 2, 1) := by decide +kernel
theorem dX5_set_16 : decode cX5_set 16 = .ok (.ifCond .lt 12, 3) := by decide +kernel
theorem dX5_set_19 : decode cX5_set 19 = .ok (.iload_n 2, 1) := by decide +kernel
theorem dX5_set_20 : decode cX5_set 20 = .ok (.getstatic 78, 3) := by decide +kernel
theorem dX5_set_23 : decode cX5_set 23 = .ok (.iload_n 1, 1) := by decide +kernel
theorem dX5_set_24 : decode cX5_set 24 = .ok (.iaload, 1) := by decide +kernel
theorem dX5_set_25 : decode cX5_set 25 = .ok (.if_icmp .le 6, 3) := by decide +kernel
theorem dX5_set_28 : decode cX5_set 28 = .ok (.bipush (-2), 2) := by decide +kernel
theorem dX5_set_30 : decode cX5_set 30 = .ok (.ireturn, 1) := by decide +kernel
theorem dX5_set_31 : decode cX5_set 31 = .ok (.aload_n 0, 1) := by decide +kernel
theorem dX5_set_32 : decode cX5_set 32 = .ok (.getfield 12, 3) := by decide +kernel
theorem dX5_set_35 : decode cX5_set 35 = .ok (.iload_n 1, 1) := by decide +kernel
theorem dX5_set_36 : decode cX5_set 36 = .ok (.invokevirtual 81, 3) := by decide +kernel
theorem dX5_set_39 : decode cX5_set 39 = .ok (.istore_n 3, 1) := by decide +kernel
theorem dX5_set_40 : decode cX5_set 40 = .ok (.iload_n 3, 1) := by decide +kernel
theorem dX5_set_41 : decode cX5_set 41 = .ok (.iload_n 2, 1) := by decide +kernel
theorem dX5_set_42 : decode cX5_set 42 = .ok (.if_icmp .ne 6, 3) := by decide +kernel
theorem dX5_set_45 : decode cX5_set 45 = .ok (.bipush (-5), 2) := by decide +kernel
theorem dX5_set_47 : decode cX5_set 47 = .ok (.ireturn, 1) := by decide +kernel
theorem dX5_set_48 : decode cX5_set 48 = .ok (.aload_n 0, 1) := by decide +kernel
theorem dX5_set_49 : decode cX5_set 49 = .ok (.getfield 26, 3) := by decide +kernel
theorem dX5_set_52 : decode cX5_set 52 = .ok (.aload_n 0, 1) := by decide +kernel
theorem dX5_set_53 : decode cX5_set 53 = .ok (.getfield 12, 3) := by decide +kernel
theorem dX5_set_56 : decode cX5_set 56 = .ok (.invokevirtual 51, 3) := by decide +kernel
theorem dX5_set_59 : decode cX5_set 59 = .ok (.aload_n 0, 1) := by decide +kernel
theorem dX5_set_60 : decode cX5_set 60 = .ok (.getfield 12, 3) := by decide +kernel
theorem dX5_set_63 : decode cX5_set 63 = .ok (.iload_n 1, 1) := by decide +kernel
theorem dX5_set_64 : decode cX5_set 64 = .ok (.iload_n 2, 1) := by decide +kernel
theorem dX5_set_65 : decode cX5_set 65 = .ok (.invokevirtual 85, 3) := by decide +kernel
theorem dX5_set_68 : decode cX5_set 68 = .ok (.iload_n 3, 1) := by decide +kernel
theorem dX5_set_69 : decode cX5_set 69 = .ok (.ireturn, 1) := by decide +kernel
set_option maxRecDepth 20000 in
theorem ggX5_read_X4_hasDevice : GoodIn wsX5_read wsX4_hasDevice := goodIn_r _ [11, 12, 87, 88, 89, 90, 91, 92, 93, 94] (by decide +kernel) (by decide +kernel)
set_option maxRecDepth 20000 in
theorem gX5_read_X4_hasDevice : GoodIn wsX5_read (wsV RX5 89 RX4 yX4_hasDevice wsX4_hasDevice) := goodIn_app (goodIn_of _ (by decide +kernel)) ggX5_read_X4_hasDevice
set_option maxRecDepth 20000 in
theorem ggX5_read_X1_remember : GoodIn wsX5_read wsX1_remember := goodIn_r _ [17, 18, 19, 20, 21, 22, 23, 24, 25, 26, 27, 28, 29, 30, 31, 32, 33, 34, 35, 36, 37, 38, 39, 40, 41, 42, 43, 44, 10, 45, 46, 47, 12, 48, 49, 50, 51, 52, 53, 95, 96, 97, 75, 76, 77, 78, 79, 80, 81, 82, 83, 84, 85, 86, 87, 88, 89, 90, 91, 92, 93, 94] (by decide +kernel) (by decide +kernel)
set_option maxRecDepth 20000 in
theorem gX5_read_X1_remember : GoodIn wsX5_read (wsV RX5 51 RX1 yX1_remember wsX1_remember) := goodIn_app (goodIn_of _ (by decide +kernel)) ggX5_read_X1_remember
set_option maxRecDepth 20000 in
theorem ggX5_read_X2_countUnits : GoodIn wsX5_read wsX2_countUnits := goodIn_r _ [57, 39, 58, 36, 35, 34, 59, 33, 60, 61, 62, 24, 63, 40, 37, 64, 65, 66, 67, 41, 68, 8, 9, 10, 11, 12, 75, 76, 77, 78, 79, 80, 81, 82, 83, 84, 85, 86, 87, 88, 89, 90, 91, 92, 93, 94] (by decide +kernel) (by decide +kernel)
set_option maxRecDepth 20000 in
theorem gX5_read_X2_countUnits : GoodIn wsX5_read (wsV RX5 98 RX2 yX2_countUnits wsX2_countUnits) := goodIn_app (goodIn_of _ (by decide +kernel)) ggX5_read_X2_countUnits
