theorem dX6_laysCosts_49 : decode cX6_laysCosts 49 = .ok (.aload_n 0, 1) := by decide +kernel
theorem dX6_laysCosts_50 : decode cX6_laysCosts 50 = .ok (.getfield 26, 3) := by decide +kernel
theorem dX6_laysCosts_53 : decode cX6_laysCosts 53 = .ok (.iload 5, 2) := by decide +kernel
theorem dX6_laysCosts_55 : decode cX6_laysCosts 55 = .ok (.iaload, 1) := by decide +kernel
theorem dX6_laysCosts_56 : decode cX6_laysCosts 56 = .ok (.iastore, 1) := by decide +kernel
theorem dX6_laysCosts_57 : decode cX6_laysCosts 57 = .ok (.iload 4, 2) := by decide +kernel
theorem dX6_laysCosts_59 : decode cX6_laysCosts 59 = .ok (.aload_n 0, 1) := by decide +kernel
theorem dX6_laysCosts_60 : decode cX6_laysCosts 60 = .ok (.getfield 33, 3) := by decide +kernel
theorem dX6_laysCosts_63 : decode cX6_laysCosts 63 = .ok (.iload 5, 2) := by decide +kernel
theorem dX6_laysCosts_65 : decode cX6_laysCosts 65 = .ok (.iaload, 1) := by decide +kernel
theorem dX6_laysCosts_66 : decode cX6_laysCosts 66 = .ok (.iadd, 1) := by decide +kernel
theorem dX6_laysCosts_67 : decode cX6_laysCosts 67 = .ok (.istore 4, 2) := by decide +kernel
theorem dX6_laysCosts_69 : decode cX6_laysCosts 69 = .ok (.iinc 5 1, 3) := by decide +kernel
theorem dX6_laysCosts_72 : decode cX6_laysCosts 72 = .ok (.goto (-40), 3) := by decide +kernel
theorem dX6_laysCosts_75 : decode cX6_laysCosts 75 = .ok (.iconst 0, 1) := by decide +kernel
theorem dX6_laysCosts_76 : decode cX6_laysCosts 76 = .ok (.istore 5, 2) := by decide +kernel
theorem dX6_laysCosts_78 : decode cX6_laysCosts 78 = .ok (.iload 5, 2) := by decide +kernel
theorem dX6_laysCosts_80 : decode cX6_laysCosts 80 = .ok (.aload_n 0, 1) := by decide +kernel
theorem dX6_laysCosts_81 : decode cX6_laysCosts 81 = .ok (.getfield 7, 3) := by decide +kernel
theorem dX6_laysCosts_84 : decode cX6_laysCosts 84 = .ok (.iconst 0, 1) := by decide +kernel
theorem dX6_laysCosts_85 : decode cX6_laysCosts 85 = .ok (.iaload, 1) := by decide +kernel
theorem dX6_laysCosts_86 : decode cX6_laysCosts 86 = .ok (.if_icmp .ge 28, 3) := by decide +kernel
theorem dX6_laysCosts_89 : decode cX6_laysCosts 89 = .ok (.iload 4, 2) := by decide +kernel
theorem dX6_laysCosts_91 : decode cX6_laysCosts 91 = .ok (.ifCond .le 23, 3) := by decide +kernel
theorem dX6_laysCosts_94 : decode cX6_laysCosts 94 = .ok (.aload_n 0, 1) := by decide +kernel
theorem dX6_laysCosts_95 : decode cX6_laysCosts 95 = .ok (.getfield 23, 3) := by decide +kernel
theorem dX6_laysCosts_98 : decode cX6_laysCosts 98 = .ok (.iload 5, 2) := by decide +kernel
theorem dX6_laysCosts_100 : decode cX6_laysCosts 100 = .ok (.aload_n 0, 1) := by decide +kernel
theorem dX6_laysCosts_101 : decode cX6_laysCosts 101 = .ok (.getfield 33, 3) := by decide +kernel
theorem dX6_laysCosts_104 : decode cX6_laysCosts 104 = .ok (.iload 5, 2) := by decide +kernel
theorem dX6_laysCosts_106 : decode cX6_laysCosts 106 = .ok (.iaload, 1) := by decide +kernel
theorem dX6_laysCosts_107 : decode cX6_laysCosts 107 = .ok (.iastore, 1) := by decide +kernel
theorem dX6_laysCosts_108 : decode cX6_laysCosts 108 = .ok (.iinc 5 1, 3) := by decide +kernel
theorem dX6_laysCosts_111 : decode cX6_laysCosts 111 = .ok (.goto (-33), 3) := by decide +kernel
theorem dX6_laysCosts_114 : decode cX6_laysCosts 114 = .ok (.aload_n 0, 1) := by decide +kernel
theorem dX6_laysCosts_115 : decode cX6_laysCosts 115 = .ok (.iload_n 1, 1) := by decide +kernel
theorem dX6_laysCosts_116 : decode cX6_laysCosts 116 = .ok (.iload_n 3, 1) := by decide +kernel
theorem dX6_laysCosts_117 : decode cX6_laysCosts 117 = .ok (.isub, 1) := by decide +kernel
theorem dX6_laysCosts_118 : decode cX6_laysCosts 118 = .ok (.invokevirtual 93, 3) := by decide +kernel
theorem dX6_laysCosts_121 : decode cX6_laysCosts 121 = .ok (.iconst 0, 1) := by decide +kernel
theorem dX6_laysCosts_122 : decode cX6_laysCosts 122 = .ok (.istore 5, 2) := by decide +kernel
theorem dX6_laysCosts_124 : decode cX6_laysCosts 124 = .ok (.iload 5, 2) := by decide +kernel
theorem dX6_laysCosts_126 : decode cX6_laysCosts 126 = .ok (.aload_n 0, 1) := by decide +kernel
theorem dX6_laysCosts_127 : decode cX6_laysCosts 127 = .ok (.getfield 7, 3) := by decide +kernel
theorem dX6_laysCosts_130 : decode cX6_laysCosts 130 = .ok (.iconst 0, 1) := by decide +kernel
theorem dX6_laysCosts_131 : decode cX6_laysCosts 131 = .ok (.iaload, 1) := by decide +kernel
theorem dX6_laysCosts_132 : decode cX6_laysCosts 132 = .ok (.if_icmp .ge 23, 3) := by decide +kernel
theorem dX6_laysCosts_135 : decode cX6_laysCosts 135 = .ok (.aload_n 0, 1) := by decide +kernel
theorem dX6_laysCosts_136 : decode cX6_laysCosts 136 = .ok (.getfield 39, 3) := by decide +kernel
theorem dX6_laysCosts_139 : decode cX6_laysCosts 139 = .ok (.iload 5, 2) := by decide +kernel
theorem dX6_laysCosts_141 : decode cX6_laysCosts 141 = .ok (.aload_n 0, 1) := by decide +kernel
theorem dX6_laysCosts_142 : decode cX6_laysCosts 142 = .ok (.getfield 26, 3) := by decide +kernel
theorem dX6_laysCosts_145 : decode cX6_laysCosts 145 = .ok (.iload 5, 2) := by decide +kernel
theorem dX6_laysCosts_147 : decode cX6_laysCosts 147 = .ok (.iaload, 1) := by decide +kernel
theorem dX6_laysCosts_148 : decode cX6_laysCosts 148 = .ok (.iastore, 1) := by decide +kernel
theorem dX6_laysCosts_149 : decode cX6_laysCosts 149 = .ok (.iinc 5 1, 3) := by decide +kernel
theorem dX6_laysCosts_152 : decode cX6_laysCosts 152 = .ok (.goto (-28), 3) := by decide +kernel
theorem dX6_laysCosts_155 : decode cX6_laysCosts 155 = .ok (.return_, 1) := by decide +kernel
set_option maxRecDepth 20000 in
theorem ggX6_laysUnits_X6_of : GoodIn wsX6_laysUnits wsX6_of := goodIn_r _ [7, 2, 23, 24, 25, 26, 27, 28, 29, 30, 31, 32, 33, 34, 35, 36, 37, 38] (by decide +kernel) (by decide +kernel)
set_option maxRecDepth 20000 in
theorem gX6_laysUnits_X6_of : GoodIn wsX6_laysUnits (wsV RX6 68 RX6 yX6_of wsX6_of) := goodIn_app (goodIn_of _ (by decide +kernel)) ggX6_laysUnits_X6_of
set_option maxRecDepth 20000 in
theorem ggX6_laysUnits_X6_unitsNow : GoodIn wsX6_laysUnits wsX6_unitsNow := goodIn_r _ [11, 2, 3, 4, 5, 6, 7, 12, 13, 14, 15, 16, 17, 18, 19, 20, 21, 22, 23, 24, 25, 26, 27, 28, 29, 30, 31, 32, 33, 34, 35, 36, 37, 38] (by decide +kernel) (by decide +kernel)
set_option maxRecDepth 20000 in
theorem gX6_laysUnits_X6_unitsNow : GoodIn wsX6_laysUnits (wsV RX6 97 RX6 yX6_unitsNow wsX6_unitsNow) := goodIn_app (goodIn_of _ (by decide +kernel)) ggX6_laysUnits_X6_unitsNow
theorem dX6_laysUnits_0 : decode cX6_laysUnits 0 = .ok (.iconst 0, 1) := by decide +kernel
theorem dX6_laysUnits_1 : decode cX6_laysUnits 1 = .ok (.istore_n 1, 1) := by decide +kernel
theorem dX6_laysUnits_2 : decode cX6_laysUnits 2 = .ok (.iload_n 1, 1) := by decide +kernel
theorem dX6_laysUnits_3 : decode cX6_laysUnits 3 = .ok (.bipush 8, 2) := by decide +kernel
theorem dX6_laysUnits_5 : decode cX6_laysUnits 5 = .ok (.if_icmp .ge 16, 3) := by decide +kernel
theorem dX6_laysUnits_8 : decode cX6_laysUnits 8 = .ok (.aload_n 0, 1) := by decide +kernel
theorem dX6_laysUnits_9 : decode cX6_laysUnits 9 = .ok (.getfield 33, 3) := by decide +kernel
theorem dX6_laysUnits_12 : decode cX6_laysUnits 12 = .ok (.iload_n 1, 1) := by decide +kernel
theorem dX6_laysUnits_13 : decode cX6_laysUnits 13 = .ok (.iconst 0, 1) := by decide +kernel
theorem dX6_laysUnits_14 : decode cX6_laysUnits 14 = .ok (.iastore, 1) := by decide +kernel
theorem dX6_laysUnits_15 : decode cX6_laysUnits 15 = .ok (.iinc 1 1, 3) := by decide +kernel
theorem dX6_laysUnits_18 : decode cX6_laysUnits 18 = .ok (.goto (-16), 3) := by decide +kernel
theorem dX6_laysUnits_21 : decode cX6_laysUnits 21 = .ok (.iconst 0, 1) := by decide +kernel
theorem dX6_laysUnits_22 : decode cX6_laysUnits 22 = .ok (.istore_n 1, 1) := by decide +kernel
theorem dX6_laysUnits_23 : decode cX6_laysUnits 23 = .ok (.iload_n 1, 1) := by decide +kernel
theorem dX6_laysUnits_24 : decode cX6_laysUnits 24 = .ok (.aload_n 0, 1) := by decide +kernel
theorem dX6_laysUnits_25 : decode cX6_laysUnits 25 = .ok (.getfield 7, 3) := by decide +kernel
theorem dX6_laysUnits_28 : decode cX6_laysUnits 28 = .ok (.iconst 1, 1) := by decide +kernel
theorem dX6_laysUnits_29 : decode cX6_laysUnits 29 = .ok (.iaload, 1) := by decide +kernel
theorem dX6_laysUnits_30 : decode cX6_laysUnits 30 = .ok (.if_icmp .ge 28, 3) := by decide +kernel
theorem dX6_laysUnits_33 : decode cX6_laysUnits 33 = .ok (.aload_n 0, 1) := by decide +kernel
theorem dX6_laysUnits_34 : decode cX6_laysUnits 34 = .ok (.getfield 33, 3) := by decide +kernel
theorem dX6_laysUnits_37 : decode cX6_laysUnits 37 = .ok (.aload_n 0, 1) := by decide +kernel
theorem dX6_laysUnits_38 : decode cX6_laysUnits 38 = .ok (.iload_n 1, 1) := by decide +kernel
theorem dX6_laysUnits_39 : decode cX6_laysUnits 39 = .ok (.iconst 0, 1) := by decide +kernel
theorem dX6_laysUnits_40 : decode cX6_laysUnits 40 = .ok (.invokevirtual 68, 3) := by decide +kernel
theorem dX6_laysUnits_43 : decode cX6_laysUnits 43 = .ok (.dup2, 1) := by decide +kernel
theorem dX6_laysUnits_44 : decode cX6_laysUnits 44 = .ok (.iaload, 1) := by decide +kernel
theorem dX6_laysUnits_45 : decode cX6_laysUnits 45 = .ok (.aload_n 0, 1) := by decide +kernel
theorem dX6_laysUnits_46 : decode cX6_laysUnits 46 = .ok (.iload_n 1, 1) := by decide +kernel
theorem dX6_laysUnits_47 : decode cX6_laysUnits 47 = .ok (.invokevirtual 97, 3) := by decide +kernel
theorem dX6_laysUnits_50 : decode cX6_laysUnits 50 = .ok (.iadd, 1) := by decide +kernel
theorem dX6_laysUnits_51 : decode cX6_laysUnits 51 = .ok (.iastore, 1) := by decide +kernel
theorem dX6_laysUnits_52 : decode cX6_laysUnits 52 = .ok (.iinc 1 1, 3) := by decide +kernel
theorem dX6_laysUnits_55 : decode cX6_laysUnits 55 = .ok (.goto (-32), 3) := by decide +kernel
theorem dX6_laysUnits_58 : decode cX6_laysUnits 58 = .ok (.return_, 1) := by decide +kernel
set_option maxRecDepth 20000 in
theorem ggX6_laysOpen_X6_laysUnits : GoodIn wsX6_laysOpen wsX6_laysUnits := goodIn_r _ [6, 7, 1, 8, 9, 10, 5, 11, 12, 13, 14, 15, 16, 17, 18, 19, 20, 21, 22, 23, 24, 25, 26, 53, 54, 55, 56, 57, 58, 59, 60, 61, 62, 63, 64, 65, 66, 67, 68] (by decide +kernel) (by decide +kernel)
set_option maxRecDepth 20000 in
theorem gX6_laysOpen_X6_laysUnits : GoodIn wsX6_laysOpen (wsV RX6 100 RX6 yX6_laysUnits wsX6_laysUnits) := goodIn_app (goodIn_of _ (by decide +kernel)) ggX6_laysOpen_X6_laysUnits
set_option maxRecDepth 20000 in
theorem ggX6_laysOpen_X6_laysCosts : GoodIn wsX6_laysOpen wsX6_laysCosts := goodIn_r _ [30, 1, 31, 32, 7, 33, 34, 35, 36, 37, 5, 38, 39, 40, 41, 42, 43, 44, 45, 46, 47, 48, 49, 50, 51, 52, 53, 54, 55, 56, 57, 58, 59, 60, 61, 62, 63, 64, 65, 66, 67, 68] (by decide +kernel) (by decide +kernel)
set_option maxRecDepth 20000 in
theorem gX6_laysOpen_X6_laysCosts : GoodIn wsX6_laysOpen (wsV RX6 103 RX6 yX6_laysCosts wsX6_laysCosts) := goodIn_app (goodIn_of _ (by decide +kernel)) ggX6_laysOpen_X6_laysCosts
theorem dX6_laysOpen_0 : decode cX6_laysOpen 0 = .ok (.aload_n 0, 1) := by decide +kernel
theorem dX6_laysOpen_1 : decode cX6_laysOpen 1 = .ok (.invokevirtual 100, 3) := by decide +kernel
theorem dX6_laysOpen_4 : decode cX6_laysOpen 4 = .ok (.aload_n 0, 1) := by decide +kernel
theorem dX6_laysOpen_5 : decode cX6_laysOpen 5 = .ok (.aload_n 0, 1) := by decide +kernel
theorem dX6_laysOpen_6 : decode cX6_laysOpen 6 = .ok (.getfield 7, 3) := by decide +kernel
theorem dX6_laysOpen_9 : decode cX6_laysOpen 9 = .ok (.iconst 3, 1) := by decide +kernel
theorem dX6_laysOpen_10 : decode cX6_laysOpen 10 = .ok (.iaload, 1) := by decide +kernel
theorem dX6_laysOpen_11 : decode cX6_laysOpen 11 = .ok (.iload_n 1, 1) := by decide +kernel
theorem dX6_laysOpen_12 : decode cX6_laysOpen 12 = .ok (.invokevirtual 103, 3) := by decide +kernel
theorem dX6_laysOpen_15 : decode cX6_laysOpen 15 = .ok (.return_, 1) := by decide +kernel
set_option maxRecDepth 20000 in
theorem ggX6_laysOld_X6_old : GoodIn wsX6_laysOld wsX6_old := goodIn_r _ [6] (by decide +kernel) (by decide +kernel)
set_option maxRecDepth 20000 in
theorem gX6_laysOld_X6_old : GoodIn wsX6_laysOld (va_wsS RX6 75 yX6_old wsX6_old) := goodIn_app (goodIn_of _ (by decide +kernel)) ggX6_laysOld_X6_old
set_option maxRecDepth 20000 in
theorem ggX6_laysOld_X6_of : GoodIn wsX6_laysOld wsX6_of := goodIn_r _ [10, 2, 37, 38, 39, 40, 41, 42, 43, 44, 45, 46, 47, 48, 49, 50, 51, 52] (by decide +kernel) (by decide +kernel)
set_option maxRecDepth 20000 in
theorem gX6_laysOld_X6_of : GoodIn wsX6_laysOld (wsV RX6 68 RX6 yX6_of wsX6_of) := goodIn_app (goodIn_of _ (by decide +kernel)) ggX6_laysOld_X6_of
set_option maxRecDepth 20000 in
theorem ggX6_laysOld_X6_laysCosts : GoodIn wsX6_laysOld wsX6_laysCosts := goodIn_r _ [14, 2, 15, 16, 1, 17, 18, 19, 20, 21, 5, 22, 23, 24, 25, 26, 27, 28, 29, 30, 31, 32, 33, 34, 35, 36, 37, 38, 39, 40, 41, 42, 43, 44, 45, 46, 47, 48, 49, 50, 51, 52] (by decide +kernel) (by decide +kernel)
set_option maxRecDepth 20000 in
theorem gX6_laysOld_X6_laysCosts : GoodIn wsX6_laysOld (wsV RX6 103 RX6 yX6_laysCosts wsX6_laysCosts) := goodIn_app (goodIn_of _ (by decide +kernel)) ggX6_laysOld_X6_laysCosts
theorem dX6_laysOld_0 : decode cX6_laysOld 0 = .ok (.iconst 0, 1) := by decide +kernel
theorem dX6_laysOld_1 : decode cX6_laysOld 1 = .ok (.istore_n 2, 1) := by decide +kernel
theorem dX6_laysOld_2 : decode cX6_laysOld 2 = .ok (.iload_n 2, 1) := by decide +kernel
theorem dX6_laysOld_3 : decode cX6_laysOld 3 = .ok (.bipush 8, 2) := by decide +kernel
theorem dX6_laysOld_5 : decode cX6_laysOld 5 = .ok (.if_icmp .ge 16, 3) := by decide +kernel
theorem dX6_laysOld_8 : decode cX6_laysOld 8 = .ok (.aload_n 0, 1) := by decide +kernel
theorem dX6_laysOld_9 : decode cX6_laysOld 9 = .ok (.getfield 33, 3) := by decide +kernel
theorem dX6_laysOld_12 : decode cX6_laysOld 12 = .ok (.iload_n 2, 1) := by decide +kernel
theorem dX6_laysOld_13 : decode cX6_laysOld 13 = .ok (.iconst 0, 1) := by decide +kernel
theorem dX6_laysOld_14 : decode cX6_laysOld 14 = .ok (.iastore, 1) := by decide +kernel
theorem dX6_laysOld_15 : decode cX6_laysOld 15 = .ok (.iinc 2 1, 3) := by decide +kernel
theorem dX6_laysOld_18 : decode cX6_laysOld 18 = .ok (.goto (-16), 3) := by decide +kernel
theorem dX6_laysOld_21 : decode cX6_laysOld 21 = .ok (.iconst 0, 1) := by decide +kernel
theorem dX6_laysOld_22 : decode cX6_laysOld 22 = .ok (.istore_n 2, 1) := by decide +kernel
theorem dX6_laysOld_23 : decode cX6_laysOld 23 = .ok (.iload_n 2, 1) := by decide +kernel
theorem dX6_laysOld_24 : decode cX6_laysOld 24 = .ok (.aload_n 0, 1) := by decide +kernel
theorem dX6_laysOld_25 : decode cX6_laysOld 25 = .ok (.getfield 7, 3) := by decide +kernel
theorem dX6_laysOld_28 : decode cX6_laysOld 28 = .ok (.iload_n 1, 1) := by decide +kernel
theorem dX6_laysOld_29 : decode cX6_laysOld 29 = .ok (.iconst 2, 1) := by decide +kernel
theorem dX6_laysOld_30 : decode cX6_laysOld 30 = .ok (.invokestatic 75, 3) := by decide +kernel
theorem dX6_laysOld_33 : decode cX6_laysOld 33 = .ok (.iaload, 1) := by decide +kernel
theorem dX6_laysOld_34 : decode cX6_laysOld 34 = .ok (.if_icmp .ge 35, 3) := by decide +kernel
theorem dX6_laysOld_37 : decode cX6_laysOld 37 = .ok (.aload_n 0, 1) := by decide +kernel
theorem dX6_laysOld_38 : decode cX6_laysOld 38 = .ok (.getfield 33, 3) := by decide +kernel
theorem dX6_laysOld_41 : decode cX6_laysOld 41 = .ok (.aload_n 0, 1) := by decide +kernel
theorem dX6_laysOld_42 : decode cX6_laysOld 42 = .ok (.iload_n 2, 1) := by decide +kernel
theorem dX6_laysOld_43 : decode cX6_laysOld 43 = .ok (.iconst 0, 1) := by decide +kernel
theorem dX6_laysOld_44 : decode cX6_laysOld 44 = .ok (.invokevirtual 68, 3) := by decide +kernel
theorem dX6_laysOld_47 : decode cX6_laysOld 47 = .ok (.dup2, 1) := by decide +kernel
theorem dX6_laysOld_48 : decode cX6_laysOld 48 = .ok (.iaload, 1) := by decide +kernel
theorem dX6_laysOld_49 : decode cX6_laysOld 49 = .ok (.aload_n 0, 1) := by decide +kernel
theorem dX6_laysOld_50 : decode cX6_laysOld 50 = .ok (.getfield 7, 3) := by decide +kernel
theorem dX6_laysOld_53 : decode cX6_laysOld 53 = .ok (.iload_n 1, 1) := by decide +kernel
theorem dX6_laysOld_54 : decode cX6_laysOld 54 = .ok (.iconst 3, 1) := by decide +kernel
theorem dX6_laysOld_55 : decode cX6_laysOld 55 = .ok (.iload_n 2, 1) := by decide +kernel
theorem dX6_laysOld_56 : decode cX6_laysOld 56 = .ok (.iadd, 1) := by decide +kernel
theorem dX6_laysOld_57 : decode cX6_laysOld 57 = .ok (.invokestatic 75, 3) := by decide +kernel
theorem dX6_laysOld_60 : decode cX6_laysOld 60 = .ok (.iaload, 1) := by decide +kernel
theorem dX6_laysOld_61 : decode cX6_laysOld 61 = .ok (.iadd, 1) := by decide +kernel
theorem dX6_laysOld_62 : decode cX6_laysOld 62 = .ok (.iastore, 1) := by decide +kernel
theorem dX6_laysOld_63 : decode cX6_laysOld 63 = .ok (.iinc 2 1, 3) := by decide +kernel
theorem dX6_laysOld_66 : decode cX6_laysOld 66 = .ok (.goto (-43), 3) := by decide +kernel
theorem dX6_laysOld_69 : decode cX6_laysOld 69 = .ok (.aload_n 0, 1) := by decide +kernel
theorem dX6_laysOld_70 : decode cX6_laysOld 70 = .ok (.aload_n 0, 1) := by decide +kernel
theorem dX6_laysOld_71 : decode cX6_laysOld 71 = .ok (.getfield 7, 3) := by decide +kernel
theorem dX6_laysOld_74 : decode cX6_laysOld 74 = .ok (.iload_n 1, 1) := by decide +kernel
theorem dX6_laysOld_75 : decode cX6_laysOld 75 = .ok (.iconst 0, 1) := by decide +kernel
theorem dX6_laysOld_76 : decode cX6_laysOld 76 = .ok (.invokestatic 75, 3) := by decide +kernel
theorem dX6_laysOld_79 : decode cX6_laysOld 79 = .ok (.iaload, 1) := by decide +kernel
theorem dX6_laysOld_80 : decode cX6_laysOld 80 = .ok (.aload_n 0, 1) := by decide +kernel
theorem dX6_laysOld_81 : decode cX6_laysOld 81 = .ok (.getfield 7, 3) := by decide +kernel
theorem dX6_laysOld_84 : decode cX6_laysOld 84 = .ok (.iload_n 1, 1) := by decide +kernel
theorem dX6_laysOld_85 : decode cX6_laysOld 85 = .ok (.iconst 1, 1) := by decide +kernel
theorem dX6_laysOld_86 : decode cX6_laysOld 86 = .ok (.invokestatic 75, 3) := by decide +kernel
theorem dX6_laysOld_89 : decode cX6_laysOld 89 = .ok (.iaload, 1) := by decide +kernel
theorem dX6_laysOld_90 : decode cX6_laysOld 90 = .ok (.invokevirtual 103, 3) := by decide +kernel
theorem dX6_laysOld_93 : decode cX6_laysOld 93 = .ok (.return_, 1) := by decide +kernel
set_option maxRecDepth 20000 in
theorem ggX6_firstOf_X6_weightsAhead : GoodIn wsX6_firstOf wsX6_weightsAhead := goodIn_r _ [6, 7, 8, 5, 9] (by decide +kernel) (by decide +kernel)
set_option maxRecDepth 20000 in
theorem gX6_firstOf_X6_weightsAhead : GoodIn wsX6_firstOf (va_wsS RX6 107 yX6_weightsAhead wsX6_weightsAhead) := goodIn_app (goodIn_of _ (by decide +kernel)) ggX6_firstOf_X6_weightsAhead
theorem dX6_firstOf_0 : decode cX6_firstOf 0 = .ok (.iload_n 2, 1) := by decide +kernel
theorem dX6_firstOf_1 : decode cX6_firstOf 1 = .ok (.ifCond .ne 17, 3) := by decide +kernel
theorem dX6_firstOf_4 : decode cX6_firstOf 4 = .ok (.aload_n 0, 1) := by decide +kernel
theorem dX6_firstOf_5 : decode cX6_firstOf 5 = .ok (.getfield 36, 3) := by decide +kernel
theorem dX6_firstOf_8 : decode cX6_firstOf 8 = .ok (.iload_n 1, 1) := by decide +kernel
theorem dX6_firstOf_9 : decode cX6_firstOf 9 = .ok (.iaload, 1) := by decide +kernel
theorem dX6_firstOf_10 : decode cX6_firstOf 10 = .ok (.aload_n 0, 1) := by decide +kernel
theorem dX6_firstOf_11 : decode cX6_firstOf 11 = .ok (.getfield 39, 3) := by decide +kernel
theorem dX6_firstOf_14 : decode cX6_firstOf 14 = .ok (.iload_n 1, 1) := by decide +kernel
theorem dX6_firstOf_15 : decode cX6_firstOf 15 = .ok (.iaload, 1) := by decide +kernel
theorem dX6_firstOf_16 : decode cX6_firstOf 16 = .ok (.iadd, 1) := by decide +kernel
theorem dX6_firstOf_17 : decode cX6_firstOf 17 = .ok (.ireturn, 1) := by decide +kernel
theorem dX6_firstOf_18 : decode cX6_firstOf 18 = .ok (.iload_n 3, 1) := by decide +kernel
theorem dX6_firstOf_19 : decode cX6_firstOf 19 = .ok (.bipush (-5), 2) := by decide +kernel
theorem dX6_firstOf_21 : decode cX6_firstOf 21 = .ok (.if_icmp .ne 10, 3) := by decide +kernel
theorem dX6_firstOf_24 : decode cX6_firstOf 24 = .ok (.iload_n 2, 1) := by decide +kernel
theorem dX6_firstOf_25 : decode cX6_firstOf 25 = .ok (.invokestatic 107, 3) := by decide +kernel
theorem dX6_firstOf_28 : decode cX6_firstOf 28 = .ok (.goto 4, 3) := by decide +kernel
theorem dX6_firstOf_31 : decode cX6_firstOf 31 = .ok (.iload_n 3, 1) := by decide +kernel
theorem dX6_firstOf_32 : decode cX6_firstOf 32 = .ok (.istore 4, 2) := by decide +kernel
theorem dX6_firstOf_34 : decode cX6_firstOf 34 = .ok (.aload_n 0, 1) := by decide +kernel
theorem dX6_firstOf_35 : decode cX6_firstOf 35 = .ok (.getfield 36, 3) := by decide +kernel
theorem dX6_firstOf_38 : decode cX6_firstOf 38 = .ok (.iload_n 1, 1) := by decide +kernel
theorem dX6_firstOf_39 : decode cX6_firstOf 39 = .ok (.iaload, 1) := by decide +kernel
theorem dX6_firstOf_40 : decode cX6_firstOf 40 = .ok (.iload_n 2, 1) := by decide +kernel
theorem dX6_firstOf_41 : decode cX6_firstOf 41 = .ok (.imul, 1) := by decide +kernel
theorem dX6_firstOf_42 : decode cX6_firstOf 42 = .ok (.bipush 12, 2) := by decide +kernel
theorem dX6_firstOf_44 : decode cX6_firstOf 44 = .ok (.idiv, 1) := by decide +kernel
theorem dX6_firstOf_45 : decode cX6_firstOf 45 = .ok (.aload_n 0, 1) := by decide +kernel
theorem dX6_firstOf_46 : decode cX6_firstOf 46 = .ok (.getfield 39, 3) := by decide +kernel
theorem dX6_firstOf_49 : decode cX6_firstOf 49 = .ok (.iload_n 1, 1) := by decide +kernel
theorem dX6_firstOf_50 : decode cX6_firstOf 50 = .ok (.iaload, 1) := by decide +kernel
theorem dX6_firstOf_51 : decode cX6_firstOf 51 = .ok (.iload 4, 2) := by decide +kernel
theorem dX6_firstOf_53 : decode cX6_firstOf 53 = .ok (.imul, 1) := by decide +kernel
theorem dX6_firstOf_54 : decode cX6_firstOf 54 = .ok (.sipush 1000, 3) := by decide +kernel
theorem dX6_firstOf_57 : decode cX6_firstOf 57 = .ok (.idiv, 1) := by decide +kernel
theorem dX6_firstOf_58 : decode cX6_firstOf 58 = .ok (.iadd, 1) := by decide +kernel
theorem dX6_firstOf_59 : decode cX6_firstOf 59 = .ok (.ireturn, 1) := by decide +kernel
set_option maxRecDepth 20000 in
theorem ggX6_tenantOf_X6_firstOf : GoodIn wsX6_tenantOf wsX6_firstOf := goodIn_r _ [7, 1, 2, 8, 9, 6, 10, 11, 12, 13, 14, 15, 16, 17, 18, 19, 20, 21, 22, 23, 24, 25, 26, 27, 28, 29] (by decide +kernel) (by decide +kernel)
set_option maxRecDepth 20000 in
theorem gX6_tenantOf_X6_firstOf : GoodIn wsX6_tenantOf (wsV RX6 110 RX6 yX6_firstOf wsX6_firstOf) := goodIn_app (goodIn_of _ (by decide +kernel)) ggX6_tenantOf_X6_firstOf
theorem dX6_tenantOf_0 : decode cX6_tenantOf 0 = .ok (.aload_n 0, 1) := by decide +kernel
theorem dX6_tenantOf_1 : decode cX6_tenantOf 1 = .ok (.iload_n 1, 1) := by decide +kernel
theorem dX6_tenantOf_2 : decode cX6_tenantOf 2 = .ok (.iload_n 3, 1) := by decide +kernel
theorem dX6_tenantOf_3 : decode cX6_tenantOf 3 = .ok (.iload 4, 2) := by decide +kernel
theorem dX6_tenantOf_5 : decode cX6_tenantOf 5 = .ok (.invokevirtual 110, 3) := by decide +kernel
theorem dX6_tenantOf_8 : decode cX6_tenantOf 8 = .ok (.istore 5, 2) := by decide +kernel
theorem dX6_tenantOf_10 : decode cX6_tenantOf 10 = .ok (.iload_n 2, 1) := by decide +kernel
theorem dX6_tenantOf_11 : decode cX6_tenantOf 11 = .ok (.ifCond .eq 22, 3) := by decide +kernel
theorem dX6_tenantOf_14 : decode cX6_tenantOf 14 = .ok (.aload_n 0, 1) := by decide +kernel
theorem dX6_tenantOf_15 : decode cX6_tenantOf 15 = .ok (.getfield 36, 3) := by decide +kernel
theorem dX6_tenantOf_18 : decode cX6_tenantOf 18 = .ok (.iload_n 1, 1) := by decide +kernel
theorem dX6_tenantOf_19 : decode cX6_tenantOf 19 = .ok (.iaload, 1) := by decide +kernel
theorem dX6_tenantOf_20 : decode cX6_tenantOf 20 = .ok (.aload_n 0, 1) := by decide +kernel
theorem dX6_tenantOf_21 : decode cX6_tenantOf 21 = .ok (.getfield 39, 3) := by decide +kernel
theorem dX6_tenantOf_24 : decode cX6_tenantOf 24 = .ok (.iload_n 1, 1) := by decide +kernel
theorem dX6_tenantOf_25 : decode cX6_tenantOf 25 = .ok (.iaload, 1) := by decide +kernel
theorem dX6_tenantOf_26 : decode cX6_tenantOf 26 = .ok (.iadd, 1) := by decide +kernel
theorem dX6_tenantOf_27 : decode cX6_tenantOf 27 = .ok (.iload 5, 2) := by decide +kernel
theorem dX6_tenantOf_29 : decode cX6_tenantOf 29 = .ok (.isub, 1) := by decide +kernel
theorem dX6_tenantOf_30 : decode cX6_tenantOf 30 = .ok (.goto 5, 3) := by decide +kernel
theorem dX6_tenantOf_33 : decode cX6_tenantOf 33 = .ok (.iload 5, 2) := by decide +kernel
theorem dX6_tenantOf_35 : decode cX6_tenantOf 35 = .ok (.ireturn, 1) := by decide +kernel
set_option maxRecDepth 20000 in
theorem ggX6_addFlat_X6_in : GoodIn wsX6_addFlat wsX6_in := goodIn_r _ [5] (by decide +kernel) (by decide +kernel)
set_option maxRecDepth 20000 in
theorem gX6_addFlat_X6_in : GoodIn wsX6_addFlat (va_wsS RX6 60 yX6_in wsX6_in) := goodIn_app (goodIn_of _ (by decide +kernel)) ggX6_addFlat_X6_in
set_option maxRecDepth 20000 in
theorem ggX6_addFlat_X6_records : GoodIn wsX6_addFlat wsX6_records := goodIn_r _ [9, 10, 11, 1, 12, 13, 4, 14, 15, 16, 17, 18, 19, 20, 21, 22, 23, 24, 25, 26, 27, 28, 29, 30] (by decide +kernel) (by decide +kernel)
set_option maxRecDepth 20000 in
theorem gX6_addFlat_X6_records : GoodIn wsX6_addFlat (wsV RX6 57 RX6 yX6_records wsX6_records) := goodIn_app (goodIn_of _ (by decide +kernel)) ggX6_addFlat_X6_records
theorem dX6_addFlat_0 : decode cX6_addFlat 0 = .ok (.iload_n 1, 1) := by decide +kernel
theorem dX6_addFlat_1 : decode cX6_addFlat 1 = .ok (.iconst 1, 1) := by decide +kernel
theorem dX6_addFlat_2 : decode cX6_addFlat 2 = .ok (.sipush 200, 3) := by decide +kernel
theorem dX6_addFlat_5 : decode cX6_addFlat 5 = .ok (.invokestatic 60, 3) := by decide +kernel
theorem dX6_addFlat_8 : decode cX6_addFlat 8 = .ok (.ifCond .ne 6, 3) := by decide +kernel
theorem dX6_addFlat_11 : decode cX6_addFlat 11 = .ok (.bipush (-2), 2) := by decide +kernel
theorem dX6_addFlat_13 : decode cX6_addFlat 13 = .ok (.ireturn, 1) := by decide +kernel
theorem dX6_addFlat_14 : decode cX6_addFlat 14 = .ok (.aload_n 0, 1) := by decide +kernel
theorem dX6_addFlat_15 : decode cX6_addFlat 15 = .ok (.getfield 7, 3) := by decide +kernel
theorem dX6_addFlat_18 : decode cX6_addFlat 18 = .ok (.iconst 0, 1) := by decide +kernel
theorem dX6_addFlat_19 : decode cX6_addFlat 19 = .ok (.iaload, 1) := by decide +kernel
theorem dX6_addFlat_20 : decode cX6_addFlat 20 = .ok (.istore_n 2, 1) := by decide +kernel
theorem dX6_addFlat_21 : decode cX6_addFlat 21 = .ok (.iload_n 2, 1) := by decide +kernel
theorem dX6_addFlat_22 : decode cX6_addFlat 22 = .ok (.bipush 8, 2) := by decide +kernel
theorem dX6_addFlat_24 : decode cX6_addFlat 24 = .ok (.if_icmp .ne 6, 3) := by decide +kernel
theorem dX6_addFlat_27 : decode cX6_addFlat 27 = .ok (.bipush (-3), 2) := by decide +kernel
theorem dX6_addFlat_29 : decode cX6_addFlat 29 = .ok (.ireturn, 1) := by decide +kernel
theorem dX6_addFlat_30 : decode cX6_addFlat 30 = .ok (.aload_n 0, 1) := by decide +kernel
theorem dX6_addFlat_31 : decode cX6_addFlat 31 = .ok (.getfield 7, 3) := by decide +kernel
theorem dX6_addFlat_34 : decode cX6_addFlat 34 = .ok (.iconst 2, 1) := by decide +kernel
theorem dX6_addFlat_35 : decode cX6_addFlat 35 = .ok (.iaload, 1) := by decide +kernel
theorem dX6_addFlat_36 : decode cX6_addFlat 36 = .ok (.ifCond .le 6, 3) := by decide +kernel
theorem dX6_addFlat_39 : decode cX6_addFlat 39 = .ok (.bipush (-4), 2) := by decide +kernel
theorem dX6_addFlat_41 : decode cX6_addFlat 41 = .ok (.ireturn, 1) := by decide +kernel
theorem dX6_addFlat_42 : decode cX6_addFlat 42 = .ok (.aload_n 0, 1) := by decide +kernel
theorem dX6_addFlat_43 : decode cX6_addFlat 43 = .ok (.invokevirtual 57, 3) := by decide +kernel
theorem dX6_addFlat_46 : decode cX6_addFlat 46 = .ok (.aload_n 0, 1) := by decide +kernel
theorem dX6_addFlat_47 : decode cX6_addFlat 47 = .ok (.getfield 7, 3) := by decide +kernel
theorem dX6_addFlat_50 : decode cX6_addFlat 50 = .ok (.bipush 7, 2) := by decide +kernel
theorem dX6_addFlat_52 : decode cX6_addFlat 52 = .ok (.iconst 3, 1) := by decide +kernel
theorem dX6_addFlat_53 : decode cX6_addFlat 53 = .ok (.iload_n 2, 1) := by decide +kernel
theorem dX6_addFlat_54 : decode cX6_addFlat 54 = .ok (.imul, 1) := by decide +kernel
theorem dX6_addFlat_55 : decode cX6_addFlat 55 = .ok (.iadd, 1) := by decide +kernel
theorem dX6_addFlat_56 : decode cX6_addFlat 56 = .ok (.iconst 0, 1) := by decide +kernel
theorem dX6_addFlat_57 : decode cX6_addFlat 57 = .ok (.iadd, 1) := by decide +kernel
theorem dX6_addFlat_58 : decode cX6_addFlat 58 = .ok (.iload_n 1, 1) := by decide +kernel
theorem dX6_addFlat_59 : decode cX6_addFlat 59 = .ok (.iastore, 1) := by decide +kernel
theorem dX6_addFlat_60 : decode cX6_addFlat 60 = .ok (.aload_n 0, 1) := by decide +kernel
theorem dX6_addFlat_61 : decode cX6_addFlat 61 = .ok (.getfield 7, 3) := by decide +kernel
theorem dX6_addFlat_64 : decode cX6_addFlat 64 = .ok (.bipush 7, 2) := by decide +kernel
theorem dX6_addFlat_66 : decode cX6_addFlat 66 = .ok (.iconst 3, 1) := by decide +kernel
theorem dX6_addFlat_67 : decode cX6_addFlat 67 = .ok (.iload_n 2, 1) := by decide +kernel
theorem dX6_addFlat_68 : decode cX6_addFlat 68 = .ok (.imul, 1) := by decide +kernel
theorem dX6_addFlat_69 : decode cX6_addFlat 69 = .ok (.iadd, 1) := by decide +kernel
theorem dX6_addFlat_70 : decode cX6_addFlat 70 = .ok (.iconst 1, 1) := by decide +kernel
theorem dX6_addFlat_71 : decode cX6_addFlat 71 = .ok (.iadd, 1) := by decide +kernel
theorem dX6_addFlat_72 : decode cX6_addFlat 72 = .ok (.iconst 0, 1) := by decide +kernel
theorem dX6_addFlat_73 : decode cX6_addFlat 73 = .ok (.iastore, 1) := by decide +kernel
theorem dX6_addFlat_74 : decode cX6_addFlat 74 = .ok (.aload_n 0, 1) := by decide +kernel
theorem dX6_addFlat_75 : decode cX6_addFlat 75 = .ok (.getfield 7, 3) := by decide +kernel
theorem dX6_addFlat_78 : decode cX6_addFlat 78 = .ok (.bipush 7, 2) := by decide +kernel
theorem dX6_addFlat_80 : decode cX6_addFlat 80 = .ok (.iconst 3, 1) := by decide +kernel
theorem dX6_addFlat_81 : decode cX6_addFlat 81 = .ok (.iload_n 2, 1) := by decide +kernel
theorem dX6_addFlat_82 : decode cX6_addFlat 82 = .ok (.imul, 1) := by decide +kernel
theorem dX6_addFlat_83 : decode cX6_addFlat 83 = .ok (.iadd, 1) := by decide +kernel
theorem dX6_addFlat_84 : decode cX6_addFlat 84 = .ok (.iconst 2, 1) := by decide +kernel
theorem dX6_addFlat_85 : decode cX6_addFlat 85 = .ok (.iadd, 1) := by decide +kernel
theorem dX6_addFlat_86 : decode cX6_addFlat 86 = .ok (.bipush (-5), 2) := by decide +kernel
theorem dX6_addFlat_88 : decode cX6_addFlat 88 = .ok (.iastore, 1) := by decide +kernel
theorem dX6_addFlat_89 : decode cX6_addFlat 89 = .ok (.aload_n 0, 1) := by decide +kernel
theorem dX6_addFlat_90 : decode cX6_addFlat 90 = .ok (.getfield 7, 3) := by decide +kernel
theorem dX6_addFlat_93 : decode cX6_addFlat 93 = .ok (.iconst 0, 1) := by decide +kernel
theorem dX6_addFlat_94 : decode cX6_addFlat 94 = .ok (.dup2, 1) := by decide +kernel
theorem dX6_addFlat_95 : decode cX6_addFlat 95 = .ok (.iaload, 1) := by decide +kernel
theorem dX6_addFlat_96 : decode cX6_addFlat 96 = .ok (.iconst 1, 1) := by decide +kernel
theorem dX6_addFlat_97 : decode cX6_addFlat 97 = .ok (.iadd, 1) := by decide +kernel
theorem dX6_addFlat_98 : decode cX6_addFlat 98 = .ok (.iastore, 1) := by decide +kernel
theorem dX6_addFlat_99 : decode cX6_addFlat 99 = .ok (.iload_n 2, 1) := by decide +kernel
theorem dX6_addFlat_100 : decode cX6_addFlat 100 = .ok (.ireturn, 1) := by decide +kernel
set_option maxRecDepth 20000 in
theorem ggX6_addDevice_X6_isFlat : GoodIn wsX6_addDevice wsX6_isFlat := goodIn_r _ [6, 1, 7, 8, 5, 9, 23, 24, 25, 26, 27, 28, 29, 30, 31, 32, 33, 34, 35, 36, 37, 38] (by decide +kernel) (by decide +kernel)
set_option maxRecDepth 20000 in
theorem gX6_addDevice_X6_isFlat : GoodIn wsX6_addDevice (wsV RX6 114 RX6 yX6_isFlat wsX6_isFlat) := goodIn_app (goodIn_of _ (by decide +kernel)) ggX6_addDevice_X6_isFlat
set_option maxRecDepth 20000 in
theorem ggX6_addDevice_X6_in : GoodIn wsX6_addDevice wsX6_in := goodIn_r _ [9] (by decide +kernel) (by decide +kernel)
set_option maxRecDepth 20000 in
theorem gX6_addDevice_X6_in : GoodIn wsX6_addDevice (va_wsS RX6 60 yX6_in wsX6_in) := goodIn_app (goodIn_of _ (by decide +kernel)) ggX6_addDevice_X6_in
set_option maxRecDepth 20000 in
theorem ggX6_addDevice_X6_records : GoodIn wsX6_addDevice wsX6_records := goodIn_r _ [13, 14, 15, 1, 16, 17, 5, 18, 23, 24, 25, 26, 27, 28, 29, 30, 31, 32, 33, 34, 35, 36, 37, 38] (by decide +kernel) (by decide +kernel)
set_option maxRecDepth 20000 in
theorem gX6_addDevice_X6_records : GoodIn wsX6_addDevice (wsV RX6 57 RX6 yX6_records wsX6_records) := goodIn_app (goodIn_of _ (by decide +kernel)) ggX6_addDevice_X6_records
set_option maxRecDepth 20000 in
theorem ggX6_addDevice_X6_puts : GoodIn wsX6_addDevice wsX6_puts := goodIn_r _ [22, 1, 23, 24, 25, 26, 27, 28, 29, 30, 31, 32, 33, 34, 35, 36, 37, 38] (by decide +kernel) (by decide +kernel)
set_option maxRecDepth 20000 in
theorem gX6_addDevice_X6_puts : GoodIn wsX6_addDevice (wsV RX6 118 RX6 yX6_puts wsX6_puts) := goodIn_app (goodIn_of _ (by decide +kernel)) ggX6_addDevice_X6_puts
theorem dX6_addDevice_0 : decode cX6_addDevice 0 = .ok (.aload_n 0, 1) := by decide +kernel
theorem dX6_addDevice_1 : decode cX6_addDevice 1 = .ok (.iload_n 1, 1) := by decide +kernel
theorem dX6_addDevice_2 : decode cX6_addDevice 2 = .ok (.invokevirtual 114, 3) := by decide +kernel
theorem dX6_addDevice_5 : decode cX6_addDevice 5 = .ok (.ifCond .ne 5, 3) := by decide +kernel
theorem dX6_addDevice_8 : decode cX6_addDevice 8 = .ok (.iconst (-1), 1) := by decide +kernel
theorem dX6_addDevice_9 : decode cX6_addDevice 9 = .ok (.ireturn, 1) := by decide +kernel
theorem dX6_addDevice_10 : decode cX6_addDevice 10 = .ok (.iload_n 2, 1) := by decide +kernel
theorem dX6_addDevice_11 : decode cX6_addDevice 11 = .ok (.iconst 1, 1) := by decide +kernel
theorem dX6_addDevice_12 : decode cX6_addDevice 12 = .ok (.bipush 20, 2) := by decide +kernel
theorem dX6_addDevice_14 : decode cX6_addDevice 14 = .ok (.invokestatic 60, 3) := by decide +kernel
theorem dX6_addDevice_17 : decode cX6_addDevice 17 = .ok (.ifCond .ne 6, 3) := by decide +kernel
theorem dX6_addDevice_20 : decode cX6_addDevice 20 = .ok (.bipush (-2), 2) := by decide +kernel
theorem dX6_addDevice_22 : decode cX6_addDevice 22 = .ok (.ireturn, 1) := by decide +kernel
theorem dX6_addDevice_23 : decode cX6_addDevice 23 = .ok (.aload_n 0, 1) := by decide +kernel
theorem dX6_addDevice_24 : decode cX6_addDevice 24 = .ok (.getfield 7, 3) := by decide +kernel
theorem dX6_addDevice_27 : decode cX6_addDevice 27 = .ok (.iconst 1, 1) := by decide +kernel
theorem dX6_addDevice_28 : decode cX6_addDevice 28 = .ok (.iaload, 1) := by decide +kernel
theorem dX6_addDevice_29 : decode cX6_addDevice 29 = .ok (.istore_n 3, 1) := by decide +kernel
theorem dX6_addDevice_30 : decode cX6_addDevice 30 = .ok (.iload_n 3, 1) := by decide +kernel
theorem dX6_addDevice_31 : decode cX6_addDevice 31 = .ok (.bipush 20, 2) := by decide +kernel
theorem dX6_addDevice_33 : decode cX6_addDevice 33 = .ok (.if_icmp .ne 6, 3) := by decide +kernel
theorem dX6_addDevice_36 : decode cX6_addDevice 36 = .ok (.bipush (-3), 2) := by decide +kernel
theorem dX6_addDevice_38 : decode cX6_addDevice 38 = .ok (.ireturn, 1) := by decide +kernel
theorem dX6_addDevice_39 : decode cX6_addDevice 39 = .ok (.aload_n 0, 1) := by decide +kernel
theorem dX6_addDevice_40 : decode cX6_addDevice 40 = .ok (.invokevirtual 57, 3) := by decide +kernel
theorem dX6_addDevice_43 : decode cX6_addDevice 43 = .ok (.aload_n 0, 1) := by decide +kernel
theorem dX6_addDevice_44 : decode cX6_addDevice 44 = .ok (.iload_n 3, 1) := by decide +kernel
theorem dX6_addDevice_45 : decode cX6_addDevice 45 = .ok (.iconst 0, 1) := by decide +kernel
theorem dX6_addDevice_46 : decode cX6_addDevice 46 = .ok (.iload_n 1, 1) := by decide +kernel
theorem dX6_addDevice_47 : decode cX6_addDevice 47 = .ok (.invokevirtual 118, 3) := by decide +kernel
theorem dX6_addDevice_50 : decode cX6_addDevice 50 = .ok (.aload_n 0, 1) := by decide +kernel
theorem dX6_addDevice_51 : decode cX6_addDevice 51 = .ok (.iload_n 3, 1) := by decide +kernel
theorem dX6_addDevice_52 : decode cX6_addDevice 52 = .ok (.iconst 1, 1) := by decide +kernel
theorem dX6_addDevice_53 : decode cX6_addDevice 53 = .ok (.iload_n 2, 1) := by decide +kernel
theorem dX6_addDevice_54 : decode cX6_addDevice 54 = .ok (.invokevirtual 118, 3) := by decide +kernel
theorem dX6_addDevice_57 : decode cX6_addDevice 57 = .ok (.aload_n 0, 1) := by decide +kernel
theorem dX6_addDevice_58 : decode cX6_addDevice 58 = .ok (.iload_n 3, 1) := by decide +kernel
theorem dX6_addDevice_59 : decode cX6_addDevice 59 = .ok (.iconst 2, 1) := by decide +kernel
theorem dX6_addDevice_60 : decode cX6_addDevice 60 = .ok (.iconst 0, 1) := by decide +kernel
theorem dX6_addDevice_61 : decode cX6_addDevice 61 = .ok (.invokevirtual 118, 3) := by decide +kernel
theorem dX6_addDevice_64 : decode cX6_addDevice 64 = .ok (.aload_n 0, 1) := by decide +kernel
theorem dX6_addDevice_65 : decode cX6_addDevice 65 = .ok (.iload_n 3, 1) := by decide +kernel
theorem dX6_addDevice_66 : decode cX6_addDevice 66 = .ok (.iconst 3, 1) := by decide +kernel
theorem dX6_addDevice_67 : decode cX6_addDevice 67 = .ok (.iconst 0, 1) := by decide +kernel
theorem dX6_addDevice_68 : decode cX6_addDevice 68 = .ok (.invokevirtual 118, 3) := by decide +kernel
theorem dX6_addDevice_71 : decode cX6_addDevice 71 = .ok (.aload_n 0, 1) := by decide +kernel
theorem dX6_addDevice_72 : decode cX6_addDevice 72 = .ok (.iload_n 3, 1) := by decide +kernel
theorem dX6_addDevice_73 : decode cX6_addDevice 73 = .ok (.iconst 4, 1) := by decide +kernel
theorem dX6_addDevice_74 : decode cX6_addDevice 74 = .ok (.iconst 0, 1) := by decide +kernel
theorem dX6_addDevice_75 : decode cX6_addDevice 75 = .ok (.invokevirtual 118, 3) := by decide +kernel
theorem dX6_addDevice_78 : decode cX6_addDevice 78 = .ok (.aload_n 0, 1) := by decide +kernel
theorem dX6_addDevice_79 : decode cX6_addDevice 79 = .ok (.getfield 7, 3) := by decide +kernel
theorem dX6_addDevice_82 : decode cX6_addDevice 82 = .ok (.iconst 1, 1) := by decide +kernel
theorem dX6_addDevice_83 : decode cX6_addDevice 83 = .ok (.dup2, 1) := by decide +kernel
theorem dX6_addDevice_84 : decode cX6_addDevice 84 = .ok (.iaload, 1) := by decide +kernel
theorem dX6_addDevice_85 : decode cX6_addDevice 85 = .ok (.iconst 1, 1) := by decide +kernel
theorem dX6_addDevice_86 : decode cX6_addDevice 86 = .ok (.iadd, 1) := by decide +kernel
theorem dX6_addDevice_87 : decode cX6_addDevice 87 = .ok (.iastore, 1) := by decide +kernel
theorem dX6_addDevice_88 : decode cX6_addDevice 88 = .ok (.iload_n 3, 1) := by decide +kernel
theorem dX6_addDevice_89 : decode cX6_addDevice 89 = .ok (.ireturn, 1) := by decide +kernel
set_option maxRecDepth 20000 in
theorem ggX6_set_X6_in : GoodIn wsX6_set wsX6_in := goodIn_r _ [6] (by decide +kernel) (by decide +kernel)
set_option maxRecDepth 20000 in
theorem gX6_set_X6_in : GoodIn wsX6_set (va_wsS RX6 60 yX6_in wsX6_in) := goodIn_app (goodIn_of _ (by decide +kernel)) ggX6_set_X6_in
set_option maxRecDepth 20000 in
theorem ggX6_set_X6_records : GoodIn wsX6_set wsX6_records := goodIn_r _ [10, 11, 12, 2, 13, 14, 5, 15, 16, 17, 18, 19, 20, 21, 22, 23, 24, 25, 26, 27, 28, 29, 30, 31] (by decide +kernel) (by decide +kernel)
set_option maxRecDepth 20000 in
theorem gX6_set_X6_records : GoodIn wsX6_set (wsV RX6 57 RX6 yX6_records wsX6_records) := goodIn_app (goodIn_of _ (by decide +kernel)) ggX6_set_X6_records
theorem dX6_set_0 : decode cX6_set 0 = .ok (.iload_n 1, 1) := by decide +kernel
theorem dX6_set_1 : decode cX6_set 1 = .ok (.iconst 0, 1) := by decide +kernel
theorem dX6_set_2 : decode cX6_set 2 = .ok (.iconst 2, 1) := by decide +kernel
theorem dX6_set_3 : decode cX6_set 3 = .ok (.invokestatic 60, 3) := by decide +kernel
theorem dX6_set_6 : decode cX6_set 6 = .ok (.ifCond .eq 31, 3) := by decide +kernel
theorem dX6_set_9 : decode cX6_set 9 = .ok (.iload_n 2, 1) := by decide +kernel
theorem dX6_set_10 : decode cX6_set 10 = .ok (.iconst 0, 1) := by decide +kernel
theorem dX6_set_11 : decode cX6_set 11 = .ok (.iload_n 1, 1) := by decide +kernel
theorem dX6_set_12 : decode cX6_set 12 = .ok (.ifCond .ne 8, 3) := by decide +kernel
theorem dX6_set_15 : decode cX6_set 15 = .ok (.ldc 122, 2) := by decide +kernel
theorem dX6_set_17 : decode cX6_set 17 = .ok (.goto 14, 3) := by decide +kernel
theorem dX6_set_20 : decode cX6_set 20 = .ok (.iload_n 1, 1) := by decide +kernel
theorem dX6_set_21 : decode cX6_set 21 = .ok (.iconst 1, 1) := by decide +kernel
theorem dX6_set_22 : decode cX6_set 22 = .ok (.if_icmp .ne 8, 3) := by decide +kernel
theorem dX6_set_25 : decode cX6_set 25 = .ok (.bipush 100, 2) := by decide +kernel
theorem dX6_set_27 : decode cX6_set 27 = .ok (.goto 4, 3) := by decide +kernel
theorem dX6_set_30 : decode cX6_set 30 = .ok (.iconst 1, 1) := by decide +kernel
theorem dX6_set_31 : decode cX6_set 31 = .ok (.invokestatic 60, 3) := by decide +kernel
theorem dX6_set_34 : decode cX6_set 34 = .ok (.ifCond .ne 6, 3) := by decide +kernel
theorem dX6_set_37 : decode cX6_set 37 = .ok (.bipush (-2), 2) := by decide +kernel
theorem dX6_set_39 : decode cX6_set 39 = .ok (.ireturn, 1) := by decide +kernel
theorem dX6_set_40 : decode cX6_set 40 = .ok (.aload_n 0, 1) := by decide +kernel
theorem dX6_set_41 : decode cX6_set 41 = .ok (.getfield 7, 3) := by decide +kernel
theorem dX6_set_44 : decode cX6_set 44 = .ok (.iconst 3, 1) := by decide +kernel
theorem dX6_set_45 : decode cX6_set 45 = .ok (.iload_n 1, 1) := by decide +kernel
theorem dX6_set_46 : decode cX6_set 46 = .ok (.iadd, 1) := by decide +kernel
theorem dX6_set_47 : decode cX6_set 47 = .ok (.iaload, 1) := by decide +kernel
theorem dX6_set_48 : decode cX6_set 48 = .ok (.istore_n 3, 1) := by decide +kernel
theorem dX6_set_49 : decode cX6_set 49 = .ok (.iload_n 3, 1) := by decide +kernel
theorem dX6_set_50 : decode cX6_set 50 = .ok (.iload_n 2, 1) := by decide +kernel
theorem dX6_set_51 : decode cX6_set 51 = .ok (.if_icmp .ne 6, 3) := by decide +kernel
theorem dX6_set_54 : decode cX6_set 54 = .ok (.bipush (-5), 2) := by decide +kernel
theorem dX6_set_56 : decode cX6_set 56 = .ok (.ireturn, 1) := by decide +kernel
theorem dX6_set_57 : decode cX6_set 57 = .ok (.aload_n 0, 1) := by decide +kernel
theorem dX6_set_58 : decode cX6_set 58 = .ok (.invokevirtual 57, 3) := by decide +kernel
theorem dX6_set_61 : decode cX6_set 61 = .ok (.aload_n 0, 1) := by decide +kernel
theorem dX6_set_62 : decode cX6_set 62 = .ok (.getfield 7, 3) := by decide +kernel
theorem dX6_set_65 : decode cX6_set 65 = .ok (.iconst 3, 1) := by decide +kernel
theorem dX6_set_66 : decode cX6_set 66 = .ok (.iload_n 1, 1) := by decide +kernel
theorem dX6_set_67 : decode cX6_set 67 = .ok (.iadd, 1) := by decide +kernel
theorem dX6_set_68 : decode cX6_set 68 = .ok (.iload_n 2, 1) := by decide +kernel
theorem dX6_set_69 : decode cX6_set 69 = .ok (.iastore, 1) := by decide +kernel
theorem dX6_set_70 : decode cX6_set 70 = .ok (.iload_n 3, 1) := by decide +kernel
theorem dX6_set_71 : decode cX6_set 71 = .ok (.ireturn, 1) := by decide +kernel
set_option maxRecDepth 20000 in
theorem ggX6_read_X6_isDevice : GoodIn wsX6_read wsX6_isDevice := goodIn_r _ [5, 6, 7, 8, 4, 9, 42, 43, 44, 45, 46, 47, 48, 49, 50, 51, 52, 53, 54, 55, 56, 57] (by decide +kernel) (by decide +kernel)
set_option maxRecDepth 20000 in
theorem gX6_read_X6_isDevice : GoodIn wsX6_read (wsV RX6 123 RX6 yX6_isDevice wsX6_isDevice) := goodIn_app (goodIn_of _ (by decide +kernel)) ggX6_read_X6_isDevice
set_option maxRecDepth 20000 in
theorem ggX6_read_X6_in : GoodIn wsX6_read wsX6_in := goodIn_r _ [9] (by decide +kernel) (by decide +kernel)
set_option maxRecDepth 20000 in
theorem gX6_read_X6_in : GoodIn wsX6_read (va_wsS RX6 60 yX6_in wsX6_in) := goodIn_app (goodIn_of _ (by decide +kernel)) ggX6_read_X6_in
set_option maxRecDepth 20000 in
theorem ggX6_read_X6_of : GoodIn wsX6_read wsX6_of := goodIn_r _ [13, 6, 42, 43, 44, 45, 46, 47, 48, 49, 50, 51, 52, 53, 54, 55, 56, 57] (by decide +kernel) (by decide +kernel)
set_option maxRecDepth 20000 in
theorem gX6_read_X6_of : GoodIn wsX6_read (wsV RX6 68 RX6 yX6_of wsX6_of) := goodIn_app (goodIn_of _ (by decide +kernel)) ggX6_read_X6_of
set_option maxRecDepth 20000 in
theorem ggX6_read_X6_records : GoodIn wsX6_read wsX6_records := goodIn_r _ [17, 18, 19, 6, 20, 21, 4, 22, 42, 43, 44, 45, 46, 47, 48, 49, 50, 51, 52, 53, 54, 55, 56, 57] (by decide +kernel) (by decide +kernel)
set_option maxRecDepth 20000 in
theorem gX6_read_X6_records : GoodIn wsX6_read (wsV RX6 57 RX6 yX6_records wsX6_records) := goodIn_app (goodIn_of _ (by decide +kernel)) ggX6_read_X6_records
set_option maxRecDepth 20000 in
theorem ggX6_read_X6_puts : GoodIn wsX6_read wsX6_puts := goodIn_r _ [26, 6, 42, 43, 44, 45, 46, 47, 48, 49, 50, 51, 52, 53, 54, 55, 56, 57] (by decide +kernel) (by decide +kernel)
set_option maxRecDepth 20000 in
theorem gX6_read_X6_puts : GoodIn wsX6_read (wsV RX6 118 RX6 yX6_puts wsX6_puts) := goodIn_app (goodIn_of _ (by decide +kernel)) ggX6_read_X6_puts
set_option maxRecDepth 20000 in
theorem ggX6_read_X6_unitsNow : GoodIn wsX6_read wsX6_unitsNow := goodIn_r _ [30, 6, 10, 11, 12, 4, 13, 31, 32, 33, 34, 35, 36, 37, 38, 39, 40, 41, 42, 43, 44, 45, 46, 47, 48, 49, 50, 51, 52, 53, 54, 55, 56, 57] (by decide +kernel) (by decide +kernel)
set_option maxRecDepth 20000 in
theorem gX6_read_X6_unitsNow : GoodIn wsX6_read (wsV RX6 97 RX6 yX6_unitsNow wsX6_unitsNow) := goodIn_app (goodIn_of _ (by decide +kernel)) ggX6_read_X6_unitsNow
theorem dX6_read_0 : decode cX6_read 0 = .ok (.aload_n 0, 1) := by decide +kernel
theorem dX6_read_1 : decode cX6_read 1 = .ok (.iload_n 1, 1) := by decide +kernel
theorem dX6_read_2 : decode cX6_read 2 = .ok (.invokevirtual 123, 3) := by decide +kernel
theorem dX6_read_5 : decode cX6_read 5 = .ok (.ifCond .ne 5, 3) := by decide +kernel
theorem dX6_read_8 : decode cX6_read 8 = .ok (.iconst (-1), 1) := by decide +kernel
theorem dX6_read_9 : decode cX6_read 9 = .ok (.ireturn, 1) := by decide +kernel
theorem dX6_read_10 : decode cX6_read 10 = .ok (.iload_n 2, 1) := by decide +kernel
theorem dX6_read_11 : decode cX6_read 11 = .ok (.iconst 0, 1) := by decide +kernel
theorem dX6_read_12 : decode cX6_read 12 = .ok (.sipush 9999, 3) := by decide +kernel
theorem dX6_read_15 : decode cX6_read 15 = .ok (.invokestatic 60, 3) := by decide +kernel
theorem dX6_read_18 : decode cX6_read 18 = .ok (.ifCond .ne 6, 3) := by decide +kernel
theorem dX6_read_21 : decode cX6_read 21 = .ok (.bipush (-2), 2) := by decide +kernel
theorem dX6_read_23 : decode cX6_read 23 = .ok (.ireturn, 1) := by decide +kernel
theorem dX6_read_24 : decode cX6_read 24 = .ok (.iload_n 2, 1) := by decide +kernel
theorem dX6_read_25 : decode cX6_read 25 = .ok (.aload_n 0, 1) := by decide +kernel
theorem dX6_read_26 : decode cX6_read 26 = .ok (.iload_n 1, 1) := by decide +kernel
theorem dX6_read_27 : decode cX6_read 27 = .ok (.iconst 2, 1) := by decide +kernel
theorem dX6_read_28 : decode cX6_read 28 = .ok (.invokevirtual 68, 3) := by decide +kernel
theorem dX6_read_31 : decode cX6_read 31 = .ok (.if_icmp .ge 6, 3) := by decide +kernel
theorem dX6_read_34 : decode cX6_read 34 = .ok (.bipush (-4), 2) := by decide +kernel
theorem dX6_read_36 : decode cX6_read 36 = .ok (.ireturn, 1) := by decide +kernel
theorem dX6_read_37 : decode cX6_read 37 = .ok (.iload_n 2, 1) := by decide +kernel
theorem dX6_read_38 : decode cX6_read 38 = .ok (.aload_n 0, 1) := by decide +kernel
theorem dX6_read_39 : decode cX6_read 39 = .ok (.iload_n 1, 1) := by decide +kernel
theorem dX6_read_40 : decode cX6_read 40 = .ok (.iconst 3, 1) := by decide +kernel
theorem dX6_read_41 : decode cX6_read 41 = .ok (.invokevirtual 68, 3) := by decide +kernel
theorem dX6_read_44 : decode cX6_read 44 = .ok (.if_icmp .ne 6, 3) := by decide +kernel
theorem dX6_read_47 : decode cX6_read 47 = .ok (.bipush (-5), 2) := by decide +kernel
theorem dX6_read_49 : decode cX6_read 49 = .ok (.ireturn, 1) := by decide +kernel
theorem dX6_read_50 : decode cX6_read 50 = .ok (.aload_n 0, 1) := by decide +kernel
theorem dX6_read_51 : decode cX6_read 51 = .ok (.invokevirtual 57, 3) := by decide +kernel
theorem dX6_read_54 : decode cX6_read 54 = .ok (.aload_n 0, 1) := by decide +kernel
theorem dX6_read_55 : decode cX6_read 55 = .ok (.iload_n 1, 1) := by decide +kernel
theorem dX6_read_56 : decode cX6_read 56 = .ok (.iconst 3, 1) := by decide +kernel
theorem dX6_read_57 : decode cX6_read 57 = .ok (.iload_n 2, 1) := by decide +kernel
theorem dX6_read_58 : decode cX6_read 58 = .ok (.invokevirtual 118, 3) := by decide +kernel
theorem dX6_read_61 : decode cX6_read 61 = .ok (.aload_n 0, 1) := by decide +kernel
theorem dX6_read_62 : decode cX6_read 62 = .ok (.iload_n 1, 1) := by decide +kernel
theorem dX6_read_63 : decode cX6_read 63 = .ok (.invokevirtual 97, 3) := by decide +kernel
theorem dX6_read_66 : decode cX6_read 66 = .ok (.ireturn, 1) := by decide +kernel
set_option maxRecDepth 20000 in
theorem ggX6_faulty_X6_of : GoodIn wsX6_faulty wsX6_of := goodIn_r _ [6, 1, 7, 8, 9, 10, 11, 12, 13, 14, 15, 16, 17, 18, 19, 20, 21, 22] (by decide +kernel) (by decide +kernel)
set_option maxRecDepth 20000 in
theorem gX6_faulty_X6_of : GoodIn wsX6_faulty (wsV RX6 68 RX6 yX6_of wsX6_of) := goodIn_app (goodIn_of _ (by decide +kernel)) ggX6_faulty_X6_of
theorem dX6_faulty_0 : decode cX6_faulty 0 = .ok (.iconst 0, 1) := by decide +kernel
theorem dX6_faulty_1 : decode cX6_faulty 1 = .ok (.istore_n 1, 1) := by decide +kernel
theorem dX6_faulty_2 : decode cX6_faulty 2 = .ok (.iconst 0, 1) := by decide +kernel
theorem dX6_faulty_3 : decode cX6_faulty 3 = .ok (.istore_n 2, 1) := by decide +kernel
theorem dX6_faulty_4 : decode cX6_faulty 4 = .ok (.iload_n 2, 1) := by decide +kernel
theorem dX6_faulty_5 : decode cX6_faulty 5 = .ok (.aload_n 0, 1) := by decide +kernel
theorem dX6_faulty_6 : decode cX6_faulty 6 = .ok (.getfield 7, 3) := by decide +kernel
theorem dX6_faulty_9 : decode cX6_faulty 9 = .ok (.iconst 1, 1) := by decide +kernel
theorem dX6_faulty_10 : decode cX6_faulty 10 = .ok (.iaload, 1) := by decide +kernel
theorem dX6_faulty_11 : decode cX6_faulty 11 = .ok (.if_icmp .ge 18, 3) := by decide +kernel
theorem dX6_faulty_14 : decode cX6_faulty 14 = .ok (.iload_n 1, 1) := by decide +kernel
theorem dX6_faulty_15 : decode cX6_faulty 15 = .ok (.aload_n 0, 1) := by decide +kernel
theorem dX6_faulty_16 : decode cX6_faulty 16 = .ok (.iload_n 2, 1) := by decide +kernel
theorem dX6_faulty_17 : decode cX6_faulty 17 = .ok (.iconst 4, 1) := by decide +kernel
theorem dX6_faulty_18 : decode cX6_faulty 18 = .ok (.invokevirtual 68, 3) := by decide +kernel
theorem dX6_faulty_21 : decode cX6_faulty 21 = .ok (.iadd, 1) := by decide +kernel
theorem dX6_faulty_22 : decode cX6_faulty 22 = .ok (.istore_n 1, 1) := by decide +kernel
theorem dX6_faulty_23 : decode cX6_faulty 23 = .ok (.iinc 2 1, 3) := by decide +kernel
theorem dX6_faulty_26 : decode cX6_faulty 26 = .ok (.goto (-22), 3) := by decide +kernel
theorem dX6_faulty_29 : decode cX6_faulty 29 = .ok (.iload_n 1, 1) := by decide +kernel
theorem dX6_faulty_30 : decode cX6_faulty 30 = .ok (.ireturn, 1) := by decide +kernel
set_option maxRecDepth 20000 in
theorem ggX6_mark_X6_isDevice : GoodIn wsX6_mark wsX6_isDevice := goodIn_r _ [5, 6, 7, 8, 4, 9, 31, 32, 33, 34, 35, 36, 37, 38, 39, 40, 41, 42, 43, 44, 45, 46] (by decide +kernel) (by decide +kernel)
set_option maxRecDepth 20000 in
theorem gX6_mark_X6_isDevice : GoodIn wsX6_mark (wsV RX6 123 RX6 yX6_isDevice wsX6_isDevice) := goodIn_app (goodIn_of _ (by decide +kernel)) ggX6_mark_X6_isDevice
set_option maxRecDepth 20000 in
theorem ggX6_mark_X6_of : GoodIn wsX6_mark wsX6_of := goodIn_r _ [13, 6, 31, 32, 33, 34, 35, 36, 37, 38, 39, 40, 41, 42, 43, 44, 45, 46] (by decide +kernel) (by decide +kernel)
set_option maxRecDepth 20000 in
theorem gX6_mark_X6_of : GoodIn wsX6_mark (wsV RX6 68 RX6 yX6_of wsX6_of) := goodIn_app (goodIn_of _ (by decide +kernel)) ggX6_mark_X6_of
set_option maxRecDepth 20000 in
theorem ggX6_mark_X6_records : GoodIn wsX6_mark wsX6_records := goodIn_r _ [17, 18, 19, 6, 20, 21, 4, 22, 31, 32, 33, 34, 35, 36, 37, 38, 39, 40, 41, 42, 43, 44, 45, 46] (by decide +kernel) (by decide +kernel)
set_option maxRecDepth 20000 in
theorem gX6_mark_X6_records : GoodIn wsX6_mark (wsV RX6 57 RX6 yX6_records wsX6_records) := goodIn_app (goodIn_of _ (by decide +kernel)) ggX6_mark_X6_records
set_option maxRecDepth 20000 in
theorem ggX6_mark_X6_puts : GoodIn wsX6_mark wsX6_puts := goodIn_r _ [26, 6, 31, 32, 33, 34, 35, 36, 37, 38, 39, 40, 41, 42, 43, 44, 45, 46] (by decide +kernel) (by decide +kernel)
set_option maxRecDepth 20000 in
theorem gX6_mark_X6_puts : GoodIn wsX6_mark (wsV RX6 118 RX6 yX6_puts wsX6_puts) := goodIn_app (goodIn_of _ (by decide +kernel)) ggX6_mark_X6_puts
set_option maxRecDepth 20000 in
theorem ggX6_mark_X6_faulty : GoodIn wsX6_mark wsX6_faulty := goodIn_r _ [30, 6, 10, 11, 12, 4, 13, 31, 32, 33, 34, 35, 36, 37, 38, 39, 40, 41, 42, 43, 44, 45, 46] (by decide +kernel) (by decide +kernel)
set_option maxRecDepth 20000 in
theorem gX6_mark_X6_faulty : GoodIn wsX6_mark (wsV RX6 126 RX6 yX6_faulty wsX6_faulty) := goodIn_app (goodIn_of _ (by decide +kernel)) ggX6_mark_X6_faulty
theorem dX6_mark_0 : decode cX6_mark 0 = .ok (.aload_n 0, 1) := by decide +kernel
theorem dX6_mark_1 : decode cX6_mark 1 = .ok (.iload_n 1, 1) := by decide +kernel
theorem dX6_mark_2 : decode cX6_mark 2 = .ok (.invokevirtual 123, 3) := by decide +kernel
theorem dX6_mark_5 : decode cX6_mark 5 = .ok (.ifCond .ne 5, 3) := by decide +kernel
theorem dX6_mark_8 : decode cX6_mark 8 = .ok (.iconst (-1), 1) := by decide +kernel
theorem dX6_mark_9 : decode cX6_mark 9 = .ok (.ireturn, 1) := by decide +kernel
theorem dX6_mark_10 : decode cX6_mark 10 = .ok (.aload_n 0, 1) := by decide +kernel
theorem dX6_mark_11 : decode cX6_mark 11 = .ok (.iload_n 1, 1) := by decide +kernel
theorem dX6_mark_12 : decode cX6_mark 12 = .ok (.iconst 4, 1) := by decide +kernel
theorem dX6_mark_13 : decode cX6_mark 13 = .ok (.invokevirtual 68, 3) := by decide +kernel
theorem dX6_mark_16 : decode cX6_mark 16 = .ok (.iload_n 2, 1) := by decide +kernel
theorem dX6_mark_17 : decode cX6_mark 17 = .ok (.ifCond .eq 7, 3) := by decide +kernel
theorem dX6_mark_20 : decode cX6_mark 20 = .ok (.iconst 1, 1) := by decide +kernel
theorem dX6_mark_21 : decode cX6_mark 21 = .ok (.goto 4, 3) := by decide +kernel
theorem dX6_mark_24 : decode cX6_mark 24 = .ok (.iconst 0, 1) := by decide +kernel
theorem dX6_mark_25 : decode cX6_mark 25 = .ok (.if_icmp .ne 6, 3) := by decide +kernel
theorem dX6_mark_28 : decode cX6_mark 28 = .ok (.bipush (-5), 2) := by decide +kernel
theorem dX6_mark_30 : decode cX6_mark 30 = .ok (.ireturn, 1) := by decide +kernel
theorem dX6_mark_31 : decode cX6_mark 31 = .ok (.aload_n 0, 1) := by decide +kernel
theorem dX6_mark_32 : decode cX6_mark 32 = .ok (.invokevirtual 57, 3) := by decide +kernel
theorem dX6_mark_35 : decode cX6_mark 35 = .ok (.aload_n 0, 1) := by decide +kernel
theorem dX6_mark_36 : decode cX6_mark 36 = .ok (.iload_n 1, 1) := by decide +kernel
theorem dX6_mark_37 : decode cX6_mark 37 = .ok (.iconst 4, 1) := by decide +kernel
theorem dX6_mark_38 : decode cX6_mark 38 = .ok (.iload_n 2, 1) := by decide +kernel
theorem dX6_mark_39 : decode cX6_mark 39 = .ok (.ifCond .eq 7, 3) := by decide +kernel
theorem dX6_mark_42 : decode cX6_mark 42 = .ok (.iconst 1, 1) := by decide +kernel
theorem dX6_mark_43 : decode cX6_mark 43 = .ok (.goto 4, 3) := by decide +kernel
theorem dX6_mark_46 : decode cX6_mark 46 = .ok (.iconst 0, 1) := by decide +kernel
theorem dX6_mark_47 : decode cX6_mark 47 = .ok (.invokevirtual 118, 3) := by decide +kernel
theorem dX6_mark_50 : decode cX6_mark 50 = .ok (.aload_n 0, 1) := by decide +kernel
theorem dX6_mark_51 : decode cX6_mark 51 = .ok (.invokevirtual 126, 3) := by decide +kernel
theorem dX6_mark_54 : decode cX6_mark 54 = .ok (.ireturn, 1) := by decide +kernel
set_option maxRecDepth 20000 in
theorem ggX6_move_X6_isFlat : GoodIn wsX6_move wsX6_isFlat := goodIn_r _ [6, 1, 7, 8, 5, 9, 29, 30, 31, 32, 33, 34, 35, 36, 37, 38, 39, 40, 41, 42, 43, 44] (by decide +kernel) (by decide +kernel)
set_option maxRecDepth 20000 in
theorem gX6_move_X6_isFlat : GoodIn wsX6_move (wsV RX6 114 RX6 yX6_isFlat wsX6_isFlat) := goodIn_app (goodIn_of _ (by decide +kernel)) ggX6_move_X6_isFlat
set_option maxRecDepth 20000 in
theorem ggX6_move_X6_in : GoodIn wsX6_move wsX6_in := goodIn_r _ [9] (by decide +kernel) (by decide +kernel)
set_option maxRecDepth 20000 in
theorem gX6_move_X6_in : GoodIn wsX6_move (va_wsS RX6 60 yX6_in wsX6_in) := goodIn_app (goodIn_of _ (by decide +kernel)) ggX6_move_X6_in
set_option maxRecDepth 20000 in
theorem ggX6_move_X6_ofFlat : GoodIn wsX6_move wsX6_ofFlat := goodIn_r _ [13, 1, 29, 30, 31, 32, 33, 34, 35, 36, 37, 38, 39, 40, 41, 42, 43, 44] (by decide +kernel) (by decide +kernel)
set_option maxRecDepth 20000 in
theorem gX6_move_X6_ofFlat : GoodIn wsX6_move (wsV RX6 87 RX6 yX6_ofFlat wsX6_ofFlat) := goodIn_app (goodIn_of _ (by decide +kernel)) ggX6_move_X6_ofFlat
set_option maxRecDepth 20000 in
theorem ggX6_move_X6_records : GoodIn wsX6_move wsX6_records := goodIn_r _ [17, 18, 19, 1, 20, 21, 5, 22, 29, 30, 31, 32, 33, 34, 35, 36, 37, 38, 39, 40, 41, 42, 43, 44] (by decide +kernel) (by decide +kernel)
set_option maxRecDepth 20000 in
theorem gX6_move_X6_records : GoodIn wsX6_move (wsV RX6 57 RX6 yX6_records wsX6_records) := goodIn_app (goodIn_of _ (by decide +kernel)) ggX6_move_X6_records
set_option maxRecDepth 20000 in
theorem ggX6_move_X6_weightsAhead : GoodIn wsX6_move wsX6_weightsAhead := goodIn_r _ [25, 26, 27, 5, 28] (by decide +kernel) (by decide +kernel)
set_option maxRecDepth 20000 in
theorem gX6_move_X6_weightsAhead : GoodIn wsX6_move (va_wsS RX6 107 yX6_weightsAhead wsX6_weightsAhead) := goodIn_app (goodIn_of _ (by decide +kernel)) ggX6_move_X6_weightsAhead
theorem dX6_move_0 : decode cX6_move 0 = .ok (.aload_n 0, 1) := by decide +kernel
theorem dX6_move_1 : decode cX6_move 1 = .ok (.iload_n 1, 1) := by decide +kernel
theorem dX6_move_2 : decode cX6_move 2 = .ok (.invokevirtual 114, 3) := by decide +kernel
theorem dX6_move_5 : decode cX6_move 5 = .ok (.ifCond .ne 5, 3) := by decide +kernel
theorem dX6_move_8 : decode cX6_move 8 = .ok (.iconst (-1), 1) := by decide +kernel
theorem dX6_move_9 : decode cX6_move 9 = .ok (.ireturn, 1) := by decide +kernel
theorem dX6_move_10 : decode cX6_move 10 = .ok (.iload_n 2, 1) := by decide +kernel
theorem dX6_move_11 : decode cX6_move 11 = .ok (.iconst 1, 1) := by decide +kernel
theorem dX6_move_12 : decode cX6_move 12 = .ok (.bipush 11, 2) := by decide +kernel
theorem dX6_move_14 : decode cX6_move 14 = .ok (.invokestatic 60, 3) := by decide +kernel
theorem dX6_move_17 : decode cX6_move 17 = .ok (.ifCond .ne 6, 3) := by decide +kernel
theorem dX6_move_20 : decode cX6_move 20 = .ok (.bipush (-2), 2) := by decide +kernel
theorem dX6_move_22 : decode cX6_move 22 = .ok (.ireturn, 1) := by decide +kernel
theorem dX6_move_23 : decode cX6_move 23 = .ok (.aload_n 0, 1) := by decide +kernel
theorem dX6_move_24 : decode cX6_move 24 = .ok (.iload_n 1, 1) := by decide +kernel
theorem dX6_move_25 : decode cX6_move 25 = .ok (.iconst 1, 1) := by decide +kernel
theorem dX6_move_26 : decode cX6_move 26 = .ok (.invokevirtual 87, 3) := by decide +kernel
theorem dX6_move_29 : decode cX6_move 29 = .ok (.ifCond .le 6, 3) := by decide +kernel
theorem dX6_move_32 : decode cX6_move 32 = .ok (.bipush (-4), 2) := by decide +kernel
theorem dX6_move_34 : decode cX6_move 34 = .ok (.ireturn, 1) := by decide +kernel
theorem dX6_move_35 : decode cX6_move 35 = .ok (.aload_n 0, 1) := by decide +kernel
theorem dX6_move_36 : decode cX6_move 36 = .ok (.invokevirtual 57, 3) := by decide +kernel
theorem dX6_move_39 : decode cX6_move 39 = .ok (.aload_n 0, 1) := by decide +kernel
theorem dX6_move_40 : decode cX6_move 40 = .ok (.getfield 7, 3) := by decide +kernel
theorem dX6_move_43 : decode cX6_move 43 = .ok (.bipush 7, 2) := by decide +kernel
theorem dX6_move_45 : decode cX6_move 45 = .ok (.iconst 3, 1) := by decide +kernel
theorem dX6_move_46 : decode cX6_move 46 = .ok (.iload_n 1, 1) := by decide +kernel
theorem dX6_move_47 : decode cX6_move 47 = .ok (.imul, 1) := by decide +kernel
theorem dX6_move_48 : decode cX6_move 48 = .ok (.iadd, 1) := by decide +kernel
theorem dX6_move_49 : decode cX6_move 49 = .ok (.iconst 1, 1) := by decide +kernel
theorem dX6_move_50 : decode cX6_move 50 = .ok (.iadd, 1) := by decide +kernel
theorem dX6_move_51 : decode cX6_move 51 = .ok (.iload_n 2, 1) := by decide +kernel
theorem dX6_move_52 : decode cX6_move 52 = .ok (.iastore, 1) := by decide +kernel
theorem dX6_move_53 : decode cX6_move 53 = .ok (.aload_n 0, 1) := by decide +kernel
theorem dX6_move_54 : decode cX6_move 54 = .ok (.getfield 7, 3) := by decide +kernel
theorem dX6_move_57 : decode cX6_move 57 = .ok (.bipush 7, 2) := by decide +kernel
theorem dX6_move_59 : decode cX6_move 59 = .ok (.iconst 3, 1) := by decide +kernel
theorem dX6_move_60 : decode cX6_move 60 = .ok (.iload_n 1, 1) := by decide +kernel
theorem dX6_move_61 : decode cX6_move 61 = .ok (.imul, 1) := by decide +kernel
theorem dX6_move_62 : decode cX6_move 62 = .ok (.iadd, 1) := by decide +kernel
theorem dX6_move_63 : decode cX6_move 63 = .ok (.iconst 2, 1) := by decide +kernel
theorem dX6_move_64 : decode cX6_move 64 = .ok (.iadd, 1) := by decide +kernel
theorem dX6_move_65 : decode cX6_move 65 = .ok (.bipush (-5), 2) := by decide +kernel
theorem dX6_move_67 : decode cX6_move 67 = .ok (.iastore, 1) := by decide +kernel
theorem dX6_move_68 : decode cX6_move 68 = .ok (.iload_n 2, 1) := by decide +kernel
theorem dX6_move_69 : decode cX6_move 69 = .ok (.invokestatic 107, 3) := by decide +kernel
theorem dX6_move_72 : decode cX6_move 72 = .ok (.ireturn, 1) := by decide +kernel
set_option maxRecDepth 20000 in
theorem ggX6_between_X6_isFlat : GoodIn wsX6_between wsX6_isFlat := goodIn_r _ [6, 1, 7, 8, 5, 9, 23, 24, 25, 26, 27, 28, 29, 30, 31, 32, 33, 34, 35, 36, 37, 38] (by decide +kernel) (by decide +kernel)
set_option maxRecDepth 20000 in
theorem gX6_between_X6_isFlat : GoodIn wsX6_between (wsV RX6 114 RX6 yX6_isFlat wsX6_isFlat) := goodIn_app (goodIn_of _ (by decide +kernel)) ggX6_between_X6_isFlat
set_option maxRecDepth 20000 in
theorem ggX6_between_X6_in : GoodIn wsX6_between wsX6_in := goodIn_r _ [9] (by decide +kernel) (by decide +kernel)
set_option maxRecDepth 20000 in
theorem gX6_between_X6_in : GoodIn wsX6_between (va_wsS RX6 60 yX6_in wsX6_in) := goodIn_app (goodIn_of _ (by decide +kernel)) ggX6_between_X6_in
set_option maxRecDepth 20000 in
theorem ggX6_between_X6_ofFlat : GoodIn wsX6_between wsX6_ofFlat := goodIn_r _ [13, 1, 23, 24, 25, 26, 27, 28, 29, 30, 31, 32, 33, 34, 35, 36, 37, 38] (by decide +kernel) (by decide +kernel)
set_option maxRecDepth 20000 in
theorem gX6_between_X6_ofFlat : GoodIn wsX6_between (wsV RX6 87 RX6 yX6_ofFlat wsX6_ofFlat) := goodIn_app (goodIn_of _ (by decide +kernel)) ggX6_between_X6_ofFlat
set_option maxRecDepth 20000 in
theorem ggX6_between_X6_records : GoodIn wsX6_between wsX6_records := goodIn_r _ [17, 18, 19, 1, 20, 21, 5, 22, 23, 24, 25, 26, 27, 28, 29, 30, 31, 32, 33, 34, 35, 36, 37, 38] (by decide +kernel) (by decide +kernel)
set_option maxRecDepth 20000 in
theorem gX6_between_X6_records : GoodIn wsX6_between (wsV RX6 57 RX6 yX6_records wsX6_records) := goodIn_app (goodIn_of _ (by decide +kernel)) ggX6_between_X6_records
theorem dX6_between_0 : decode cX6_between 0 = .ok (.aload_n 0, 1) := by decide +kernel
theorem dX6_between_1 : decode cX6_between 1 = .ok (.iload_n 1, 1) := by decide +kernel
theorem dX6_between_2 : decode cX6_between 2 = .ok (.invokevirtual 114, 3) := by decide +kernel
theorem dX6_between_5 : decode cX6_between 5 = .ok (.ifCond .ne 5, 3) := by decide +kernel
theorem dX6_between_8 : decode cX6_between 8 = .ok (.iconst (-1), 1) := by decide +kernel
theorem dX6_between_9 : decode cX6_between 9 = .ok (.ireturn, 1) := by decide +kernel
theorem dX6_between_10 : decode cX6_between 10 = .ok (.iload_n 2, 1) := by decide +kernel
theorem dX6_between_11 : decode cX6_between 11 = .ok (.iconst 0, 1) := by decide +kernel
theorem dX6_between_12 : decode cX6_between 12 = .ok (.sipush 1000, 3) := by decide +kernel
theorem dX6_between_15 : decode cX6_between 15 = .ok (.invokestatic 60, 3) := by decide +kernel
theorem dX6_between_18 : decode cX6_between 18 = .ok (.ifCond .ne 6, 3) := by decide +kernel
theorem dX6_between_21 : decode cX6_between 21 = .ok (.bipush (-2), 2) := by decide +kernel
theorem dX6_between_23 : decode cX6_between 23 = .ok (.ireturn, 1) := by decide +kernel
theorem dX6_between_24 : decode cX6_between 24 = .ok (.aload_n 0, 1) := by decide +kernel
theorem dX6_between_25 : decode cX6_between 25 = .ok (.iload_n 1, 1) := by decide +kernel
theorem dX6_between_26 : decode cX6_between 26 = .ok (.iconst 1, 1) := by decide +kernel
theorem dX6_between_27 : decode cX6_between 27 = .ok (.invokevirtual 87, 3) := by decide +kernel
theorem dX6_between_30 : decode cX6_between 30 = .ok (.ifCond .ne 6, 3) := by decide +kernel
theorem dX6_between_33 : decode cX6_between 33 = .ok (.bipush (-4), 2) := by decide +kernel
theorem dX6_between_35 : decode cX6_between 35 = .ok (.ireturn, 1) := by decide +kernel
theorem dX6_between_36 : decode cX6_between 36 = .ok (.aload_n 0, 1) := by decide +kernel
theorem dX6_between_37 : decode cX6_between 37 = .ok (.iload_n 1, 1) := by decide +kernel
theorem dX6_between_38 : decode cX6_between 38 = .ok (.iconst 2, 1) := by decide +kernel
theorem dX6_between_39 : decode cX6_between 39 = .ok (.invokevirtual 87, 3) := by decide +kernel
theorem dX6_between_42 : decode cX6_between 42 = .ok (.istore_n 3, 1) := by decide +kernel
theorem dX6_between_43 : decode cX6_between 43 = .ok (.iload_n 3, 1) := by decide +kernel
theorem dX6_between_44 : decode cX6_between 44 = .ok (.iload_n 2, 1) := by decide +kernel
theorem dX6_between_45 : decode cX6_between 45 = .ok (.if_icmp .ne 6, 3) := by decide +kernel
theorem dX6_between_48 : decode cX6_between 48 = .ok (.bipush (-5), 2) := by decide +kernel
theorem dX6_between_50 : decode cX6_between 50 = .ok (.ireturn, 1) := by decide +kernel
theorem dX6_between_51 : decode cX6_between 51 = .ok (.aload_n 0, 1) := by decide +kernel
theorem dX6_between_52 : decode cX6_between 52 = .ok (.invokevirtual 57, 3) := by decide +kernel
theorem dX6_between_55 : decode cX6_between 55 = .ok (.aload_n 0, 1) := by decide +kernel
theorem dX6_between_56 : decode cX6_between 56 = .ok (.getfield 7, 3) := by decide +kernel
theorem dX6_between_59 : decode cX6_between 59 = .ok (.bipush 7, 2) := by decide +kernel
theorem dX6_between_61 : decode cX6_between 61 = .ok (.iconst 3, 1) := by decide +kernel
theorem dX6_between_62 : decode cX6_between 62 = .ok (.iload_n 1, 1) := by decide +kernel
theorem dX6_between_63 : decode cX6_between 63 = .ok (.imul, 1) := by decide +kernel
theorem dX6_between_64 : decode cX6_between 64 = .ok (.iadd, 1) := by decide +kernel
theorem dX6_between_65 : decode cX6_between 65 = .ok (.iconst 2, 1) := by decide +kernel
theorem dX6_between_66 : decode cX6_between 66 = .ok (.iadd, 1) := by decide +kernel
theorem dX6_between_67 : decode cX6_between 67 = .ok (.iload_n 2, 1) := by decide +kernel
theorem dX6_between_68 : decode cX6_between 68 = .ok (.iastore, 1) := by decide +kernel
theorem dX6_between_69 : decode cX6_between 69 = .ok (.iload_n 3, 1) := by decide +kernel
theorem dX6_between_70 : decode cX6_between 70 = .ok (.bipush (-5), 2) := by decide +kernel
theorem dX6_between_72 : decode cX6_between 72 = .ok (.if_icmp .ne 7, 3) := by decide +kernel
theorem dX6_between_75 : decode cX6_between 75 = .ok (.iconst 1, 1) := by decide +kernel
theorem dX6_between_76 : decode cX6_between 76 = .ok (.goto 4, 3) := by decide +kernel
theorem dX6_between_79 : decode cX6_between 79 = .ok (.iconst 0, 1) := by decide +kernel
theorem dX6_between_80 : decode cX6_between 80 = .ok (.ireturn, 1) := by decide +kernel
set_option maxRecDepth 20000 in
theorem ggX6_close_X6_records : GoodIn wsX6_close wsX6_records := goodIn_r _ [6, 7, 8, 1, 9, 10, 5, 11, 84, 85, 86, 87, 88, 89, 90, 91, 92, 93, 94, 95, 96, 97, 98, 99] (by decide +kernel) (by decide +kernel)
set_option maxRecDepth 20000 in
theorem gX6_close_X6_records : GoodIn wsX6_close (wsV RX6 57 RX6 yX6_records wsX6_records) := goodIn_app (goodIn_of _ (by decide +kernel)) ggX6_close_X6_records
set_option maxRecDepth 20000 in
theorem ggX6_close_X6_laysOpen : GoodIn wsX6_close wsX6_laysOpen := goodIn_r _ [15, 1, 16, 17, 18, 5, 19, 20, 21, 22, 23, 24, 25, 26, 27, 28, 29, 30, 31, 32, 33, 34, 35, 36, 37, 38, 39, 40, 41, 42, 43, 44, 45, 46, 47, 48, 49, 50, 51, 52, 53, 54, 55, 56, 57, 58, 59, 60, 61, 62, 63, 64, 65, 84, 85, 86, 87, 88, 89, 90, 91, 92, 93, 94, 95, 96, 97, 98, 99] (by decide +kernel) (by decide +kernel)
set_option maxRecDepth 20000 in
theorem gX6_close_X6_laysOpen : GoodIn wsX6_close (wsV RX6 129 RX6 yX6_laysOpen wsX6_laysOpen) := goodIn_app (goodIn_of _ (by decide +kernel)) ggX6_close_X6_laysOpen
set_option maxRecDepth 20000 in
theorem ggX6_close_X6_old : GoodIn wsX6_close wsX6_old := goodIn_r _ [35] (by decide +kernel) (by decide +kernel)
set_option maxRecDepth 20000 in
theorem gX6_close_X6_old : GoodIn wsX6_close (va_wsS RX6 75 yX6_old wsX6_old) := goodIn_app (goodIn_of _ (by decide +kernel)) ggX6_close_X6_old
set_option maxRecDepth 20000 in
theorem ggX6_close_X6_unitsNow : GoodIn wsX6_close wsX6_unitsNow := goodIn_r _ [28, 1, 21, 22, 23, 5, 24, 29, 30, 31, 32, 33, 34, 35, 36, 37, 38, 39, 84, 85, 86, 87, 88, 89, 90, 91, 92, 93, 94, 95, 96, 97, 98, 99] (by decide +kernel) (by decide +kernel)
set_option maxRecDepth 20000 in
theorem gX6_close_X6_unitsNow : GoodIn wsX6_close (wsV RX6 97 RX6 yX6_unitsNow wsX6_unitsNow) := goodIn_app (goodIn_of _ (by decide +kernel)) ggX6_close_X6_unitsNow
set_option maxRecDepth 20000 in
theorem ggX6_close_X6_ofFlat : GoodIn wsX6_close wsX6_ofFlat := goodIn_r _ [55, 1, 84, 85, 86, 87, 88, 89, 90, 91, 92, 93, 94, 95, 96, 97, 98, 99] (by decide +kernel) (by decide +kernel)
set_option maxRecDepth 20000 in
theorem gX6_close_X6_ofFlat : GoodIn wsX6_close (wsV RX6 87 RX6 yX6_ofFlat wsX6_ofFlat) := goodIn_app (goodIn_of _ (by decide +kernel)) ggX6_close_X6_ofFlat
set_option maxRecDepth 20000 in
theorem ggX6_close_X6_tenantOf : GoodIn wsX6_close wsX6_tenantOf := goodIn_r _ [69, 44, 47, 70, 71, 72, 5, 73, 74, 75, 76, 77, 78, 79, 84, 85, 86, 87, 88, 89, 90, 91, 92, 93, 94, 95, 96, 97, 98, 99] (by decide +kernel) (by decide +kernel)
set_option maxRecDepth 20000 in
theorem gX6_close_X6_tenantOf : GoodIn wsX6_close (wsV RX6 132 RX6 yX6_tenantOf wsX6_tenantOf) := goodIn_app (goodIn_of _ (by decide +kernel)) ggX6_close_X6_tenantOf
set_option maxRecDepth 20000 in
theorem ggX6_close_X6_of : GoodIn wsX6_close wsX6_of := goodIn_r _ [24, 1, 84, 85, 86, 87, 88, 89, 90, 91, 92, 93, 94, 95, 96, 97, 98, 99] (by decide +kernel) (by decide +kernel)
set_option maxRecDepth 20000 in
theorem gX6_close_X6_of : GoodIn wsX6_close (wsV RX6 68 RX6 yX6_of wsX6_of) := goodIn_app (goodIn_of _ (by decide +kernel)) ggX6_close_X6_of
set_option maxRecDepth 20000 in
theorem ggX6_close_X6_puts : GoodIn wsX6_close wsX6_puts := goodIn_r _ [83, 1, 84, 85, 86, 87, 88, 89, 90, 91, 92, 93, 94, 95, 96, 97, 98, 99] (by decide +kernel) (by decide +kernel)
set_option maxRecDepth 20000 in
theorem gX6_close_X6_puts : GoodIn wsX6_close (wsV RX6 118 RX6 yX6_puts wsX6_puts) := goodIn_app (goodIn_of _ (by decide +kernel)) ggX6_close_X6_puts
theorem dX6_close_0 : decode cX6_close 0 = .ok (.aload_n 0, 1) := by decide +kernel
theorem dX6_close_1 : decode cX6_close 1 = .ok (.getfield 7, 3) := by decide +kernel
theorem dX6_close_4 : decode cX6_close 4 = .ok (.iconst 2, 1) := by decide +kernel
theorem dX6_close_5 : decode cX6_close 5 = .ok (.iaload, 1) := by decide +kernel
theorem dX6_close_6 : decode cX6_close 6 = .ok (.istore_n 1, 1) := by decide +kernel
theorem dX6_close_7 : decode cX6_close 7 = .ok (.iload_n 1, 1) := by decide +kernel
theorem dX6_close_8 : decode cX6_close 8 = .ok (.iconst 4, 1) := by decide +kernel
theorem dX6_close_9 : decode cX6_close 9 = .ok (.if_icmp .ne 6, 3) := by decide +kernel
theorem dX6_close_12 : decode cX6_close 12 = .ok (.bipush (-3), 2) := by decide +kernel
theorem dX6_close_14 : decode cX6_close 14 = .ok (.ireturn, 1) := by decide +kernel
theorem dX6_close_15 : decode cX6_close 15 = .ok (.aload_n 0, 1) := by decide +kernel
theorem dX6_close_16 : decode cX6_close 16 = .ok (.getfield 7, 3) := by decide +kernel
theorem dX6_close_19 : decode cX6_close 19 = .ok (.iconst 0, 1) := by decide +kernel
theorem dX6_close_20 : decode cX6_close 20 = .ok (.iaload, 1) := by decide +kernel
theorem dX6_close_21 : decode cX6_close 21 = .ok (.ifCond .ne 6, 3) := by decide +kernel
theorem dX6_close_24 : decode cX6_close 24 = .ok (.bipush (-4), 2) := by decide +kernel
theorem dX6_close_26 : decode cX6_close 26 = .ok (.ireturn, 1) := by decide +kernel
theorem dX6_close_27 : decode cX6_close 27 = .ok (.aload_n 0, 1) := by decide +kernel
theorem dX6_close_28 : decode cX6_close 28 = .ok (.invokevirtual 57, 3) := by decide +kernel
theorem dX6_close_31 : decode cX6_close 31 = .ok (.aload_n 0, 1) := by decide +kernel
theorem dX6_close_32 : decode cX6_close 32 = .ok (.aload_n 0, 1) := by decide +kernel
theorem dX6_close_33 : decode cX6_close 33 = .ok (.getfield 7, 3) := by decide +kernel
theorem dX6_close_36 : decode cX6_close 36 = .ok (.iconst 4, 1) := by decide +kernel
theorem dX6_close_37 : decode cX6_close 37 = .ok (.iaload, 1) := by decide +kernel
theorem dX6_close_38 : decode cX6_close 38 = .ok (.invokevirtual 129, 3) := by decide +kernel
theorem dX6_close_41 : decode cX6_close 41 = .ok (.aload_n 0, 1) := by decide +kernel
theorem dX6_close_42 : decode cX6_close 42 = .ok (.getfield 7, 3) := by decide +kernel
theorem dX6_close_45 : decode cX6_close 45 = .ok (.iload_n 1, 1) := by decide +kernel
theorem dX6_close_46 : decode cX6_close 46 = .ok (.iconst 0, 1) := by decide +kernel
theorem dX6_close_47 : decode cX6_close 47 = .ok (.invokestatic 75, 3) := by decide +kernel
theorem dX6_close_50 : decode cX6_close 50 = .ok (.aload_n 0, 1) := by decide +kernel
theorem dX6_close_51 : decode cX6_close 51 = .ok (.getfield 7, 3) := by decide +kernel
theorem dX6_close_54 : decode cX6_close 54 = .ok (.iconst 3, 1) := by decide +kernel
theorem dX6_close_55 : decode cX6_close 55 = .ok (.iaload, 1) := by decide +kernel
theorem dX6_close_56 : decode cX6_close 56 = .ok (.iastore, 1) := by decide +kernel
theorem dX6_close_57 : decode cX6_close 57 = .ok (.aload_n 0, 1) := by decide +kernel
theorem dX6_close_58 : decode cX6_close 58 = .ok (.getfield 7, 3) := by decide +kernel
theorem dX6_close_61 : decode cX6_close 61 = .ok (.iload_n 1, 1) := by decide +kernel
theorem dX6_close_62 : decode cX6_close 62 = .ok (.iconst 1, 1) := by decide +kernel
theorem dX6_close_63 : decode cX6_close 63 = .ok (.invokestatic 75, 3) := by decide +kernel
theorem dX6_close_66 : decode cX6_close 66 = .ok (.aload_n 0, 1) := by decide +kernel
theorem dX6_close_67 : decode cX6_close 67 = .ok (.getfield 7, 3) := by decide +kernel
theorem dX6_close_70 : decode cX6_close 70 = .ok (.iconst 4, 1) := by decide +kernel
theorem dX6_close_71 : decode cX6_close 71 = .ok (.iaload, 1) := by decide +kernel
theorem dX6_close_72 : decode cX6_close 72 = .ok (.iastore, 1) := by decide +kernel
theorem dX6_close_73 : decode cX6_close 73 = .ok (.aload_n 0, 1) := by decide +kernel
theorem dX6_close_74 : decode cX6_close 74 = .ok (.getfield 7, 3) := by decide +kernel
theorem dX6_close_77 : decode cX6_close 77 = .ok (.iload_n 1, 1) := by decide +kernel
theorem dX6_close_78 : decode cX6_close 78 = .ok (.iconst 2, 1) := by decide +kernel
theorem dX6_close_79 : decode cX6_close 79 = .ok (.invokestatic 75, 3) := by decide +kernel
theorem dX6_close_82 : decode cX6_close 82 = .ok (.aload_n 0, 1) := by decide +kernel
theorem dX6_close_83 : decode cX6_close 83 = .ok (.getfield 7, 3) := by decide +kernel
theorem dX6_close_86 : decode cX6_close 86 = .ok (.iconst 1, 1) := by decide +kernel
theorem dX6_close_87 : decode cX6_close 87 = .ok (.iaload, 1) := by decide +kernel
theorem dX6_close_88 : decode cX6_close 88 = .ok (.iastore, 1) := by decide +kernel
theorem dX6_close_89 : decode cX6_close 89 = .ok (.iconst 0, 1) := by decide +kernel
theorem dX6_close_90 : decode cX6_close 90 = .ok (.istore_n 2, 1) := by decide +kernel
theorem dX6_close_91 : decode cX6_close 91 = .ok (.iload_n 2, 1) := by decide +kernel
theorem dX6_close_92 : decode cX6_close 92 = .ok (.aload_n 0, 1) := by decide +kernel
theorem dX6_close_93 : decode cX6_close 93 = .ok (.getfield 7, 3) := by decide +kernel
theorem dX6_close_96 : decode cX6_close 96 = .ok (.iconst 1, 1) := by decide +kernel
theorem dX6_close_97 : decode cX6_close 97 = .ok (.iaload, 1) := by decide +kernel
theorem dX6_close_98 : decode cX6_close 98 = .ok (.if_icmp .ge 26, 3) := by decide +kernel
theorem dX6_close_101 : decode cX6_close 101 = .ok (.aload_n 0, 1) := by decide +kernel
theorem dX6_close_102 : decode cX6_close 102 = .ok (.getfield 7, 3) := by decide +kernel
theorem dX6_close_105 : decode cX6_close 105 = .ok (.iload_n 1, 1) := by decide +kernel
theorem dX6_close_106 : decode cX6_close 106 = .ok (.iconst 3, 1) := by decide +kernel
theorem dX6_close_107 : decode cX6_close 107 = .ok (.iload_n 2, 1) := by decide +kernel
theorem dX6_close_108 : decode cX6_close 108 = .ok (.iadd, 1) := by decide +kernel
theorem dX6_close_109 : decode cX6_close 109 = .ok (.invokestatic 75, 3) := by decide +kernel
theorem dX6_close_112 : decode cX6_close 112 = .ok (.aload_n 0, 1) := by decide +kernel
theorem dX6_close_113 : decode cX6_close 113 = .ok (.iload_n 2, 1) := by decide +kernel
theorem dX6_close_114 : decode cX6_close 114 = .ok (.invokevirtual 97, 3) := by decide +kernel
theorem dX6_close_117 : decode cX6_close 117 = .ok (.iastore, 1) := by decide +kernel
theorem dX6_close_118 : decode cX6_close 118 = .ok (.iinc 2 1, 3) := by decide +kernel
theorem dX6_close_121 : decode cX6_close 121 = .ok (.goto (-30), 3) := by decide +kernel
theorem dX6_close_124 : decode cX6_close 124 = .ok (.iconst 0, 1) := by decide +kernel
theorem dX6_close_125 : decode cX6_close 125 = .ok (.istore_n 2, 1) := by decide +kernel
theorem dX6_close_126 : decode cX6_close 126 = .ok (.iload_n 2, 1) := by decide +kernel
theorem dX6_close_127 : decode cX6_close 127 = .ok (.aload_n 0, 1) := by decide +kernel
theorem dX6_close_128 : decode cX6_close 128 = .ok (.getfield 7, 3) := by decide +kernel
theorem dX6_close_131 : decode cX6_close 131 = .ok (.iconst 0, 1) := by decide +kernel
theorem dX6_close_132 : decode cX6_close 132 = .ok (.iaload, 1) := by decide +kernel
theorem dX6_close_133 : decode cX6_close 133 = .ok (.if_icmp .ge 172, 3) := by decide +kernel
theorem dX6_close_136 : decode cX6_close 136 = .ok (.aload_n 0, 1) := by decide +kernel
theorem dX6_close_137 : decode cX6_close 137 = .ok (.iload_n 2, 1) := by decide +kernel
theorem dX6_close_138 : decode cX6_close 138 = .ok (.iconst 1, 1) := by decide +kernel
theorem dX6_close_139 : decode cX6_close 139 = .ok (.invokevirtual 87, 3) := by decide +kernel
theorem dX6_close_142 : decode cX6_close 142 = .ok (.istore_n 3, 1) := by decide +kernel
theorem dX6_close_143 : decode cX6_close 143 = .ok (.aload_n 0, 1) := by decide +kernel
theorem dX6_close_144 : decode cX6_close 144 = .ok (.iload_n 2, 1) := by decide +kernel
theorem dX6_close_145 : decode cX6_close 145 = .ok (.iconst 2, 1) := by decide +kernel
theorem dX6_close_146 : decode cX6_close 146 = .ok (.invokevirtual 87, 3) := by decide +kernel
theorem dX6_close_149 : decode cX6_close 149 = .ok (.istore 4, 2) := by decide +kernel
theorem dX6_close_151 : decode cX6_close 151 = .ok (.aload_n 0, 1) := by decide +kernel
theorem dX6_close_152 : decode cX6_close 152 = .ok (.getfield 7, 3) := by decide +kernel
theorem dX6_close_155 : decode cX6_close 155 = .ok (.iload_n 1, 1) := by decide +kernel
theorem dX6_close_156 : decode cX6_close 156 = .ok (.bipush 23, 2) := by decide +kernel
theorem dX6_close_158 : decode cX6_close 158 = .ok (.iconst 2, 1) := by decide +kernel
theorem dX6_close_159 : decode cX6_close 159 = .ok (.iload_n 2, 1) := by decide +kernel
theorem dX6_close_160 : decode cX6_close 160 = .ok (.imul, 1) := by decide +kernel
theorem dX6_close_161 : decode cX6_close 161 = .ok (.iadd, 1) := by decide +kernel
theorem dX6_close_162 : decode cX6_close 162 = .ok (.invokestatic 75, 3) := by decide +kernel
theorem dX6_close_165 : decode cX6_close 165 = .ok (.iload_n 3, 1) := by decide +kernel
theorem dX6_close_166 : decode cX6_close 166 = .ok (.iastore, 1) := by decide +kernel
theorem dX6_close_167 : decode cX6_close 167 = .ok (.aload_n 0, 1) := by decide +kernel
theorem dX6_close_168 : decode cX6_close 168 = .ok (.getfield 7, 3) := by decide +kernel
theorem dX6_close_171 : decode cX6_close 171 = .ok (.iload_n 1, 1) := by decide +kernel
theorem dX6_close_172 : decode cX6_close 172 = .ok (.bipush 23, 2) := by decide +kernel
theorem dX6_close_174 : decode cX6_close 174 = .ok (.iconst 2, 1) := by decide +kernel
theorem dX6_close_175 : decode cX6_close 175 = .ok (.iload_n 2, 1) := by decide +kernel
theorem dX6_close_176 : decode cX6_close 176 = .ok (.imul, 1) := by decide +kernel
theorem dX6_close_177 : decode cX6_close 177 = .ok (.iadd, 1) := by decide +kernel
theorem dX6_close_178 : decode cX6_close 178 = .ok (.iconst 1, 1) := by decide +kernel
theorem dX6_close_179 : decode cX6_close 179 = .ok (.iadd, 1) := by decide +kernel
theorem dX6_close_180 : decode cX6_close 180 = .ok (.invokestatic 75, 3) := by decide +kernel
theorem dX6_close_183 : decode cX6_close 183 = .ok (.iload 4, 2) := by decide +kernel
theorem dX6_close_185 : decode cX6_close 185 = .ok (.iastore, 1) := by decide +kernel
theorem dX6_close_186 : decode cX6_close 186 = .ok (.aload_n 0, 1) := by decide +kernel
theorem dX6_close_187 : decode cX6_close 187 = .ok (.getfield 7, 3) := by decide +kernel
theorem dX6_close_190 : decode cX6_close 190 = .ok (.iload_n 1, 1) := by decide +kernel
theorem dX6_close_191 : decode cX6_close 191 = .ok (.bipush 39, 2) := by decide +kernel
theorem dX6_close_193 : decode cX6_close 193 = .ok (.iconst 2, 1) := by decide +kernel
theorem dX6_close_194 : decode cX6_close 194 = .ok (.iload_n 2, 1) := by decide +kernel
theorem dX6_close_195 : decode cX6_close 195 = .ok (.imul, 1) := by decide +kernel
theorem dX6_close_196 : decode cX6_close 196 = .ok (.iadd, 1) := by decide +kernel
theorem dX6_close_197 : decode cX6_close 197 = .ok (.invokestatic 75, 3) := by decide +kernel
theorem dX6_close_200 : decode cX6_close 200 = .ok (.aload_n 0, 1) := by decide +kernel
theorem dX6_close_201 : decode cX6_close 201 = .ok (.iload_n 2, 1) := by decide +kernel
theorem dX6_close_202 : decode cX6_close 202 = .ok (.iconst 0, 1) := by decide +kernel
theorem dX6_close_203 : decode cX6_close 203 = .ok (.iload_n 3, 1) := by decide +kernel
theorem dX6_close_204 : decode cX6_close 204 = .ok (.iload 4, 2) := by decide +kernel
