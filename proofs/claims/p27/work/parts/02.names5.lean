theorem dX5_bestShare_43 : decode cX5_bestShare 43 = .ok (.istore 5, 2) := by decide +kernel
theorem dX5_bestShare_45 : decode cX5_bestShare 45 = .ok (.iload 5, 2) := by decide +kernel
theorem dX5_bestShare_47 : decode cX5_bestShare 47 = .ok (.iload_n 3, 1) := by decide +kernel
theorem dX5_bestShare_48 : decode cX5_bestShare 48 = .ok (.if_icmp .ge 9, 3) := by decide +kernel
theorem dX5_bestShare_51 : decode cX5_bestShare 51 = .ok (.iload 5, 2) := by decide +kernel
theorem dX5_bestShare_53 : decode cX5_bestShare 53 = .ok (.istore_n 3, 1) := by decide +kernel
theorem dX5_bestShare_54 : decode cX5_bestShare 54 = .ok (.iload 4, 2) := by decide +kernel
theorem dX5_bestShare_56 : decode cX5_bestShare 56 = .ok (.istore_n 2, 1) := by decide +kernel
theorem dX5_bestShare_57 : decode cX5_bestShare 57 = .ok (.iinc 4 1, 3) := by decide +kernel
theorem dX5_bestShare_60 : decode cX5_bestShare 60 = .ok (.goto (-31), 3) := by decide +kernel
theorem dX5_bestShare_63 : decode cX5_bestShare 63 = .ok (.iload_n 2, 1) := by decide +kernel
theorem dX5_bestShare_64 : decode cX5_bestShare 64 = .ok (.ireturn, 1) := by decide +kernel
set_option maxRecDepth 20000 in
theorem ggX5_count_X2_faultyCount : GoodIn wsX5_count wsX2_faultyCount := goodIn_r _ [20, 21, 22, 23, 117, 118, 119, 120, 121, 122, 123, 124, 125, 126, 127, 128, 129, 130, 131, 132, 133, 134, 135, 136] (by decide +kernel) (by decide +kernel)
set_option maxRecDepth 20000 in
theorem gX5_count_X2_faultyCount : GoodIn wsX5_count (wsV RX5 108 RX2 yX2_faultyCount wsX2_faultyCount) := goodIn_app (goodIn_of _ (by decide +kernel)) ggX5_count_X2_faultyCount
set_option maxRecDepth 20000 in
theorem ggX5_count_X2_setting : GoodIn wsX5_count wsX2_setting := goodIn_r _ [27, 21, 28, 29, 30, 117, 118, 119, 120, 121, 122, 123, 124, 125, 126, 127, 128, 129, 130, 131, 132, 133, 134, 135, 136] (by decide +kernel) (by decide +kernel)
set_option maxRecDepth 20000 in
theorem gX5_count_X2_setting : GoodIn wsX5_count (wsV RX5 81 RX2 yX2_setting wsX2_setting) := goodIn_app (goodIn_of _ (by decide +kernel)) ggX5_count_X2_setting
set_option maxRecDepth 20000 in
theorem ggX5_count_X5_sumOf : GoodIn wsX5_count wsX5_sumOf := goodIn_r _ [34] (by decide +kernel) (by decide +kernel)
set_option maxRecDepth 20000 in
theorem gX5_count_X5_sumOf : GoodIn wsX5_count (va_wsS RX5 220 yX5_sumOf wsX5_sumOf) := goodIn_app (goodIn_of _ (by decide +kernel)) ggX5_count_X5_sumOf
set_option maxRecDepth 20000 in
theorem ggX5_count_X5_drawUpOpenYear : GoodIn wsX5_count wsX5_drawUpOpenYear := goodIn_r _ [38, 1, 7, 4, 39, 40, 41, 19, 42, 21, 22, 23, 43, 44, 45, 46, 47, 48, 49, 50, 51, 30, 52, 53, 54, 55, 56, 57, 58, 59, 60, 61, 62, 63, 64, 65, 66, 67, 68, 69, 70, 71, 72, 73, 74, 75, 76, 77, 78, 79, 80, 81, 82, 83, 84, 85, 32, 33, 34, 86, 87, 88, 89, 90, 91, 92, 93, 94, 95, 111, 112, 113, 114, 115, 116, 117, 118, 119, 120, 121, 122, 123, 124, 125, 126, 127, 128, 129, 130, 131, 132, 133, 134, 135, 136, 137, 138, 139, 140, 141] (by decide +kernel) (by decide +kernel)
set_option maxRecDepth 20000 in
theorem gX5_count_X5_drawUpOpenYear : GoodIn wsX5_count (wsV RX5 144 RX5 yX5_drawUpOpenYear wsX5_drawUpOpenYear) := goodIn_app (goodIn_of _ (by decide +kernel)) ggX5_count_X5_drawUpOpenYear
set_option maxRecDepth 20000 in
theorem ggX5_count_X2_keptBills : GoodIn wsX5_count wsX2_keptBills := goodIn_r _ [99, 51, 56, 100, 32, 33, 34, 117, 118, 119, 120, 121, 122, 123, 124, 125, 126, 127, 128, 129, 130, 131, 132, 133, 134, 135, 136] (by decide +kernel) (by decide +kernel)
set_option maxRecDepth 20000 in
theorem gX5_count_X2_keptBills : GoodIn wsX5_count (wsV RX5 224 RX2 yX2_keptBills wsX2_keptBills) := goodIn_app (goodIn_of _ (by decide +kernel)) ggX5_count_X2_keptBills
set_option maxRecDepth 20000 in
theorem ggX5_count_X2_moveCount : GoodIn wsX5_count wsX2_moveCount := goodIn_r _ [104, 105, 21, 106, 107, 108, 60, 109, 110, 117, 118, 119, 120, 121, 122, 123, 124, 125, 126, 127, 128, 129, 130, 131, 132, 133, 134, 135, 136] (by decide +kernel) (by decide +kernel)
set_option maxRecDepth 20000 in
theorem gX5_count_X2_moveCount : GoodIn wsX5_count (wsV RX5 227 RX2 yX2_moveCount wsX2_moveCount) := goodIn_app (goodIn_of _ (by decide +kernel)) ggX5_count_X2_moveCount
theorem dX5_count_0 : decode cX5_count 0 = .ok (.iload_n 1, 1) := by decide +kernel
theorem dX5_count_1 : decode cX5_count 1 = .ok (.tableswitch 241 0 14 #[75, 83, 91, 102, 110, 110, 110, 121, 139, 161, 201, 209, 217, 225, 233], 75) := by decide +kernel
theorem dX5_count_76 : decode cX5_count 76 = .ok (.aload_n 0, 1) := by decide +kernel
theorem dX5_count_77 : decode cX5_count 77 = .ok (.getfield 12, 3) := by decide +kernel
theorem dX5_count_80 : decode cX5_count 80 = .ok (.getfield 48, 3) := by decide +kernel
theorem dX5_count_83 : decode cX5_count 83 = .ok (.ireturn, 1) := by decide +kernel
theorem dX5_count_84 : decode cX5_count 84 = .ok (.aload_n 0, 1) := by decide +kernel
theorem dX5_count_85 : decode cX5_count 85 = .ok (.getfield 12, 3) := by decide +kernel
theorem dX5_count_88 : decode cX5_count 88 = .ok (.getfield 44, 3) := by decide +kernel
theorem dX5_count_91 : decode cX5_count 91 = .ok (.ireturn, 1) := by decide +kernel
theorem dX5_count_92 : decode cX5_count 92 = .ok (.aload_n 0, 1) := by decide +kernel
theorem dX5_count_93 : decode cX5_count 93 = .ok (.getfield 12, 3) := by decide +kernel
theorem dX5_count_96 : decode cX5_count 96 = .ok (.getfield 63, 3) := by decide +kernel
theorem dX5_count_99 : decode cX5_count 99 = .ok (.getfield 67, 3) := by decide +kernel
theorem dX5_count_102 : decode cX5_count 102 = .ok (.ireturn, 1) := by decide +kernel
theorem dX5_count_103 : decode cX5_count 103 = .ok (.aload_n 0, 1) := by decide +kernel
theorem dX5_count_104 : decode cX5_count 104 = .ok (.getfield 12, 3) := by decide +kernel
theorem dX5_count_107 : decode cX5_count 107 = .ok (.invokevirtual 108, 3) := by decide +kernel
theorem dX5_count_110 : decode cX5_count 110 = .ok (.ireturn, 1) := by decide +kernel
theorem dX5_count_111 : decode cX5_count 111 = .ok (.aload_n 0, 1) := by decide +kernel
theorem dX5_count_112 : decode cX5_count 112 = .ok (.getfield 12, 3) := by decide +kernel
theorem dX5_count_115 : decode cX5_count 115 = .ok (.iload_n 1, 1) := by decide +kernel
theorem dX5_count_116 : decode cX5_count 116 = .ok (.iconst 4, 1) := by decide +kernel
theorem dX5_count_117 : decode cX5_count 117 = .ok (.isub, 1) := by decide +kernel
theorem dX5_count_118 : decode cX5_count 118 = .ok (.invokevirtual 81, 3) := by decide +kernel
theorem dX5_count_121 : decode cX5_count 121 = .ok (.ireturn, 1) := by decide +kernel
theorem dX5_count_122 : decode cX5_count 122 = .ok (.aload_n 0, 1) := by decide +kernel
theorem dX5_count_123 : decode cX5_count 123 = .ok (.getfield 12, 3) := by decide +kernel
theorem dX5_count_126 : decode cX5_count 126 = .ok (.getfield 55, 3) := by decide +kernel
theorem dX5_count_129 : decode cX5_count 129 = .ok (.aload_n 0, 1) := by decide +kernel
theorem dX5_count_130 : decode cX5_count 130 = .ok (.getfield 12, 3) := by decide +kernel
theorem dX5_count_133 : decode cX5_count 133 = .ok (.getfield 44, 3) := by decide +kernel
theorem dX5_count_136 : decode cX5_count 136 = .ok (.invokestatic 220, 3) := by decide +kernel
theorem dX5_count_139 : decode cX5_count 139 = .ok (.ireturn, 1) := by decide +kernel
theorem dX5_count_140 : decode cX5_count 140 = .ok (.aload_n 0, 1) := by decide +kernel
theorem dX5_count_141 : decode cX5_count 141 = .ok (.invokevirtual 144, 3) := by decide +kernel
theorem dX5_count_144 : decode cX5_count 144 = .ok (.aload_n 0, 1) := by decide +kernel
theorem dX5_count_145 : decode cX5_count 145 = .ok (.getfield 40, 3) := by decide +kernel
theorem dX5_count_148 : decode cX5_count 148 = .ok (.getfield 192, 3) := by decide +kernel
theorem dX5_count_151 : decode cX5_count 151 = .ok (.aload_n 0, 1) := by decide +kernel
theorem dX5_count_152 : decode cX5_count 152 = .ok (.getfield 12, 3) := by decide +kernel
theorem dX5_count_155 : decode cX5_count 155 = .ok (.getfield 44, 3) := by decide +kernel
theorem dX5_count_158 : decode cX5_count 158 = .ok (.invokestatic 220, 3) := by decide +kernel
theorem dX5_count_161 : decode cX5_count 161 = .ok (.ireturn, 1) := by decide +kernel
theorem dX5_count_162 : decode cX5_count 162 = .ok (.aload_n 0, 1) := by decide +kernel
theorem dX5_count_163 : decode cX5_count 163 = .ok (.invokevirtual 144, 3) := by decide +kernel
theorem dX5_count_166 : decode cX5_count 166 = .ok (.aload_n 0, 1) := by decide +kernel
theorem dX5_count_167 : decode cX5_count 167 = .ok (.getfield 40, 3) := by decide +kernel
theorem dX5_count_170 : decode cX5_count 170 = .ok (.getfield 195, 3) := by decide +kernel
theorem dX5_count_173 : decode cX5_count 173 = .ok (.aload_n 0, 1) := by decide +kernel
theorem dX5_count_174 : decode cX5_count 174 = .ok (.getfield 12, 3) := by decide +kernel
theorem dX5_count_177 : decode cX5_count 177 = .ok (.getfield 44, 3) := by decide +kernel
theorem dX5_count_180 : decode cX5_count 180 = .ok (.invokestatic 220, 3) := by decide +kernel
theorem dX5_count_183 : decode cX5_count 183 = .ok (.aload_n 0, 1) := by decide +kernel
theorem dX5_count_184 : decode cX5_count 184 = .ok (.getfield 40, 3) := by decide +kernel
theorem dX5_count_187 : decode cX5_count 187 = .ok (.getfield 198, 3) := by decide +kernel
theorem dX5_count_190 : decode cX5_count 190 = .ok (.aload_n 0, 1) := by decide +kernel
theorem dX5_count_191 : decode cX5_count 191 = .ok (.getfield 12, 3) := by decide +kernel
theorem dX5_count_194 : decode cX5_count 194 = .ok (.getfield 44, 3) := by decide +kernel
theorem dX5_count_197 : decode cX5_count 197 = .ok (.invokestatic 220, 3) := by decide +kernel
theorem dX5_count_200 : decode cX5_count 200 = .ok (.iadd, 1) := by decide +kernel
theorem dX5_count_201 : decode cX5_count 201 = .ok (.ireturn, 1) := by decide +kernel
theorem dX5_count_202 : decode cX5_count 202 = .ok (.aload_n 0, 1) := by decide +kernel
theorem dX5_count_203 : decode cX5_count 203 = .ok (.getfield 12, 3) := by decide +kernel
theorem dX5_count_206 : decode cX5_count 206 = .ok (.invokevirtual 224, 3) := by decide +kernel
theorem dX5_count_209 : decode cX5_count 209 = .ok (.ireturn, 1) := by decide +kernel
theorem dX5_count_210 : decode cX5_count 210 = .ok (.aload_n 0, 1) := by decide +kernel
theorem dX5_count_211 : decode cX5_count 211 = .ok (.getfield 12, 3) := by decide +kernel
theorem dX5_count_214 : decode cX5_count 214 = .ok (.getfield 163, 3) := by decide +kernel
theorem dX5_count_217 : decode cX5_count 217 = .ok (.ireturn, 1) := by decide +kernel
theorem dX5_count_218 : decode cX5_count 218 = .ok (.aload_n 0, 1) := by decide +kernel
theorem dX5_count_219 : decode cX5_count 219 = .ok (.getfield 12, 3) := by decide +kernel
theorem dX5_count_222 : decode cX5_count 222 = .ok (.invokevirtual 227, 3) := by decide +kernel
theorem dX5_count_225 : decode cX5_count 225 = .ok (.ireturn, 1) := by decide +kernel
theorem dX5_count_226 : decode cX5_count 226 = .ok (.aload_n 0, 1) := by decide +kernel
theorem dX5_count_227 : decode cX5_count 227 = .ok (.getfield 26, 3) := by decide +kernel
theorem dX5_count_230 : decode cX5_count 230 = .ok (.getfield 186, 3) := by decide +kernel
theorem dX5_count_233 : decode cX5_count 233 = .ok (.ireturn, 1) := by decide +kernel
theorem dX5_count_234 : decode cX5_count 234 = .ok (.aload_n 0, 1) := by decide +kernel
theorem dX5_count_235 : decode cX5_count 235 = .ok (.getfield 33, 3) := by decide +kernel
theorem dX5_count_238 : decode cX5_count 238 = .ok (.getfield 176, 3) := by decide +kernel
theorem dX5_count_241 : decode cX5_count 241 = .ok (.ireturn, 1) := by decide +kernel
theorem dX5_count_242 : decode cX5_count 242 = .ok (.bipush (-2), 2) := by decide +kernel
theorem dX5_count_244 : decode cX5_count 244 = .ok (.ireturn, 1) := by decide +kernel
set_option maxRecDepth 20000 in
theorem ggX5_drawUpOpenYear_X2_countUnits : GoodIn wsX5_drawUpOpenYear wsX2_countUnits := goodIn_r _ [8, 9, 10, 11, 12, 13, 14, 15, 16, 17, 18, 7, 19, 20, 21, 22, 23, 24, 25, 26, 27, 28, 29, 30, 31, 32, 75, 76, 77, 78, 79, 80, 81, 82, 83, 84, 85, 86, 87, 88, 89, 90, 91, 92, 93, 94] (by decide +kernel) (by decide +kernel)
set_option maxRecDepth 20000 in
theorem gX5_drawUpOpenYear_X2_countUnits : GoodIn wsX5_drawUpOpenYear (wsV RX5 98 RX2 yX2_countUnits wsX2_countUnits) := goodIn_app (goodIn_of _ (by decide +kernel)) ggX5_drawUpOpenYear_X2_countUnits
set_option maxRecDepth 20000 in
theorem ggX5_drawUpOpenYear_X0_drawUp : GoodIn wsX5_drawUpOpenYear wsX0_drawUp := goodIn_r _ [37, 38, 39, 40, 41, 42, 43, 44, 45, 46, 47, 48, 49, 50, 36, 51, 52, 53, 54, 55, 56, 57, 58, 59, 60, 61, 62, 63, 64, 65, 66, 67, 68, 95, 96, 97, 98, 99, 87, 88, 89, 90, 91, 92, 93, 94, 75, 76, 77, 78, 79, 80, 81, 82, 83, 84, 85, 86] (by decide +kernel) (by decide +kernel)
set_option maxRecDepth 20000 in
theorem gX5_drawUpOpenYear_X0_drawUp : GoodIn wsX5_drawUpOpenYear (wsV RX5 166 RX0 yX0_drawUp wsX0_drawUp) := goodIn_app (goodIn_of _ (by decide +kernel)) ggX5_drawUpOpenYear_X0_drawUp
theorem dX5_drawUpOpenYear_0 : decode cX5_drawUpOpenYear 0 = .ok (.aload_n 0, 1) := by decide +kernel
theorem dX5_drawUpOpenYear_1 : decode cX5_drawUpOpenYear 1 = .ok (.getfield 12, 3) := by decide +kernel
theorem dX5_drawUpOpenYear_4 : decode cX5_drawUpOpenYear 4 = .ok (.invokevirtual 98, 3) := by decide +kernel
theorem dX5_drawUpOpenYear_7 : decode cX5_drawUpOpenYear 7 = .ok (.aload_n 0, 1) := by decide +kernel
theorem dX5_drawUpOpenYear_8 : decode cX5_drawUpOpenYear 8 = .ok (.getfield 40, 3) := by decide +kernel
theorem dX5_drawUpOpenYear_11 : decode cX5_drawUpOpenYear 11 = .ok (.aload_n 0, 1) := by decide +kernel
theorem dX5_drawUpOpenYear_12 : decode cX5_drawUpOpenYear 12 = .ok (.getfield 12, 3) := by decide +kernel
theorem dX5_drawUpOpenYear_15 : decode cX5_drawUpOpenYear 15 = .ok (.aload_n 0, 1) := by decide +kernel
theorem dX5_drawUpOpenYear_16 : decode cX5_drawUpOpenYear 16 = .ok (.getfield 12, 3) := by decide +kernel
theorem dX5_drawUpOpenYear_19 : decode cX5_drawUpOpenYear 19 = .ok (.getfield 63, 3) := by decide +kernel
theorem dX5_drawUpOpenYear_22 : decode cX5_drawUpOpenYear 22 = .ok (.invokevirtual 166, 3) := by decide +kernel
theorem dX5_drawUpOpenYear_25 : decode cX5_drawUpOpenYear 25 = .ok (.return_, 1) := by decide +kernel
set_option maxRecDepth 20000 in
theorem ggX5_billWithShare_X0_shareCost : GoodIn wsX5_billWithShare wsX0_shareCost := goodIn_r _ [9, 10, 11, 12, 13, 14, 15, 16, 17, 18, 19, 20, 8, 21, 22, 23, 24, 25, 26, 27, 58, 59, 60, 61, 62, 38, 39, 40, 41, 42, 43, 44, 45, 46, 47, 48, 49] (by decide +kernel) (by decide +kernel)
set_option maxRecDepth 20000 in
theorem gX5_billWithShare_X0_shareCost : GoodIn wsX5_billWithShare (wsV RX5 233 RX0 yX0_shareCost wsX0_shareCost) := goodIn_app (goodIn_of _ (by decide +kernel)) ggX5_billWithShare_X0_shareCost
set_option maxRecDepth 20000 in
theorem ggX5_billWithShare_X0_billOfFlat : GoodIn wsX5_billWithShare wsX0_billOfFlat := goodIn_r _ [31, 13, 14, 58, 59, 60, 61, 62] (by decide +kernel) (by decide +kernel)
set_option maxRecDepth 20000 in
theorem gX5_billWithShare_X0_billOfFlat : GoodIn wsX5_billWithShare (wsV RX5 201 RX0 yX0_billOfFlat wsX0_billOfFlat) := goodIn_app (goodIn_of _ (by decide +kernel)) ggX5_billWithShare_X0_billOfFlat
theorem dX5_billWithShare_0 : decode cX5_billWithShare 0 = .ok (.aload_n 0, 1) := by decide +kernel
theorem dX5_billWithShare_1 : decode cX5_billWithShare 1 = .ok (.getfield 40, 3) := by decide +kernel
theorem dX5_billWithShare_4 : decode cX5_billWithShare 4 = .ok (.aload_n 0, 1) := by decide +kernel
theorem dX5_billWithShare_5 : decode cX5_billWithShare 5 = .ok (.getfield 12, 3) := by decide +kernel
theorem dX5_billWithShare_8 : decode cX5_billWithShare 8 = .ok (.aload_n 0, 1) := by decide +kernel
theorem dX5_billWithShare_9 : decode cX5_billWithShare 9 = .ok (.getfield 12, 3) := by decide +kernel
theorem dX5_billWithShare_12 : decode cX5_billWithShare 12 = .ok (.getfield 63, 3) := by decide +kernel
theorem dX5_billWithShare_15 : decode cX5_billWithShare 15 = .ok (.getfield 230, 3) := by decide +kernel
theorem dX5_billWithShare_18 : decode cX5_billWithShare 18 = .ok (.iload_n 2, 1) := by decide +kernel
theorem dX5_billWithShare_19 : decode cX5_billWithShare 19 = .ok (.invokevirtual 233, 3) := by decide +kernel
theorem dX5_billWithShare_22 : decode cX5_billWithShare 22 = .ok (.aload_n 0, 1) := by decide +kernel
theorem dX5_billWithShare_23 : decode cX5_billWithShare 23 = .ok (.getfield 40, 3) := by decide +kernel
theorem dX5_billWithShare_26 : decode cX5_billWithShare 26 = .ok (.iload_n 1, 1) := by decide +kernel
theorem dX5_billWithShare_27 : decode cX5_billWithShare 27 = .ok (.invokevirtual 201, 3) := by decide +kernel
theorem dX5_billWithShare_30 : decode cX5_billWithShare 30 = .ok (.ireturn, 1) := by decide +kernel
theorem dX5_tenantOf_0 : decode cX5_tenantOf 0 = .ok (.iload_n 1, 1) := by decide +kernel
theorem dX5_tenantOf_1 : decode cX5_tenantOf 1 = .ok (.ifCond .eq 11, 3) := by decide +kernel
theorem dX5_tenantOf_4 : decode cX5_tenantOf 4 = .ok (.iconst 2, 1) := by decide +kernel
theorem dX5_tenantOf_5 : decode cX5_tenantOf 5 = .ok (.iload_n 0, 1) := by decide +kernel
theorem dX5_tenantOf_6 : decode cX5_tenantOf 6 = .ok (.imul, 1) := by decide +kernel
theorem dX5_tenantOf_7 : decode cX5_tenantOf 7 = .ok (.iconst 1, 1) := by decide +kernel
theorem dX5_tenantOf_8 : decode cX5_tenantOf 8 = .ok (.iadd, 1) := by decide +kernel
theorem dX5_tenantOf_9 : decode cX5_tenantOf 9 = .ok (.goto 6, 3) := by decide +kernel
theorem dX5_tenantOf_12 : decode cX5_tenantOf 12 = .ok (.iconst 2, 1) := by decide +kernel
theorem dX5_tenantOf_13 : decode cX5_tenantOf 13 = .ok (.iload_n 0, 1) := by decide +kernel
theorem dX5_tenantOf_14 : decode cX5_tenantOf 14 = .ok (.imul, 1) := by decide +kernel
theorem dX5_tenantOf_15 : decode cX5_tenantOf 15 = .ok (.ireturn, 1) := by decide +kernel
theorem dX5_weightsAhead_0 : decode cX5_weightsAhead 0 = .ok (.iconst 0, 1) := by decide +kernel
theorem dX5_weightsAhead_1 : decode cX5_weightsAhead 1 = .ok (.istore_n 1, 1) := by decide +kernel
theorem dX5_weightsAhead_2 : decode cX5_weightsAhead 2 = .ok (.iconst 0, 1) := by decide +kernel
theorem dX5_weightsAhead_3 : decode cX5_weightsAhead 3 = .ok (.istore_n 2, 1) := by decide +kernel
theorem dX5_weightsAhead_4 : decode cX5_weightsAhead 4 = .ok (.iload_n 2, 1) := by decide +kernel
theorem dX5_weightsAhead_5 : decode cX5_weightsAhead 5 = .ok (.iload_n 0, 1) := by decide +kernel
theorem dX5_weightsAhead_6 : decode cX5_weightsAhead 6 = .ok (.if_icmp .ge 25, 3) := by decide +kernel
theorem dX5_weightsAhead_9 : decode cX5_weightsAhead 9 = .ok (.iload_n 2, 1) := by decide +kernel
theorem dX5_weightsAhead_10 : decode cX5_weightsAhead 10 = .ok (.getstatic 237, 3) := by decide +kernel
theorem dX5_weightsAhead_13 : decode cX5_weightsAhead 13 = .ok (.arraylength, 1) := by decide +kernel
theorem dX5_weightsAhead_14 : decode cX5_weightsAhead 14 = .ok (.if_icmp .ge 17, 3) := by decide +kernel
theorem dX5_weightsAhead_17 : decode cX5_weightsAhead 17 = .ok (.iload_n 1, 1) := by decide +kernel
theorem dX5_weightsAhead_18 : decode cX5_weightsAhead 18 = .ok (.getstatic 237, 3) := by decide +kernel
theorem dX5_weightsAhead_21 : decode cX5_weightsAhead 21 = .ok (.iload_n 2, 1) := by decide +kernel
theorem dX5_weightsAhead_22 : decode cX5_weightsAhead 22 = .ok (.iaload, 1) := by decide +kernel
theorem dX5_weightsAhead_23 : decode cX5_weightsAhead 23 = .ok (.iadd, 1) := by decide +kernel
theorem dX5_weightsAhead_24 : decode cX5_weightsAhead 24 = .ok (.istore_n 1, 1) := by decide +kernel
theorem dX5_weightsAhead_25 : decode cX5_weightsAhead 25 = .ok (.iinc 2 1, 3) := by decide +kernel
theorem dX5_weightsAhead_28 : decode cX5_weightsAhead 28 = .ok (.goto (-24), 3) := by decide +kernel
theorem dX5_weightsAhead_31 : decode cX5_weightsAhead 31 = .ok (.iload_n 1, 1) := by decide +kernel
theorem dX5_weightsAhead_32 : decode cX5_weightsAhead 32 = .ok (.ireturn, 1) := by decide +kernel
theorem dX5_sumOf_0 : decode cX5_sumOf 0 = .ok (.iconst 0, 1) := by decide +kernel
theorem dX5_sumOf_1 : decode cX5_sumOf 1 = .ok (.istore_n 2, 1) := by decide +kernel
theorem dX5_sumOf_2 : decode cX5_sumOf 2 = .ok (.iconst 0, 1) := by decide +kernel
theorem dX5_sumOf_3 : decode cX5_sumOf 3 = .ok (.istore_n 3, 1) := by decide +kernel
theorem dX5_sumOf_4 : decode cX5_sumOf 4 = .ok (.iload_n 3, 1) := by decide +kernel
theorem dX5_sumOf_5 : decode cX5_sumOf 5 = .ok (.iload_n 1, 1) := by decide +kernel
theorem dX5_sumOf_6 : decode cX5_sumOf 6 = .ok (.if_icmp .ge 21, 3) := by decide +kernel
theorem dX5_sumOf_9 : decode cX5_sumOf 9 = .ok (.iload_n 3, 1) := by decide +kernel
theorem dX5_sumOf_10 : decode cX5_sumOf 10 = .ok (.aload_n 0, 1) := by decide +kernel
theorem dX5_sumOf_11 : decode cX5_sumOf 11 = .ok (.arraylength, 1) := by decide +kernel
theorem dX5_sumOf_12 : decode cX5_sumOf 12 = .ok (.if_icmp .ge 15, 3) := by decide +kernel
theorem dX5_sumOf_15 : decode cX5_sumOf 15 = .ok (.iload_n 2, 1) := by decide +kernel
theorem dX5_sumOf_16 : decode cX5_sumOf 16 = .ok (.aload_n 0, 1) := by decide +kernel
theorem dX5_sumOf_17 : decode cX5_sumOf 17 = .ok (.iload_n 3, 1) := by decide +kernel
theorem dX5_sumOf_18 : decode cX5_sumOf 18 = .ok (.iaload, 1) := by decide +kernel
theorem dX5_sumOf_19 : decode cX5_sumOf 19 = .ok (.iadd, 1) := by decide +kernel
theorem dX5_sumOf_20 : decode cX5_sumOf 20 = .ok (.istore_n 2, 1) := by decide +kernel
theorem dX5_sumOf_21 : decode cX5_sumOf 21 = .ok (.iinc 3 1, 3) := by decide +kernel
theorem dX5_sumOf_24 : decode cX5_sumOf 24 = .ok (.goto (-20), 3) := by decide +kernel
theorem dX5_sumOf_27 : decode cX5_sumOf 27 = .ok (.iload_n 2, 1) := by decide +kernel
theorem dX5_sumOf_28 : decode cX5_sumOf 28 = .ok (.ireturn, 1) := by decide +kernel
theorem dJ7_fill_53178_0 : decode cJ7_fill_53178 0 = .ok (.iconst 0, 1) := by decide +kernel
theorem dJ7_fill_53178_1 : decode cJ7_fill_53178 1 = .ok (.istore_n 2, 1) := by decide +kernel
theorem dJ7_fill_53178_2 : decode cJ7_fill_53178 2 = .ok (.aload_n 0, 1) := by decide +kernel
theorem dJ7_fill_53178_3 : decode cJ7_fill_53178 3 = .ok (.arraylength, 1) := by decide +kernel
theorem dJ7_fill_53178_4 : decode cJ7_fill_53178 4 = .ok (.istore_n 3, 1) := by decide +kernel
theorem dJ7_fill_53178_5 : decode cJ7_fill_53178 5 = .ok (.iload_n 2, 1) := by decide +kernel
theorem dJ7_fill_53178_6 : decode cJ7_fill_53178 6 = .ok (.iload_n 3, 1) := by decide +kernel
theorem dJ7_fill_53178_7 : decode cJ7_fill_53178 7 = .ok (.if_icmp .ge 13, 3) := by decide +kernel
theorem dJ7_fill_53178_10 : decode cJ7_fill_53178 10 = .ok (.aload_n 0, 1) := by decide +kernel
theorem dJ7_fill_53178_11 : decode cJ7_fill_53178 11 = .ok (.iload_n 2, 1) := by decide +kernel
theorem dJ7_fill_53178_12 : decode cJ7_fill_53178 12 = .ok (.iload_n 1, 1) := by decide +kernel
theorem dJ7_fill_53178_13 : decode cJ7_fill_53178 13 = .ok (.iastore, 1) := by decide +kernel
theorem dJ7_fill_53178_14 : decode cJ7_fill_53178 14 = .ok (.iinc 2 1, 3) := by decide +kernel
theorem dJ7_fill_53178_17 : decode cJ7_fill_53178 17 = .ok (.goto (-12), 3) := by decide +kernel
theorem dJ7_fill_53178_20 : decode cJ7_fill_53178 20 = .ok (.return_, 1) := by decide +kernel
theorem dL_part_0 : decode cL_part 0 = .ok (.iload_n 0, 1) := by decide +kernel
theorem dL_part_1 : decode cL_part 1 = .ok (.ldc 7, 2) := by decide +kernel
theorem dL_part_3 : decode cL_part 3 = .ok (.iand, 1) := by decide +kernel
theorem dL_part_4 : decode cL_part 4 = .ok (.iload_n 1, 1) := by decide +kernel
theorem dL_part_5 : decode cL_part 5 = .ok (.irem, 1) := by decide +kernel
theorem dL_part_6 : decode cL_part 6 = .ok (.ireturn, 1) := by decide +kernel
theorem dL_drawn_0 : decode cL_drawn 0 = .ok (.aload_n 0, 1) := by decide +kernel
theorem dL_drawn_1 : decode cL_drawn 1 = .ok (.arraylength, 1) := by decide +kernel
theorem dL_drawn_2 : decode cL_drawn 2 = .ok (.ifCond .ne 13, 3) := by decide +kernel
theorem dL_drawn_5 : decode cL_drawn 5 = .ok (.sipush 7919, 3) := by decide +kernel
theorem dL_drawn_8 : decode cL_drawn 8 = .ok (.iload_n 1, 1) := by decide +kernel
theorem dL_drawn_9 : decode cL_drawn 9 = .ok (.imul, 1) := by decide +kernel
theorem dL_drawn_10 : decode cL_drawn 10 = .ok (.iconst 3, 1) := by decide +kernel
theorem dL_drawn_11 : decode cL_drawn 11 = .ok (.iadd, 1) := by decide +kernel
theorem dL_drawn_12 : decode cL_drawn 12 = .ok (.goto 27, 3) := by decide +kernel
theorem dL_drawn_15 : decode cL_drawn 15 = .ok (.aload_n 0, 1) := by decide +kernel
theorem dL_drawn_16 : decode cL_drawn 16 = .ok (.iload_n 1, 1) := by decide +kernel
theorem dL_drawn_17 : decode cL_drawn 17 = .ok (.aload_n 0, 1) := by decide +kernel
theorem dL_drawn_18 : decode cL_drawn 18 = .ok (.arraylength, 1) := by decide +kernel
theorem dL_drawn_19 : decode cL_drawn 19 = .ok (.irem, 1) := by decide +kernel
theorem dL_drawn_20 : decode cL_drawn 20 = .ok (.iaload, 1) := by decide +kernel
theorem dL_drawn_21 : decode cL_drawn 21 = .ok (.iload_n 1, 1) := by decide +kernel
theorem dL_drawn_22 : decode cL_drawn 22 = .ok (.bipush 7, 2) := by decide +kernel
theorem dL_drawn_24 : decode cL_drawn 24 = .ok (.irem, 1) := by decide +kernel
theorem dL_drawn_25 : decode cL_drawn 25 = .ok (.ishr, 1) := by decide +kernel
theorem dL_drawn_26 : decode cL_drawn 26 = .ok (.iload_n 1, 1) := by decide +kernel
theorem dL_drawn_27 : decode cL_drawn 27 = .ok (.aload_n 0, 1) := by decide +kernel
theorem dL_drawn_28 : decode cL_drawn 28 = .ok (.arraylength, 1) := by decide +kernel
theorem dL_drawn_29 : decode cL_drawn 29 = .ok (.idiv, 1) := by decide +kernel
theorem dL_drawn_30 : decode cL_drawn 30 = .ok (.bipush 31, 2) := by decide +kernel
theorem dL_drawn_32 : decode cL_drawn 32 = .ok (.imul, 1) := by decide +kernel
theorem dL_drawn_33 : decode cL_drawn 33 = .ok (.ixor, 1) := by decide +kernel
theorem dL_drawn_34 : decode cL_drawn 34 = .ok (.iload_n 1, 1) := by decide +kernel
theorem dL_drawn_35 : decode cL_drawn 35 = .ok (.ldc 8, 2) := by decide +kernel
theorem dL_drawn_37 : decode cL_drawn 37 = .ok (.imul, 1) := by decide +kernel
theorem dL_drawn_38 : decode cL_drawn 38 = .ok (.ixor, 1) := by decide +kernel
theorem dL_drawn_39 : decode cL_drawn 39 = .ok (.ireturn, 1) := by decide +kernel
set_option maxRecDepth 20000 in
theorem ggL_seen_X5_count : GoodIn wsL_seen wsX5_count := goodIn_r _ [7, 8, 9, 10, 11, 12, 13, 14, 15, 16, 17, 18, 19, 20, 21, 22, 23, 24, 25, 26, 27, 28, 29, 30, 31, 32, 33, 34, 35, 36, 37, 38, 39, 6, 40, 41, 42, 43, 44, 45, 46, 47, 48, 49, 50, 51, 52, 53, 54, 55, 56, 57, 58, 59, 60, 61, 62, 63, 64, 65, 66, 67, 68, 69, 70, 71, 72, 73, 74, 75, 76, 77, 78, 79, 80, 81, 82, 83, 84, 85, 86, 87, 88, 89, 90, 91, 92, 93, 94, 95, 96, 97, 98, 99, 100, 101, 102, 103, 104, 105, 106, 107, 108, 109, 110, 111, 112, 113, 114, 115, 116, 163, 164, 165, 166, 167, 168, 169, 170, 171, 172, 173, 174, 175, 176, 177, 178, 179, 180, 181, 182, 183, 184, 185, 186, 187, 188, 189, 190, 191, 192, 193, 194, 195, 196, 197, 198, 199, 200, 201, 202, 203] (by decide +kernel) (by decide +kernel)
set_option maxRecDepth 20000 in
theorem gL_seen_X5_count : GoodIn wsL_seen (wsV RL 13 RX5 yX5_count wsX5_count) := goodIn_app (goodIn_of _ (by decide +kernel)) ggL_seen_X5_count
set_option maxRecDepth 20000 in
theorem ggL_seen_X5_flat : GoodIn wsL_seen wsX5_flat := goodIn_r _ [120, 8, 13, 14, 15, 16, 17, 11, 121, 122, 123, 124, 125, 26, 126, 111, 41, 42, 43, 6, 44, 45, 46, 47, 48, 28, 29, 30, 49, 50, 51, 52, 53, 54, 55, 56, 57, 37, 58, 59, 60, 61, 62, 63, 64, 65, 66, 67, 68, 69, 70, 71, 72, 73, 74, 75, 76, 77, 78, 79, 80, 81, 82, 83, 84, 85, 86, 87, 88, 89, 90, 91, 39, 40, 92, 93, 94, 95, 96, 97, 98, 99, 100, 101, 127, 128, 129, 130, 131, 132, 133, 134, 135, 163, 164, 165, 166, 167, 168, 169, 170, 171, 172, 173, 174, 175, 176, 177, 178, 179, 180, 189, 190, 191, 192, 193, 181, 182, 183, 184, 185, 186, 187, 188] (by decide +kernel) (by decide +kernel)
set_option maxRecDepth 20000 in
theorem gL_seen_X5_flat : GoodIn wsL_seen (wsV RL 19 RX5 yX5_flat wsX5_flat) := goodIn_app (goodIn_of _ (by decide +kernel)) ggL_seen_X5_flat
set_option maxRecDepth 20000 in
theorem ggL_seen_X5_device : GoodIn wsL_seen wsX5_device := goodIn_r _ [139, 8, 11, 140, 141, 142, 143, 144, 145, 146, 64, 65, 66, 67, 68, 45, 46, 47, 26, 48, 28, 29, 30, 49, 50, 51, 52, 53, 54, 55, 56, 57, 37, 58, 59, 60, 61, 62, 63, 163, 164, 165, 166, 167, 168, 169, 170, 171, 172, 173, 174, 175, 176, 177, 178, 179, 180, 181, 182, 183, 184, 185, 186, 187, 188] (by decide +kernel) (by decide +kernel)
set_option maxRecDepth 20000 in
theorem gL_seen_X5_device : GoodIn wsL_seen (wsV RL 23 RX5 yX5_device wsX5_device) := goodIn_app (goodIn_of _ (by decide +kernel)) ggL_seen_X5_device
set_option maxRecDepth 20000 in
theorem ggL_seen_X5_bill : GoodIn wsL_seen wsX5_bill := goodIn_r _ [150, 8, 151, 152, 153, 154, 59, 60, 26, 61, 57, 62, 123, 124, 125, 126, 111, 155, 113, 114, 66, 115, 116, 156, 157, 6, 158, 163, 164, 165, 166, 167, 168, 181, 182, 183, 184, 185, 186, 187, 188, 169, 170, 171, 172, 173, 174, 175, 176, 177, 178, 179, 180] (by decide +kernel) (by decide +kernel)
set_option maxRecDepth 20000 in
theorem gL_seen_X5_bill : GoodIn wsL_seen (wsV RL 26 RX5 yX5_bill wsX5_bill) := goodIn_app (goodIn_of _ (by decide +kernel)) ggL_seen_X5_bill
set_option maxRecDepth 20000 in
theorem ggL_seen_X5_units : GoodIn wsL_seen wsX5_units := goodIn_r _ [162, 8, 145, 154, 59, 60, 26, 61, 57, 62, 146, 64, 65, 66, 67, 68, 163, 164, 165, 166, 167, 168, 181, 182, 183, 184, 185, 186, 187, 188, 169, 170, 171, 172, 173, 174, 175, 176, 177, 178, 179, 180] (by decide +kernel) (by decide +kernel)
set_option maxRecDepth 20000 in
theorem gL_seen_X5_units : GoodIn wsL_seen (wsV RL 30 RX5 yX5_units wsX5_units) := goodIn_app (goodIn_of _ (by decide +kernel)) ggL_seen_X5_units
theorem dL_seen_0 : decode cL_seen 0 = .ok (.ldc2_w 9, 3) := by decide +kernel
theorem dL_seen_3 : decode cL_seen 3 = .ok (.lstore_n 1, 1) := by decide +kernel
theorem dL_seen_4 : decode cL_seen 4 = .ok (.iconst 0, 1) := by decide +kernel
theorem dL_seen_5 : decode cL_seen 5 = .ok (.istore_n 3, 1) := by decide +kernel
theorem dL_seen_6 : decode cL_seen 6 = .ok (.iload_n 3, 1) := by decide +kernel
theorem dL_seen_7 : decode cL_seen 7 = .ok (.bipush 13, 2) := by decide +kernel
theorem dL_seen_9 : decode cL_seen 9 = .ok (.if_icmp .ge 22, 3) := by decide +kernel
theorem dL_seen_12 : decode cL_seen 12 = .ok (.ldc2_w 11, 3) := by decide +kernel
theorem dL_seen_15 : decode cL_seen 15 = .ok (.lload_n 1, 1) := by decide +kernel
theorem dL_seen_16 : decode cL_seen 16 = .ok (.lmul, 1) := by decide +kernel
theorem dL_seen_17 : decode cL_seen 17 = .ok (.aload_n 0, 1) := by decide +kernel
theorem dL_seen_18 : decode cL_seen 18 = .ok (.iload_n 3, 1) := by decide +kernel
theorem dL_seen_19 : decode cL_seen 19 = .ok (.invokevirtual 13, 3) := by decide +kernel
theorem dL_seen_22 : decode cL_seen 22 = .ok (.i2l, 1) := by decide +kernel
theorem dL_seen_23 : decode cL_seen 23 = .ok (.ladd, 1) := by decide +kernel
theorem dL_seen_24 : decode cL_seen 24 = .ok (.lstore_n 1, 1) := by decide +kernel
theorem dL_seen_25 : decode cL_seen 25 = .ok (.iinc 3 1, 3) := by decide +kernel
theorem dL_seen_28 : decode cL_seen 28 = .ok (.goto (-22), 3) := by decide +kernel
theorem dL_seen_31 : decode cL_seen 31 = .ok (.iconst 0, 1) := by decide +kernel
theorem dL_seen_32 : decode cL_seen 32 = .ok (.istore_n 3, 1) := by decide +kernel
theorem dL_seen_33 : decode cL_seen 33 = .ok (.iload_n 3, 1) := by decide +kernel
theorem dL_seen_34 : decode cL_seen 34 = .ok (.bipush 8, 2) := by decide +kernel
theorem dL_seen_36 : decode cL_seen 36 = .ok (.aload_n 0, 1) := by decide +kernel
theorem dL_seen_37 : decode cL_seen 37 = .ok (.iconst 1, 1) := by decide +kernel
theorem dL_seen_38 : decode cL_seen 38 = .ok (.invokevirtual 13, 3) := by decide +kernel
theorem dL_seen_41 : decode cL_seen 41 = .ok (.imul, 1) := by decide +kernel
theorem dL_seen_42 : decode cL_seen 42 = .ok (.if_icmp .ge 29, 3) := by decide +kernel
theorem dL_seen_45 : decode cL_seen 45 = .ok (.ldc2_w 11, 3) := by decide +kernel
theorem dL_seen_48 : decode cL_seen 48 = .ok (.lload_n 1, 1) := by decide +kernel
theorem dL_seen_49 : decode cL_seen 49 = .ok (.lmul, 1) := by decide +kernel
theorem dL_seen_50 : decode cL_seen 50 = .ok (.aload_n 0, 1) := by decide +kernel
theorem dL_seen_51 : decode cL_seen 51 = .ok (.iload_n 3, 1) := by decide +kernel
theorem dL_seen_52 : decode cL_seen 52 = .ok (.bipush 8, 2) := by decide +kernel
theorem dL_seen_54 : decode cL_seen 54 = .ok (.idiv, 1) := by decide +kernel
theorem dL_seen_55 : decode cL_seen 55 = .ok (.iload_n 3, 1) := by decide +kernel
theorem dL_seen_56 : decode cL_seen 56 = .ok (.bipush 8, 2) := by decide +kernel
theorem dL_seen_58 : decode cL_seen 58 = .ok (.irem, 1) := by decide +kernel
theorem dL_seen_59 : decode cL_seen 59 = .ok (.invokevirtual 19, 3) := by decide +kernel
theorem dL_seen_62 : decode cL_seen 62 = .ok (.i2l, 1) := by decide +kernel
theorem dL_seen_63 : decode cL_seen 63 = .ok (.ladd, 1) := by decide +kernel
theorem dL_seen_64 : decode cL_seen 64 = .ok (.lstore_n 1, 1) := by decide +kernel
theorem dL_seen_65 : decode cL_seen 65 = .ok (.iinc 3 1, 3) := by decide +kernel
theorem dL_seen_68 : decode cL_seen 68 = .ok (.goto (-35), 3) := by decide +kernel
theorem dL_seen_71 : decode cL_seen 71 = .ok (.iconst 0, 1) := by decide +kernel
theorem dL_seen_72 : decode cL_seen 72 = .ok (.istore_n 3, 1) := by decide +kernel
theorem dL_seen_73 : decode cL_seen 73 = .ok (.iload_n 3, 1) := by decide +kernel
theorem dL_seen_74 : decode cL_seen 74 = .ok (.bipush 6, 2) := by decide +kernel
theorem dL_seen_76 : decode cL_seen 76 = .ok (.aload_n 0, 1) := by decide +kernel
theorem dL_seen_77 : decode cL_seen 77 = .ok (.iconst 2, 1) := by decide +kernel
theorem dL_seen_78 : decode cL_seen 78 = .ok (.invokevirtual 13, 3) := by decide +kernel
theorem dL_seen_81 : decode cL_seen 81 = .ok (.imul, 1) := by decide +kernel
theorem dL_seen_82 : decode cL_seen 82 = .ok (.if_icmp .ge 29, 3) := by decide +kernel
theorem dL_seen_85 : decode cL_seen 85 = .ok (.ldc2_w 11, 3) := by decide +kernel
theorem dL_seen_88 : decode cL_seen 88 = .ok (.lload_n 1, 1) := by decide +kernel
theorem dL_seen_89 : decode cL_seen 89 = .ok (.lmul, 1) := by decide +kernel
theorem dL_seen_90 : decode cL_seen 90 = .ok (.aload_n 0, 1) := by decide +kernel
theorem dL_seen_91 : decode cL_seen 91 = .ok (.iload_n 3, 1) := by decide +kernel
theorem dL_seen_92 : decode cL_seen 92 = .ok (.bipush 6, 2) := by decide +kernel
theorem dL_seen_94 : decode cL_seen 94 = .ok (.idiv, 1) := by decide +kernel
theorem dL_seen_95 : decode cL_seen 95 = .ok (.iload_n 3, 1) := by decide +kernel
theorem dL_seen_96 : decode cL_seen 96 = .ok (.bipush 6, 2) := by decide +kernel
theorem dL_seen_98 : decode cL_seen 98 = .ok (.irem, 1) := by decide +kernel
theorem dL_seen_99 : decode cL_seen 99 = .ok (.invokevirtual 23, 3) := by decide +kernel
theorem dL_seen_102 : decode cL_seen 102 = .ok (.i2l, 1) := by decide +kernel
theorem dL_seen_103 : decode cL_seen 103 = .ok (.ladd, 1) := by decide +kernel
theorem dL_seen_104 : decode cL_seen 104 = .ok (.lstore_n 1, 1) := by decide +kernel
theorem dL_seen_105 : decode cL_seen 105 = .ok (.iinc 3 1, 3) := by decide +kernel
theorem dL_seen_108 : decode cL_seen 108 = .ok (.goto (-35), 3) := by decide +kernel
theorem dL_seen_111 : decode cL_seen 111 = .ok (.iconst 0, 1) := by decide +kernel
theorem dL_seen_112 : decode cL_seen 112 = .ok (.istore_n 3, 1) := by decide +kernel
theorem dL_seen_113 : decode cL_seen 113 = .ok (.iload_n 3, 1) := by decide +kernel
theorem dL_seen_114 : decode cL_seen 114 = .ok (.bipush 8, 2) := by decide +kernel
theorem dL_seen_116 : decode cL_seen 116 = .ok (.aload_n 0, 1) := by decide +kernel
theorem dL_seen_117 : decode cL_seen 117 = .ok (.iconst 0, 1) := by decide +kernel
theorem dL_seen_118 : decode cL_seen 118 = .ok (.invokevirtual 13, 3) := by decide +kernel
theorem dL_seen_121 : decode cL_seen 121 = .ok (.imul, 1) := by decide +kernel
theorem dL_seen_122 : decode cL_seen 122 = .ok (.if_icmp .ge 68, 3) := by decide +kernel
theorem dL_seen_125 : decode cL_seen 125 = .ok (.iconst 0, 1) := by decide +kernel
theorem dL_seen_126 : decode cL_seen 126 = .ok (.istore 4, 2) := by decide +kernel
theorem dL_seen_128 : decode cL_seen 128 = .ok (.iload 4, 2) := by decide +kernel
theorem dL_seen_130 : decode cL_seen 130 = .ok (.iconst 4, 1) := by decide +kernel
theorem dL_seen_131 : decode cL_seen 131 = .ok (.if_icmp .ge 53, 3) := by decide +kernel
theorem dL_seen_134 : decode cL_seen 134 = .ok (.ldc2_w 11, 3) := by decide +kernel
theorem dL_seen_137 : decode cL_seen 137 = .ok (.lload_n 1, 1) := by decide +kernel
theorem dL_seen_138 : decode cL_seen 138 = .ok (.lmul, 1) := by decide +kernel
theorem dL_seen_139 : decode cL_seen 139 = .ok (.aload_n 0, 1) := by decide +kernel
theorem dL_seen_140 : decode cL_seen 140 = .ok (.iload_n 3, 1) := by decide +kernel
theorem dL_seen_141 : decode cL_seen 141 = .ok (.bipush 8, 2) := by decide +kernel
theorem dL_seen_143 : decode cL_seen 143 = .ok (.idiv, 1) := by decide +kernel
theorem dL_seen_144 : decode cL_seen 144 = .ok (.iload_n 3, 1) := by decide +kernel
theorem dL_seen_145 : decode cL_seen 145 = .ok (.bipush 8, 2) := by decide +kernel
theorem dL_seen_147 : decode cL_seen 147 = .ok (.irem, 1) := by decide +kernel
theorem dL_seen_148 : decode cL_seen 148 = .ok (.iload 4, 2) := by decide +kernel
theorem dL_seen_150 : decode cL_seen 150 = .ok (.iconst 2, 1) := by decide +kernel
theorem dL_seen_151 : decode cL_seen 151 = .ok (.irem, 1) := by decide +kernel
theorem dL_seen_152 : decode cL_seen 152 = .ok (.iconst 1, 1) := by decide +kernel
theorem dL_seen_153 : decode cL_seen 153 = .ok (.if_icmp .ne 7, 3) := by decide +kernel
theorem dL_seen_156 : decode cL_seen 156 = .ok (.iconst 1, 1) := by decide +kernel
theorem dL_seen_157 : decode cL_seen 157 = .ok (.goto 4, 3) := by decide +kernel
theorem dL_seen_160 : decode cL_seen 160 = .ok (.iconst 0, 1) := by decide +kernel
theorem dL_seen_161 : decode cL_seen 161 = .ok (.iload 4, 2) := by decide +kernel
theorem dL_seen_163 : decode cL_seen 163 = .ok (.iconst 1, 1) := by decide +kernel
theorem dL_seen_164 : decode cL_seen 164 = .ok (.if_icmp .le 7, 3) := by decide +kernel
theorem dL_seen_167 : decode cL_seen 167 = .ok (.iconst 1, 1) := by decide +kernel
theorem dL_seen_168 : decode cL_seen 168 = .ok (.goto 4, 3) := by decide +kernel
theorem dL_seen_171 : decode cL_seen 171 = .ok (.iconst 0, 1) := by decide +kernel
theorem dL_seen_172 : decode cL_seen 172 = .ok (.invokevirtual 26, 3) := by decide +kernel
theorem dL_seen_175 : decode cL_seen 175 = .ok (.i2l, 1) := by decide +kernel
theorem dL_seen_176 : decode cL_seen 176 = .ok (.ladd, 1) := by decide +kernel
theorem dL_seen_177 : decode cL_seen 177 = .ok (.lstore_n 1, 1) := by decide +kernel
theorem dL_seen_178 : decode cL_seen 178 = .ok (.iinc 4 1, 3) := by decide +kernel
theorem dL_seen_181 : decode cL_seen 181 = .ok (.goto (-53), 3) := by decide +kernel
theorem dL_seen_184 : decode cL_seen 184 = .ok (.iinc 3 1, 3) := by decide +kernel
theorem dL_seen_187 : decode cL_seen 187 = .ok (.goto (-74), 3) := by decide +kernel
theorem dL_seen_190 : decode cL_seen 190 = .ok (.iconst 0, 1) := by decide +kernel
theorem dL_seen_191 : decode cL_seen 191 = .ok (.istore_n 3, 1) := by decide +kernel
theorem dL_seen_192 : decode cL_seen 192 = .ok (.iload_n 3, 1) := by decide +kernel
theorem dL_seen_193 : decode cL_seen 193 = .ok (.bipush 20, 2) := by decide +kernel
theorem dL_seen_195 : decode cL_seen 195 = .ok (.aload_n 0, 1) := by decide +kernel
theorem dL_seen_196 : decode cL_seen 196 = .ok (.iconst 0, 1) := by decide +kernel
theorem dL_seen_197 : decode cL_seen 197 = .ok (.invokevirtual 13, 3) := by decide +kernel
theorem dL_seen_200 : decode cL_seen 200 = .ok (.imul, 1) := by decide +kernel
theorem dL_seen_201 : decode cL_seen 201 = .ok (.if_icmp .ge 29, 3) := by decide +kernel
theorem dL_seen_204 : decode cL_seen 204 = .ok (.ldc2_w 11, 3) := by decide +kernel
theorem dL_seen_207 : decode cL_seen 207 = .ok (.lload_n 1, 1) := by decide +kernel
theorem dL_seen_208 : decode cL_seen 208 = .ok (.lmul, 1) := by decide +kernel
theorem dL_seen_209 : decode cL_seen 209 = .ok (.aload_n 0, 1) := by decide +kernel
theorem dL_seen_210 : decode cL_seen 210 = .ok (.iload_n 3, 1) := by decide +kernel
theorem dL_seen_211 : decode cL_seen 211 = .ok (.bipush 20, 2) := by decide +kernel
theorem dL_seen_213 : decode cL_seen 213 = .ok (.idiv, 1) := by decide +kernel
theorem dL_seen_214 : decode cL_seen 214 = .ok (.iload_n 3, 1) := by decide +kernel
theorem dL_seen_215 : decode cL_seen 215 = .ok (.bipush 20, 2) := by decide +kernel
theorem dL_seen_217 : decode cL_seen 217 = .ok (.irem, 1) := by decide +kernel
theorem dL_seen_218 : decode cL_seen 218 = .ok (.invokevirtual 30, 3) := by decide +kernel
theorem dL_seen_221 : decode cL_seen 221 = .ok (.i2l, 1) := by decide +kernel
theorem dL_seen_222 : decode cL_seen 222 = .ok (.ladd, 1) := by decide +kernel
theorem dL_seen_223 : decode cL_seen 223 = .ok (.lstore_n 1, 1) := by decide +kernel
theorem dL_seen_224 : decode cL_seen 224 = .ok (.iinc 3 1, 3) := by decide +kernel
theorem dL_seen_227 : decode cL_seen 227 = .ok (.goto (-35), 3) := by decide +kernel
theorem dL_seen_230 : decode cL_seen 230 = .ok (.lload_n 1, 1) := by decide +kernel
theorem dL_seen_231 : decode cL_seen 231 = .ok (.lreturn, 1) := by decide +kernel
set_option maxRecDepth 20000 in
theorem ggL_refusesAny_X5_count : GoodIn wsL_refusesAny wsX5_count := goodIn_r _ [7, 8, 9, 10, 11, 12, 13, 14, 15, 16, 17, 18, 19, 20, 21, 22, 23, 24, 25, 26, 27, 28, 29, 30, 31, 32, 33, 34, 35, 36, 37, 38, 39, 6, 40, 41, 42, 43, 44, 45, 46, 47, 48, 49, 50, 51, 52, 53, 54, 55, 56, 57, 58, 59, 60, 61, 62, 63, 64, 65, 66, 67, 68, 69, 70, 71, 72, 73, 74, 75, 76, 77, 78, 79, 80, 81, 82, 83, 84, 85, 86, 87, 88, 89, 90, 91, 92, 93, 94, 95, 96, 97, 98, 99, 100, 101, 102, 103, 104, 105, 106, 107, 108, 109, 110, 111, 112, 113, 114, 115, 116, 281, 282, 283, 284, 285, 286, 287, 288, 289, 290, 291, 292, 293, 294, 295, 296, 297, 298, 299, 300, 301, 302, 303, 304, 305, 306, 307, 308, 309, 310, 311, 312, 313, 314, 315, 316, 317, 318, 319, 320, 321] (by decide +kernel) (by decide +kernel)
set_option maxRecDepth 20000 in
theorem gL_refusesAny_X5_count : GoodIn wsL_refusesAny (wsV RL 13 RX5 yX5_count wsX5_count) := goodIn_app (goodIn_of _ (by decide +kernel)) ggL_refusesAny_X5_count
set_option maxRecDepth 20000 in
theorem ggL_refusesAny_X5_addFlat : GoodIn wsL_refusesAny wsX5_addFlat := goodIn_r _ [120, 8, 10, 9, 19, 13, 121, 122, 123, 124, 125, 126, 127, 128, 129, 130, 131, 26, 132, 111, 133, 134, 135, 136, 137, 138, 52, 50, 49, 30, 37, 139, 28, 57, 62, 140, 141, 142, 66, 143, 144, 145, 68, 116, 146, 147, 148, 149, 150, 281, 282, 283, 284, 285, 286, 287, 288, 289, 290, 291, 292, 293, 294, 295, 296, 297, 298, 312, 313, 314, 299, 300, 301, 302, 303, 304, 305, 306] (by decide +kernel) (by decide +kernel)
set_option maxRecDepth 20000 in
theorem gL_refusesAny_X5_addFlat : GoodIn wsL_refusesAny (wsV RL 33 RX5 yX5_addFlat wsX5_addFlat) := goodIn_app (goodIn_of _ (by decide +kernel)) ggL_refusesAny_X5_addFlat
set_option maxRecDepth 20000 in
theorem ggL_refusesAny_X5_addDevice : GoodIn wsL_refusesAny wsX5_addDevice := goodIn_r _ [154, 8, 11, 12, 19, 155, 156, 157, 158, 159, 26, 160, 111, 121, 122, 123, 124, 125, 126, 127, 128, 129, 130, 131, 132, 133, 134, 135, 136, 137, 138, 52, 50, 49, 30, 37, 139, 28, 57, 62, 140, 141, 142, 66, 143, 144, 145, 68, 116, 146, 147, 148, 149, 150, 281, 282, 283, 284, 285, 286, 287, 288, 289, 290, 291, 292, 293, 294, 295, 296, 297, 298, 299, 300, 301, 302, 303, 304, 305, 306, 312, 313, 314] (by decide +kernel) (by decide +kernel)
set_option maxRecDepth 20000 in
theorem gL_refusesAny_X5_addDevice : GoodIn wsL_refusesAny (wsV RL 38 RX5 yX5_addDevice wsX5_addDevice) := goodIn_app (goodIn_of _ (by decide +kernel)) ggL_refusesAny_X5_addDevice
set_option maxRecDepth 20000 in
theorem ggL_refusesAny_X5_set : GoodIn wsL_refusesAny wsX5_set := goodIn_r _ [164, 165, 8, 19, 31, 32, 33, 26, 34, 28, 35, 36, 37, 121, 122, 123, 124, 125, 126, 127, 128, 129, 130, 131, 132, 111, 133, 134, 135, 136, 137, 138, 52, 50, 49, 30, 139, 57, 62, 140, 141, 142, 66, 143, 144, 145, 68, 116, 146, 147, 148, 149, 150, 166, 167, 168, 169, 281, 282, 283, 284, 285, 286, 287, 288, 289, 290, 291, 292, 293, 294, 295, 296, 297, 298, 299, 300, 301, 302, 303, 304, 305, 306, 312, 313, 314] (by decide +kernel) (by decide +kernel)
set_option maxRecDepth 20000 in
theorem gL_refusesAny_X5_set : GoodIn wsL_refusesAny (wsV RL 41 RX5 yX5_set wsX5_set) := goodIn_app (goodIn_of _ (by decide +kernel)) ggL_refusesAny_X5_set
set_option maxRecDepth 20000 in
theorem ggL_refusesAny_X5_read : GoodIn wsL_refusesAny wsX5_read := goodIn_r _ [173, 8, 11, 174, 175, 19, 176, 177, 64, 65, 66, 67, 68, 121, 122, 123, 124, 125, 126, 127, 128, 129, 130, 131, 26, 132, 111, 133, 134, 135, 136, 137, 138, 52, 50, 49, 30, 37, 139, 28, 57, 62, 140, 141, 142, 143, 144, 145, 116, 146, 147, 148, 149, 150, 45, 46, 47, 48, 29, 51, 53, 54, 55, 56, 58, 59, 60, 61, 63, 281, 282, 283, 284, 285, 286, 287, 288, 289, 290, 291, 292, 293, 294, 295, 296, 297, 298, 299, 300, 301, 302, 303, 304, 305, 306, 312, 313, 314] (by decide +kernel) (by decide +kernel)
set_option maxRecDepth 20000 in
theorem gL_refusesAny_X5_read : GoodIn wsL_refusesAny (wsV RL 45 RX5 yX5_read wsX5_read) := goodIn_app (goodIn_of _ (by decide +kernel)) ggL_refusesAny_X5_read
set_option maxRecDepth 20000 in
theorem ggL_refusesAny_X5_device : GoodIn wsL_refusesAny wsX5_device := goodIn_r _ [181, 8, 11, 155, 156, 174, 175, 182, 176, 177, 64, 65, 66, 67, 68, 45, 46, 47, 26, 48, 28, 29, 30, 49, 50, 51, 52, 53, 54, 55, 56, 57, 37, 58, 59, 60, 61, 62, 63, 281, 282, 283, 284, 285, 286, 287, 288, 289, 290, 291, 292, 293, 294, 295, 296, 297, 298, 299, 300, 301, 302, 303, 304, 305, 306] (by decide +kernel) (by decide +kernel)
set_option maxRecDepth 20000 in
theorem gL_refusesAny_X5_device : GoodIn wsL_refusesAny (wsV RL 23 RX5 yX5_device wsX5_device) := goodIn_app (goodIn_of _ (by decide +kernel)) ggL_refusesAny_X5_device
set_option maxRecDepth 20000 in
theorem ggL_refusesAny_X5_mark : GoodIn wsL_refusesAny wsX5_mark := goodIn_r _ [186, 8, 11, 182, 19, 177, 64, 65, 66, 67, 68, 121, 122, 123, 124, 125, 126, 127, 128, 129, 130, 131, 26, 132, 111, 133, 134, 135, 136, 137, 138, 52, 50, 49, 30, 37, 139, 28, 57, 62, 140, 141, 142, 143, 144, 145, 116, 146, 147, 148, 149, 150, 23, 24, 25, 27, 29, 281, 282, 283, 284, 285, 286, 287, 288, 289, 290, 291, 292, 293, 294, 295, 296, 297, 298, 299, 300, 301, 302, 303, 304, 305, 306, 312, 313, 314] (by decide +kernel) (by decide +kernel)
set_option maxRecDepth 20000 in
theorem gL_refusesAny_X5_mark : GoodIn wsL_refusesAny (wsV RL 48 RX5 yX5_mark wsX5_mark) := goodIn_app (goodIn_of _ (by decide +kernel)) ggL_refusesAny_X5_mark
set_option maxRecDepth 20000 in
theorem ggL_refusesAny_X5_move : GoodIn wsL_refusesAny wsX5_move := goodIn_r _ [190, 8, 11, 19, 191, 157, 158, 159, 26, 160, 111, 192, 113, 114, 66, 115, 116, 121, 122, 123, 124, 125, 126, 127, 128, 129, 130, 131, 132, 133, 134, 135, 136, 137, 138, 52, 50, 49, 30, 37, 139, 28, 57, 62, 140, 141, 142, 143, 144, 145, 68, 146, 147, 148, 149, 150, 193, 194, 6, 195, 196, 281, 282, 283, 284, 285, 286, 287, 288, 289, 290, 291, 292, 293, 294, 295, 296, 297, 298, 299, 300, 301, 302, 303, 304, 305, 306, 312, 313, 314] (by decide +kernel) (by decide +kernel)
set_option maxRecDepth 20000 in
theorem gL_refusesAny_X5_move : GoodIn wsL_refusesAny (wsV RL 52 RX5 yX5_move wsX5_move) := goodIn_app (goodIn_of _ (by decide +kernel)) ggL_refusesAny_X5_move
set_option maxRecDepth 20000 in
theorem ggL_refusesAny_X5_between : GoodIn wsL_refusesAny wsX5_between := goodIn_r _ [200, 8, 11, 201, 19, 157, 158, 159, 26, 160, 111, 192, 113, 114, 66, 115, 116, 121, 122, 123, 124, 125, 126, 127, 128, 129, 130, 131, 132, 133, 134, 135, 136, 137, 138, 52, 50, 49, 30, 37, 139, 28, 57, 62, 140, 141, 142, 143, 144, 145, 68, 146, 147, 148, 149, 150, 281, 282, 283, 284, 285, 286, 287, 288, 289, 290, 291, 292, 293, 294, 295, 296, 297, 298, 299, 300, 301, 302, 303, 304, 305, 306, 312, 313, 314] (by decide +kernel) (by decide +kernel)
set_option maxRecDepth 20000 in
theorem gL_refusesAny_X5_between : GoodIn wsL_refusesAny (wsV RL 55 RX5 yX5_between wsX5_between) := goodIn_app (goodIn_of _ (by decide +kernel)) ggL_refusesAny_X5_between
set_option maxRecDepth 20000 in
theorem ggL_refusesAny_X5_correct : GoodIn wsL_refusesAny wsX5_correct := goodIn_r _ [205, 8, 206, 176, 19, 18, 14, 207, 208, 59, 60, 26, 61, 57, 62, 177, 64, 65, 66, 67, 68, 121, 122, 123, 124, 125, 126, 127, 128, 129, 130, 131, 132, 111, 133, 134, 135, 136, 137, 138, 52, 50, 49, 30, 37, 139, 28, 140, 141, 142, 143, 144, 145, 116, 146, 147, 148, 149, 150, 69, 70, 71, 72, 73, 74, 75, 76, 77, 78, 79, 80, 81, 82, 83, 84, 85, 86, 87, 88, 89, 90, 91, 39, 6, 40, 92, 93, 94, 95, 96, 97, 98, 99, 100, 101, 209, 210, 211, 212, 213, 214, 215, 216, 217, 218, 113, 114, 115, 219, 220, 221, 222, 223, 224, 225, 226, 227, 194, 195, 196, 228, 229, 230, 231, 232, 233, 281, 282, 283, 284, 285, 286, 299, 300, 301, 302, 303, 304, 305, 306, 287, 288, 289, 290, 291, 292, 293, 294, 295, 296, 297, 298, 307, 308, 309, 310, 311, 312, 313, 314] (by decide +kernel) (by decide +kernel)
set_option maxRecDepth 20000 in
theorem gL_refusesAny_X5_correct : GoodIn wsL_refusesAny (wsV RL 58 RX5 yX5_correct wsX5_correct) := goodIn_app (goodIn_of _ (by decide +kernel)) ggL_refusesAny_X5_correct
set_option maxRecDepth 20000 in
theorem ggL_refusesAny_X5_flat : GoodIn wsL_refusesAny wsX5_flat := goodIn_r _ [237, 8, 13, 14, 15, 16, 17, 11, 191, 201, 157, 158, 159, 26, 160, 111, 41, 42, 43, 6, 44, 45, 46, 47, 48, 28, 29, 30, 49, 50, 51, 52, 53, 54, 55, 56, 57, 37, 58, 59, 60, 61, 62, 63, 64, 65, 66, 67, 68, 69, 70, 71, 72, 73, 74, 75, 76, 77, 78, 79, 80, 81, 82, 83, 84, 85, 86, 87, 88, 89, 90, 91, 39, 40, 92, 93, 94, 95, 96, 97, 98, 99, 100, 101, 238, 239, 240, 241, 138, 242, 215, 216, 217, 281, 282, 283, 284, 285, 286, 287, 288, 289, 290, 291, 292, 293, 294, 295, 296, 297, 298, 307, 308, 309, 310, 311, 299, 300, 301, 302, 303, 304, 305, 306] (by decide +kernel) (by decide +kernel)
set_option maxRecDepth 20000 in
theorem gL_refusesAny_X5_flat : GoodIn wsL_refusesAny (wsV RL 19 RX5 yX5_flat wsX5_flat) := goodIn_app (goodIn_of _ (by decide +kernel)) ggL_refusesAny_X5_flat
set_option maxRecDepth 20000 in
theorem ggL_refusesAny_X5_draft : GoodIn wsL_refusesAny wsX5_draft := goodIn_r _ [246, 8, 11, 14, 207, 157, 158, 159, 26, 160, 111, 192, 113, 114, 66, 115, 116, 41, 42, 43, 6, 44, 45, 46, 47, 48, 28, 29, 30, 49, 50, 51, 52, 53, 54, 55, 56, 57, 37, 58, 59, 60, 61, 62, 63, 64, 65, 67, 68, 69, 70, 71, 72, 73, 74, 75, 76, 77, 78, 79, 80, 81, 82, 83, 84, 85, 86, 87, 88, 89, 90, 91, 39, 40, 92, 93, 94, 95, 96, 97, 98, 99, 100, 101, 209, 210, 211, 212, 213, 214, 215, 216, 217, 218, 219, 220, 221, 222, 223, 224, 225, 226, 227, 147, 194, 195, 196, 228, 229, 247, 281, 282, 283, 284, 285, 286, 287, 288, 289, 290, 291, 292, 293, 294, 295, 296, 297, 298, 307, 308, 309, 310, 311, 299, 300, 301, 302, 303, 304, 305, 306] (by decide +kernel) (by decide +kernel)
set_option maxRecDepth 20000 in
theorem gL_refusesAny_X5_draft : GoodIn wsL_refusesAny (wsV RL 62 RX5 yX5_draft wsX5_draft) := goodIn_app (goodIn_of _ (by decide +kernel)) ggL_refusesAny_X5_draft
set_option maxRecDepth 20000 in
theorem ggL_refusesAny_X5_bill : GoodIn wsL_refusesAny wsX5_bill := goodIn_r _ [251, 8, 252, 253, 254, 208, 59, 60, 26, 61, 57, 62, 157, 158, 159, 160, 111, 192, 113, 114, 66, 115, 116, 247, 228, 6, 229, 281, 282, 283, 284, 285, 286, 299, 300, 301, 302, 303, 304, 305, 306, 287, 288, 289, 290, 291, 292, 293, 294, 295, 296, 297, 298] (by decide +kernel) (by decide +kernel)
set_option maxRecDepth 20000 in
theorem gL_refusesAny_X5_bill : GoodIn wsL_refusesAny (wsV RL 26 RX5 yX5_bill wsX5_bill) := goodIn_app (goodIn_of _ (by decide +kernel)) ggL_refusesAny_X5_bill
set_option maxRecDepth 20000 in
theorem ggL_refusesAny_X5_units : GoodIn wsL_refusesAny wsX5_units := goodIn_r _ [258, 8, 176, 208, 59, 60, 26, 61, 57, 62, 177, 64, 65, 66, 67, 68, 281, 282, 283, 284, 285, 286, 299, 300, 301, 302, 303, 304, 305, 306, 287, 288, 289, 290, 291, 292, 293, 294, 295, 296, 297, 298] (by decide +kernel) (by decide +kernel)
set_option maxRecDepth 20000 in
theorem gL_refusesAny_X5_units : GoodIn wsL_refusesAny (wsV RL 30 RX5 yX5_units wsX5_units) := goodIn_app (goodIn_of _ (by decide +kernel)) ggL_refusesAny_X5_units
set_option maxRecDepth 20000 in
theorem ggL_refusesAny_X5_greatest : GoodIn wsL_refusesAny wsX5_greatest := goodIn_r _ [262, 8, 10, 14, 41, 42, 43, 6, 44, 11, 45, 46, 47, 26, 48, 28, 29, 30, 49, 50, 51, 52, 53, 54, 55, 56, 57, 37, 58, 59, 60, 61, 62, 63, 64, 65, 66, 67, 68, 69, 70, 71, 72, 73, 74, 75, 76, 77, 78, 79, 80, 81, 82, 83, 84, 85, 86, 87, 88, 89, 90, 91, 39, 40, 92, 93, 94, 95, 96, 97, 98, 99, 100, 101, 263, 264, 265, 266, 281, 282, 283, 284, 285, 286, 287, 288, 289, 290, 291, 292, 293, 294, 295, 296, 297, 298, 299, 300, 301, 302, 303, 304, 305, 306, 307, 308, 309, 310, 311] (by decide +kernel) (by decide +kernel)
set_option maxRecDepth 20000 in
theorem gL_refusesAny_X5_greatest : GoodIn wsL_refusesAny (wsV RL 65 RX5 yX5_greatest wsX5_greatest) := goodIn_app (goodIn_of _ (by decide +kernel)) ggL_refusesAny_X5_greatest
set_option maxRecDepth 20000 in
theorem ggL_refusesAny_X5_billIf : GoodIn wsL_refusesAny wsX5_billIf := goodIn_r _ [270, 8, 157, 158, 159, 26, 160, 111, 41, 42, 43, 6, 44, 14, 11, 45, 46, 47, 48, 28, 29, 30, 49, 50, 51, 52, 53, 54, 55, 56, 57, 37, 58, 59, 60, 61, 62, 63, 64, 65, 66, 67, 68, 69, 70, 71, 72, 73, 74, 75, 76, 77, 78, 79, 80, 81, 82, 83, 84, 85, 86, 87, 88, 89, 90, 91, 39, 40, 92, 93, 94, 95, 96, 97, 98, 99, 100, 101, 271, 272, 273, 274, 275, 276, 242, 215, 216, 217, 281, 282, 283, 284, 285, 286, 287, 288, 289, 290, 291, 292, 293, 294, 295, 296, 297, 298, 299, 300, 301, 302, 303, 304, 305, 306, 307, 308, 309, 310, 311] (by decide +kernel) (by decide +kernel)
set_option maxRecDepth 20000 in
theorem gL_refusesAny_X5_billIf : GoodIn wsL_refusesAny (wsV RL 68 RX5 yX5_billIf wsX5_billIf) := goodIn_app (goodIn_of _ (by decide +kernel)) ggL_refusesAny_X5_billIf
set_option maxRecDepth 20000 in
theorem ggL_refusesAny_X5_bestShare : GoodIn wsL_refusesAny wsX5_bestShare := goodIn_r _ [280, 8, 157, 158, 159, 26, 160, 111, 41, 42, 43, 6, 44, 14, 11, 45, 46, 47, 48, 28, 29, 30, 49, 50, 51, 52, 53, 54, 55, 56, 57, 37, 58, 59, 60, 61, 62, 63, 64, 65, 66, 67, 68, 69, 70, 71, 72, 73, 74, 75, 76, 77, 78, 79, 80, 81, 82, 83, 84, 85, 86, 87, 88, 89, 90, 91, 39, 40, 92, 93, 94, 95, 96, 97, 98, 99, 100, 101, 271, 272, 273, 274, 275, 276, 242, 215, 216, 217, 281, 282, 283, 284, 285, 286, 287, 288, 289, 290, 291, 292, 293, 294, 295, 296, 297, 298, 299, 300, 301, 302, 303, 304, 305, 306, 307, 308, 309, 310, 311] (by decide +kernel) (by decide +kernel)
set_option maxRecDepth 20000 in
theorem gL_refusesAny_X5_bestShare : GoodIn wsL_refusesAny (wsV RL 71 RX5 yX5_bestShare wsX5_bestShare) := goodIn_app (goodIn_of _ (by decide +kernel)) ggL_refusesAny_X5_bestShare
theorem dL_refusesAny_0 : decode cL_refusesAny 0 = .ok (.iload_n 1, 1) := by decide +kernel
theorem dL_refusesAny_1 : decode cL_refusesAny 1 = .ok (.ifCond .ne 7, 3) := by decide +kernel
theorem dL_refusesAny_4 : decode cL_refusesAny 4 = .ok (.iconst (-1), 1) := by decide +kernel
theorem dL_refusesAny_5 : decode cL_refusesAny 5 = .ok (.goto 8, 3) := by decide +kernel
theorem dL_refusesAny_8 : decode cL_refusesAny 8 = .ok (.aload_n 0, 1) := by decide +kernel
theorem dL_refusesAny_9 : decode cL_refusesAny 9 = .ok (.iconst 1, 1) := by decide +kernel
theorem dL_refusesAny_10 : decode cL_refusesAny 10 = .ok (.invokevirtual 13, 3) := by decide +kernel
theorem dL_refusesAny_13 : decode cL_refusesAny 13 = .ok (.istore_n 2, 1) := by decide +kernel
theorem dL_refusesAny_14 : decode cL_refusesAny 14 = .ok (.iload_n 1, 1) := by decide +kernel
theorem dL_refusesAny_15 : decode cL_refusesAny 15 = .ok (.ifCond .ne 7, 3) := by decide +kernel
theorem dL_refusesAny_18 : decode cL_refusesAny 18 = .ok (.iconst (-1), 1) := by decide +kernel
theorem dL_refusesAny_19 : decode cL_refusesAny 19 = .ok (.goto 8, 3) := by decide +kernel
theorem dL_refusesAny_22 : decode cL_refusesAny 22 = .ok (.aload_n 0, 1) := by decide +kernel
theorem dL_refusesAny_23 : decode cL_refusesAny 23 = .ok (.iconst 2, 1) := by decide +kernel
theorem dL_refusesAny_24 : decode cL_refusesAny 24 = .ok (.invokevirtual 13, 3) := by decide +kernel
theorem dL_refusesAny_27 : decode cL_refusesAny 27 = .ok (.istore_n 3, 1) := by decide +kernel
theorem dL_refusesAny_28 : decode cL_refusesAny 28 = .ok (.iload_n 1, 1) := by decide +kernel
theorem dL_refusesAny_29 : decode cL_refusesAny 29 = .ok (.ifCond .ne 7, 3) := by decide +kernel
theorem dL_refusesAny_32 : decode cL_refusesAny 32 = .ok (.iconst (-1), 1) := by decide +kernel
theorem dL_refusesAny_33 : decode cL_refusesAny 33 = .ok (.goto 8, 3) := by decide +kernel
theorem dL_refusesAny_36 : decode cL_refusesAny 36 = .ok (.aload_n 0, 1) := by decide +kernel
theorem dL_refusesAny_37 : decode cL_refusesAny 37 = .ok (.iconst 0, 1) := by decide +kernel
theorem dL_refusesAny_38 : decode cL_refusesAny 38 = .ok (.invokevirtual 13, 3) := by decide +kernel
theorem dL_refusesAny_41 : decode cL_refusesAny 41 = .ok (.istore 4, 2) := by decide +kernel
theorem dL_refusesAny_43 : decode cL_refusesAny 43 = .ok (.aload_n 0, 1) := by decide +kernel
theorem dL_refusesAny_44 : decode cL_refusesAny 44 = .ok (.iload_n 1, 1) := by decide +kernel
theorem dL_refusesAny_45 : decode cL_refusesAny 45 = .ok (.ifCond .ne 7, 3) := by decide +kernel
theorem dL_refusesAny_48 : decode cL_refusesAny 48 = .ok (.iconst 0, 1) := by decide +kernel
theorem dL_refusesAny_49 : decode cL_refusesAny 49 = .ok (.goto 6, 3) := by decide +kernel
theorem dL_refusesAny_52 : decode cL_refusesAny 52 = .ok (.sipush 201, 3) := by decide +kernel
theorem dL_refusesAny_55 : decode cL_refusesAny 55 = .ok (.invokevirtual 33, 3) := by decide +kernel
theorem dL_refusesAny_58 : decode cL_refusesAny 58 = .ok (.bipush (-2), 2) := by decide +kernel
theorem dL_refusesAny_60 : decode cL_refusesAny 60 = .ok (.if_icmp .ne 211, 3) := by decide +kernel
theorem dL_refusesAny_63 : decode cL_refusesAny 63 = .ok (.aload_n 0, 1) := by decide +kernel
theorem dL_refusesAny_64 : decode cL_refusesAny 64 = .ok (.iload_n 2, 1) := by decide +kernel
theorem dL_refusesAny_65 : decode cL_refusesAny 65 = .ok (.bipush 99, 2) := by decide +kernel
theorem dL_refusesAny_67 : decode cL_refusesAny 67 = .ok (.invokevirtual 38, 3) := by decide +kernel
theorem dL_refusesAny_70 : decode cL_refusesAny 70 = .ok (.iconst (-1), 1) := by decide +kernel
theorem dL_refusesAny_71 : decode cL_refusesAny 71 = .ok (.if_icmp .ne 200, 3) := by decide +kernel
theorem dL_refusesAny_74 : decode cL_refusesAny 74 = .ok (.aload_n 0, 1) := by decide +kernel
theorem dL_refusesAny_75 : decode cL_refusesAny 75 = .ok (.iconst 0, 1) := by decide +kernel
theorem dL_refusesAny_76 : decode cL_refusesAny 76 = .ok (.iload_n 1, 1) := by decide +kernel
theorem dL_refusesAny_77 : decode cL_refusesAny 77 = .ok (.ifCond .ne 7, 3) := by decide +kernel
theorem dL_refusesAny_80 : decode cL_refusesAny 80 = .ok (.iconst 0, 1) := by decide +kernel
theorem dL_refusesAny_81 : decode cL_refusesAny 81 = .ok (.goto 5, 3) := by decide +kernel
theorem dL_refusesAny_84 : decode cL_refusesAny 84 = .ok (.bipush 21, 2) := by decide +kernel
theorem dL_refusesAny_86 : decode cL_refusesAny 86 = .ok (.invokevirtual 38, 3) := by decide +kernel
theorem dL_refusesAny_89 : decode cL_refusesAny 89 = .ok (.bipush (-2), 2) := by decide +kernel
theorem dL_refusesAny_91 : decode cL_refusesAny 91 = .ok (.if_icmp .ne 180, 3) := by decide +kernel
theorem dL_refusesAny_94 : decode cL_refusesAny 94 = .ok (.aload_n 0, 1) := by decide +kernel
theorem dL_refusesAny_95 : decode cL_refusesAny 95 = .ok (.iload_n 1, 1) := by decide +kernel
theorem dL_refusesAny_96 : decode cL_refusesAny 96 = .ok (.ifCond .ne 7, 3) := by decide +kernel
theorem dL_refusesAny_99 : decode cL_refusesAny 99 = .ok (.iconst (-1), 1) := by decide +kernel
theorem dL_refusesAny_100 : decode cL_refusesAny 100 = .ok (.goto 4, 3) := by decide +kernel
theorem dL_refusesAny_103 : decode cL_refusesAny 103 = .ok (.iconst 3, 1) := by decide +kernel
theorem dL_refusesAny_104 : decode cL_refusesAny 104 = .ok (.iconst 0, 1) := by decide +kernel
theorem dL_refusesAny_105 : decode cL_refusesAny 105 = .ok (.invokevirtual 41, 3) := by decide +kernel
theorem dL_refusesAny_108 : decode cL_refusesAny 108 = .ok (.bipush (-2), 2) := by decide +kernel
theorem dL_refusesAny_110 : decode cL_refusesAny 110 = .ok (.if_icmp .ne 161, 3) := by decide +kernel
theorem dL_refusesAny_113 : decode cL_refusesAny 113 = .ok (.aload_n 0, 1) := by decide +kernel
theorem dL_refusesAny_114 : decode cL_refusesAny 114 = .ok (.iconst 0, 1) := by decide +kernel
theorem dL_refusesAny_115 : decode cL_refusesAny 115 = .ok (.iload_n 1, 1) := by decide +kernel
theorem dL_refusesAny_116 : decode cL_refusesAny 116 = .ok (.ifCond .ne 7, 3) := by decide +kernel
theorem dL_refusesAny_119 : decode cL_refusesAny 119 = .ok (.iconst (-1), 1) := by decide +kernel
theorem dL_refusesAny_120 : decode cL_refusesAny 120 = .ok (.goto 5, 3) := by decide +kernel
theorem dL_refusesAny_123 : decode cL_refusesAny 123 = .ok (.ldc 44, 2) := by decide +kernel
theorem dL_refusesAny_125 : decode cL_refusesAny 125 = .ok (.invokevirtual 41, 3) := by decide +kernel
theorem dL_refusesAny_128 : decode cL_refusesAny 128 = .ok (.bipush (-2), 2) := by decide +kernel
theorem dL_refusesAny_130 : decode cL_refusesAny 130 = .ok (.if_icmp .ne 141, 3) := by decide +kernel
theorem dL_refusesAny_133 : decode cL_refusesAny 133 = .ok (.aload_n 0, 1) := by decide +kernel
theorem dL_refusesAny_134 : decode cL_refusesAny 134 = .ok (.iconst 1, 1) := by decide +kernel
theorem dL_refusesAny_135 : decode cL_refusesAny 135 = .ok (.iload_n 1, 1) := by decide +kernel
theorem dL_refusesAny_136 : decode cL_refusesAny 136 = .ok (.ifCond .ne 7, 3) := by decide +kernel
theorem dL_refusesAny_139 : decode cL_refusesAny 139 = .ok (.iconst (-1), 1) := by decide +kernel
theorem dL_refusesAny_140 : decode cL_refusesAny 140 = .ok (.goto 5, 3) := by decide +kernel
theorem dL_refusesAny_143 : decode cL_refusesAny 143 = .ok (.bipush 101, 2) := by decide +kernel
theorem dL_refusesAny_145 : decode cL_refusesAny 145 = .ok (.invokevirtual 41, 3) := by decide +kernel
theorem dL_refusesAny_148 : decode cL_refusesAny 148 = .ok (.bipush (-2), 2) := by decide +kernel
theorem dL_refusesAny_150 : decode cL_refusesAny 150 = .ok (.if_icmp .ne 121, 3) := by decide +kernel
theorem dL_refusesAny_153 : decode cL_refusesAny 153 = .ok (.aload_n 0, 1) := by decide +kernel
theorem dL_refusesAny_154 : decode cL_refusesAny 154 = .ok (.iconst 2, 1) := by decide +kernel
theorem dL_refusesAny_155 : decode cL_refusesAny 155 = .ok (.iload_n 1, 1) := by decide +kernel
theorem dL_refusesAny_156 : decode cL_refusesAny 156 = .ok (.ifCond .ne 7, 3) := by decide +kernel
theorem dL_refusesAny_159 : decode cL_refusesAny 159 = .ok (.iconst (-1), 1) := by decide +kernel
theorem dL_refusesAny_160 : decode cL_refusesAny 160 = .ok (.goto 4, 3) := by decide +kernel
theorem dL_refusesAny_163 : decode cL_refusesAny 163 = .ok (.iconst 2, 1) := by decide +kernel
theorem dL_refusesAny_164 : decode cL_refusesAny 164 = .ok (.invokevirtual 41, 3) := by decide +kernel
theorem dL_refusesAny_167 : decode cL_refusesAny 167 = .ok (.bipush (-2), 2) := by decide +kernel
theorem dL_refusesAny_169 : decode cL_refusesAny 169 = .ok (.if_icmp .ne 102, 3) := by decide +kernel
theorem dL_refusesAny_172 : decode cL_refusesAny 172 = .ok (.aload_n 0, 1) := by decide +kernel
theorem dL_refusesAny_173 : decode cL_refusesAny 173 = .ok (.iload_n 1, 1) := by decide +kernel
theorem dL_refusesAny_174 : decode cL_refusesAny 174 = .ok (.aload_n 0, 1) := by decide +kernel
theorem dL_refusesAny_175 : decode cL_refusesAny 175 = .ok (.iconst 4, 1) := by decide +kernel
theorem dL_refusesAny_176 : decode cL_refusesAny 176 = .ok (.iload_n 1, 1) := by decide +kernel
theorem dL_refusesAny_177 : decode cL_refusesAny 177 = .ok (.iadd, 1) := by decide +kernel
theorem dL_refusesAny_178 : decode cL_refusesAny 178 = .ok (.invokevirtual 13, 3) := by decide +kernel
theorem dL_refusesAny_181 : decode cL_refusesAny 181 = .ok (.invokevirtual 41, 3) := by decide +kernel
theorem dL_refusesAny_184 : decode cL_refusesAny 184 = .ok (.bipush (-5), 2) := by decide +kernel
theorem dL_refusesAny_186 : decode cL_refusesAny 186 = .ok (.if_icmp .ne 85, 3) := by decide +kernel
theorem dL_refusesAny_189 : decode cL_refusesAny 189 = .ok (.aload_n 0, 1) := by decide +kernel
theorem dL_refusesAny_190 : decode cL_refusesAny 190 = .ok (.iload_n 3, 1) := by decide +kernel
theorem dL_refusesAny_191 : decode cL_refusesAny 191 = .ok (.iconst (-1), 1) := by decide +kernel
theorem dL_refusesAny_192 : decode cL_refusesAny 192 = .ok (.invokevirtual 45, 3) := by decide +kernel
theorem dL_refusesAny_195 : decode cL_refusesAny 195 = .ok (.iconst (-1), 1) := by decide +kernel
theorem dL_refusesAny_196 : decode cL_refusesAny 196 = .ok (.if_icmp .ne 75, 3) := by decide +kernel
theorem dL_refusesAny_199 : decode cL_refusesAny 199 = .ok (.aload_n 0, 1) := by decide +kernel
theorem dL_refusesAny_200 : decode cL_refusesAny 200 = .ok (.iconst 0, 1) := by decide +kernel
theorem dL_refusesAny_201 : decode cL_refusesAny 201 = .ok (.iload_n 1, 1) := by decide +kernel
theorem dL_refusesAny_202 : decode cL_refusesAny 202 = .ok (.ifCond .ne 7, 3) := by decide +kernel
theorem dL_refusesAny_205 : decode cL_refusesAny 205 = .ok (.iconst (-1), 1) := by decide +kernel
theorem dL_refusesAny_206 : decode cL_refusesAny 206 = .ok (.goto 6, 3) := by decide +kernel
theorem dL_refusesAny_209 : decode cL_refusesAny 209 = .ok (.sipush 10000, 3) := by decide +kernel
theorem dL_refusesAny_212 : decode cL_refusesAny 212 = .ok (.invokevirtual 45, 3) := by decide +kernel
theorem dL_refusesAny_215 : decode cL_refusesAny 215 = .ok (.bipush (-2), 2) := by decide +kernel
theorem dL_refusesAny_217 : decode cL_refusesAny 217 = .ok (.if_icmp .ne 54, 3) := by decide +kernel
theorem dL_refusesAny_220 : decode cL_refusesAny 220 = .ok (.aload_n 0, 1) := by decide +kernel
theorem dL_refusesAny_221 : decode cL_refusesAny 221 = .ok (.iconst 0, 1) := by decide +kernel
theorem dL_refusesAny_222 : decode cL_refusesAny 222 = .ok (.aload_n 0, 1) := by decide +kernel
theorem dL_refusesAny_223 : decode cL_refusesAny 223 = .ok (.iconst 0, 1) := by decide +kernel
theorem dL_refusesAny_224 : decode cL_refusesAny 224 = .ok (.iconst 3, 1) := by decide +kernel
theorem dL_refusesAny_225 : decode cL_refusesAny 225 = .ok (.invokevirtual 23, 3) := by decide +kernel
theorem dL_refusesAny_228 : decode cL_refusesAny 228 = .ok (.invokevirtual 45, 3) := by decide +kernel
theorem dL_refusesAny_231 : decode cL_refusesAny 231 = .ok (.bipush (-5), 2) := by decide +kernel
theorem dL_refusesAny_233 : decode cL_refusesAny 233 = .ok (.if_icmp .ne 38, 3) := by decide +kernel
theorem dL_refusesAny_236 : decode cL_refusesAny 236 = .ok (.aload_n 0, 1) := by decide +kernel
theorem dL_refusesAny_237 : decode cL_refusesAny 237 = .ok (.iload_n 3, 1) := by decide +kernel
theorem dL_refusesAny_238 : decode cL_refusesAny 238 = .ok (.iconst 1, 1) := by decide +kernel
theorem dL_refusesAny_239 : decode cL_refusesAny 239 = .ok (.invokevirtual 48, 3) := by decide +kernel
theorem dL_refusesAny_242 : decode cL_refusesAny 242 = .ok (.iconst (-1), 1) := by decide +kernel
theorem dL_refusesAny_243 : decode cL_refusesAny 243 = .ok (.if_icmp .ne 28, 3) := by decide +kernel
theorem dL_refusesAny_246 : decode cL_refusesAny 246 = .ok (.aload_n 0, 1) := by decide +kernel
theorem dL_refusesAny_247 : decode cL_refusesAny 247 = .ok (.iconst 0, 1) := by decide +kernel
theorem dL_refusesAny_248 : decode cL_refusesAny 248 = .ok (.aload_n 0, 1) := by decide +kernel
theorem dL_refusesAny_249 : decode cL_refusesAny 249 = .ok (.iconst 0, 1) := by decide +kernel
theorem dL_refusesAny_250 : decode cL_refusesAny 250 = .ok (.iconst 4, 1) := by decide +kernel
theorem dL_refusesAny_251 : decode cL_refusesAny 251 = .ok (.invokevirtual 23, 3) := by decide +kernel
theorem dL_refusesAny_254 : decode cL_refusesAny 254 = .ok (.iconst 1, 1) := by decide +kernel
theorem dL_refusesAny_255 : decode cL_refusesAny 255 = .ok (.if_icmp .ne 7, 3) := by decide +kernel
theorem dL_refusesAny_258 : decode cL_refusesAny 258 = .ok (.iconst 1, 1) := by decide +kernel
theorem dL_refusesAny_259 : decode cL_refusesAny 259 = .ok (.goto 4, 3) := by decide +kernel
theorem dL_refusesAny_262 : decode cL_refusesAny 262 = .ok (.iconst 0, 1) := by decide +kernel
theorem dL_refusesAny_263 : decode cL_refusesAny 263 = .ok (.invokevirtual 48, 3) := by decide +kernel
theorem dL_refusesAny_266 : decode cL_refusesAny 266 = .ok (.bipush (-5), 2) := by decide +kernel
theorem dL_refusesAny_268 : decode cL_refusesAny 268 = .ok (.if_icmp .eq 5, 3) := by decide +kernel
theorem dL_refusesAny_271 : decode cL_refusesAny 271 = .ok (.iconst 0, 1) := by decide +kernel
theorem dL_refusesAny_272 : decode cL_refusesAny 272 = .ok (.ireturn, 1) := by decide +kernel
theorem dL_refusesAny_273 : decode cL_refusesAny 273 = .ok (.aload_n 0, 1) := by decide +kernel
theorem dL_refusesAny_274 : decode cL_refusesAny 274 = .ok (.iload_n 2, 1) := by decide +kernel
theorem dL_refusesAny_275 : decode cL_refusesAny 275 = .ok (.iconst 0, 1) := by decide +kernel
theorem dL_refusesAny_276 : decode cL_refusesAny 276 = .ok (.invokevirtual 52, 3) := by decide +kernel
theorem dL_refusesAny_279 : decode cL_refusesAny 279 = .ok (.iconst (-1), 1) := by decide +kernel
theorem dL_refusesAny_280 : decode cL_refusesAny 280 = .ok (.if_icmp .ne 241, 3) := by decide +kernel
theorem dL_refusesAny_283 : decode cL_refusesAny 283 = .ok (.aload_n 0, 1) := by decide +kernel
theorem dL_refusesAny_284 : decode cL_refusesAny 284 = .ok (.iconst 0, 1) := by decide +kernel
theorem dL_refusesAny_285 : decode cL_refusesAny 285 = .ok (.iload_n 1, 1) := by decide +kernel
theorem dL_refusesAny_286 : decode cL_refusesAny 286 = .ok (.ifCond .ne 7, 3) := by decide +kernel
theorem dL_refusesAny_289 : decode cL_refusesAny 289 = .ok (.iconst 0, 1) := by decide +kernel
theorem dL_refusesAny_290 : decode cL_refusesAny 290 = .ok (.goto 5, 3) := by decide +kernel
theorem dL_refusesAny_293 : decode cL_refusesAny 293 = .ok (.bipush 12, 2) := by decide +kernel
theorem dL_refusesAny_295 : decode cL_refusesAny 295 = .ok (.invokevirtual 52, 3) := by decide +kernel
theorem dL_refusesAny_298 : decode cL_refusesAny 298 = .ok (.bipush (-2), 2) := by decide +kernel
theorem dL_refusesAny_300 : decode cL_refusesAny 300 = .ok (.if_icmp .ne 221, 3) := by decide +kernel
theorem dL_refusesAny_303 : decode cL_refusesAny 303 = .ok (.aload_n 0, 1) := by decide +kernel
theorem dL_refusesAny_304 : decode cL_refusesAny 304 = .ok (.iload_n 2, 1) := by decide +kernel
theorem dL_refusesAny_305 : decode cL_refusesAny 305 = .ok (.iconst (-1), 1) := by decide +kernel
theorem dL_refusesAny_306 : decode cL_refusesAny 306 = .ok (.invokevirtual 55, 3) := by decide +kernel
theorem dL_refusesAny_309 : decode cL_refusesAny 309 = .ok (.iconst (-1), 1) := by decide +kernel
theorem dL_refusesAny_310 : decode cL_refusesAny 310 = .ok (.if_icmp .ne 211, 3) := by decide +kernel
theorem dL_refusesAny_313 : decode cL_refusesAny 313 = .ok (.aload_n 0, 1) := by decide +kernel
theorem dL_refusesAny_314 : decode cL_refusesAny 314 = .ok (.iconst 0, 1) := by decide +kernel
theorem dL_refusesAny_315 : decode cL_refusesAny 315 = .ok (.iload_n 1, 1) := by decide +kernel
theorem dL_refusesAny_316 : decode cL_refusesAny 316 = .ok (.ifCond .ne 7, 3) := by decide +kernel
theorem dL_refusesAny_319 : decode cL_refusesAny 319 = .ok (.iconst (-1), 1) := by decide +kernel
theorem dL_refusesAny_320 : decode cL_refusesAny 320 = .ok (.goto 6, 3) := by decide +kernel
theorem dL_refusesAny_323 : decode cL_refusesAny 323 = .ok (.sipush 1001, 3) := by decide +kernel
theorem dL_refusesAny_326 : decode cL_refusesAny 326 = .ok (.invokevirtual 55, 3) := by decide +kernel
theorem dL_refusesAny_329 : decode cL_refusesAny 329 = .ok (.bipush (-2), 2) := by decide +kernel
theorem dL_refusesAny_331 : decode cL_refusesAny 331 = .ok (.if_icmp .ne 190, 3) := by decide +kernel
theorem dL_refusesAny_334 : decode cL_refusesAny 334 = .ok (.aload_n 0, 1) := by decide +kernel
theorem dL_refusesAny_335 : decode cL_refusesAny 335 = .ok (.iload 4, 2) := by decide +kernel
theorem dL_refusesAny_337 : decode cL_refusesAny 337 = .ok (.iconst 0, 1) := by decide +kernel
theorem dL_refusesAny_338 : decode cL_refusesAny 338 = .ok (.iconst (-1), 1) := by decide +kernel
theorem dL_refusesAny_339 : decode cL_refusesAny 339 = .ok (.invokevirtual 58, 3) := by decide +kernel
theorem dL_refusesAny_342 : decode cL_refusesAny 342 = .ok (.iconst (-1), 1) := by decide +kernel
theorem dL_refusesAny_343 : decode cL_refusesAny 343 = .ok (.if_icmp .ne 178, 3) := by decide +kernel
theorem dL_refusesAny_346 : decode cL_refusesAny 346 = .ok (.aload_n 0, 1) := by decide +kernel
theorem dL_refusesAny_347 : decode cL_refusesAny 347 = .ok (.iload_n 2, 1) := by decide +kernel
theorem dL_refusesAny_348 : decode cL_refusesAny 348 = .ok (.bipush 99, 2) := by decide +kernel
theorem dL_refusesAny_350 : decode cL_refusesAny 350 = .ok (.invokevirtual 19, 3) := by decide +kernel
theorem dL_refusesAny_353 : decode cL_refusesAny 353 = .ok (.iconst (-1), 1) := by decide +kernel
theorem dL_refusesAny_354 : decode cL_refusesAny 354 = .ok (.if_icmp .ne 167, 3) := by decide +kernel
theorem dL_refusesAny_357 : decode cL_refusesAny 357 = .ok (.aload_n 0, 1) := by decide +kernel
theorem dL_refusesAny_358 : decode cL_refusesAny 358 = .ok (.iconst 0, 1) := by decide +kernel
theorem dL_refusesAny_359 : decode cL_refusesAny 359 = .ok (.iload_n 1, 1) := by decide +kernel
theorem dL_refusesAny_360 : decode cL_refusesAny 360 = .ok (.ifCond .ne 7, 3) := by decide +kernel
theorem dL_refusesAny_363 : decode cL_refusesAny 363 = .ok (.iconst (-1), 1) := by decide +kernel
theorem dL_refusesAny_364 : decode cL_refusesAny 364 = .ok (.goto 5, 3) := by decide +kernel
theorem dL_refusesAny_367 : decode cL_refusesAny 367 = .ok (.bipush 8, 2) := by decide +kernel
theorem dL_refusesAny_369 : decode cL_refusesAny 369 = .ok (.invokevirtual 19, 3) := by decide +kernel
theorem dL_refusesAny_372 : decode cL_refusesAny 372 = .ok (.bipush (-2), 2) := by decide +kernel
theorem dL_refusesAny_374 : decode cL_refusesAny 374 = .ok (.if_icmp .ne 147, 3) := by decide +kernel
theorem dL_refusesAny_377 : decode cL_refusesAny 377 = .ok (.aload_n 0, 1) := by decide +kernel
theorem dL_refusesAny_378 : decode cL_refusesAny 378 = .ok (.iload_n 3, 1) := by decide +kernel
theorem dL_refusesAny_379 : decode cL_refusesAny 379 = .ok (.bipush 99, 2) := by decide +kernel
theorem dL_refusesAny_381 : decode cL_refusesAny 381 = .ok (.invokevirtual 23, 3) := by decide +kernel
theorem dL_refusesAny_384 : decode cL_refusesAny 384 = .ok (.iconst (-1), 1) := by decide +kernel
theorem dL_refusesAny_385 : decode cL_refusesAny 385 = .ok (.if_icmp .ne 136, 3) := by decide +kernel
theorem dL_refusesAny_388 : decode cL_refusesAny 388 = .ok (.aload_n 0, 1) := by decide +kernel
theorem dL_refusesAny_389 : decode cL_refusesAny 389 = .ok (.iconst 0, 1) := by decide +kernel
theorem dL_refusesAny_390 : decode cL_refusesAny 390 = .ok (.iload_n 1, 1) := by decide +kernel
theorem dL_refusesAny_391 : decode cL_refusesAny 391 = .ok (.ifCond .ne 7, 3) := by decide +kernel
theorem dL_refusesAny_394 : decode cL_refusesAny 394 = .ok (.iconst (-1), 1) := by decide +kernel
theorem dL_refusesAny_395 : decode cL_refusesAny 395 = .ok (.goto 5, 3) := by decide +kernel
theorem dL_refusesAny_398 : decode cL_refusesAny 398 = .ok (.bipush 6, 2) := by decide +kernel
theorem dL_refusesAny_400 : decode cL_refusesAny 400 = .ok (.invokevirtual 23, 3) := by decide +kernel
theorem dL_refusesAny_403 : decode cL_refusesAny 403 = .ok (.bipush (-2), 2) := by decide +kernel
theorem dL_refusesAny_405 : decode cL_refusesAny 405 = .ok (.if_icmp .ne 116, 3) := by decide +kernel
theorem dL_refusesAny_408 : decode cL_refusesAny 408 = .ok (.aload_n 0, 1) := by decide +kernel
theorem dL_refusesAny_409 : decode cL_refusesAny 409 = .ok (.iload_n 2, 1) := by decide +kernel
theorem dL_refusesAny_410 : decode cL_refusesAny 410 = .ok (.iconst 0, 1) := by decide +kernel
theorem dL_refusesAny_411 : decode cL_refusesAny 411 = .ok (.invokevirtual 62, 3) := by decide +kernel
theorem dL_refusesAny_414 : decode cL_refusesAny 414 = .ok (.iconst (-1), 1) := by decide +kernel
theorem dL_refusesAny_415 : decode cL_refusesAny 415 = .ok (.if_icmp .ne 106, 3) := by decide +kernel
theorem dL_refusesAny_418 : decode cL_refusesAny 418 = .ok (.aload_n 0, 1) := by decide +kernel
theorem dL_refusesAny_419 : decode cL_refusesAny 419 = .ok (.iload 4, 2) := by decide +kernel
theorem dL_refusesAny_421 : decode cL_refusesAny 421 = .ok (.iconst 0, 1) := by decide +kernel
theorem dL_refusesAny_422 : decode cL_refusesAny 422 = .ok (.iconst 0, 1) := by decide +kernel
theorem dL_refusesAny_423 : decode cL_refusesAny 423 = .ok (.iconst 0, 1) := by decide +kernel
theorem dL_refusesAny_424 : decode cL_refusesAny 424 = .ok (.invokevirtual 26, 3) := by decide +kernel
theorem dL_refusesAny_427 : decode cL_refusesAny 427 = .ok (.iconst (-1), 1) := by decide +kernel
theorem dL_refusesAny_428 : decode cL_refusesAny 428 = .ok (.if_icmp .ne 93, 3) := by decide +kernel
theorem dL_refusesAny_431 : decode cL_refusesAny 431 = .ok (.aload_n 0, 1) := by decide +kernel
theorem dL_refusesAny_432 : decode cL_refusesAny 432 = .ok (.iload 4, 2) := by decide +kernel
theorem dL_refusesAny_434 : decode cL_refusesAny 434 = .ok (.iconst 0, 1) := by decide +kernel
theorem dL_refusesAny_435 : decode cL_refusesAny 435 = .ok (.invokevirtual 30, 3) := by decide +kernel
theorem dL_refusesAny_438 : decode cL_refusesAny 438 = .ok (.iconst (-1), 1) := by decide +kernel
theorem dL_refusesAny_439 : decode cL_refusesAny 439 = .ok (.if_icmp .ne 82, 3) := by decide +kernel
theorem dL_refusesAny_442 : decode cL_refusesAny 442 = .ok (.aload_n 0, 1) := by decide +kernel
theorem dL_refusesAny_443 : decode cL_refusesAny 443 = .ok (.iconst (-1), 1) := by decide +kernel
theorem dL_refusesAny_444 : decode cL_refusesAny 444 = .ok (.invokevirtual 65, 3) := by decide +kernel
theorem dL_refusesAny_447 : decode cL_refusesAny 447 = .ok (.bipush (-2), 2) := by decide +kernel
theorem dL_refusesAny_449 : decode cL_refusesAny 449 = .ok (.if_icmp .ne 72, 3) := by decide +kernel
theorem dL_refusesAny_452 : decode cL_refusesAny 452 = .ok (.aload_n 0, 1) := by decide +kernel
theorem dL_refusesAny_453 : decode cL_refusesAny 453 = .ok (.bipush 8, 2) := by decide +kernel
theorem dL_refusesAny_455 : decode cL_refusesAny 455 = .ok (.invokevirtual 65, 3) := by decide +kernel
theorem dL_refusesAny_458 : decode cL_refusesAny 458 = .ok (.bipush (-5), 2) := by decide +kernel
theorem dL_refusesAny_460 : decode cL_refusesAny 460 = .ok (.if_icmp .ne 61, 3) := by decide +kernel
theorem dL_refusesAny_463 : decode cL_refusesAny 463 = .ok (.aload_n 0, 1) := by decide +kernel
theorem dL_refusesAny_464 : decode cL_refusesAny 464 = .ok (.iload_n 2, 1) := by decide +kernel
theorem dL_refusesAny_465 : decode cL_refusesAny 465 = .ok (.iconst (-1), 1) := by decide +kernel
theorem dL_refusesAny_466 : decode cL_refusesAny 466 = .ok (.invokevirtual 68, 3) := by decide +kernel
theorem dL_refusesAny_469 : decode cL_refusesAny 469 = .ok (.iconst (-1), 1) := by decide +kernel
theorem dL_refusesAny_470 : decode cL_refusesAny 470 = .ok (.if_icmp .ne 51, 3) := by decide +kernel
theorem dL_refusesAny_473 : decode cL_refusesAny 473 = .ok (.aload_n 0, 1) := by decide +kernel
theorem dL_refusesAny_474 : decode cL_refusesAny 474 = .ok (.iconst 0, 1) := by decide +kernel
theorem dL_refusesAny_475 : decode cL_refusesAny 475 = .ok (.iload_n 1, 1) := by decide +kernel
theorem dL_refusesAny_476 : decode cL_refusesAny 476 = .ok (.ifCond .ne 7, 3) := by decide +kernel
theorem dL_refusesAny_479 : decode cL_refusesAny 479 = .ok (.iconst (-1), 1) := by decide +kernel
theorem dL_refusesAny_480 : decode cL_refusesAny 480 = .ok (.goto 5, 3) := by decide +kernel
theorem dL_refusesAny_483 : decode cL_refusesAny 483 = .ok (.bipush 101, 2) := by decide +kernel
theorem dL_refusesAny_485 : decode cL_refusesAny 485 = .ok (.invokevirtual 68, 3) := by decide +kernel
theorem dL_refusesAny_488 : decode cL_refusesAny 488 = .ok (.bipush (-2), 2) := by decide +kernel
theorem dL_refusesAny_490 : decode cL_refusesAny 490 = .ok (.if_icmp .ne 31, 3) := by decide +kernel
theorem dL_refusesAny_493 : decode cL_refusesAny 493 = .ok (.aload_n 0, 1) := by decide +kernel
theorem dL_refusesAny_494 : decode cL_refusesAny 494 = .ok (.iload_n 2, 1) := by decide +kernel
theorem dL_refusesAny_495 : decode cL_refusesAny 495 = .ok (.invokevirtual 71, 3) := by decide +kernel
theorem dL_refusesAny_498 : decode cL_refusesAny 498 = .ok (.iconst (-1), 1) := by decide +kernel
theorem dL_refusesAny_499 : decode cL_refusesAny 499 = .ok (.if_icmp .ne 22, 3) := by decide +kernel
theorem dL_refusesAny_502 : decode cL_refusesAny 502 = .ok (.aload_n 0, 1) := by decide +kernel
theorem dL_refusesAny_503 : decode cL_refusesAny 503 = .ok (.iload_n 1, 1) := by decide +kernel
theorem dL_refusesAny_504 : decode cL_refusesAny 504 = .ok (.ifCond .ne 7, 3) := by decide +kernel
theorem dL_refusesAny_507 : decode cL_refusesAny 507 = .ok (.iconst (-1), 1) := by decide +kernel
theorem dL_refusesAny_508 : decode cL_refusesAny 508 = .ok (.goto 5, 3) := by decide +kernel
theorem dL_refusesAny_511 : decode cL_refusesAny 511 = .ok (.bipush 15, 2) := by decide +kernel
theorem dL_refusesAny_513 : decode cL_refusesAny 513 = .ok (.invokevirtual 13, 3) := by decide +kernel
theorem dL_refusesAny_516 : decode cL_refusesAny 516 = .ok (.bipush (-2), 2) := by decide +kernel
theorem dL_refusesAny_518 : decode cL_refusesAny 518 = .ok (.if_icmp .eq 5, 3) := by decide +kernel
theorem dL_refusesAny_521 : decode cL_refusesAny 521 = .ok (.iconst 0, 1) := by decide +kernel
theorem dL_refusesAny_522 : decode cL_refusesAny 522 = .ok (.ireturn, 1) := by decide +kernel
theorem dL_refusesAny_523 : decode cL_refusesAny 523 = .ok (.aload_n 0, 1) := by decide +kernel
theorem dL_refusesAny_524 : decode cL_refusesAny 524 = .ok (.iconst 0, 1) := by decide +kernel
theorem dL_refusesAny_525 : decode cL_refusesAny 525 = .ok (.invokevirtual 13, 3) := by decide +kernel
theorem dL_refusesAny_528 : decode cL_refusesAny 528 = .ok (.ifCond .eq 82, 3) := by decide +kernel
theorem dL_refusesAny_531 : decode cL_refusesAny 531 = .ok (.aload_n 0, 1) := by decide +kernel
theorem dL_refusesAny_532 : decode cL_refusesAny 532 = .ok (.iconst 0, 1) := by decide +kernel
theorem dL_refusesAny_533 : decode cL_refusesAny 533 = .ok (.iload_n 3, 1) := by decide +kernel
theorem dL_refusesAny_534 : decode cL_refusesAny 534 = .ok (.iconst 5, 1) := by decide +kernel
theorem dL_refusesAny_535 : decode cL_refusesAny 535 = .ok (.invokevirtual 58, 3) := by decide +kernel
theorem dL_refusesAny_538 : decode cL_refusesAny 538 = .ok (.iconst (-1), 1) := by decide +kernel
theorem dL_refusesAny_539 : decode cL_refusesAny 539 = .ok (.if_icmp .ne 75, 3) := by decide +kernel
theorem dL_refusesAny_542 : decode cL_refusesAny 542 = .ok (.aload_n 0, 1) := by decide +kernel
theorem dL_refusesAny_543 : decode cL_refusesAny 543 = .ok (.iconst 0, 1) := by decide +kernel
theorem dL_refusesAny_544 : decode cL_refusesAny 544 = .ok (.iconst 0, 1) := by decide +kernel
theorem dL_refusesAny_545 : decode cL_refusesAny 545 = .ok (.iload_n 1, 1) := by decide +kernel
theorem dL_refusesAny_546 : decode cL_refusesAny 546 = .ok (.ifCond .ne 7, 3) := by decide +kernel
theorem dL_refusesAny_549 : decode cL_refusesAny 549 = .ok (.iconst (-1), 1) := by decide +kernel
theorem dL_refusesAny_550 : decode cL_refusesAny 550 = .ok (.goto 5, 3) := by decide +kernel
theorem dL_refusesAny_553 : decode cL_refusesAny 553 = .ok (.ldc 74, 2) := by decide +kernel
theorem dL_refusesAny_555 : decode cL_refusesAny 555 = .ok (.invokevirtual 58, 3) := by decide +kernel
theorem dL_refusesAny_558 : decode cL_refusesAny 558 = .ok (.bipush (-2), 2) := by decide +kernel
theorem dL_refusesAny_560 : decode cL_refusesAny 560 = .ok (.if_icmp .ne 54, 3) := by decide +kernel
theorem dL_refusesAny_563 : decode cL_refusesAny 563 = .ok (.aload_n 0, 1) := by decide +kernel
theorem dL_refusesAny_564 : decode cL_refusesAny 564 = .ok (.iconst 0, 1) := by decide +kernel
theorem dL_refusesAny_565 : decode cL_refusesAny 565 = .ok (.iconst 0, 1) := by decide +kernel
theorem dL_refusesAny_566 : decode cL_refusesAny 566 = .ok (.aload_n 0, 1) := by decide +kernel
theorem dL_refusesAny_567 : decode cL_refusesAny 567 = .ok (.iconst 0, 1) := by decide +kernel
theorem dL_refusesAny_568 : decode cL_refusesAny 568 = .ok (.iconst 0, 1) := by decide +kernel
theorem dL_refusesAny_569 : decode cL_refusesAny 569 = .ok (.invokevirtual 30, 3) := by decide +kernel
theorem dL_refusesAny_572 : decode cL_refusesAny 572 = .ok (.invokevirtual 58, 3) := by decide +kernel
theorem dL_refusesAny_575 : decode cL_refusesAny 575 = .ok (.bipush (-5), 2) := by decide +kernel
theorem dL_refusesAny_577 : decode cL_refusesAny 577 = .ok (.if_icmp .ne 37, 3) := by decide +kernel
theorem dL_refusesAny_580 : decode cL_refusesAny 580 = .ok (.aload_n 0, 1) := by decide +kernel
theorem dL_refusesAny_581 : decode cL_refusesAny 581 = .ok (.iconst 0, 1) := by decide +kernel
theorem dL_refusesAny_582 : decode cL_refusesAny 582 = .ok (.iload_n 2, 1) := by decide +kernel
theorem dL_refusesAny_583 : decode cL_refusesAny 583 = .ok (.iconst 0, 1) := by decide +kernel
theorem dL_refusesAny_584 : decode cL_refusesAny 584 = .ok (.iconst 1, 1) := by decide +kernel
theorem dL_refusesAny_585 : decode cL_refusesAny 585 = .ok (.invokevirtual 26, 3) := by decide +kernel
theorem dL_refusesAny_588 : decode cL_refusesAny 588 = .ok (.iconst (-1), 1) := by decide +kernel
theorem dL_refusesAny_589 : decode cL_refusesAny 589 = .ok (.if_icmp .ne 25, 3) := by decide +kernel
theorem dL_refusesAny_592 : decode cL_refusesAny 592 = .ok (.aload_n 0, 1) := by decide +kernel
theorem dL_refusesAny_593 : decode cL_refusesAny 593 = .ok (.iconst 0, 1) := by decide +kernel
theorem dL_refusesAny_594 : decode cL_refusesAny 594 = .ok (.iload_n 3, 1) := by decide +kernel
theorem dL_refusesAny_595 : decode cL_refusesAny 595 = .ok (.invokevirtual 30, 3) := by decide +kernel
theorem dL_refusesAny_598 : decode cL_refusesAny 598 = .ok (.iconst (-1), 1) := by decide +kernel
theorem dL_refusesAny_599 : decode cL_refusesAny 599 = .ok (.if_icmp .ne 15, 3) := by decide +kernel
theorem dL_refusesAny_602 : decode cL_refusesAny 602 = .ok (.aload_n 0, 1) := by decide +kernel
theorem dL_refusesAny_603 : decode cL_refusesAny 603 = .ok (.iconst 5, 1) := by decide +kernel
theorem dL_refusesAny_604 : decode cL_refusesAny 604 = .ok (.invokevirtual 33, 3) := by decide +kernel
theorem dL_refusesAny_607 : decode cL_refusesAny 607 = .ok (.ifCond .ge 7, 3) := by decide +kernel
theorem dL_refusesAny_610 : decode cL_refusesAny 610 = .ok (.iconst 1, 1) := by decide +kernel
theorem dL_refusesAny_611 : decode cL_refusesAny 611 = .ok (.goto 4, 3) := by decide +kernel
theorem dL_refusesAny_614 : decode cL_refusesAny 614 = .ok (.iconst 0, 1) := by decide +kernel
theorem dL_refusesAny_615 : decode cL_refusesAny 615 = .ok (.ireturn, 1) := by decide +kernel
set_option maxRecDepth 20000 in
theorem ggL_refused_L_seen : GoodIn wsL_refused wsL_seen := goodIn_r _ [4, 5, 6, 7, 8, 9, 10, 11, 12, 13, 14, 15, 16, 17, 18, 19, 20, 21, 22, 23, 24, 25, 26, 27, 28, 29, 30, 31, 32, 33, 34, 35, 36, 37, 38, 39, 40, 41, 42, 43, 44, 45, 46, 47, 48, 49, 50, 51, 52, 53, 54, 55, 56, 57, 58, 59, 60, 61, 62, 63, 64, 65, 66, 67, 68, 69, 70, 71, 72, 73, 74, 75, 76, 77, 78, 79, 80, 81, 82, 83, 84, 85, 86, 87, 88, 89, 90, 91, 92, 93, 94, 95, 96, 97, 98, 99, 100, 101, 102, 103, 104, 105, 106, 107, 108, 109, 110, 111, 112, 113, 114, 115, 116, 117, 118, 119, 120, 121, 122, 123, 124, 125, 126, 127, 128, 129, 130, 131, 132, 133, 134, 135, 136, 137, 138, 139, 140, 141, 142, 143, 144, 145, 146, 147, 148, 149, 150, 151, 152, 153, 154, 155, 156, 157, 158, 159, 160, 161, 162, 163, 164, 165, 166, 290, 291, 292, 293, 294, 295, 296, 297, 298, 299, 300, 301, 302, 303, 304, 305, 306, 307, 308, 309, 310, 311, 312, 313, 314, 315, 316, 317, 318, 319, 320, 321, 322, 323, 324, 325, 326, 327, 328, 329, 330] (by decide +kernel) (by decide +kernel)
set_option maxRecDepth 20000 in
theorem gL_refused_L_seen : GoodIn wsL_refused (va_wsS RL 75 yL_seen wsL_seen) := goodIn_app (goodIn_of _ (by decide +kernel)) ggL_refused_L_seen
set_option maxRecDepth 20000 in
theorem ggL_refused_X5_count : GoodIn wsL_refused wsX5_count := goodIn_r _ [11, 12, 13, 14, 15, 16, 17, 18, 19, 20, 21, 22, 23, 24, 25, 26, 27, 28, 29, 30, 31, 32, 33, 34, 35, 36, 37, 38, 39, 40, 41, 42, 43, 10, 44, 45, 46, 47, 48, 49, 50, 51, 52, 53, 54, 55, 56, 57, 58, 59, 60, 61, 62, 63, 64, 65, 66, 67, 68, 69, 70, 71, 72, 73, 74, 75, 76, 77, 78, 79, 80, 81, 82, 83, 84, 85, 86, 87, 88, 89, 90, 91, 92, 93, 94, 95, 96, 97, 98, 99, 100, 101, 102, 103, 104, 105, 106, 107, 108, 109, 110, 111, 112, 113, 114, 115, 116, 117, 118, 119, 120, 290, 291, 292, 293, 294, 295, 296, 297, 298, 299, 300, 301, 302, 303, 304, 305, 306, 307, 308, 309, 310, 311, 312, 313, 314, 315, 316, 317, 318, 319, 320, 321, 322, 323, 324, 325, 326, 327, 328, 329, 330] (by decide +kernel) (by decide +kernel)
set_option maxRecDepth 20000 in
theorem gL_refused_X5_count : GoodIn wsL_refused (wsV RL 13 RX5 yX5_count wsX5_count) := goodIn_app (goodIn_of _ (by decide +kernel)) ggL_refused_X5_count
set_option maxRecDepth 20000 in
theorem ggL_refused_L_refusesAny : GoodIn wsL_refused wsL_refusesAny := goodIn_app (a := [.code yL_refusesAny cL_refusesAny 5 (some .boolean)]) (goodIn_r _ [169] rfl (by decide +kernel)) (goodIn_app (goodIn_app (goodIn_app (goodIn_app (goodIn_app (goodIn_app (goodIn_app (goodIn_r wsL_refusesAny_r1 [170, 171, 7, 8, 9, 10, 11, 12, 13, 14, 15, 16, 17, 18, 19, 20, 21, 22, 23, 24, 25, 26, 27, 28] (by decide +kernel) (by decide +kernel)) (goodIn_app (goodIn_r wsL_refusesAny_r2 [29, 30, 31, 32, 33, 34, 35, 36, 37, 38, 39, 40, 41, 42, 43, 44, 45, 46, 47, 48, 49, 50, 51, 52] (by decide +kernel) (by decide +kernel)) (goodIn_app (goodIn_r wsL_refusesAny_r3 [53, 54, 55, 56, 57, 58, 59, 60, 61, 62, 63, 64, 65, 66, 67, 68, 69, 70, 71, 72, 73, 74, 75, 76] (by decide +kernel) (by decide +kernel)) (goodIn_app (goodIn_r wsL_refusesAny_r4 [77, 78, 79, 80, 81, 82, 83, 84, 85, 86, 87, 88, 89, 90, 91, 92, 93, 94, 95, 96, 97, 98, 99, 100] (by decide +kernel) (by decide +kernel)) (goodIn_app (goodIn_r wsL_refusesAny_r5 [101, 102, 103, 104, 105, 106, 107, 108, 109, 110, 111, 112, 113, 114, 115, 116, 117, 118, 119, 120, 172, 173, 174, 175] (by decide +kernel) (by decide +kernel)) (goodIn_app (goodIn_r wsL_refusesAny_r6 [176, 177, 178, 179, 180, 181, 182, 183, 184, 185, 186, 187, 188, 189, 190, 191, 192, 135, 193, 194, 195, 196, 197, 198] (by decide +kernel) (by decide +kernel)) (goodIn_app (goodIn_r wsL_refusesAny_r7 [199, 200, 201, 202, 203, 204, 205, 206, 207, 208, 144, 145, 127, 128, 129, 130, 209, 210, 211, 212, 213, 214, 215, 216] (by decide +kernel) (by decide +kernel)) (goodIn_app (goodIn_r wsL_refusesAny_r8 [217, 218, 219, 220, 221, 146, 147, 149, 150, 140, 141, 142, 143, 148, 222, 223, 224, 225, 226, 227, 228, 229, 125, 159] (by decide +kernel) (by decide +kernel)) (goodIn_app (goodIn_r wsL_refusesAny_r9 [230, 231, 232, 233, 234, 235, 236, 237, 126, 238, 239, 240, 241, 242, 243, 158, 244, 245, 246, 247, 248, 249, 137, 138] (by decide +kernel) (by decide +kernel)) (goodIn_app (goodIn_r wsL_refusesAny_r10 [139, 250, 251, 252, 253, 254, 255, 256, 257, 258, 259, 161, 162, 260, 261, 262, 263, 121, 122, 123, 124, 131, 132, 133] (by decide +kernel) (by decide +kernel)) (goodIn_app (goodIn_r wsL_refusesAny_r11 [134, 136, 264, 265, 266, 267, 160, 151, 152, 153, 154, 155, 156, 157, 163, 164, 165, 166, 268, 269, 270, 271, 272, 273] (by decide +kernel) (by decide +kernel)) (goodIn_r wsL_refusesAny_r12 [274, 275, 276, 277, 278, 279, 280, 281, 282, 283, 284, 285, 286, 287, 288, 289] (by decide +kernel) (by decide +kernel))))))))))))) (goodIn_r wsX50 [290, 291, 292, 293, 294, 295] (by decide +kernel) (by decide +kernel))) (goodIn_r wsX20 [296, 297, 298, 299, 300, 301, 302, 303, 304, 305, 306, 307] (by decide +kernel) (by decide +kernel))) (goodIn_r wsX40 [308, 309, 310, 311, 312, 313, 314, 315] (by decide +kernel) (by decide +kernel))) (goodIn_r wsX00 [316, 317, 318, 319, 320] (by decide +kernel) (by decide +kernel))) (goodIn_r wsX10 [321, 322, 323] (by decide +kernel) (by decide +kernel))) (goodIn_r wsX30 [324, 325, 326, 327, 328, 329, 330] (by decide +kernel) (by decide +kernel)))
set_option maxRecDepth 20000 in
theorem gL_refused_L_refusesAny : GoodIn wsL_refused (va_wsS RL 79 yL_refusesAny wsL_refusesAny) := goodIn_app (goodIn_of _ (by decide +kernel)) ggL_refused_L_refusesAny
theorem dL_refused_0 : decode cL_refused 0 = .ok (.aload_n 0, 1) := by decide +kernel
theorem dL_refused_1 : decode cL_refused 1 = .ok (.invokestatic 75, 3) := by decide +kernel
theorem dL_refused_4 : decode cL_refused 4 = .ok (.lstore_n 1, 1) := by decide +kernel
theorem dL_refused_5 : decode cL_refused 5 = .ok (.aload_n 0, 1) := by decide +kernel
theorem dL_refused_6 : decode cL_refused 6 = .ok (.bipush 13, 2) := by decide +kernel
theorem dL_refused_8 : decode cL_refused 8 = .ok (.invokevirtual 13, 3) := by decide +kernel
theorem dL_refused_11 : decode cL_refused 11 = .ok (.istore_n 3, 1) := by decide +kernel
theorem dL_refused_12 : decode cL_refused 12 = .ok (.aload_n 0, 1) := by decide +kernel
theorem dL_refused_13 : decode cL_refused 13 = .ok (.iconst 0, 1) := by decide +kernel
theorem dL_refused_14 : decode cL_refused 14 = .ok (.invokestatic 79, 3) := by decide +kernel
theorem dL_refused_17 : decode cL_refused 17 = .ok (.ifCond .eq 34, 3) := by decide +kernel
theorem dL_refused_20 : decode cL_refused 20 = .ok (.aload_n 0, 1) := by decide +kernel
theorem dL_refused_21 : decode cL_refused 21 = .ok (.iconst 1, 1) := by decide +kernel
theorem dL_refused_22 : decode cL_refused 22 = .ok (.invokestatic 79, 3) := by decide +kernel
theorem dL_refused_25 : decode cL_refused 25 = .ok (.ifCond .eq 26, 3) := by decide +kernel
theorem dL_refused_28 : decode cL_refused 28 = .ok (.aload_n 0, 1) := by decide +kernel
theorem dL_refused_29 : decode cL_refused 29 = .ok (.invokestatic 75, 3) := by decide +kernel
theorem dL_refused_32 : decode cL_refused 32 = .ok (.lload_n 1, 1) := by decide +kernel
theorem dL_refused_33 : decode cL_refused 33 = .ok (.lcmp, 1) := by decide +kernel
theorem dL_refused_34 : decode cL_refused 34 = .ok (.ifCond .ne 17, 3) := by decide +kernel
theorem dL_refused_37 : decode cL_refused 37 = .ok (.aload_n 0, 1) := by decide +kernel
theorem dL_refused_38 : decode cL_refused 38 = .ok (.bipush 13, 2) := by decide +kernel
theorem dL_refused_40 : decode cL_refused 40 = .ok (.invokevirtual 13, 3) := by decide +kernel
theorem dL_refused_43 : decode cL_refused 43 = .ok (.iload_n 3, 1) := by decide +kernel
theorem dL_refused_44 : decode cL_refused 44 = .ok (.if_icmp .ne 7, 3) := by decide +kernel
theorem dL_refused_47 : decode cL_refused 47 = .ok (.iconst 1, 1) := by decide +kernel
theorem dL_refused_48 : decode cL_refused 48 = .ok (.goto 4, 3) := by decide +kernel
theorem dL_refused_51 : decode cL_refused 51 = .ok (.iconst 0, 1) := by decide +kernel
theorem dL_refused_52 : decode cL_refused 52 = .ok (.ireturn, 1) := by decide +kernel
set_option maxRecDepth 20000 in
theorem ggL_years_X5_init : GoodIn wsL_years wsX5_init := goodIn_r _ [10, 11, 12, 13, 14, 15, 16, 17, 18, 19, 20, 21, 22, 23, 24, 25, 26, 27, 28, 29, 30, 31, 32, 33, 34, 35, 36, 37, 38, 39, 40, 41, 42, 43, 44, 45, 46, 47, 48, 49, 50, 51, 52, 53, 54, 55, 56, 57, 58, 59, 60, 61, 62, 63, 64, 65, 66, 67, 68, 69, 70, 71, 72, 73, 74, 75, 76, 77, 78, 79, 80, 81, 82, 83, 84, 85, 86, 87, 88, 89, 90, 91, 92, 93, 94, 95, 96, 97, 98, 99, 383, 384, 385, 386, 387, 388, 389, 390, 391, 392, 393, 394, 377, 378, 379, 380, 381, 382, 395, 396, 397, 398, 399, 400, 401, 402, 403, 404, 405, 406, 407, 408, 409, 410, 411, 412, 413, 414, 415, 416, 417] (by decide +kernel) (by decide +kernel)
set_option maxRecDepth 20000 in
theorem gL_years_X5_init : GoodIn wsL_years (wsX5_init) := ggL_years_X5_init
set_option maxRecDepth 20000 in
theorem ggL_years_X5_undo : GoodIn wsL_years wsX5_undo := goodIn_r _ [103, 23, 17, 104, 105, 106, 107, 22, 108, 76, 74, 75, 109, 110, 111, 16, 112, 36, 38, 113, 114, 115, 116, 39, 40, 41, 42, 44, 45, 46, 50, 51, 52, 117, 118, 119, 49, 120, 57, 58, 59, 60, 121, 61, 62, 63, 64, 377, 378, 379, 380, 381, 382, 395, 396, 397, 383, 384, 385, 386, 387, 388, 389, 390, 391, 392, 393, 394, 410, 411, 412, 413, 414, 415, 416, 417] (by decide +kernel) (by decide +kernel)
set_option maxRecDepth 20000 in
theorem gL_years_X5_undo : GoodIn wsL_years (wsV RL 84 RX5 yX5_undo wsX5_undo) := goodIn_app (goodIn_of _ (by decide +kernel)) ggL_years_X5_undo
set_option maxRecDepth 20000 in
theorem ggL_years_X5_restore : GoodIn wsL_years wsX5_restore := goodIn_r _ [125, 19, 23, 17, 18, 126, 127, 128, 129, 22, 130, 74, 75, 76, 131, 110, 111, 16, 112, 36, 38, 113, 114, 115, 116, 39, 40, 41, 42, 44, 45, 46, 50, 51, 52, 117, 118, 119, 49, 120, 57, 58, 59, 60, 121, 61, 62, 63, 64, 109, 377, 378, 379, 380, 381, 382, 383, 384, 385, 386, 387, 388, 389, 390, 391, 392, 393, 394, 395, 396, 397, 410, 411, 412, 413, 414, 415, 416, 417] (by decide +kernel) (by decide +kernel)
set_option maxRecDepth 20000 in
theorem gL_years_X5_restore : GoodIn wsL_years (wsV RL 88 RX5 yX5_restore wsX5_restore) := goodIn_app (goodIn_of _ (by decide +kernel)) ggL_years_X5_restore
set_option maxRecDepth 20000 in
theorem ggL_years_X5_close : GoodIn wsL_years wsX5_close := goodIn_r _ [135, 17, 126, 136, 23, 31, 137, 138, 127, 128, 129, 22, 130, 74, 75, 76, 131, 110, 111, 16, 112, 36, 38, 113, 114, 115, 116, 39, 40, 41, 42, 44, 45, 46, 50, 51, 52, 117, 118, 119, 49, 120, 57, 58, 59, 60, 121, 61, 62, 63, 64, 139, 140, 141, 3, 142, 143, 144, 145, 146, 147, 148, 149, 150, 151, 152, 153, 154, 155, 156, 157, 158, 159, 160, 161, 162, 163, 30, 164, 94, 165, 166, 167, 168, 169, 170, 66, 67, 68, 171, 172, 173, 174, 175, 176, 95, 96, 177, 178, 179, 180, 181, 182, 99, 183, 184, 185, 186, 187, 188, 189, 190, 191, 97, 192, 193, 194, 195, 196, 197, 198, 199, 200, 201, 202, 203, 204, 205, 206, 207, 208, 209, 210, 211, 212, 213, 214, 215, 216, 217, 218, 219, 220, 221, 222, 65, 377, 378, 379, 380, 381, 382, 383, 384, 385, 386, 387, 388, 389, 390, 391, 392, 393, 394, 405, 406, 407, 408, 409, 395, 396, 397, 410, 411, 412, 413, 414, 415, 416, 417] (by decide +kernel) (by decide +kernel)
set_option maxRecDepth 20000 in
theorem gL_years_X5_close : GoodIn wsL_years (wsV RL 91 RX5 yX5_close wsX5_close) := goodIn_app (goodIn_of _ (by decide +kernel)) ggL_years_X5_close
set_option maxRecDepth 20000 in
theorem ggL_years_X5_count : GoodIn wsL_years wsX5_count := goodIn_r _ [226, 17, 126, 136, 137, 227, 228, 31, 229, 230, 231, 232, 23, 104, 27, 233, 234, 235, 236, 16, 237, 50, 147, 44, 238, 239, 240, 241, 242, 243, 45, 244, 177, 3, 178, 139, 140, 141, 142, 143, 144, 145, 146, 42, 41, 148, 40, 149, 150, 151, 152, 51, 153, 154, 155, 156, 52, 157, 158, 159, 49, 160, 59, 161, 162, 163, 30, 164, 94, 165, 166, 167, 168, 169, 170, 66, 67, 68, 171, 172, 173, 174, 175, 176, 95, 96, 179, 180, 181, 182, 99, 183, 184, 185, 186, 187, 245, 246, 247, 248, 218, 249, 250, 251, 252, 36, 253, 197, 198, 199, 60, 377, 378, 379, 380, 381, 382, 383, 384, 385, 386, 387, 388, 389, 390, 391, 392, 393, 394, 410, 411, 412, 413, 414, 415, 416, 417, 405, 406, 407, 408, 409, 395, 396, 397, 398, 399, 400, 401, 402, 403, 404] (by decide +kernel) (by decide +kernel)
set_option maxRecDepth 20000 in
theorem gL_years_X5_count : GoodIn wsL_years (wsV RL 13 RX5 yX5_count wsX5_count) := goodIn_app (goodIn_of _ (by decide +kernel)) ggL_years_X5_count
set_option maxRecDepth 20000 in
theorem ggL_years_X5_greatest : GoodIn wsL_years wsX5_greatest := goodIn_r _ [257, 17, 136, 31, 139, 140, 141, 3, 142, 137, 143, 144, 145, 16, 146, 50, 147, 44, 42, 41, 148, 40, 149, 150, 151, 152, 51, 45, 153, 154, 155, 156, 52, 157, 158, 159, 49, 160, 59, 161, 162, 163, 30, 164, 94, 165, 166, 167, 168, 169, 170, 66, 67, 68, 171, 172, 173, 174, 175, 176, 95, 96, 177, 178, 179, 180, 181, 182, 99, 183, 184, 185, 186, 187, 258, 259, 260, 261, 377, 378, 379, 380, 381, 382, 383, 384, 385, 386, 387, 388, 389, 390, 391, 392, 393, 394, 410, 411, 412, 413, 414, 415, 416, 417, 405, 406, 407, 408, 409] (by decide +kernel) (by decide +kernel)
set_option maxRecDepth 20000 in
theorem gL_years_X5_greatest : GoodIn wsL_years (wsV RL 65 RX5 yX5_greatest wsX5_greatest) := goodIn_app (goodIn_of _ (by decide +kernel)) ggL_years_X5_greatest
set_option maxRecDepth 20000 in
theorem ggL_years_X5_addFlat : GoodIn wsL_years wsX5_addFlat := goodIn_r _ [265, 17, 136, 126, 23, 228, 127, 128, 129, 22, 130, 74, 75, 76, 131, 110, 111, 16, 112, 36, 38, 113, 114, 115, 116, 39, 40, 41, 42, 44, 45, 46, 50, 51, 52, 117, 118, 119, 49, 120, 57, 58, 59, 60, 121, 61, 62, 63, 64, 377, 378, 379, 380, 381, 382, 383, 384, 385, 386, 387, 388, 389, 390, 391, 392, 393, 394, 395, 396, 397, 410, 411, 412, 413, 414, 415, 416, 417] (by decide +kernel) (by decide +kernel)
set_option maxRecDepth 20000 in
theorem gL_years_X5_addFlat : GoodIn wsL_years (wsV RL 33 RX5 yX5_addFlat wsX5_addFlat) := goodIn_app (goodIn_of _ (by decide +kernel)) ggL_years_X5_addFlat
