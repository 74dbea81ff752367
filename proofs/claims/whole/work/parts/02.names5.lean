theorem dX5_bestShare_11 : decode cX5_bestShare 11 = .ok (.iconst (-1), 1) := by decide +kernel
theorem dX5_bestShare_12 : decode cX5_bestShare 12 = .ok (.ireturn, 1) := by decide +kernel
theorem dX5_bestShare_13 : decode cX5_bestShare 13 = .ok (.aload_n 0, 1) := by decide +kernel
theorem dX5_bestShare_14 : decode cX5_bestShare 14 = .ok (.invokevirtual 144, 3) := by decide +kernel
theorem dX5_bestShare_17 : decode cX5_bestShare 17 = .ok (.iconst 0, 1) := by decide +kernel
theorem dX5_bestShare_18 : decode cX5_bestShare 18 = .ok (.istore_n 2, 1) := by decide +kernel
theorem dX5_bestShare_19 : decode cX5_bestShare 19 = .ok (.aload_n 0, 1) := by decide +kernel
theorem dX5_bestShare_20 : decode cX5_bestShare 20 = .ok (.iload_n 1, 1) := by decide +kernel
theorem dX5_bestShare_21 : decode cX5_bestShare 21 = .ok (.iconst 0, 1) := by decide +kernel
theorem dX5_bestShare_22 : decode cX5_bestShare 22 = .ok (.invokevirtual 217, 3) := by decide +kernel
theorem dX5_bestShare_25 : decode cX5_bestShare 25 = .ok (.istore_n 3, 1) := by decide +kernel
theorem dX5_bestShare_26 : decode cX5_bestShare 26 = .ok (.iconst 1, 1) := by decide +kernel
theorem dX5_bestShare_27 : decode cX5_bestShare 27 = .ok (.istore 4, 2) := by decide +kernel
theorem dX5_bestShare_29 : decode cX5_bestShare 29 = .ok (.iload 4, 2) := by decide +kernel
theorem dX5_bestShare_31 : decode cX5_bestShare 31 = .ok (.bipush 100, 2) := by decide +kernel
theorem dX5_bestShare_33 : decode cX5_bestShare 33 = .ok (.if_icmp .gt 30, 3) := by decide +kernel
theorem dX5_bestShare_36 : decode cX5_bestShare 36 = .ok (.aload_n 0, 1) := by decide +kernel
theorem dX5_bestShare_37 : decode cX5_bestShare 37 = .ok (.iload_n 1, 1) := by decide +kernel
theorem dX5_bestShare_38 : decode cX5_bestShare 38 = .ok (.iload 4, 2) := by decide +kernel
theorem dX5_bestShare_40 : decode cX5_bestShare 40 = .ok (.invokevirtual 217, 3) := by decide +kernel
theorem dX5_bestShare_43 : decode cX5_bestShare 43 = .ok (.istore 5, 2) := by decide +kernel
theorem dX5_bestShare_45 : decode cX5_bestShare 45 = .ok (.iload 5, 2) := by decide +kernel
theorem dX5_bestShare_47 : decode cX5_bestShare 47 = .ok (.iload_n 3, 1) := by decide +kernel
theorem dX5_bestShare_48 : decode cX5_bestShare 48 = .ok (.if_icmp .ge 9, 3) := by decide +kernel
theorem dX5_bestShare_51 : decode cX5_bestShare 51 = .ok (.iload 5, 2) := by decide +kernel
theorem dX5_bestShare_53 : decode cX5_bestShare 53 = .ok (.istore_n 3, 1) := by decide +kernel
theorem dX5_bestShare_54 : decode cX5_bestShare 54 = .ok (.iload 4, 2) := by decide +kernel
theorem dX5_bestShare_56 : decode cX5_bestShare 56 = .ok (.istore_n 2, 1) := by decide +kernel
theorem dX5_bestShare_57 : decode cX5_bestShare 57 = .ok (.iinc 4 1, 3) := by decide +kernel
theorem dX5_bestShare_60 : decode cX5_bestShare 60 = .ok (.goto (-31), 3) := by decide +kernel
theorem dX5_bestShare_63 : decode cX5_bestShare 63 = .ok (.iload_n 2, 1) := by decide +kernel
theorem dX5_bestShare_64 : decode cX5_bestShare 64 = .ok (.ireturn, 1) := by decide +kernel
set_option maxRecDepth 20000 in
theorem ggX5_count_X2_faultyCount : GoodIn wsX5_count wsX2_faultyCount := goodIn_r _ [20, 21, 22, 23, 117, 118, 119, 120, 121, 122, 123, 124, 125, 126, 127, 128, 129, 130, 131, 132, 133, 134, 135, 136] (by decide +kernel) (by decide +kernel)
set_option maxRecDepth 20000 in
theorem gX5_count_X2_faultyCount : GoodIn wsX5_count (wsV RX5 108 RX2 yX2_faultyCount wsX2_faultyCount) := goodIn_app (goodIn_of _ (by decide +kernel)) ggX5_count_X2_faultyCount
set_option maxRecDepth 20000 in
theorem ggX5_count_X2_setting : GoodIn wsX5_count wsX2_setting := goodIn_r _ [27, 21, 28, 29, 30, 117, 118, 119, 120, 121, 122, 123, 124, 125, 126, 127, 128, 129, 130, 131, 132, 133, 134, 135, 136] (by decide +kernel) (by decide +kernel)
set_option maxRecDepth 20000 in
theorem gX5_count_X2_setting : GoodIn wsX5_count (wsV RX5 81 RX2 yX2_setting wsX2_setting) := goodIn_app (goodIn_of _ (by decide +kernel)) ggX5_count_X2_setting
set_option maxRecDepth 20000 in
theorem ggX5_count_X5_sumOf : GoodIn wsX5_count wsX5_sumOf := goodIn_r _ [34] (by decide +kernel) (by decide +kernel)
set_option maxRecDepth 20000 in
theorem gX5_count_X5_sumOf : GoodIn wsX5_count (va_wsS RX5 220 yX5_sumOf wsX5_sumOf) := goodIn_app (goodIn_of _ (by decide +kernel)) ggX5_count_X5_sumOf
set_option maxRecDepth 20000 in
theorem ggX5_count_X5_drawUpOpenYear : GoodIn wsX5_count wsX5_drawUpOpenYear := goodIn_r _ [38, 1, 7, 4, 39, 40, 41, 19, 42, 21, 22, 23, 43, 44, 45, 46, 47, 48, 49, 50, 51, 30, 52, 53, 54, 55, 56, 57, 58, 59, 60, 61, 62, 63, 64, 65, 66, 67, 68, 69, 70, 71, 72, 73, 74, 75, 76, 77, 78, 79, 80, 81, 82, 83, 84, 85, 32, 33, 34, 86, 87, 88, 89, 90, 91, 92, 93, 94, 95, 111, 112, 113, 114, 115, 116, 117, 118, 119, 120, 121, 122, 123, 124, 125, 126, 127, 128, 129, 130, 131, 132, 133, 134, 135, 136, 137, 138, 139, 140, 141] (by decide +kernel) (by decide +kernel)
set_option maxRecDepth 20000 in
theorem gX5_count_X5_drawUpOpenYear : GoodIn wsX5_count (wsV RX5 144 RX5 yX5_drawUpOpenYear wsX5_drawUpOpenYear) := goodIn_app (goodIn_of _ (by decide +kernel)) ggX5_count_X5_drawUpOpenYear
set_option maxRecDepth 20000 in
theorem ggX5_count_X2_keptBills : GoodIn wsX5_count wsX2_keptBills := goodIn_r _ [99, 51, 56, 100, 32, 33, 34, 117, 118, 119, 120, 121, 122, 123, 124, 125, 126, 127, 128, 129, 130, 131, 132, 133, 134, 135, 136] (by decide +kernel) (by decide +kernel)
set_option maxRecDepth 20000 in
theorem gX5_count_X2_keptBills : GoodIn wsX5_count (wsV RX5 224 RX2 yX2_keptBills wsX2_keptBills) := goodIn_app (goodIn_of _ (by decide +kernel)) ggX5_count_X2_keptBills
set_option maxRecDepth 20000 in
theorem ggX5_count_X2_moveCount : GoodIn wsX5_count wsX2_moveCount := goodIn_r _ [104, 105, 21, 106, 107, 108, 60, 109, 110, 117, 118, 119, 120, 121, 122, 123, 124, 125, 126, 127, 128, 129, 130, 131, 132, 133, 134, 135, 136] (by decide +kernel) (by decide +kernel)
set_option maxRecDepth 20000 in
theorem gX5_count_X2_moveCount : GoodIn wsX5_count (wsV RX5 227 RX2 yX2_moveCount wsX2_moveCount) := goodIn_app (goodIn_of _ (by decide +kernel)) ggX5_count_X2_moveCount
theorem dX5_count_0 : decode cX5_count 0 = .ok (.iload_n 1, 1) := by decide +kernel
theorem dX5_count_1 : decode cX5_count 1 = .ok (.tableswitch 241 0 14 #[75, 83, 91, 102, 110, 110, 110, 121, 139, 161, 201, 209, 217, 225, 233], 75) := by decide +kernel
theorem dX5_count_76 : decode cX5_count 76 = .ok (.aload_n 0, 1) := by decide +kernel
theorem dX5_count_77 : decode cX5_count 77 = .ok (.getfield 12, 3) := by decide +kernel
theorem dX5_count_80 : decode cX5_count 80 = .ok (.getfield 48, 3) := by decide +kernel
theorem dX5_count_83 : decode cX5_count 83 = .ok (.ireturn, 1) := by decide +kernel
theorem dX5_count_84 : decode cX5_count 84 = .ok (.aload_n 0, 1) := by decide +kernel
theorem dX5_count_85 : decode cX5_count 85 = .ok (.getfield 12, 3) := by decide +kernel
theorem dX5_count_88 : decode cX5_count 88 = .ok (.getfield 44, 3) := by decide +kernel
theorem dX5_count_91 : decode cX5_count 91 = .ok (.ireturn, 1) := by decide +kernel
theorem dX5_count_92 : decode cX5_count 92 = .ok (.aload_n 0, 1) := by decide +kernel
theorem dX5_count_93 : decode cX5_count 93 = .ok (.getfield 12, 3) := by decide +kernel
theorem dX5_count_96 : decode cX5_count 96 = .ok (.getfield 63, 3) := by decide +kernel
theorem dX5_count_99 : decode cX5_count 99 = .ok (.getfield 67, 3) := by decide +kernel
theorem dX5_count_102 : decode cX5_count 102 = .ok (.ireturn, 1) := by decide +kernel
theorem dX5_count_103 : decode cX5_count 103 = .ok (.aload_n 0, 1) := by decide +kernel
theorem dX5_count_104 : decode cX5_count 104 = .ok (.getfield 12, 3) := by decide +kernel
theorem dX5_count_107 : decode cX5_count 107 = .ok (.invokevirtual 108, 3) := by decide +kernel
theorem dX5_count_110 : decode cX5_count 110 = .ok (.ireturn, 1) := by decide +kernel
theorem dX5_count_111 : decode cX5_count 111 = .ok (.aload_n 0, 1) := by decide +kernel
theorem dX5_count_112 : decode cX5_count 112 = .ok (.getfield 12, 3) := by decide +kernel
theorem dX5_count_115 : decode cX5_count 115 = .ok (.iload_n 1, 1) := by decide +kernel
theorem dX5_count_116 : decode cX5_count 116 = .ok (.iconst 4, 1) := by decide +kernel
theorem dX5_count_117 : decode cX5_count 117 = .ok (.isub, 1) := by decide +kernel
theorem dX5_count_118 : decode cX5_count 118 = .ok (.invokevirtual 81, 3) := by decide +kernel
theorem dX5_count_121 : decode cX5_count 121 = .ok (.ireturn, 1) := by decide +kernel
theorem dX5_count_122 : decode cX5_count 122 = .ok (.aload_n 0, 1) := by decide +kernel
theorem dX5_count_123 : decode cX5_count 123 = .ok (.getfield 12, 3) := by decide +kernel
theorem dX5_count_126 : decode cX5_count 126 = .ok (.getfield 55, 3) := by decide +kernel
theorem dX5_count_129 : decode cX5_count 129 = .ok (.aload_n 0, 1) := by decide +kernel
theorem dX5_count_130 : decode cX5_count 130 = .ok (.getfield 12, 3) := by decide +kernel
theorem dX5_count_133 : decode cX5_count 133 = .ok (.getfield 44, 3) := by decide +kernel
theorem dX5_count_136 : decode cX5_count 136 = .ok (.invokestatic 220, 3) := by decide +kernel
theorem dX5_count_139 : decode cX5_count 139 = .ok (.ireturn, 1) := by decide +kernel
theorem dX5_count_140 : decode cX5_count 140 = .ok (.aload_n 0, 1) := by decide +kernel
theorem dX5_count_141 : decode cX5_count 141 = .ok (.invokevirtual 144, 3) := by decide +kernel
theorem dX5_count_144 : decode cX5_count 144 = .ok (.aload_n 0, 1) := by decide +kernel
theorem dX5_count_145 : decode cX5_count 145 = .ok (.getfield 40, 3) := by decide +kernel
theorem dX5_count_148 : decode cX5_count 148 = .ok (.getfield 192, 3) := by decide +kernel
theorem dX5_count_151 : decode cX5_count 151 = .ok (.aload_n 0, 1) := by decide +kernel
theorem dX5_count_152 : decode cX5_count 152 = .ok (.getfield 12, 3) := by decide +kernel
theorem dX5_count_155 : decode cX5_count 155 = .ok (.getfield 44, 3) := by decide +kernel
theorem dX5_count_158 : decode cX5_count 158 = .ok (.invokestatic 220, 3) := by decide +kernel
theorem dX5_count_161 : decode cX5_count 161 = .ok (.ireturn, 1) := by decide +kernel
theorem dX5_count_162 : decode cX5_count 162 = .ok (.aload_n 0, 1) := by decide +kernel
theorem dX5_count_163 : decode cX5_count 163 = .ok (.invokevirtual 144, 3) := by decide +kernel
theorem dX5_count_166 : decode cX5_count 166 = .ok (.aload_n 0, 1) := by decide +kernel
theorem dX5_count_167 : decode cX5_count 167 = .ok (.getfield 40, 3) := by decide +kernel
theorem dX5_count_170 : decode cX5_count 170 = .ok (.getfield 195, 3) := by decide +kernel
theorem dX5_count_173 : decode cX5_count 173 = .ok (.aload_n 0, 1) := by decide +kernel
theorem dX5_count_174 : decode cX5_count 174 = .ok (.getfield 12, 3) := by decide +kernel
theorem dX5_count_177 : decode cX5_count 177 = .ok (.getfield 44, 3) := by decide +kernel
theorem dX5_count_180 : decode cX5_count 180 = .ok (.invokestatic 220, 3) := by decide +kernel
theorem dX5_count_183 : decode cX5_count 183 = .ok (.aload_n 0, 1) := by decide +kernel
theorem dX5_count_184 : decode cX5_count 184 = .ok (.getfield 40, 3) := by decide +kernel
theorem dX5_count_187 : decode cX5_count 187 = .ok (.getfield 198, 3) := by decide +kernel
theorem dX5_count_190 : decode cX5_count 190 = .ok (.aload_n 0, 1) := by decide +kernel
theorem dX5_count_191 : decode cX5_count 191 = .ok (.getfield 12, 3) := by decide +kernel
theorem dX5_count_194 : decode cX5_count 194 = .ok (.getfield 44, 3) := by decide +kernel
theorem dX5_count_197 : decode cX5_count 197 = .ok (.invokestatic 220, 3) := by decide +kernel
theorem dX5_count_200 : decode cX5_count 200 = .ok (.iadd, 1) := by decide +kernel
theorem dX5_count_201 : decode cX5_count 201 = .ok (.ireturn, 1) := by decide +kernel
theorem dX5_count_202 : decode cX5_count 202 = .ok (.aload_n 0, 1) := by decide +kernel
theorem dX5_count_203 : decode cX5_count 203 = .ok (.getfield 12, 3) := by decide +kernel
theorem dX5_count_206 : decode cX5_count 206 = .ok (.invokevirtual 224, 3) := by decide +kernel
theorem dX5_count_209 : decode cX5_count 209 = .ok (.ireturn, 1) := by decide +kernel
theorem dX5_count_210 : decode cX5_count 210 = .ok (.aload_n 0, 1) := by decide +kernel
theorem dX5_count_211 : decode cX5_count 211 = .ok (.getfield 12, 3) := by decide +kernel
theorem dX5_count_214 : decode cX5_count 214 = .ok (.getfield 163, 3) := by decide +kernel
theorem dX5_count_217 : decode cX5_count 217 = .ok (.ireturn, 1) := by decide +kernel
theorem dX5_count_218 : decode cX5_count 218 = .ok (.aload_n 0, 1) := by decide +kernel
theorem dX5_count_219 : decode cX5_count 219 = .ok (.getfield 12, 3) := by decide +kernel
theorem dX5_count_222 : decode cX5_count 222 = .ok (.invokevirtual 227, 3) := by decide +kernel
theorem dX5_count_225 : decode cX5_count 225 = .ok (.ireturn, 1) := by decide +kernel
theorem dX5_count_226 : decode cX5_count 226 = .ok (.aload_n 0, 1) := by decide +kernel
theorem dX5_count_227 : decode cX5_count 227 = .ok (.getfield 26, 3) := by decide +kernel
theorem dX5_count_230 : decode cX5_count 230 = .ok (.getfield 186, 3) := by decide +kernel
theorem dX5_count_233 : decode cX5_count 233 = .ok (.ireturn, 1) := by decide +kernel
theorem dX5_count_234 : decode cX5_count 234 = .ok (.aload_n 0, 1) := by decide +kernel
theorem dX5_count_235 : decode cX5_count 235 = .ok (.getfield 33, 3) := by decide +kernel
theorem dX5_count_238 : decode cX5_count 238 = .ok (.getfield 176, 3) := by decide +kernel
theorem dX5_count_241 : decode cX5_count 241 = .ok (.ireturn, 1) := by decide +kernel
theorem dX5_count_242 : decode cX5_count 242 = .ok (.bipush (-2), 2) := by decide +kernel
theorem dX5_count_244 : decode cX5_count 244 = .ok (.ireturn, 1) := by decide +kernel
set_option maxRecDepth 20000 in
theorem ggX5_drawUpOpenYear_X2_countUnits : GoodIn wsX5_drawUpOpenYear wsX2_countUnits := goodIn_r _ [8, 9, 10, 11, 12, 13, 14, 15, 16, 17, 18, 7, 19, 20, 21, 22, 23, 24, 25, 26, 27, 28, 29, 30, 31, 32, 75, 76, 77, 78, 79, 80, 81, 82, 83, 84, 85, 86, 87, 88, 89, 90, 91, 92, 93, 94] (by decide +kernel) (by decide +kernel)
set_option maxRecDepth 20000 in
theorem gX5_drawUpOpenYear_X2_countUnits : GoodIn wsX5_drawUpOpenYear (wsV RX5 98 RX2 yX2_countUnits wsX2_countUnits) := goodIn_app (goodIn_of _ (by decide +kernel)) ggX5_drawUpOpenYear_X2_countUnits
set_option maxRecDepth 20000 in
theorem ggX5_drawUpOpenYear_X0_drawUp : GoodIn wsX5_drawUpOpenYear wsX0_drawUp := goodIn_r _ [37, 38, 39, 40, 41, 42, 43, 44, 45, 46, 47, 48, 49, 50, 36, 51, 52, 53, 54, 55, 56, 57, 58, 59, 60, 61, 62, 63, 64, 65, 66, 67, 68, 95, 96, 97, 98, 99, 87, 88, 89, 90, 91, 92, 93, 94, 75, 76, 77, 78, 79, 80, 81, 82, 83, 84, 85, 86] (by decide +kernel) (by decide +kernel)
set_option maxRecDepth 20000 in
theorem gX5_drawUpOpenYear_X0_drawUp : GoodIn wsX5_drawUpOpenYear (wsV RX5 166 RX0 yX0_drawUp wsX0_drawUp) := goodIn_app (goodIn_of _ (by decide +kernel)) ggX5_drawUpOpenYear_X0_drawUp
theorem dX5_drawUpOpenYear_0 : decode cX5_drawUpOpenYear 0 = .ok (.aload_n 0, 1) := by decide +kernel
theorem dX5_drawUpOpenYear_1 : decode cX5_drawUpOpenYear 1 = .ok (.getfield 12, 3) := by decide +kernel
theorem dX5_drawUpOpenYear_4 : decode cX5_drawUpOpenYear 4 = .ok (.invokevirtual 98, 3) := by decide +kernel
theorem dX5_drawUpOpenYear_7 : decode cX5_drawUpOpenYear 7 = .ok (.aload_n 0, 1) := by decide +kernel
theorem dX5_drawUpOpenYear_8 : decode cX5_drawUpOpenYear 8 = .ok (.getfield 40, 3) := by decide +kernel
theorem dX5_drawUpOpenYear_11 : decode cX5_drawUpOpenYear 11 = .ok (.aload_n 0, 1) := by decide +kernel
theorem dX5_drawUpOpenYear_12 : decode cX5_drawUpOpenYear 12 = .ok (.getfield 12, 3) := by decide +kernel
theorem dX5_drawUpOpenYear_15 : decode cX5_drawUpOpenYear 15 = .ok (.aload_n 0, 1) := by decide +kernel
theorem dX5_drawUpOpenYear_16 : decode cX5_drawUpOpenYear 16 = .ok (.getfield 12, 3) := by decide +kernel
theorem dX5_drawUpOpenYear_19 : decode cX5_drawUpOpenYear 19 = .ok (.getfield 63, 3) := by decide +kernel
theorem dX5_drawUpOpenYear_22 : decode cX5_drawUpOpenYear 22 = .ok (.invokevirtual 166, 3) := by decide +kernel
theorem dX5_drawUpOpenYear_25 : decode cX5_drawUpOpenYear 25 = .ok (.return_, 1) := by decide +kernel
set_option maxRecDepth 20000 in
theorem ggX5_billWithShare_X0_shareCost : GoodIn wsX5_billWithShare wsX0_shareCost := goodIn_r _ [9, 10, 11, 12, 13, 14, 15, 16, 17, 18, 19, 20, 8, 21, 22, 23, 24, 25, 26, 27, 58, 59, 60, 61, 62, 38, 39, 40, 41, 42, 43, 44, 45, 46, 47, 48, 49] (by decide +kernel) (by decide +kernel)
set_option maxRecDepth 20000 in
theorem gX5_billWithShare_X0_shareCost : GoodIn wsX5_billWithShare (wsV RX5 233 RX0 yX0_shareCost wsX0_shareCost) := goodIn_app (goodIn_of _ (by decide +kernel)) ggX5_billWithShare_X0_shareCost
set_option maxRecDepth 20000 in
theorem ggX5_billWithShare_X0_billOfFlat : GoodIn wsX5_billWithShare wsX0_billOfFlat := goodIn_r _ [31, 13, 14, 58, 59, 60, 61, 62] (by decide +kernel) (by decide +kernel)
set_option maxRecDepth 20000 in
theorem gX5_billWithShare_X0_billOfFlat : GoodIn wsX5_billWithShare (wsV RX5 201 RX0 yX0_billOfFlat wsX0_billOfFlat) := goodIn_app (goodIn_of _ (by decide +kernel)) ggX5_billWithShare_X0_billOfFlat
theorem dX5_billWithShare_0 : decode cX5_billWithShare 0 = .ok (.aload_n 0, 1) := by decide +kernel
theorem dX5_billWithShare_1 : decode cX5_billWithShare 1 = .ok (.getfield 40, 3) := by decide +kernel
theorem dX5_billWithShare_4 : decode cX5_billWithShare 4 = .ok (.aload_n 0, 1) := by decide +kernel
theorem dX5_billWithShare_5 : decode cX5_billWithShare 5 = .ok (.getfield 12, 3) := by decide +kernel
theorem dX5_billWithShare_8 : decode cX5_billWithShare 8 = .ok (.aload_n 0, 1) := by decide +kernel
theorem dX5_billWithShare_9 : decode cX5_billWithShare 9 = .ok (.getfield 12, 3) := by decide +kernel
theorem dX5_billWithShare_12 : decode cX5_billWithShare 12 = .ok (.getfield 63, 3) := by decide +kernel
theorem dX5_billWithShare_15 : decode cX5_billWithShare 15 = .ok (.getfield 230, 3) := by decide +kernel
theorem dX5_billWithShare_18 : decode cX5_billWithShare 18 = .ok (.iload_n 2, 1) := by decide +kernel
theorem dX5_billWithShare_19 : decode cX5_billWithShare 19 = .ok (.invokevirtual 233, 3) := by decide +kernel
theorem dX5_billWithShare_22 : decode cX5_billWithShare 22 = .ok (.aload_n 0, 1) := by decide +kernel
theorem dX5_billWithShare_23 : decode cX5_billWithShare 23 = .ok (.getfield 40, 3) := by decide +kernel
theorem dX5_billWithShare_26 : decode cX5_billWithShare 26 = .ok (.iload_n 1, 1) := by decide +kernel
theorem dX5_billWithShare_27 : decode cX5_billWithShare 27 = .ok (.invokevirtual 201, 3) := by decide +kernel
theorem dX5_billWithShare_30 : decode cX5_billWithShare 30 = .ok (.ireturn, 1) := by decide +kernel
theorem dX5_tenantOf_0 : decode cX5_tenantOf 0 = .ok (.iload_n 1, 1) := by decide +kernel
theorem dX5_tenantOf_1 : decode cX5_tenantOf 1 = .ok (.ifCond .eq 11, 3) := by decide +kernel
theorem dX5_tenantOf_4 : decode cX5_tenantOf 4 = .ok (.iconst 2, 1) := by decide +kernel
theorem dX5_tenantOf_5 : decode cX5_tenantOf 5 = .ok (.iload_n 0, 1) := by decide +kernel
theorem dX5_tenantOf_6 : decode cX5_tenantOf 6 = .ok (.imul, 1) := by decide +kernel
theorem dX5_tenantOf_7 : decode cX5_tenantOf 7 = .ok (.iconst 1, 1) := by decide +kernel
theorem dX5_tenantOf_8 : decode cX5_tenantOf 8 = .ok (.iadd, 1) := by decide +kernel
theorem dX5_tenantOf_9 : decode cX5_tenantOf 9 = .ok (.goto 6, 3) := by decide +kernel
theorem dX5_tenantOf_12 : decode cX5_tenantOf 12 = .ok (.iconst 2, 1) := by decide +kernel
theorem dX5_tenantOf_13 : decode cX5_tenantOf 13 = .ok (.iload_n 0, 1) := by decide +kernel
theorem dX5_tenantOf_14 : decode cX5_tenantOf 14 = .ok (.imul, 1) := by decide +kernel
theorem dX5_tenantOf_15 : decode cX5_tenantOf 15 = .ok (.ireturn, 1) := by decide +kernel
theorem dX5_weightsAhead_0 : decode cX5_weightsAhead 0 = .ok (.iconst 0, 1) := by decide +kernel
theorem dX5_weightsAhead_1 : decode cX5_weightsAhead 1 = .ok (.istore_n 1, 1) := by decide +kernel
theorem dX5_weightsAhead_2 : decode cX5_weightsAhead 2 = .ok (.iconst 0, 1) := by decide +kernel
theorem dX5_weightsAhead_3 : decode cX5_weightsAhead 3 = .ok (.istore_n 2, 1) := by decide +kernel
theorem dX5_weightsAhead_4 : decode cX5_weightsAhead 4 = .ok (.iload_n 2, 1) := by decide +kernel
theorem dX5_weightsAhead_5 : decode cX5_weightsAhead 5 = .ok (.iload_n 0, 1) := by decide +kernel
theorem dX5_weightsAhead_6 : decode cX5_weightsAhead 6 = .ok (.if_icmp .ge 25, 3) := by decide +kernel
theorem dX5_weightsAhead_9 : decode cX5_weightsAhead 9 = .ok (.iload_n 2, 1) := by decide +kernel
theorem dX5_weightsAhead_10 : decode cX5_weightsAhead 10 = .ok (.getstatic 237, 3) := by decide +kernel
theorem dX5_weightsAhead_13 : decode cX5_weightsAhead 13 = .ok (.arraylength, 1) := by decide +kernel
theorem dX5_weightsAhead_14 : decode cX5_weightsAhead 14 = .ok (.if_icmp .ge 17, 3) := by decide +kernel
theorem dX5_weightsAhead_17 : decode cX5_weightsAhead 17 = .ok (.iload_n 1, 1) := by decide +kernel
theorem dX5_weightsAhead_18 : decode cX5_weightsAhead 18 = .ok (.getstatic 237, 3) := by decide +kernel
theorem dX5_weightsAhead_21 : decode cX5_weightsAhead 21 = .ok (.iload_n 2, 1) := by decide +kernel
theorem dX5_weightsAhead_22 : decode cX5_weightsAhead 22 = .ok (.iaload, 1) := by decide +kernel
theorem dX5_weightsAhead_23 : decode cX5_weightsAhead 23 = .ok (.iadd, 1) := by decide +kernel
theorem dX5_weightsAhead_24 : decode cX5_weightsAhead 24 = .ok (.istore_n 1, 1) := by decide +kernel
theorem dX5_weightsAhead_25 : decode cX5_weightsAhead 25 = .ok (.iinc 2 1, 3) := by decide +kernel
theorem dX5_weightsAhead_28 : decode cX5_weightsAhead 28 = .ok (.goto (-24), 3) := by decide +kernel
theorem dX5_weightsAhead_31 : decode cX5_weightsAhead 31 = .ok (.iload_n 1, 1) := by decide +kernel
theorem dX5_weightsAhead_32 : decode cX5_weightsAhead 32 = .ok (.ireturn, 1) := by decide +kernel
theorem dX5_sumOf_0 : decode cX5_sumOf 0 = .ok (.iconst 0, 1) := by decide +kernel
theorem dX5_sumOf_1 : decode cX5_sumOf 1 = .ok (.istore_n 2, 1) := by decide +kernel
theorem dX5_sumOf_2 : decode cX5_sumOf 2 = .ok (.iconst 0, 1) := by decide +kernel
theorem dX5_sumOf_3 : decode cX5_sumOf 3 = .ok (.istore_n 3, 1) := by decide +kernel
theorem dX5_sumOf_4 : decode cX5_sumOf 4 = .ok (.iload_n 3, 1) := by decide +kernel
theorem dX5_sumOf_5 : decode cX5_sumOf 5 = .ok (.iload_n 1, 1) := by decide +kernel
theorem dX5_sumOf_6 : decode cX5_sumOf 6 = .ok (.if_icmp .ge 21, 3) := by decide +kernel
theorem dX5_sumOf_9 : decode cX5_sumOf 9 = .ok (.iload_n 3, 1) := by decide +kernel
theorem dX5_sumOf_10 : decode cX5_sumOf 10 = .ok (.aload_n 0, 1) := by decide +kernel
theorem dX5_sumOf_11 : decode cX5_sumOf 11 = .ok (.arraylength, 1) := by decide +kernel
theorem dX5_sumOf_12 : decode cX5_sumOf 12 = .ok (.if_icmp .ge 15, 3) := by decide +kernel
theorem dX5_sumOf_15 : decode cX5_sumOf 15 = .ok (.iload_n 2, 1) := by decide +kernel
theorem dX5_sumOf_16 : decode cX5_sumOf 16 = .ok (.aload_n 0, 1) := by decide +kernel
theorem dX5_sumOf_17 : decode cX5_sumOf 17 = .ok (.iload_n 3, 1) := by decide +kernel
theorem dX5_sumOf_18 : decode cX5_sumOf 18 = .ok (.iaload, 1) := by decide +kernel
theorem dX5_sumOf_19 : decode cX5_sumOf 19 = .ok (.iadd, 1) := by decide +kernel
theorem dX5_sumOf_20 : decode cX5_sumOf 20 = .ok (.istore_n 2, 1) := by decide +kernel
theorem dX5_sumOf_21 : decode cX5_sumOf 21 = .ok (.iinc 3 1, 3) := by decide +kernel
theorem dX5_sumOf_24 : decode cX5_sumOf 24 = .ok (.goto (-20), 3) := by decide +kernel
theorem dX5_sumOf_27 : decode cX5_sumOf 27 = .ok (.iload_n 2, 1) := by decide +kernel
theorem dX5_sumOf_28 : decode cX5_sumOf 28 = .ok (.ireturn, 1) := by decide +kernel
theorem dX6_init_0 : decode cX6_init 0 = .ok (.aload_n 0, 1) := by decide +kernel
theorem dX6_init_1 : decode cX6_init 1 = .ok (.invokespecial 1, 3) := by decide +kernel
theorem dX6_init_4 : decode cX6_init 4 = .ok (.aload_n 0, 1) := by decide +kernel
theorem dX6_init_5 : decode cX6_init 5 = .ok (.sipush 415, 3) := by decide +kernel
theorem dX6_init_8 : decode cX6_init 8 = .ok (.newarray .int, 2) := by decide +kernel
theorem dX6_init_10 : decode cX6_init 10 = .ok (.putfield 7, 3) := by decide +kernel
theorem dX6_init_13 : decode cX6_init 13 = .ok (.aload_n 0, 1) := by decide +kernel
theorem dX6_init_14 : decode cX6_init 14 = .ok (.sipush 1660, 3) := by decide +kernel
theorem dX6_init_17 : decode cX6_init 17 = .ok (.newarray .int, 2) := by decide +kernel
theorem dX6_init_19 : decode cX6_init 19 = .ok (.putfield 13, 3) := by decide +kernel
theorem dX6_init_22 : decode cX6_init 22 = .ok (.aload_n 0, 1) := by decide +kernel
theorem dX6_init_23 : decode cX6_init 23 = .ok (.sipush 415, 3) := by decide +kernel
theorem dX6_init_26 : decode cX6_init 26 = .ok (.newarray .int, 2) := by decide +kernel
theorem dX6_init_28 : decode cX6_init 28 = .ok (.putfield 16, 3) := by decide +kernel
theorem dX6_init_31 : decode cX6_init 31 = .ok (.aload_n 0, 1) := by decide +kernel
theorem dX6_init_32 : decode cX6_init 32 = .ok (.bipush 60, 2) := by decide +kernel
theorem dX6_init_34 : decode cX6_init 34 = .ok (.newarray .char, 2) := by decide +kernel
theorem dX6_init_36 : decode cX6_init 36 = .ok (.putfield 19, 3) := by decide +kernel
theorem dX6_init_39 : decode cX6_init 39 = .ok (.aload_n 0, 1) := by decide +kernel
theorem dX6_init_40 : decode cX6_init 40 = .ok (.bipush 8, 2) := by decide +kernel
theorem dX6_init_42 : decode cX6_init 42 = .ok (.newarray .int, 2) := by decide +kernel
theorem dX6_init_44 : decode cX6_init 44 = .ok (.putfield 23, 3) := by decide +kernel
theorem dX6_init_47 : decode cX6_init 47 = .ok (.aload_n 0, 1) := by decide +kernel
theorem dX6_init_48 : decode cX6_init 48 = .ok (.bipush 8, 2) := by decide +kernel
theorem dX6_init_50 : decode cX6_init 50 = .ok (.newarray .int, 2) := by decide +kernel
theorem dX6_init_52 : decode cX6_init 52 = .ok (.putfield 26, 3) := by decide +kernel
theorem dX6_init_55 : decode cX6_init 55 = .ok (.aload_n 0, 1) := by decide +kernel
theorem dX6_init_56 : decode cX6_init 56 = .ok (.bipush 8, 2) := by decide +kernel
theorem dX6_init_58 : decode cX6_init 58 = .ok (.newarray .long, 2) := by decide +kernel
theorem dX6_init_60 : decode cX6_init 60 = .ok (.putfield 29, 3) := by decide +kernel
theorem dX6_init_63 : decode cX6_init 63 = .ok (.aload_n 0, 1) := by decide +kernel
theorem dX6_init_64 : decode cX6_init 64 = .ok (.bipush 8, 2) := by decide +kernel
theorem dX6_init_66 : decode cX6_init 66 = .ok (.newarray .int, 2) := by decide +kernel
theorem dX6_init_68 : decode cX6_init 68 = .ok (.putfield 33, 3) := by decide +kernel
theorem dX6_init_71 : decode cX6_init 71 = .ok (.aload_n 0, 1) := by decide +kernel
theorem dX6_init_72 : decode cX6_init 72 = .ok (.bipush 8, 2) := by decide +kernel
theorem dX6_init_74 : decode cX6_init 74 = .ok (.newarray .int, 2) := by decide +kernel
theorem dX6_init_76 : decode cX6_init 76 = .ok (.putfield 36, 3) := by decide +kernel
theorem dX6_init_79 : decode cX6_init 79 = .ok (.aload_n 0, 1) := by decide +kernel
theorem dX6_init_80 : decode cX6_init 80 = .ok (.bipush 8, 2) := by decide +kernel
theorem dX6_init_82 : decode cX6_init 82 = .ok (.newarray .int, 2) := by decide +kernel
theorem dX6_init_84 : decode cX6_init 84 = .ok (.putfield 39, 3) := by decide +kernel
theorem dX6_init_87 : decode cX6_init 87 = .ok (.aload_n 0, 1) := by decide +kernel
theorem dX6_init_88 : decode cX6_init 88 = .ok (.bipush 64, 2) := by decide +kernel
theorem dX6_init_90 : decode cX6_init 90 = .ok (.newarray .int, 2) := by decide +kernel
theorem dX6_init_92 : decode cX6_init 92 = .ok (.putfield 42, 3) := by decide +kernel
theorem dX6_init_95 : decode cX6_init 95 = .ok (.aload_n 0, 1) := by decide +kernel
theorem dX6_init_96 : decode cX6_init 96 = .ok (.getfield 7, 3) := by decide +kernel
theorem dX6_init_99 : decode cX6_init 99 = .ok (.iconst 4, 1) := by decide +kernel
theorem dX6_init_100 : decode cX6_init 100 = .ok (.bipush 40, 2) := by decide +kernel
theorem dX6_init_102 : decode cX6_init 102 = .ok (.iastore, 1) := by decide +kernel
theorem dX6_init_103 : decode cX6_init 103 = .ok (.return_, 1) := by decide +kernel
theorem dX6_in_0 : decode cX6_in 0 = .ok (.iload_n 0, 1) := by decide +kernel
theorem dX6_in_1 : decode cX6_in 1 = .ok (.iload_n 1, 1) := by decide +kernel
theorem dX6_in_2 : decode cX6_in 2 = .ok (.if_icmp .lt 12, 3) := by decide +kernel
theorem dX6_in_5 : decode cX6_in 5 = .ok (.iload_n 0, 1) := by decide +kernel
theorem dX6_in_6 : decode cX6_in 6 = .ok (.iload_n 2, 1) := by decide +kernel
theorem dX6_in_7 : decode cX6_in 7 = .ok (.if_icmp .gt 7, 3) := by decide +kernel
theorem dX6_in_10 : decode cX6_in 10 = .ok (.iconst 1, 1) := by decide +kernel
theorem dX6_in_11 : decode cX6_in 11 = .ok (.goto 4, 3) := by decide +kernel
theorem dX6_in_14 : decode cX6_in 14 = .ok (.iconst 0, 1) := by decide +kernel
theorem dX6_in_15 : decode cX6_in 15 = .ok (.ireturn, 1) := by decide +kernel
theorem dX6_lays_0 : decode cX6_lays 0 = .ok (.iconst 0, 1) := by decide +kernel
theorem dX6_lays_1 : decode cX6_lays 1 = .ok (.istore 4, 2) := by decide +kernel
theorem dX6_lays_3 : decode cX6_lays 3 = .ok (.iload 4, 2) := by decide +kernel
theorem dX6_lays_5 : decode cX6_lays 5 = .ok (.sipush 415, 3) := by decide +kernel
theorem dX6_lays_8 : decode cX6_lays 8 = .ok (.if_icmp .ge 21, 3) := by decide +kernel
theorem dX6_lays_11 : decode cX6_lays 11 = .ok (.aload_n 2, 1) := by decide +kernel
theorem dX6_lays_12 : decode cX6_lays 12 = .ok (.iload_n 3, 1) := by decide +kernel
theorem dX6_lays_13 : decode cX6_lays 13 = .ok (.iload 4, 2) := by decide +kernel
theorem dX6_lays_15 : decode cX6_lays 15 = .ok (.iadd, 1) := by decide +kernel
theorem dX6_lays_16 : decode cX6_lays 16 = .ok (.aload_n 0, 1) := by decide +kernel
theorem dX6_lays_17 : decode cX6_lays 17 = .ok (.iload_n 1, 1) := by decide +kernel
theorem dX6_lays_18 : decode cX6_lays 18 = .ok (.iload 4, 2) := by decide +kernel
theorem dX6_lays_20 : decode cX6_lays 20 = .ok (.iadd, 1) := by decide +kernel
theorem dX6_lays_21 : decode cX6_lays 21 = .ok (.iaload, 1) := by decide +kernel
theorem dX6_lays_22 : decode cX6_lays 22 = .ok (.iastore, 1) := by decide +kernel
theorem dX6_lays_23 : decode cX6_lays 23 = .ok (.iinc 4 1, 3) := by decide +kernel
theorem dX6_lays_26 : decode cX6_lays 26 = .ok (.goto (-23), 3) := by decide +kernel
theorem dX6_lays_29 : decode cX6_lays 29 = .ok (.return_, 1) := by decide +kernel
set_option maxRecDepth 20000 in
theorem ggX6_records_X6_lays : GoodIn wsX6_records wsX6_lays := goodIn_r _ [7] (by decide +kernel) (by decide +kernel)
set_option maxRecDepth 20000 in
theorem gX6_records_X6_lays : GoodIn wsX6_records (va_wsS RX6 49 yX6_lays wsX6_lays) := goodIn_app (goodIn_of _ (by decide +kernel)) ggX6_records_X6_lays
theorem dX6_records_0 : decode cX6_records 0 = .ok (.aload_n 0, 1) := by decide +kernel
theorem dX6_records_1 : decode cX6_records 1 = .ok (.getfield 45, 3) := by decide +kernel
theorem dX6_records_4 : decode cX6_records 4 = .ok (.iconst 4, 1) := by decide +kernel
theorem dX6_records_5 : decode cX6_records 5 = .ok (.if_icmp .ne 44, 3) := by decide +kernel
theorem dX6_records_8 : decode cX6_records 8 = .ok (.iconst 0, 1) := by decide +kernel
theorem dX6_records_9 : decode cX6_records 9 = .ok (.istore_n 1, 1) := by decide +kernel
theorem dX6_records_10 : decode cX6_records 10 = .ok (.iload_n 1, 1) := by decide +kernel
theorem dX6_records_11 : decode cX6_records 11 = .ok (.sipush 1245, 3) := by decide +kernel
theorem dX6_records_14 : decode cX6_records 14 = .ok (.if_icmp .ge 25, 3) := by decide +kernel
theorem dX6_records_17 : decode cX6_records 17 = .ok (.aload_n 0, 1) := by decide +kernel
theorem dX6_records_18 : decode cX6_records 18 = .ok (.getfield 13, 3) := by decide +kernel
theorem dX6_records_21 : decode cX6_records 21 = .ok (.iload_n 1, 1) := by decide +kernel
theorem dX6_records_22 : decode cX6_records 22 = .ok (.aload_n 0, 1) := by decide +kernel
theorem dX6_records_23 : decode cX6_records 23 = .ok (.getfield 13, 3) := by decide +kernel
theorem dX6_records_26 : decode cX6_records 26 = .ok (.iload_n 1, 1) := by decide +kernel
theorem dX6_records_27 : decode cX6_records 27 = .ok (.sipush 415, 3) := by decide +kernel
theorem dX6_records_30 : decode cX6_records 30 = .ok (.iadd, 1) := by decide +kernel
theorem dX6_records_31 : decode cX6_records 31 = .ok (.iaload, 1) := by decide +kernel
theorem dX6_records_32 : decode cX6_records 32 = .ok (.iastore, 1) := by decide +kernel
theorem dX6_records_33 : decode cX6_records 33 = .ok (.iinc 1 1, 3) := by decide +kernel
theorem dX6_records_36 : decode cX6_records 36 = .ok (.goto (-26), 3) := by decide +kernel
theorem dX6_records_39 : decode cX6_records 39 = .ok (.aload_n 0, 1) := by decide +kernel
theorem dX6_records_40 : decode cX6_records 40 = .ok (.dup, 1) := by decide +kernel
theorem dX6_records_41 : decode cX6_records 41 = .ok (.getfield 45, 3) := by decide +kernel
theorem dX6_records_44 : decode cX6_records 44 = .ok (.iconst 1, 1) := by decide +kernel
theorem dX6_records_45 : decode cX6_records 45 = .ok (.isub, 1) := by decide +kernel
theorem dX6_records_46 : decode cX6_records 46 = .ok (.putfield 45, 3) := by decide +kernel
theorem dX6_records_49 : decode cX6_records 49 = .ok (.aload_n 0, 1) := by decide +kernel
theorem dX6_records_50 : decode cX6_records 50 = .ok (.getfield 7, 3) := by decide +kernel
theorem dX6_records_53 : decode cX6_records 53 = .ok (.iconst 0, 1) := by decide +kernel
theorem dX6_records_54 : decode cX6_records 54 = .ok (.aload_n 0, 1) := by decide +kernel
theorem dX6_records_55 : decode cX6_records 55 = .ok (.getfield 13, 3) := by decide +kernel
theorem dX6_records_58 : decode cX6_records 58 = .ok (.sipush 415, 3) := by decide +kernel
theorem dX6_records_61 : decode cX6_records 61 = .ok (.aload_n 0, 1) := by decide +kernel
theorem dX6_records_62 : decode cX6_records 62 = .ok (.getfield 45, 3) := by decide +kernel
theorem dX6_records_65 : decode cX6_records 65 = .ok (.imul, 1) := by decide +kernel
theorem dX6_records_66 : decode cX6_records 66 = .ok (.invokestatic 49, 3) := by decide +kernel
theorem dX6_records_69 : decode cX6_records 69 = .ok (.aload_n 0, 1) := by decide +kernel
theorem dX6_records_70 : decode cX6_records 70 = .ok (.dup, 1) := by decide +kernel
theorem dX6_records_71 : decode cX6_records 71 = .ok (.getfield 45, 3) := by decide +kernel
theorem dX6_records_74 : decode cX6_records 74 = .ok (.iconst 1, 1) := by decide +kernel
theorem dX6_records_75 : decode cX6_records 75 = .ok (.iadd, 1) := by decide +kernel
theorem dX6_records_76 : decode cX6_records 76 = .ok (.putfield 45, 3) := by decide +kernel
theorem dX6_records_79 : decode cX6_records 79 = .ok (.return_, 1) := by decide +kernel
set_option maxRecDepth 20000 in
theorem ggX6_undo_X6_lays : GoodIn wsX6_undo wsX6_lays := goodIn_r _ [7] (by decide +kernel) (by decide +kernel)
set_option maxRecDepth 20000 in
theorem gX6_undo_X6_lays : GoodIn wsX6_undo (va_wsS RX6 49 yX6_lays wsX6_lays) := goodIn_app (goodIn_of _ (by decide +kernel)) ggX6_undo_X6_lays
theorem dX6_undo_0 : decode cX6_undo 0 = .ok (.aload_n 0, 1) := by decide +kernel
theorem dX6_undo_1 : decode cX6_undo 1 = .ok (.getfield 45, 3) := by decide +kernel
theorem dX6_undo_4 : decode cX6_undo 4 = .ok (.ifCond .ne 6, 3) := by decide +kernel
theorem dX6_undo_7 : decode cX6_undo 7 = .ok (.bipush (-5), 2) := by decide +kernel
theorem dX6_undo_9 : decode cX6_undo 9 = .ok (.ireturn, 1) := by decide +kernel
theorem dX6_undo_10 : decode cX6_undo 10 = .ok (.aload_n 0, 1) := by decide +kernel
theorem dX6_undo_11 : decode cX6_undo 11 = .ok (.dup, 1) := by decide +kernel
theorem dX6_undo_12 : decode cX6_undo 12 = .ok (.getfield 45, 3) := by decide +kernel
theorem dX6_undo_15 : decode cX6_undo 15 = .ok (.iconst 1, 1) := by decide +kernel
theorem dX6_undo_16 : decode cX6_undo 16 = .ok (.isub, 1) := by decide +kernel
theorem dX6_undo_17 : decode cX6_undo 17 = .ok (.putfield 45, 3) := by decide +kernel
theorem dX6_undo_20 : decode cX6_undo 20 = .ok (.aload_n 0, 1) := by decide +kernel
theorem dX6_undo_21 : decode cX6_undo 21 = .ok (.getfield 13, 3) := by decide +kernel
theorem dX6_undo_24 : decode cX6_undo 24 = .ok (.sipush 415, 3) := by decide +kernel
theorem dX6_undo_27 : decode cX6_undo 27 = .ok (.aload_n 0, 1) := by decide +kernel
theorem dX6_undo_28 : decode cX6_undo 28 = .ok (.getfield 45, 3) := by decide +kernel
theorem dX6_undo_31 : decode cX6_undo 31 = .ok (.imul, 1) := by decide +kernel
theorem dX6_undo_32 : decode cX6_undo 32 = .ok (.aload_n 0, 1) := by decide +kernel
theorem dX6_undo_33 : decode cX6_undo 33 = .ok (.getfield 7, 3) := by decide +kernel
theorem dX6_undo_36 : decode cX6_undo 36 = .ok (.iconst 0, 1) := by decide +kernel
theorem dX6_undo_37 : decode cX6_undo 37 = .ok (.invokestatic 49, 3) := by decide +kernel
theorem dX6_undo_40 : decode cX6_undo 40 = .ok (.aload_n 0, 1) := by decide +kernel
theorem dX6_undo_41 : decode cX6_undo 41 = .ok (.getfield 45, 3) := by decide +kernel
theorem dX6_undo_44 : decode cX6_undo 44 = .ok (.ireturn, 1) := by decide +kernel
set_option maxRecDepth 20000 in
theorem ggX6_keep_X6_lays : GoodIn wsX6_keep wsX6_lays := goodIn_r _ [7] (by decide +kernel) (by decide +kernel)
set_option maxRecDepth 20000 in
theorem gX6_keep_X6_lays : GoodIn wsX6_keep (va_wsS RX6 49 yX6_lays wsX6_lays) := goodIn_app (goodIn_of _ (by decide +kernel)) ggX6_keep_X6_lays
theorem dX6_keep_0 : decode cX6_keep 0 = .ok (.aload_n 0, 1) := by decide +kernel
theorem dX6_keep_1 : decode cX6_keep 1 = .ok (.getfield 7, 3) := by decide +kernel
theorem dX6_keep_4 : decode cX6_keep 4 = .ok (.iconst 0, 1) := by decide +kernel
theorem dX6_keep_5 : decode cX6_keep 5 = .ok (.aload_n 0, 1) := by decide +kernel
theorem dX6_keep_6 : decode cX6_keep 6 = .ok (.getfield 16, 3) := by decide +kernel
theorem dX6_keep_9 : decode cX6_keep 9 = .ok (.iconst 0, 1) := by decide +kernel
theorem dX6_keep_10 : decode cX6_keep 10 = .ok (.invokestatic 49, 3) := by decide +kernel
theorem dX6_keep_13 : decode cX6_keep 13 = .ok (.aload_n 0, 1) := by decide +kernel
theorem dX6_keep_14 : decode cX6_keep 14 = .ok (.iconst 1, 1) := by decide +kernel
theorem dX6_keep_15 : decode cX6_keep 15 = .ok (.putfield 53, 3) := by decide +kernel
theorem dX6_keep_18 : decode cX6_keep 18 = .ok (.aload_n 0, 1) := by decide +kernel
theorem dX6_keep_19 : decode cX6_keep 19 = .ok (.getfield 7, 3) := by decide +kernel
theorem dX6_keep_22 : decode cX6_keep 22 = .ok (.iconst 2, 1) := by decide +kernel
theorem dX6_keep_23 : decode cX6_keep 23 = .ok (.iaload, 1) := by decide +kernel
theorem dX6_keep_24 : decode cX6_keep 24 = .ok (.ireturn, 1) := by decide +kernel
set_option maxRecDepth 20000 in
theorem ggX6_restore_X6_records : GoodIn wsX6_restore wsX6_records := goodIn_r _ [8, 9, 10, 3, 11, 12, 7, 13, 14, 15, 16, 17, 18, 19, 20, 21, 22, 23, 24, 25, 26, 27, 28, 29] (by decide +kernel) (by decide +kernel)
set_option maxRecDepth 20000 in
theorem gX6_restore_X6_records : GoodIn wsX6_restore (wsV RX6 57 RX6 yX6_records wsX6_records) := goodIn_app (goodIn_of _ (by decide +kernel)) ggX6_restore_X6_records
set_option maxRecDepth 20000 in
theorem ggX6_restore_X6_lays : GoodIn wsX6_restore wsX6_lays := goodIn_r _ [13] (by decide +kernel) (by decide +kernel)
set_option maxRecDepth 20000 in
theorem gX6_restore_X6_lays : GoodIn wsX6_restore (va_wsS RX6 49 yX6_lays wsX6_lays) := goodIn_app (goodIn_of _ (by decide +kernel)) ggX6_restore_X6_lays
theorem dX6_restore_0 : decode cX6_restore 0 = .ok (.aload_n 0, 1) := by decide +kernel
theorem dX6_restore_1 : decode cX6_restore 1 = .ok (.getfield 53, 3) := by decide +kernel
theorem dX6_restore_4 : decode cX6_restore 4 = .ok (.ifCond .ne 6, 3) := by decide +kernel
theorem dX6_restore_7 : decode cX6_restore 7 = .ok (.bipush (-5), 2) := by decide +kernel
theorem dX6_restore_9 : decode cX6_restore 9 = .ok (.ireturn, 1) := by decide +kernel
theorem dX6_restore_10 : decode cX6_restore 10 = .ok (.aload_n 0, 1) := by decide +kernel
theorem dX6_restore_11 : decode cX6_restore 11 = .ok (.invokevirtual 57, 3) := by decide +kernel
theorem dX6_restore_14 : decode cX6_restore 14 = .ok (.aload_n 0, 1) := by decide +kernel
theorem dX6_restore_15 : decode cX6_restore 15 = .ok (.getfield 16, 3) := by decide +kernel
theorem dX6_restore_18 : decode cX6_restore 18 = .ok (.iconst 0, 1) := by decide +kernel
theorem dX6_restore_19 : decode cX6_restore 19 = .ok (.aload_n 0, 1) := by decide +kernel
theorem dX6_restore_20 : decode cX6_restore 20 = .ok (.getfield 7, 3) := by decide +kernel
theorem dX6_restore_23 : decode cX6_restore 23 = .ok (.iconst 0, 1) := by decide +kernel
theorem dX6_restore_24 : decode cX6_restore 24 = .ok (.invokestatic 49, 3) := by decide +kernel
theorem dX6_restore_27 : decode cX6_restore 27 = .ok (.aload_n 0, 1) := by decide +kernel
theorem dX6_restore_28 : decode cX6_restore 28 = .ok (.getfield 7, 3) := by decide +kernel
theorem dX6_restore_31 : decode cX6_restore 31 = .ok (.iconst 2, 1) := by decide +kernel
theorem dX6_restore_32 : decode cX6_restore 32 = .ok (.iaload, 1) := by decide +kernel
theorem dX6_restore_33 : decode cX6_restore 33 = .ok (.ireturn, 1) := by decide +kernel
set_option maxRecDepth 20000 in
theorem ggX6_isFlat_X6_in : GoodIn wsX6_isFlat wsX6_in := goodIn_r _ [5] (by decide +kernel) (by decide +kernel)
set_option maxRecDepth 20000 in
theorem gX6_isFlat_X6_in : GoodIn wsX6_isFlat (va_wsS RX6 60 yX6_in wsX6_in) := goodIn_app (goodIn_of _ (by decide +kernel)) ggX6_isFlat_X6_in
theorem dX6_isFlat_0 : decode cX6_isFlat 0 = .ok (.iload_n 1, 1) := by decide +kernel
theorem dX6_isFlat_1 : decode cX6_isFlat 1 = .ok (.iconst 0, 1) := by decide +kernel
theorem dX6_isFlat_2 : decode cX6_isFlat 2 = .ok (.aload_n 0, 1) := by decide +kernel
theorem dX6_isFlat_3 : decode cX6_isFlat 3 = .ok (.getfield 7, 3) := by decide +kernel
theorem dX6_isFlat_6 : decode cX6_isFlat 6 = .ok (.iconst 0, 1) := by decide +kernel
theorem dX6_isFlat_7 : decode cX6_isFlat 7 = .ok (.iaload, 1) := by decide +kernel
theorem dX6_isFlat_8 : decode cX6_isFlat 8 = .ok (.iconst 1, 1) := by decide +kernel
theorem dX6_isFlat_9 : decode cX6_isFlat 9 = .ok (.isub, 1) := by decide +kernel
theorem dX6_isFlat_10 : decode cX6_isFlat 10 = .ok (.invokestatic 60, 3) := by decide +kernel
theorem dX6_isFlat_13 : decode cX6_isFlat 13 = .ok (.ireturn, 1) := by decide +kernel
set_option maxRecDepth 20000 in
theorem ggX6_isDevice_X6_in : GoodIn wsX6_isDevice wsX6_in := goodIn_r _ [5] (by decide +kernel) (by decide +kernel)
set_option maxRecDepth 20000 in
theorem gX6_isDevice_X6_in : GoodIn wsX6_isDevice (va_wsS RX6 60 yX6_in wsX6_in) := goodIn_app (goodIn_of _ (by decide +kernel)) ggX6_isDevice_X6_in
theorem dX6_isDevice_0 : decode cX6_isDevice 0 = .ok (.iload_n 1, 1) := by decide +kernel
theorem dX6_isDevice_1 : decode cX6_isDevice 1 = .ok (.iconst 0, 1) := by decide +kernel
theorem dX6_isDevice_2 : decode cX6_isDevice 2 = .ok (.aload_n 0, 1) := by decide +kernel
theorem dX6_isDevice_3 : decode cX6_isDevice 3 = .ok (.getfield 7, 3) := by decide +kernel
theorem dX6_isDevice_6 : decode cX6_isDevice 6 = .ok (.iconst 1, 1) := by decide +kernel
theorem dX6_isDevice_7 : decode cX6_isDevice 7 = .ok (.iaload, 1) := by decide +kernel
theorem dX6_isDevice_8 : decode cX6_isDevice 8 = .ok (.iconst 1, 1) := by decide +kernel
theorem dX6_isDevice_9 : decode cX6_isDevice 9 = .ok (.isub, 1) := by decide +kernel
theorem dX6_isDevice_10 : decode cX6_isDevice 10 = .ok (.invokestatic 60, 3) := by decide +kernel
theorem dX6_isDevice_13 : decode cX6_isDevice 13 = .ok (.ireturn, 1) := by decide +kernel
set_option maxRecDepth 20000 in
theorem ggX6_isClosed_X6_in : GoodIn wsX6_isClosed wsX6_in := goodIn_r _ [5] (by decide +kernel) (by decide +kernel)
set_option maxRecDepth 20000 in
theorem gX6_isClosed_X6_in : GoodIn wsX6_isClosed (va_wsS RX6 60 yX6_in wsX6_in) := goodIn_app (goodIn_of _ (by decide +kernel)) ggX6_isClosed_X6_in
theorem dX6_isClosed_0 : decode cX6_isClosed 0 = .ok (.iload_n 1, 1) := by decide +kernel
theorem dX6_isClosed_1 : decode cX6_isClosed 1 = .ok (.iconst 0, 1) := by decide +kernel
theorem dX6_isClosed_2 : decode cX6_isClosed 2 = .ok (.aload_n 0, 1) := by decide +kernel
theorem dX6_isClosed_3 : decode cX6_isClosed 3 = .ok (.getfield 7, 3) := by decide +kernel
theorem dX6_isClosed_6 : decode cX6_isClosed 6 = .ok (.iconst 2, 1) := by decide +kernel
theorem dX6_isClosed_7 : decode cX6_isClosed 7 = .ok (.iaload, 1) := by decide +kernel
theorem dX6_isClosed_8 : decode cX6_isClosed 8 = .ok (.iconst 1, 1) := by decide +kernel
theorem dX6_isClosed_9 : decode cX6_isClosed 9 = .ok (.isub, 1) := by decide +kernel
theorem dX6_isClosed_10 : decode cX6_isClosed 10 = .ok (.invokestatic 60, 3) := by decide +kernel
theorem dX6_isClosed_13 : decode cX6_isClosed 13 = .ok (.ireturn, 1) := by decide +kernel
theorem dX6_ofFlat_0 : decode cX6_ofFlat 0 = .ok (.aload_n 0, 1) := by decide +kernel
theorem dX6_ofFlat_1 : decode cX6_ofFlat 1 = .ok (.getfield 7, 3) := by decide +kernel
theorem dX6_ofFlat_4 : decode cX6_ofFlat 4 = .ok (.bipush 7, 2) := by decide +kernel
theorem dX6_ofFlat_6 : decode cX6_ofFlat 6 = .ok (.iconst 3, 1) := by decide +kernel
theorem dX6_ofFlat_7 : decode cX6_ofFlat 7 = .ok (.iload_n 1, 1) := by decide +kernel
theorem dX6_ofFlat_8 : decode cX6_ofFlat 8 = .ok (.imul, 1) := by decide +kernel
theorem dX6_ofFlat_9 : decode cX6_ofFlat 9 = .ok (.iadd, 1) := by decide +kernel
theorem dX6_ofFlat_10 : decode cX6_ofFlat 10 = .ok (.iload_n 2, 1) := by decide +kernel
theorem dX6_ofFlat_11 : decode cX6_ofFlat 11 = .ok (.iadd, 1) := by decide +kernel
theorem dX6_ofFlat_12 : decode cX6_ofFlat 12 = .ok (.iaload, 1) := by decide +kernel
theorem dX6_ofFlat_13 : decode cX6_ofFlat 13 = .ok (.ireturn, 1) := by decide +kernel
theorem dX6_of_0 : decode cX6_of 0 = .ok (.aload_n 0, 1) := by decide +kernel
theorem dX6_of_1 : decode cX6_of 1 = .ok (.getfield 7, 3) := by decide +kernel
theorem dX6_of_4 : decode cX6_of 4 = .ok (.bipush 31, 2) := by decide +kernel
theorem dX6_of_6 : decode cX6_of 6 = .ok (.iconst 5, 1) := by decide +kernel
theorem dX6_of_7 : decode cX6_of 7 = .ok (.iload_n 1, 1) := by decide +kernel
theorem dX6_of_8 : decode cX6_of 8 = .ok (.imul, 1) := by decide +kernel
theorem dX6_of_9 : decode cX6_of 9 = .ok (.iadd, 1) := by decide +kernel
theorem dX6_of_10 : decode cX6_of 10 = .ok (.iload_n 2, 1) := by decide +kernel
theorem dX6_of_11 : decode cX6_of 11 = .ok (.iadd, 1) := by decide +kernel
theorem dX6_of_12 : decode cX6_of 12 = .ok (.iaload, 1) := by decide +kernel
theorem dX6_of_13 : decode cX6_of 13 = .ok (.ireturn, 1) := by decide +kernel
theorem dX6_puts_0 : decode cX6_puts 0 = .ok (.aload_n 0, 1) := by decide +kernel
theorem dX6_puts_1 : decode cX6_puts 1 = .ok (.getfield 7, 3) := by decide +kernel
theorem dX6_puts_4 : decode cX6_puts 4 = .ok (.bipush 31, 2) := by decide +kernel
theorem dX6_puts_6 : decode cX6_puts 6 = .ok (.iconst 5, 1) := by decide +kernel
theorem dX6_puts_7 : decode cX6_puts 7 = .ok (.iload_n 1, 1) := by decide +kernel
theorem dX6_puts_8 : decode cX6_puts 8 = .ok (.imul, 1) := by decide +kernel
theorem dX6_puts_9 : decode cX6_puts 9 = .ok (.iadd, 1) := by decide +kernel
theorem dX6_puts_10 : decode cX6_puts 10 = .ok (.iload_n 2, 1) := by decide +kernel
theorem dX6_puts_11 : decode cX6_puts 11 = .ok (.iadd, 1) := by decide +kernel
theorem dX6_puts_12 : decode cX6_puts 12 = .ok (.iload_n 3, 1) := by decide +kernel
theorem dX6_puts_13 : decode cX6_puts 13 = .ok (.iastore, 1) := by decide +kernel
theorem dX6_puts_14 : decode cX6_puts 14 = .ok (.return_, 1) := by decide +kernel
theorem dX6_old_0 : decode cX6_old 0 = .ok (.sipush 131, 3) := by decide +kernel
theorem dX6_old_3 : decode cX6_old 3 = .ok (.bipush 71, 2) := by decide +kernel
theorem dX6_old_5 : decode cX6_old 5 = .ok (.iload_n 0, 1) := by decide +kernel
theorem dX6_old_6 : decode cX6_old 6 = .ok (.imul, 1) := by decide +kernel
theorem dX6_old_7 : decode cX6_old 7 = .ok (.iadd, 1) := by decide +kernel
theorem dX6_old_8 : decode cX6_old 8 = .ok (.iload_n 1, 1) := by decide +kernel
theorem dX6_old_9 : decode cX6_old 9 = .ok (.iadd, 1) := by decide +kernel
theorem dX6_old_10 : decode cX6_old 10 = .ok (.ireturn, 1) := by decide +kernel
theorem dX6_weight_0 : decode cX6_weight 0 = .ok (.iload_n 0, 1) := by decide +kernel
theorem dX6_weight_1 : decode cX6_weight 1 = .ok (.tableswitch 94 0 11 #[63, 67, 71, 75, 78, 94, 94, 81, 84, 75, 87, 90], 63) := by decide +kernel
theorem dX6_weight_64 : decode cX6_weight 64 = .ok (.sipush 170, 3) := by decide +kernel
theorem dX6_weight_67 : decode cX6_weight 67 = .ok (.ireturn, 1) := by decide +kernel
theorem dX6_weight_68 : decode cX6_weight 68 = .ok (.sipush 150, 3) := by decide +kernel
theorem dX6_weight_71 : decode cX6_weight 71 = .ok (.ireturn, 1) := by decide +kernel
theorem dX6_weight_72 : decode cX6_weight 72 = .ok (.sipush 130, 3) := by decide +kernel
theorem dX6_weight_75 : decode cX6_weight 75 = .ok (.ireturn, 1) := by decide +kernel
theorem dX6_weight_76 : decode cX6_weight 76 = .ok (.bipush 80, 2) := by decide +kernel
theorem dX6_weight_78 : decode cX6_weight 78 = .ok (.ireturn, 1) := by decide +kernel
theorem dX6_weight_79 : decode cX6_weight 79 = .ok (.bipush 40, 2) := by decide +kernel
theorem dX6_weight_81 : decode cX6_weight 81 = .ok (.ireturn, 1) := by decide +kernel
theorem dX6_weight_82 : decode cX6_weight 82 = .ok (.bipush 14, 2) := by decide +kernel
theorem dX6_weight_84 : decode cX6_weight 84 = .ok (.ireturn, 1) := by decide +kernel
theorem dX6_weight_85 : decode cX6_weight 85 = .ok (.bipush 30, 2) := by decide +kernel
theorem dX6_weight_87 : decode cX6_weight 87 = .ok (.ireturn, 1) := by decide +kernel
theorem dX6_weight_88 : decode cX6_weight 88 = .ok (.bipush 120, 2) := by decide +kernel
theorem dX6_weight_90 : decode cX6_weight 90 = .ok (.ireturn, 1) := by decide +kernel
theorem dX6_weight_91 : decode cX6_weight 91 = .ok (.sipush 160, 3) := by decide +kernel
theorem dX6_weight_94 : decode cX6_weight 94 = .ok (.ireturn, 1) := by decide +kernel
theorem dX6_weight_95 : decode cX6_weight 95 = .ok (.bipush 13, 2) := by decide +kernel
theorem dX6_weight_97 : decode cX6_weight 97 = .ok (.ireturn, 1) := by decide +kernel
set_option maxRecDepth 20000 in
theorem ggX6_weightsAhead_X6_weight : GoodIn wsX6_weightsAhead wsX6_weight := goodIn_r _ [4] (by decide +kernel) (by decide +kernel)
set_option maxRecDepth 20000 in
theorem gX6_weightsAhead_X6_weight : GoodIn wsX6_weightsAhead (va_wsS RX6 64 yX6_weight wsX6_weight) := goodIn_app (goodIn_of _ (by decide +kernel)) ggX6_weightsAhead_X6_weight
theorem dX6_weightsAhead_0 : decode cX6_weightsAhead 0 = .ok (.iconst 0, 1) := by decide +kernel
theorem dX6_weightsAhead_1 : decode cX6_weightsAhead 1 = .ok (.istore_n 1, 1) := by decide +kernel
theorem dX6_weightsAhead_2 : decode cX6_weightsAhead 2 = .ok (.iconst 0, 1) := by decide +kernel
theorem dX6_weightsAhead_3 : decode cX6_weightsAhead 3 = .ok (.istore_n 2, 1) := by decide +kernel
theorem dX6_weightsAhead_4 : decode cX6_weightsAhead 4 = .ok (.iload_n 2, 1) := by decide +kernel
theorem dX6_weightsAhead_5 : decode cX6_weightsAhead 5 = .ok (.iload_n 0, 1) := by decide +kernel
theorem dX6_weightsAhead_6 : decode cX6_weightsAhead 6 = .ok (.if_icmp .ge 16, 3) := by decide +kernel
theorem dX6_weightsAhead_9 : decode cX6_weightsAhead 9 = .ok (.iload_n 1, 1) := by decide +kernel
theorem dX6_weightsAhead_10 : decode cX6_weightsAhead 10 = .ok (.iload_n 2, 1) := by decide +kernel
theorem dX6_weightsAhead_11 : decode cX6_weightsAhead 11 = .ok (.invokestatic 64, 3) := by decide +kernel
theorem dX6_weightsAhead_14 : decode cX6_weightsAhead 14 = .ok (.iadd, 1) := by decide +kernel
theorem dX6_weightsAhead_15 : decode cX6_weightsAhead 15 = .ok (.istore_n 1, 1) := by decide +kernel
theorem dX6_weightsAhead_16 : decode cX6_weightsAhead 16 = .ok (.iinc 2 1, 3) := by decide +kernel
theorem dX6_weightsAhead_19 : decode cX6_weightsAhead 19 = .ok (.goto (-15), 3) := by decide +kernel
theorem dX6_weightsAhead_22 : decode cX6_weightsAhead 22 = .ok (.iload_n 1, 1) := by decide +kernel
theorem dX6_weightsAhead_23 : decode cX6_weightsAhead 23 = .ok (.ireturn, 1) := by decide +kernel
set_option maxRecDepth 20000 in
theorem ggX6_soundUnits_X6_of : GoodIn wsX6_soundUnits wsX6_of := goodIn_r _ [5, 6, 7, 8, 9, 10, 11, 12, 13, 14, 15, 16, 17, 18, 19, 20, 21, 22] (by decide +kernel) (by decide +kernel)
set_option maxRecDepth 20000 in
theorem gX6_soundUnits_X6_of : GoodIn wsX6_soundUnits (wsV RX6 68 RX6 yX6_of wsX6_of) := goodIn_app (goodIn_of _ (by decide +kernel)) ggX6_soundUnits_X6_of
theorem dX6_soundUnits_0 : decode cX6_soundUnits 0 = .ok (.aload_n 0, 1) := by decide +kernel
theorem dX6_soundUnits_1 : decode cX6_soundUnits 1 = .ok (.iload_n 1, 1) := by decide +kernel
theorem dX6_soundUnits_2 : decode cX6_soundUnits 2 = .ok (.iconst 3, 1) := by decide +kernel
theorem dX6_soundUnits_3 : decode cX6_soundUnits 3 = .ok (.invokevirtual 68, 3) := by decide +kernel
theorem dX6_soundUnits_6 : decode cX6_soundUnits 6 = .ok (.aload_n 0, 1) := by decide +kernel
theorem dX6_soundUnits_7 : decode cX6_soundUnits 7 = .ok (.iload_n 1, 1) := by decide +kernel
theorem dX6_soundUnits_8 : decode cX6_soundUnits 8 = .ok (.iconst 2, 1) := by decide +kernel
theorem dX6_soundUnits_9 : decode cX6_soundUnits 9 = .ok (.invokevirtual 68, 3) := by decide +kernel
theorem dX6_soundUnits_12 : decode cX6_soundUnits 12 = .ok (.isub, 1) := by decide +kernel
theorem dX6_soundUnits_13 : decode cX6_soundUnits 13 = .ok (.aload_n 0, 1) := by decide +kernel
theorem dX6_soundUnits_14 : decode cX6_soundUnits 14 = .ok (.iload_n 1, 1) := by decide +kernel
theorem dX6_soundUnits_15 : decode cX6_soundUnits 15 = .ok (.iconst 1, 1) := by decide +kernel
theorem dX6_soundUnits_16 : decode cX6_soundUnits 16 = .ok (.invokevirtual 68, 3) := by decide +kernel
theorem dX6_soundUnits_19 : decode cX6_soundUnits 19 = .ok (.imul, 1) := by decide +kernel
theorem dX6_soundUnits_20 : decode cX6_soundUnits 20 = .ok (.ireturn, 1) := by decide +kernel
set_option maxRecDepth 20000 in
theorem ggX6_estimated_X6_of : GoodIn wsX6_estimated wsX6_of := goodIn_r _ [6, 1, 11, 12, 13, 14, 15, 16, 17, 18, 19, 20, 21, 22, 23, 24, 25, 26] (by decide +kernel) (by decide +kernel)
set_option maxRecDepth 20000 in
theorem gX6_estimated_X6_of : GoodIn wsX6_estimated (wsV RX6 68 RX6 yX6_of wsX6_of) := goodIn_app (goodIn_of _ (by decide +kernel)) ggX6_estimated_X6_of
set_option maxRecDepth 20000 in
theorem ggX6_estimated_X6_soundUnits : GoodIn wsX6_estimated wsX6_soundUnits := goodIn_r _ [10, 2, 3, 4, 5, 6, 1, 11, 12, 13, 14, 15, 16, 17, 18, 19, 20, 21, 22, 23, 24, 25, 26] (by decide +kernel) (by decide +kernel)
set_option maxRecDepth 20000 in
theorem gX6_estimated_X6_soundUnits : GoodIn wsX6_estimated (wsV RX6 72 RX6 yX6_soundUnits wsX6_soundUnits) := goodIn_app (goodIn_of _ (by decide +kernel)) ggX6_estimated_X6_soundUnits
theorem dX6_estimated_0 : decode cX6_estimated 0 = .ok (.iconst 0, 1) := by decide +kernel
theorem dX6_estimated_1 : decode cX6_estimated 1 = .ok (.istore_n 2, 1) := by decide +kernel
theorem dX6_estimated_2 : decode cX6_estimated 2 = .ok (.iconst 0, 1) := by decide +kernel
theorem dX6_estimated_3 : decode cX6_estimated 3 = .ok (.istore_n 3, 1) := by decide +kernel
theorem dX6_estimated_4 : decode cX6_estimated 4 = .ok (.iconst 0, 1) := by decide +kernel
theorem dX6_estimated_5 : decode cX6_estimated 5 = .ok (.istore 4, 2) := by decide +kernel
theorem dX6_estimated_7 : decode cX6_estimated 7 = .ok (.iload 4, 2) := by decide +kernel
theorem dX6_estimated_9 : decode cX6_estimated 9 = .ok (.aload_n 0, 1) := by decide +kernel
theorem dX6_estimated_10 : decode cX6_estimated 10 = .ok (.getfield 7, 3) := by decide +kernel
theorem dX6_estimated_13 : decode cX6_estimated 13 = .ok (.iconst 1, 1) := by decide +kernel
theorem dX6_estimated_14 : decode cX6_estimated 14 = .ok (.iaload, 1) := by decide +kernel
theorem dX6_estimated_15 : decode cX6_estimated 15 = .ok (.if_icmp .ge 63, 3) := by decide +kernel
theorem dX6_estimated_18 : decode cX6_estimated 18 = .ok (.aload_n 0, 1) := by decide +kernel
theorem dX6_estimated_19 : decode cX6_estimated 19 = .ok (.iload 4, 2) := by decide +kernel
theorem dX6_estimated_21 : decode cX6_estimated 21 = .ok (.iconst 4, 1) := by decide +kernel
theorem dX6_estimated_22 : decode cX6_estimated 22 = .ok (.invokevirtual 68, 3) := by decide +kernel
theorem dX6_estimated_25 : decode cX6_estimated 25 = .ok (.ifCond .ne 7, 3) := by decide +kernel
theorem dX6_estimated_28 : decode cX6_estimated 28 = .ok (.iconst 1, 1) := by decide +kernel
theorem dX6_estimated_29 : decode cX6_estimated 29 = .ok (.goto 4, 3) := by decide +kernel
theorem dX6_estimated_32 : decode cX6_estimated 32 = .ok (.iconst 0, 1) := by decide +kernel
theorem dX6_estimated_33 : decode cX6_estimated 33 = .ok (.istore 5, 2) := by decide +kernel
theorem dX6_estimated_35 : decode cX6_estimated 35 = .ok (.iload_n 2, 1) := by decide +kernel
theorem dX6_estimated_36 : decode cX6_estimated 36 = .ok (.iload 5, 2) := by decide +kernel
theorem dX6_estimated_38 : decode cX6_estimated 38 = .ok (.ifCond .eq 12, 3) := by decide +kernel
theorem dX6_estimated_41 : decode cX6_estimated 41 = .ok (.aload_n 0, 1) := by decide +kernel
theorem dX6_estimated_42 : decode cX6_estimated 42 = .ok (.iload 4, 2) := by decide +kernel
theorem dX6_estimated_44 : decode cX6_estimated 44 = .ok (.invokevirtual 72, 3) := by decide +kernel
theorem dX6_estimated_47 : decode cX6_estimated 47 = .ok (.goto 4, 3) := by decide +kernel
theorem dX6_estimated_50 : decode cX6_estimated 50 = .ok (.iconst 0, 1) := by decide +kernel
theorem dX6_estimated_51 : decode cX6_estimated 51 = .ok (.iadd, 1) := by decide +kernel
theorem dX6_estimated_52 : decode cX6_estimated 52 = .ok (.istore_n 2, 1) := by decide +kernel
theorem dX6_estimated_53 : decode cX6_estimated 53 = .ok (.iload_n 3, 1) := by decide +kernel
theorem dX6_estimated_54 : decode cX6_estimated 54 = .ok (.iload 5, 2) := by decide +kernel
theorem dX6_estimated_56 : decode cX6_estimated 56 = .ok (.ifCond .eq 13, 3) := by decide +kernel
theorem dX6_estimated_59 : decode cX6_estimated 59 = .ok (.aload_n 0, 1) := by decide +kernel
theorem dX6_estimated_60 : decode cX6_estimated 60 = .ok (.iload 4, 2) := by decide +kernel
theorem dX6_estimated_62 : decode cX6_estimated 62 = .ok (.iconst 1, 1) := by decide +kernel
theorem dX6_estimated_63 : decode cX6_estimated 63 = .ok (.invokevirtual 68, 3) := by decide +kernel
theorem dX6_estimated_66 : decode cX6_estimated 66 = .ok (.goto 4, 3) := by decide +kernel
theorem dX6_estimated_69 : decode cX6_estimated 69 = .ok (.iconst 0, 1) := by decide +kernel
theorem dX6_estimated_70 : decode cX6_estimated 70 = .ok (.iadd, 1) := by decide +kernel
theorem dX6_estimated_71 : decode cX6_estimated 71 = .ok (.istore_n 3, 1) := by decide +kernel
theorem dX6_estimated_72 : decode cX6_estimated 72 = .ok (.iinc 4 1, 3) := by decide +kernel
theorem dX6_estimated_75 : decode cX6_estimated 75 = .ok (.goto (-68), 3) := by decide +kernel
theorem dX6_estimated_78 : decode cX6_estimated 78 = .ok (.iload_n 3, 1) := by decide +kernel
theorem dX6_estimated_79 : decode cX6_estimated 79 = .ok (.ifCond .ne 7, 3) := by decide +kernel
theorem dX6_estimated_82 : decode cX6_estimated 82 = .ok (.iconst 0, 1) := by decide +kernel
theorem dX6_estimated_83 : decode cX6_estimated 83 = .ok (.goto 13, 3) := by decide +kernel
theorem dX6_estimated_86 : decode cX6_estimated 86 = .ok (.aload_n 0, 1) := by decide +kernel
theorem dX6_estimated_87 : decode cX6_estimated 87 = .ok (.iload_n 1, 1) := by decide +kernel
theorem dX6_estimated_88 : decode cX6_estimated 88 = .ok (.iconst 1, 1) := by decide +kernel
theorem dX6_estimated_89 : decode cX6_estimated 89 = .ok (.invokevirtual 68, 3) := by decide +kernel
theorem dX6_estimated_92 : decode cX6_estimated 92 = .ok (.iload_n 2, 1) := by decide +kernel
theorem dX6_estimated_93 : decode cX6_estimated 93 = .ok (.imul, 1) := by decide +kernel
theorem dX6_estimated_94 : decode cX6_estimated 94 = .ok (.iload_n 3, 1) := by decide +kernel
theorem dX6_estimated_95 : decode cX6_estimated 95 = .ok (.idiv, 1) := by decide +kernel
theorem dX6_estimated_96 : decode cX6_estimated 96 = .ok (.ireturn, 1) := by decide +kernel
set_option maxRecDepth 20000 in
theorem ggX6_unitsNow_X6_of : GoodIn wsX6_unitsNow wsX6_of := goodIn_r _ [6, 1, 18, 19, 20, 21, 22, 23, 24, 25, 26, 27, 28, 29, 30, 31, 32, 33] (by decide +kernel) (by decide +kernel)
set_option maxRecDepth 20000 in
theorem gX6_unitsNow_X6_of : GoodIn wsX6_unitsNow (wsV RX6 68 RX6 yX6_of wsX6_of) := goodIn_app (goodIn_of _ (by decide +kernel)) ggX6_unitsNow_X6_of
set_option maxRecDepth 20000 in
theorem ggX6_unitsNow_X6_soundUnits : GoodIn wsX6_unitsNow wsX6_soundUnits := goodIn_r _ [10, 2, 3, 4, 5, 6, 1, 18, 19, 20, 21, 22, 23, 24, 25, 26, 27, 28, 29, 30, 31, 32, 33] (by decide +kernel) (by decide +kernel)
set_option maxRecDepth 20000 in
theorem gX6_unitsNow_X6_soundUnits : GoodIn wsX6_unitsNow (wsV RX6 72 RX6 yX6_soundUnits wsX6_soundUnits) := goodIn_app (goodIn_of _ (by decide +kernel)) ggX6_unitsNow_X6_soundUnits
set_option maxRecDepth 20000 in
theorem ggX6_unitsNow_X6_old : GoodIn wsX6_unitsNow wsX6_old := goodIn_r _ [13] (by decide +kernel) (by decide +kernel)
set_option maxRecDepth 20000 in
theorem gX6_unitsNow_X6_old : GoodIn wsX6_unitsNow (va_wsS RX6 75 yX6_old wsX6_old) := goodIn_app (goodIn_of _ (by decide +kernel)) ggX6_unitsNow_X6_old
set_option maxRecDepth 20000 in
theorem ggX6_unitsNow_X6_estimated : GoodIn wsX6_unitsNow wsX6_estimated := goodIn_r _ [17, 1, 2, 3, 4, 5, 6, 7, 8, 9, 10, 18, 19, 20, 21, 22, 23, 24, 25, 26, 27, 28, 29, 30, 31, 32, 33] (by decide +kernel) (by decide +kernel)
set_option maxRecDepth 20000 in
theorem gX6_unitsNow_X6_estimated : GoodIn wsX6_unitsNow (wsV RX6 78 RX6 yX6_estimated wsX6_estimated) := goodIn_app (goodIn_of _ (by decide +kernel)) ggX6_unitsNow_X6_estimated
theorem dX6_unitsNow_0 : decode cX6_unitsNow 0 = .ok (.aload_n 0, 1) := by decide +kernel
theorem dX6_unitsNow_1 : decode cX6_unitsNow 1 = .ok (.iload_n 1, 1) := by decide +kernel
theorem dX6_unitsNow_2 : decode cX6_unitsNow 2 = .ok (.iconst 4, 1) := by decide +kernel
theorem dX6_unitsNow_3 : decode cX6_unitsNow 3 = .ok (.invokevirtual 68, 3) := by decide +kernel
theorem dX6_unitsNow_6 : decode cX6_unitsNow 6 = .ok (.ifCond .ne 9, 3) := by decide +kernel
theorem dX6_unitsNow_9 : decode cX6_unitsNow 9 = .ok (.aload_n 0, 1) := by decide +kernel
theorem dX6_unitsNow_10 : decode cX6_unitsNow 10 = .ok (.iload_n 1, 1) := by decide +kernel
theorem dX6_unitsNow_11 : decode cX6_unitsNow 11 = .ok (.invokevirtual 72, 3) := by decide +kernel
theorem dX6_unitsNow_14 : decode cX6_unitsNow 14 = .ok (.ireturn, 1) := by decide +kernel
theorem dX6_unitsNow_15 : decode cX6_unitsNow 15 = .ok (.aload_n 0, 1) := by decide +kernel
theorem dX6_unitsNow_16 : decode cX6_unitsNow 16 = .ok (.getfield 7, 3) := by decide +kernel
theorem dX6_unitsNow_19 : decode cX6_unitsNow 19 = .ok (.iconst 2, 1) := by decide +kernel
theorem dX6_unitsNow_20 : decode cX6_unitsNow 20 = .ok (.iaload, 1) := by decide +kernel
theorem dX6_unitsNow_21 : decode cX6_unitsNow 21 = .ok (.iconst 1, 1) := by decide +kernel
theorem dX6_unitsNow_22 : decode cX6_unitsNow 22 = .ok (.isub, 1) := by decide +kernel
theorem dX6_unitsNow_23 : decode cX6_unitsNow 23 = .ok (.istore_n 2, 1) := by decide +kernel
theorem dX6_unitsNow_24 : decode cX6_unitsNow 24 = .ok (.iload_n 2, 1) := by decide +kernel
theorem dX6_unitsNow_25 : decode cX6_unitsNow 25 = .ok (.ifCond .lt 29, 3) := by decide +kernel
theorem dX6_unitsNow_28 : decode cX6_unitsNow 28 = .ok (.iload_n 1, 1) := by decide +kernel
theorem dX6_unitsNow_29 : decode cX6_unitsNow 29 = .ok (.aload_n 0, 1) := by decide +kernel
theorem dX6_unitsNow_30 : decode cX6_unitsNow 30 = .ok (.getfield 7, 3) := by decide +kernel
theorem dX6_unitsNow_33 : decode cX6_unitsNow 33 = .ok (.iload_n 2, 1) := by decide +kernel
theorem dX6_unitsNow_34 : decode cX6_unitsNow 34 = .ok (.ifCond .ge 7, 3) := by decide +kernel
theorem dX6_unitsNow_37 : decode cX6_unitsNow 37 = .ok (.iconst 0, 1) := by decide +kernel
theorem dX6_unitsNow_38 : decode cX6_unitsNow 38 = .ok (.goto 4, 3) := by decide +kernel
theorem dX6_unitsNow_41 : decode cX6_unitsNow 41 = .ok (.iload_n 2, 1) := by decide +kernel
theorem dX6_unitsNow_42 : decode cX6_unitsNow 42 = .ok (.iconst 2, 1) := by decide +kernel
theorem dX6_unitsNow_43 : decode cX6_unitsNow 43 = .ok (.invokestatic 75, 3) := by decide +kernel
theorem dX6_unitsNow_46 : decode cX6_unitsNow 46 = .ok (.iaload, 1) := by decide +kernel
theorem dX6_unitsNow_47 : decode cX6_unitsNow 47 = .ok (.if_icmp .ge 7, 3) := by decide +kernel
theorem dX6_unitsNow_50 : decode cX6_unitsNow 50 = .ok (.iconst 1, 1) := by decide +kernel
theorem dX6_unitsNow_51 : decode cX6_unitsNow 51 = .ok (.goto 4, 3) := by decide +kernel
theorem dX6_unitsNow_54 : decode cX6_unitsNow 54 = .ok (.iconst 0, 1) := by decide +kernel
theorem dX6_unitsNow_55 : decode cX6_unitsNow 55 = .ok (.istore_n 3, 1) := by decide +kernel
theorem dX6_unitsNow_56 : decode cX6_unitsNow 56 = .ok (.aload_n 0, 1) := by decide +kernel
theorem dX6_unitsNow_57 : decode cX6_unitsNow 57 = .ok (.getfield 7, 3) := by decide +kernel
theorem dX6_unitsNow_60 : decode cX6_unitsNow 60 = .ok (.iconst 5, 1) := by decide +kernel
theorem dX6_unitsNow_61 : decode cX6_unitsNow 61 = .ok (.iaload, 1) := by decide +kernel
theorem dX6_unitsNow_62 : decode cX6_unitsNow 62 = .ok (.iconst 1, 1) := by decide +kernel
theorem dX6_unitsNow_63 : decode cX6_unitsNow 63 = .ok (.if_icmp .ne 22, 3) := by decide +kernel
theorem dX6_unitsNow_66 : decode cX6_unitsNow 66 = .ok (.iload_n 3, 1) := by decide +kernel
theorem dX6_unitsNow_67 : decode cX6_unitsNow 67 = .ok (.ifCond .eq 18, 3) := by decide +kernel
theorem dX6_unitsNow_70 : decode cX6_unitsNow 70 = .ok (.aload_n 0, 1) := by decide +kernel
theorem dX6_unitsNow_71 : decode cX6_unitsNow 71 = .ok (.getfield 7, 3) := by decide +kernel
theorem dX6_unitsNow_74 : decode cX6_unitsNow 74 = .ok (.iload_n 2, 1) := by decide +kernel
theorem dX6_unitsNow_75 : decode cX6_unitsNow 75 = .ok (.iconst 3, 1) := by decide +kernel
theorem dX6_unitsNow_76 : decode cX6_unitsNow 76 = .ok (.iload_n 1, 1) := by decide +kernel
theorem dX6_unitsNow_77 : decode cX6_unitsNow 77 = .ok (.iadd, 1) := by decide +kernel
theorem dX6_unitsNow_78 : decode cX6_unitsNow 78 = .ok (.invokestatic 75, 3) := by decide +kernel
theorem dX6_unitsNow_81 : decode cX6_unitsNow 81 = .ok (.iaload, 1) := by decide +kernel
theorem dX6_unitsNow_82 : decode cX6_unitsNow 82 = .ok (.goto 8, 3) := by decide +kernel
theorem dX6_unitsNow_85 : decode cX6_unitsNow 85 = .ok (.aload_n 0, 1) := by decide +kernel
theorem dX6_unitsNow_86 : decode cX6_unitsNow 86 = .ok (.iload_n 1, 1) := by decide +kernel
theorem dX6_unitsNow_87 : decode cX6_unitsNow 87 = .ok (.invokevirtual 78, 3) := by decide +kernel
theorem dX6_unitsNow_90 : decode cX6_unitsNow 90 = .ok (.ireturn, 1) := by decide +kernel
theorem dX6_greatestRest_0 : decode cX6_greatestRest 0 = .ok (.iconst 0, 1) := by decide +kernel
theorem dX6_greatestRest_1 : decode cX6_greatestRest 1 = .ok (.istore_n 1, 1) := by decide +kernel
theorem dX6_greatestRest_2 : decode cX6_greatestRest 2 = .ok (.iconst 1, 1) := by decide +kernel
theorem dX6_greatestRest_3 : decode cX6_greatestRest 3 = .ok (.istore_n 2, 1) := by decide +kernel
theorem dX6_greatestRest_4 : decode cX6_greatestRest 4 = .ok (.iload_n 2, 1) := by decide +kernel
theorem dX6_greatestRest_5 : decode cX6_greatestRest 5 = .ok (.aload_n 0, 1) := by decide +kernel
theorem dX6_greatestRest_6 : decode cX6_greatestRest 6 = .ok (.getfield 7, 3) := by decide +kernel
theorem dX6_greatestRest_9 : decode cX6_greatestRest 9 = .ok (.iconst 0, 1) := by decide +kernel
theorem dX6_greatestRest_10 : decode cX6_greatestRest 10 = .ok (.iaload, 1) := by decide +kernel
theorem dX6_greatestRest_11 : decode cX6_greatestRest 11 = .ok (.if_icmp .ge 31, 3) := by decide +kernel
theorem dX6_greatestRest_14 : decode cX6_greatestRest 14 = .ok (.aload_n 0, 1) := by decide +kernel
theorem dX6_greatestRest_15 : decode cX6_greatestRest 15 = .ok (.getfield 29, 3) := by decide +kernel
theorem dX6_greatestRest_18 : decode cX6_greatestRest 18 = .ok (.iload_n 2, 1) := by decide +kernel
theorem dX6_greatestRest_19 : decode cX6_greatestRest 19 = .ok (.laload, 1) := by decide +kernel
theorem dX6_greatestRest_20 : decode cX6_greatestRest 20 = .ok (.aload_n 0, 1) := by decide +kernel
theorem dX6_greatestRest_21 : decode cX6_greatestRest 21 = .ok (.getfield 29, 3) := by decide +kernel
theorem dX6_greatestRest_24 : decode cX6_greatestRest 24 = .ok (.iload_n 1, 1) := by decide +kernel
theorem dX6_greatestRest_25 : decode cX6_greatestRest 25 = .ok (.laload, 1) := by decide +kernel
theorem dX6_greatestRest_26 : decode cX6_greatestRest 26 = .ok (.lcmp, 1) := by decide +kernel
theorem dX6_greatestRest_27 : decode cX6_greatestRest 27 = .ok (.ifCond .le 7, 3) := by decide +kernel
theorem dX6_greatestRest_30 : decode cX6_greatestRest 30 = .ok (.iload_n 2, 1) := by decide +kernel
theorem dX6_greatestRest_31 : decode cX6_greatestRest 31 = .ok (.goto 4, 3) := by decide +kernel
theorem dX6_greatestRest_34 : decode cX6_greatestRest 34 = .ok (.iload_n 1, 1) := by decide +kernel
theorem dX6_greatestRest_35 : decode cX6_greatestRest 35 = .ok (.istore_n 1, 1) := by decide +kernel
theorem dX6_greatestRest_36 : decode cX6_greatestRest 36 = .ok (.iinc 2 1, 3) := by decide +kernel
theorem dX6_greatestRest_39 : decode cX6_greatestRest 39 = .ok (.goto (-35), 3) := by decide +kernel
theorem dX6_greatestRest_42 : decode cX6_greatestRest 42 = .ok (.iload_n 1, 1) := by decide +kernel
theorem dX6_greatestRest_43 : decode cX6_greatestRest 43 = .ok (.ireturn, 1) := by decide +kernel
set_option maxRecDepth 20000 in
theorem ggX6_shares_X6_greatestRest : GoodIn wsX6_shares wsX6_greatestRest := goodIn_r _ [10, 1, 4, 11, 12, 13, 14, 15, 16, 17, 18, 19, 20, 21, 22, 23, 24, 25, 26] (by decide +kernel) (by decide +kernel)
set_option maxRecDepth 20000 in
theorem gX6_shares_X6_greatestRest : GoodIn wsX6_shares (wsV RX6 81 RX6 yX6_greatestRest wsX6_greatestRest) := goodIn_app (goodIn_of _ (by decide +kernel)) ggX6_shares_X6_greatestRest
theorem dX6_shares_0 : decode cX6_shares 0 = .ok (.lconst 0, 1) := by decide +kernel
theorem dX6_shares_1 : decode cX6_shares 1 = .ok (.lstore_n 2, 1) := by decide +kernel
theorem dX6_shares_2 : decode cX6_shares 2 = .ok (.iconst 0, 1) := by decide +kernel
theorem dX6_shares_3 : decode cX6_shares 3 = .ok (.istore 4, 2) := by decide +kernel
theorem dX6_shares_5 : decode cX6_shares 5 = .ok (.iload 4, 2) := by decide +kernel
theorem dX6_shares_7 : decode cX6_shares 7 = .ok (.aload_n 0, 1) := by decide +kernel
theorem dX6_shares_8 : decode cX6_shares 8 = .ok (.getfield 7, 3) := by decide +kernel
theorem dX6_shares_11 : decode cX6_shares 11 = .ok (.iconst 0, 1) := by decide +kernel
theorem dX6_shares_12 : decode cX6_shares 12 = .ok (.iaload, 1) := by decide +kernel
theorem dX6_shares_13 : decode cX6_shares 13 = .ok (.if_icmp .ge 20, 3) := by decide +kernel
theorem dX6_shares_16 : decode cX6_shares 16 = .ok (.lload_n 2, 1) := by decide +kernel
theorem dX6_shares_17 : decode cX6_shares 17 = .ok (.aload_n 0, 1) := by decide +kernel
theorem dX6_shares_18 : decode cX6_shares 18 = .ok (.getfield 23, 3) := by decide +kernel
theorem dX6_shares_21 : decode cX6_shares 21 = .ok (.iload 4, 2) := by decide +kernel
theorem dX6_shares_23 : decode cX6_shares 23 = .ok (.iaload, 1) := by decide +kernel
theorem dX6_shares_24 : decode cX6_shares 24 = .ok (.i2l, 1) := by decide +kernel
theorem dX6_shares_25 : decode cX6_shares 25 = .ok (.ladd, 1) := by decide +kernel
theorem dX6_shares_26 : decode cX6_shares 26 = .ok (.lstore_n 2, 1) := by decide +kernel
theorem dX6_shares_27 : decode cX6_shares 27 = .ok (.iinc 4 1, 3) := by decide +kernel
theorem dX6_shares_30 : decode cX6_shares 30 = .ok (.goto (-25), 3) := by decide +kernel
theorem dX6_shares_33 : decode cX6_shares 33 = .ok (.iload_n 1, 1) := by decide +kernel
theorem dX6_shares_34 : decode cX6_shares 34 = .ok (.istore 4, 2) := by decide +kernel
theorem dX6_shares_36 : decode cX6_shares 36 = .ok (.iconst 0, 1) := by decide +kernel
theorem dX6_shares_37 : decode cX6_shares 37 = .ok (.istore 5, 2) := by decide +kernel
theorem dX6_shares_39 : decode cX6_shares 39 = .ok (.iload 5, 2) := by decide +kernel
theorem dX6_shares_41 : decode cX6_shares 41 = .ok (.aload_n 0, 1) := by decide +kernel
theorem dX6_shares_42 : decode cX6_shares 42 = .ok (.getfield 7, 3) := by decide +kernel
theorem dX6_shares_45 : decode cX6_shares 45 = .ok (.iconst 0, 1) := by decide +kernel
theorem dX6_shares_46 : decode cX6_shares 46 = .ok (.iaload, 1) := by decide +kernel
theorem dX6_shares_47 : decode cX6_shares 47 = .ok (.if_icmp .ge 57, 3) := by decide +kernel
theorem dX6_shares_50 : decode cX6_shares 50 = .ok (.iload_n 1, 1) := by decide +kernel
theorem dX6_shares_51 : decode cX6_shares 51 = .ok (.i2l, 1) := by decide +kernel
theorem dX6_shares_52 : decode cX6_shares 52 = .ok (.aload_n 0, 1) := by decide +kernel
theorem dX6_shares_53 : decode cX6_shares 53 = .ok (.getfield 23, 3) := by decide +kernel
theorem dX6_shares_56 : decode cX6_shares 56 = .ok (.iload 5, 2) := by decide +kernel
theorem dX6_shares_58 : decode cX6_shares 58 = .ok (.iaload, 1) := by decide +kernel
theorem dX6_shares_59 : decode cX6_shares 59 = .ok (.i2l, 1) := by decide +kernel
theorem dX6_shares_60 : decode cX6_shares 60 = .ok (.lmul, 1) := by decide +kernel
theorem dX6_shares_61 : decode cX6_shares 61 = .ok (.lstore 6, 2) := by decide +kernel
theorem dX6_shares_63 : decode cX6_shares 63 = .ok (.aload_n 0, 1) := by decide +kernel
theorem dX6_shares_64 : decode cX6_shares 64 = .ok (.getfield 26, 3) := by decide +kernel
theorem dX6_shares_67 : decode cX6_shares 67 = .ok (.iload 5, 2) := by decide +kernel
theorem dX6_shares_69 : decode cX6_shares 69 = .ok (.lload 6, 2) := by decide +kernel
theorem dX6_shares_71 : decode cX6_shares 71 = .ok (.lload_n 2, 1) := by decide +kernel
theorem dX6_shares_72 : decode cX6_shares 72 = .ok (.ldiv, 1) := by decide +kernel
theorem dX6_shares_73 : decode cX6_shares 73 = .ok (.l2i, 1) := by decide +kernel
theorem dX6_shares_74 : decode cX6_shares 74 = .ok (.iastore, 1) := by decide +kernel
theorem dX6_shares_75 : decode cX6_shares 75 = .ok (.aload_n 0, 1) := by decide +kernel
theorem dX6_shares_76 : decode cX6_shares 76 = .ok (.getfield 29, 3) := by decide +kernel
theorem dX6_shares_79 : decode cX6_shares 79 = .ok (.iload 5, 2) := by decide +kernel
theorem dX6_shares_81 : decode cX6_shares 81 = .ok (.lload 6, 2) := by decide +kernel
theorem dX6_shares_83 : decode cX6_shares 83 = .ok (.lload_n 2, 1) := by decide +kernel
theorem dX6_shares_84 : decode cX6_shares 84 = .ok (.lrem, 1) := by decide +kernel
theorem dX6_shares_85 : decode cX6_shares 85 = .ok (.lastore, 1) := by decide +kernel
theorem dX6_shares_86 : decode cX6_shares 86 = .ok (.iload 4, 2) := by decide +kernel
theorem dX6_shares_88 : decode cX6_shares 88 = .ok (.aload_n 0, 1) := by decide +kernel
theorem dX6_shares_89 : decode cX6_shares 89 = .ok (.getfield 26, 3) := by decide +kernel
theorem dX6_shares_92 : decode cX6_shares 92 = .ok (.iload 5, 2) := by decide +kernel
theorem dX6_shares_94 : decode cX6_shares 94 = .ok (.iaload, 1) := by decide +kernel
theorem dX6_shares_95 : decode cX6_shares 95 = .ok (.isub, 1) := by decide +kernel
theorem dX6_shares_96 : decode cX6_shares 96 = .ok (.istore 4, 2) := by decide +kernel
theorem dX6_shares_98 : decode cX6_shares 98 = .ok (.iinc 5 1, 3) := by decide +kernel
theorem dX6_shares_101 : decode cX6_shares 101 = .ok (.goto (-62), 3) := by decide +kernel
theorem dX6_shares_104 : decode cX6_shares 104 = .ok (.iconst 0, 1) := by decide +kernel
theorem dX6_shares_105 : decode cX6_shares 105 = .ok (.istore 5, 2) := by decide +kernel
theorem dX6_shares_107 : decode cX6_shares 107 = .ok (.iload 5, 2) := by decide +kernel
theorem dX6_shares_109 : decode cX6_shares 109 = .ok (.iload 4, 2) := by decide +kernel
theorem dX6_shares_111 : decode cX6_shares 111 = .ok (.if_icmp .ge 36, 3) := by decide +kernel
theorem dX6_shares_114 : decode cX6_shares 114 = .ok (.aload_n 0, 1) := by decide +kernel
theorem dX6_shares_115 : decode cX6_shares 115 = .ok (.invokevirtual 81, 3) := by decide +kernel
theorem dX6_shares_118 : decode cX6_shares 118 = .ok (.istore 6, 2) := by decide +kernel
theorem dX6_shares_120 : decode cX6_shares 120 = .ok (.aload_n 0, 1) := by decide +kernel
theorem dX6_shares_121 : decode cX6_shares 121 = .ok (.getfield 26, 3) := by decide +kernel
theorem dX6_shares_124 : decode cX6_shares 124 = .ok (.iload 6, 2) := by decide +kernel
theorem dX6_shares_126 : decode cX6_shares 126 = .ok (.dup2, 1) := by decide +kernel
theorem dX6_shares_127 : decode cX6_shares 127 = .ok (.iaload, 1) := by decide +kernel
theorem dX6_shares_128 : decode cX6_shares 128 = .ok (.iconst 1, 1) := by decide +kernel
theorem dX6_shares_129 : decode cX6_shares 129 = .ok (.iadd, 1) := by decide +kernel
theorem dX6_shares_130 : decode cX6_shares 130 = .ok (.iastore, 1) := by decide +kernel
theorem dX6_shares_131 : decode cX6_shares 131 = .ok (.aload_n 0, 1) := by decide +kernel
theorem dX6_shares_132 : decode cX6_shares 132 = .ok (.getfield 29, 3) := by decide +kernel
theorem dX6_shares_135 : decode cX6_shares 135 = .ok (.iload 6, 2) := by decide +kernel
theorem dX6_shares_137 : decode cX6_shares 137 = .ok (.ldc2_w 85, 3) := by decide +kernel
theorem dX6_shares_140 : decode cX6_shares 140 = .ok (.lastore, 1) := by decide +kernel
theorem dX6_shares_141 : decode cX6_shares 141 = .ok (.iinc 5 1, 3) := by decide +kernel
theorem dX6_shares_144 : decode cX6_shares 144 = .ok (.goto (-37), 3) := by decide +kernel
theorem dX6_shares_147 : decode cX6_shares 147 = .ok (.return_, 1) := by decide +kernel
set_option maxRecDepth 20000 in
theorem ggX6_partsAreAreas_X6_ofFlat : GoodIn wsX6_partsAreAreas wsX6_ofFlat := goodIn_r _ [7, 1, 8, 9, 10, 11, 12, 13, 14, 15, 16, 17, 18, 19, 20, 21, 22, 23] (by decide +kernel) (by decide +kernel)
set_option maxRecDepth 20000 in
theorem gX6_partsAreAreas_X6_ofFlat : GoodIn wsX6_partsAreAreas (wsV RX6 87 RX6 yX6_ofFlat wsX6_ofFlat) := goodIn_app (goodIn_of _ (by decide +kernel)) ggX6_partsAreAreas_X6_ofFlat
theorem dX6_partsAreAreas_0 : decode cX6_partsAreAreas 0 = .ok (.iconst 0, 1) := by decide +kernel
theorem dX6_partsAreAreas_1 : decode cX6_partsAreAreas 1 = .ok (.istore_n 1, 1) := by decide +kernel
theorem dX6_partsAreAreas_2 : decode cX6_partsAreAreas 2 = .ok (.iload_n 1, 1) := by decide +kernel
theorem dX6_partsAreAreas_3 : decode cX6_partsAreAreas 3 = .ok (.aload_n 0, 1) := by decide +kernel
theorem dX6_partsAreAreas_4 : decode cX6_partsAreAreas 4 = .ok (.getfield 7, 3) := by decide +kernel
theorem dX6_partsAreAreas_7 : decode cX6_partsAreAreas 7 = .ok (.iconst 0, 1) := by decide +kernel
theorem dX6_partsAreAreas_8 : decode cX6_partsAreAreas 8 = .ok (.iaload, 1) := by decide +kernel
theorem dX6_partsAreAreas_9 : decode cX6_partsAreAreas 9 = .ok (.if_icmp .ge 21, 3) := by decide +kernel
theorem dX6_partsAreAreas_12 : decode cX6_partsAreAreas 12 = .ok (.aload_n 0, 1) := by decide +kernel
theorem dX6_partsAreAreas_13 : decode cX6_partsAreAreas 13 = .ok (.getfield 23, 3) := by decide +kernel
theorem dX6_partsAreAreas_16 : decode cX6_partsAreAreas 16 = .ok (.iload_n 1, 1) := by decide +kernel
theorem dX6_partsAreAreas_17 : decode cX6_partsAreAreas 17 = .ok (.aload_n 0, 1) := by decide +kernel
theorem dX6_partsAreAreas_18 : decode cX6_partsAreAreas 18 = .ok (.iload_n 1, 1) := by decide +kernel
theorem dX6_partsAreAreas_19 : decode cX6_partsAreAreas 19 = .ok (.iconst 0, 1) := by decide +kernel
theorem dX6_partsAreAreas_20 : decode cX6_partsAreAreas 20 = .ok (.invokevirtual 87, 3) := by decide +kernel
theorem dX6_partsAreAreas_23 : decode cX6_partsAreAreas 23 = .ok (.iastore, 1) := by decide +kernel
theorem dX6_partsAreAreas_24 : decode cX6_partsAreAreas 24 = .ok (.iinc 1 1, 3) := by decide +kernel
theorem dX6_partsAreAreas_27 : decode cX6_partsAreAreas 27 = .ok (.goto (-25), 3) := by decide +kernel
theorem dX6_partsAreAreas_30 : decode cX6_partsAreAreas 30 = .ok (.return_, 1) := by decide +kernel
set_option maxRecDepth 20000 in
theorem ggX6_laysCosts_X6_partsAreAreas : GoodIn wsX6_laysCosts wsX6_partsAreAreas := goodIn_r _ [11, 1, 5, 12, 13, 14, 10, 15, 26, 27, 28, 29, 30, 31, 32, 33, 34, 35, 36, 37, 38, 39, 40, 41] (by decide +kernel) (by decide +kernel)
set_option maxRecDepth 20000 in
theorem gX6_laysCosts_X6_partsAreAreas : GoodIn wsX6_laysCosts (wsV RX6 90 RX6 yX6_partsAreAreas wsX6_partsAreAreas) := goodIn_app (goodIn_of _ (by decide +kernel)) ggX6_laysCosts_X6_partsAreAreas
set_option maxRecDepth 20000 in
theorem ggX6_laysCosts_X6_shares : GoodIn wsX6_laysCosts wsX6_shares := goodIn_r _ [19, 1, 5, 3, 20, 21, 22, 23, 24, 10, 25, 26, 27, 28, 29, 30, 31, 32, 33, 34, 35, 36, 37, 38, 39, 40, 41] (by decide +kernel) (by decide +kernel)
set_option maxRecDepth 20000 in
theorem gX6_laysCosts_X6_shares : GoodIn wsX6_laysCosts (wsV RX6 93 RX6 yX6_shares wsX6_shares) := goodIn_app (goodIn_of _ (by decide +kernel)) ggX6_laysCosts_X6_shares
theorem dX6_laysCosts_0 : decode cX6_laysCosts 0 = .ok (.iload_n 1, 1) := by decide +kernel
theorem dX6_laysCosts_1 : decode cX6_laysCosts 1 = .ok (.iload_n 2, 1) := by decide +kernel
theorem dX6_laysCosts_2 : decode cX6_laysCosts 2 = .ok (.imul, 1) := by decide +kernel
theorem dX6_laysCosts_3 : decode cX6_laysCosts 3 = .ok (.bipush 100, 2) := by decide +kernel
theorem dX6_laysCosts_5 : decode cX6_laysCosts 5 = .ok (.idiv, 1) := by decide +kernel
theorem dX6_laysCosts_6 : decode cX6_laysCosts 6 = .ok (.istore_n 3, 1) := by decide +kernel
theorem dX6_laysCosts_7 : decode cX6_laysCosts 7 = .ok (.aload_n 0, 1) := by decide +kernel
theorem dX6_laysCosts_8 : decode cX6_laysCosts 8 = .ok (.getfield 7, 3) := by decide +kernel
theorem dX6_laysCosts_11 : decode cX6_laysCosts 11 = .ok (.iconst 0, 1) := by decide +kernel
theorem dX6_laysCosts_12 : decode cX6_laysCosts 12 = .ok (.iaload, 1) := by decide +kernel
theorem dX6_laysCosts_13 : decode cX6_laysCosts 13 = .ok (.ifCond .ne 4, 3) := by decide +kernel
theorem dX6_laysCosts_16 : decode cX6_laysCosts 16 = .ok (.return_, 1) := by decide +kernel
theorem dX6_laysCosts_17 : decode cX6_laysCosts 17 = .ok (.aload_n 0, 1) := by decide +kernel
theorem dX6_laysCosts_18 : decode cX6_laysCosts 18 = .ok (.invokevirtual 90, 3) := by decide +kernel
theorem dX6_laysCosts_21 : decode cX6_laysCosts 21 = .ok (.aload_n 0, 1) := by decide +kernel
theorem dX6_laysCosts_22 : decode cX6_laysCosts 22 = .ok (.iload_n 3, 1) := by decide +kernel
theorem dX6_laysCosts_23 : decode cX6_laysCosts 23 = .ok (.invokevirtual 93, 3) := by decide +kernel
theorem dX6_laysCosts_26 : decode cX6_laysCosts 26 = .ok (.iconst 0, 1) := by decide +kernel
theorem dX6_laysCosts_27 : decode cX6_laysCosts 27 = .ok (.istore 4, 2) := by decide +kernel
theorem dX6_laysCosts_29 : decode cX6_laysCosts 29 = .ok (.iconst 0, 1) := by decide +kernel
theorem dX6_laysCosts_30 : decode cX6_laysCosts 30 = .ok (.istore 5, 2) := by decide +kernel
theorem dX6_laysCosts_32 : decode cX6_laysCosts 32 = .ok (.iload 5, 2) := by decide +kernel
theorem dX6_laysCosts_34 : decode cX6_laysCosts 34 = .ok (.aload_n 0, 1) := by decide +kernel
theorem dX6_laysCosts_35 : decode cX6_laysCosts 35 = .ok (.getfield 7, 3) := by decide +kernel
theorem dX6_laysCosts_38 : decode cX6_laysCosts 38 = .ok (.iconst 0, 1) := by decide +kernel
theorem dX6_laysCosts_39 : decode cX6_laysCosts 39 = .ok (.iaload, 1) := by decide +kernel
theorem dX6_laysCosts_40 : decode cX6_laysCosts 40 = .ok (.if_icmp .ge 35, 3) := by decide +kernel
theorem dX6_laysCosts_43 : decode cX6_laysCosts 43 = .ok (.aload_n 0, 1) := by decide +kernel
theorem dX6_laysCosts_44 : decode cX6_laysCosts 44 = .ok (.getfield 36, 3) := by decide +kernel
theorem dX6_laysCosts_47 : decode cX6_laysCosts 47 = .ok (.iload 5, 2) := by decide +kernel
