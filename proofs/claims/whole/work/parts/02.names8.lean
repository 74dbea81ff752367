theorem dX6_draft_51 : decode cX6_draft 51 = .ok (.ireturn, 1) := by decide +kernel
set_option maxRecDepth 20000 in
theorem ggX6_bill_X6_isClosed : GoodIn wsX6_bill wsX6_isClosed := goodIn_r _ [7, 1, 8, 9, 6, 10, 18, 19, 20, 21, 22, 23, 24, 25, 26, 27, 28, 29, 30, 31, 32, 33] (by decide +kernel) (by decide +kernel)
set_option maxRecDepth 20000 in
theorem gX6_bill_X6_isClosed : GoodIn wsX6_bill (wsV RX6 136 RX6 yX6_isClosed wsX6_isClosed) := goodIn_app (goodIn_of _ (by decide +kernel)) ggX6_bill_X6_isClosed
set_option maxRecDepth 20000 in
theorem ggX6_bill_X6_isFlat : GoodIn wsX6_bill wsX6_isFlat := goodIn_r _ [14, 1, 8, 9, 6, 10, 18, 19, 20, 21, 22, 23, 24, 25, 26, 27, 28, 29, 30, 31, 32, 33] (by decide +kernel) (by decide +kernel)
set_option maxRecDepth 20000 in
theorem gX6_bill_X6_isFlat : GoodIn wsX6_bill (wsV RX6 114 RX6 yX6_isFlat wsX6_isFlat) := goodIn_app (goodIn_of _ (by decide +kernel)) ggX6_bill_X6_isFlat
set_option maxRecDepth 20000 in
theorem ggX6_bill_X6_old : GoodIn wsX6_bill wsX6_old := goodIn_r _ [17] (by decide +kernel) (by decide +kernel)
set_option maxRecDepth 20000 in
theorem gX6_bill_X6_old : GoodIn wsX6_bill (va_wsS RX6 75 yX6_old wsX6_old) := goodIn_app (goodIn_of _ (by decide +kernel)) ggX6_bill_X6_old
theorem dX6_bill_0 : decode cX6_bill 0 = .ok (.aload_n 0, 1) := by decide +kernel
theorem dX6_bill_1 : decode cX6_bill 1 = .ok (.iload_n 1, 1) := by decide +kernel
theorem dX6_bill_2 : decode cX6_bill 2 = .ok (.invokevirtual 136, 3) := by decide +kernel
theorem dX6_bill_5 : decode cX6_bill 5 = .ok (.ifCond .eq 33, 3) := by decide +kernel
theorem dX6_bill_8 : decode cX6_bill 8 = .ok (.aload_n 0, 1) := by decide +kernel
theorem dX6_bill_9 : decode cX6_bill 9 = .ok (.iload_n 2, 1) := by decide +kernel
theorem dX6_bill_10 : decode cX6_bill 10 = .ok (.invokevirtual 114, 3) := by decide +kernel
theorem dX6_bill_13 : decode cX6_bill 13 = .ok (.ifCond .eq 25, 3) := by decide +kernel
theorem dX6_bill_16 : decode cX6_bill 16 = .ok (.iload_n 3, 1) := by decide +kernel
theorem dX6_bill_17 : decode cX6_bill 17 = .ok (.ifCond .eq 23, 3) := by decide +kernel
theorem dX6_bill_20 : decode cX6_bill 20 = .ok (.aload_n 0, 1) := by decide +kernel
theorem dX6_bill_21 : decode cX6_bill 21 = .ok (.getfield 7, 3) := by decide +kernel
theorem dX6_bill_24 : decode cX6_bill 24 = .ok (.iload_n 1, 1) := by decide +kernel
theorem dX6_bill_25 : decode cX6_bill 25 = .ok (.bipush 23, 2) := by decide +kernel
theorem dX6_bill_27 : decode cX6_bill 27 = .ok (.iconst 2, 1) := by decide +kernel
theorem dX6_bill_28 : decode cX6_bill 28 = .ok (.iload_n 2, 1) := by decide +kernel
theorem dX6_bill_29 : decode cX6_bill 29 = .ok (.imul, 1) := by decide +kernel
theorem dX6_bill_30 : decode cX6_bill 30 = .ok (.iadd, 1) := by decide +kernel
theorem dX6_bill_31 : decode cX6_bill 31 = .ok (.invokestatic 75, 3) := by decide +kernel
theorem dX6_bill_34 : decode cX6_bill 34 = .ok (.iaload, 1) := by decide +kernel
theorem dX6_bill_35 : decode cX6_bill 35 = .ok (.ifCond .ne 5, 3) := by decide +kernel
theorem dX6_bill_38 : decode cX6_bill 38 = .ok (.iconst (-1), 1) := by decide +kernel
theorem dX6_bill_39 : decode cX6_bill 39 = .ok (.ireturn, 1) := by decide +kernel
theorem dX6_bill_40 : decode cX6_bill 40 = .ok (.iconst 2, 1) := by decide +kernel
theorem dX6_bill_41 : decode cX6_bill 41 = .ok (.iload_n 2, 1) := by decide +kernel
theorem dX6_bill_42 : decode cX6_bill 42 = .ok (.imul, 1) := by decide +kernel
theorem dX6_bill_43 : decode cX6_bill 43 = .ok (.iload_n 3, 1) := by decide +kernel
theorem dX6_bill_44 : decode cX6_bill 44 = .ok (.ifCond .eq 7, 3) := by decide +kernel
theorem dX6_bill_47 : decode cX6_bill 47 = .ok (.iconst 1, 1) := by decide +kernel
theorem dX6_bill_48 : decode cX6_bill 48 = .ok (.goto 4, 3) := by decide +kernel
theorem dX6_bill_51 : decode cX6_bill 51 = .ok (.iconst 0, 1) := by decide +kernel
theorem dX6_bill_52 : decode cX6_bill 52 = .ok (.iadd, 1) := by decide +kernel
theorem dX6_bill_53 : decode cX6_bill 53 = .ok (.istore 5, 2) := by decide +kernel
theorem dX6_bill_55 : decode cX6_bill 55 = .ok (.iload 4, 2) := by decide +kernel
theorem dX6_bill_57 : decode cX6_bill 57 = .ok (.ifCond .eq 23, 3) := by decide +kernel
theorem dX6_bill_60 : decode cX6_bill 60 = .ok (.ldc 176, 2) := by decide +kernel
theorem dX6_bill_62 : decode cX6_bill 62 = .ok (.aload_n 0, 1) := by decide +kernel
theorem dX6_bill_63 : decode cX6_bill 63 = .ok (.getfield 7, 3) := by decide +kernel
theorem dX6_bill_66 : decode cX6_bill 66 = .ok (.iload_n 1, 1) := by decide +kernel
theorem dX6_bill_67 : decode cX6_bill 67 = .ok (.bipush 55, 2) := by decide +kernel
theorem dX6_bill_69 : decode cX6_bill 69 = .ok (.iload 5, 2) := by decide +kernel
theorem dX6_bill_71 : decode cX6_bill 71 = .ok (.iadd, 1) := by decide +kernel
theorem dX6_bill_72 : decode cX6_bill 72 = .ok (.invokestatic 75, 3) := by decide +kernel
theorem dX6_bill_75 : decode cX6_bill 75 = .ok (.iaload, 1) := by decide +kernel
theorem dX6_bill_76 : decode cX6_bill 76 = .ok (.iadd, 1) := by decide +kernel
theorem dX6_bill_77 : decode cX6_bill 77 = .ok (.goto 17, 3) := by decide +kernel
theorem dX6_bill_80 : decode cX6_bill 80 = .ok (.aload_n 0, 1) := by decide +kernel
theorem dX6_bill_81 : decode cX6_bill 81 = .ok (.getfield 7, 3) := by decide +kernel
theorem dX6_bill_84 : decode cX6_bill 84 = .ok (.iload_n 1, 1) := by decide +kernel
theorem dX6_bill_85 : decode cX6_bill 85 = .ok (.bipush 39, 2) := by decide +kernel
theorem dX6_bill_87 : decode cX6_bill 87 = .ok (.iload 5, 2) := by decide +kernel
theorem dX6_bill_89 : decode cX6_bill 89 = .ok (.iadd, 1) := by decide +kernel
theorem dX6_bill_90 : decode cX6_bill 90 = .ok (.invokestatic 75, 3) := by decide +kernel
theorem dX6_bill_93 : decode cX6_bill 93 = .ok (.iaload, 1) := by decide +kernel
theorem dX6_bill_94 : decode cX6_bill 94 = .ok (.ireturn, 1) := by decide +kernel
set_option maxRecDepth 20000 in
theorem ggX6_units_X6_isClosed : GoodIn wsX6_units wsX6_isClosed := goodIn_r _ [6, 1, 7, 8, 5, 9, 13, 14, 15, 16, 17, 18, 19, 20, 21, 22, 23, 24, 25, 26, 27, 28] (by decide +kernel) (by decide +kernel)
set_option maxRecDepth 20000 in
theorem gX6_units_X6_isClosed : GoodIn wsX6_units (wsV RX6 136 RX6 yX6_isClosed wsX6_isClosed) := goodIn_app (goodIn_of _ (by decide +kernel)) ggX6_units_X6_isClosed
set_option maxRecDepth 20000 in
theorem ggX6_units_X6_old : GoodIn wsX6_units wsX6_old := goodIn_r _ [12] (by decide +kernel) (by decide +kernel)
set_option maxRecDepth 20000 in
theorem gX6_units_X6_old : GoodIn wsX6_units (va_wsS RX6 75 yX6_old wsX6_old) := goodIn_app (goodIn_of _ (by decide +kernel)) ggX6_units_X6_old
set_option maxRecDepth 20000 in
theorem ggX6_units_X6_in : GoodIn wsX6_units wsX6_in := goodIn_r _ [9] (by decide +kernel) (by decide +kernel)
set_option maxRecDepth 20000 in
theorem gX6_units_X6_in : GoodIn wsX6_units (va_wsS RX6 60 yX6_in wsX6_in) := goodIn_app (goodIn_of _ (by decide +kernel)) ggX6_units_X6_in
theorem dX6_units_0 : decode cX6_units 0 = .ok (.aload_n 0, 1) := by decide +kernel
theorem dX6_units_1 : decode cX6_units 1 = .ok (.iload_n 1, 1) := by decide +kernel
theorem dX6_units_2 : decode cX6_units 2 = .ok (.invokevirtual 136, 3) := by decide +kernel
theorem dX6_units_5 : decode cX6_units 5 = .ok (.ifCond .eq 38, 3) := by decide +kernel
theorem dX6_units_8 : decode cX6_units 8 = .ok (.iload_n 2, 1) := by decide +kernel
theorem dX6_units_9 : decode cX6_units 9 = .ok (.iconst 0, 1) := by decide +kernel
theorem dX6_units_10 : decode cX6_units 10 = .ok (.aload_n 0, 1) := by decide +kernel
theorem dX6_units_11 : decode cX6_units 11 = .ok (.getfield 7, 3) := by decide +kernel
theorem dX6_units_14 : decode cX6_units 14 = .ok (.iload_n 1, 1) := by decide +kernel
theorem dX6_units_15 : decode cX6_units 15 = .ok (.iconst 2, 1) := by decide +kernel
theorem dX6_units_16 : decode cX6_units 16 = .ok (.invokestatic 75, 3) := by decide +kernel
theorem dX6_units_19 : decode cX6_units 19 = .ok (.iaload, 1) := by decide +kernel
theorem dX6_units_20 : decode cX6_units 20 = .ok (.iconst 1, 1) := by decide +kernel
theorem dX6_units_21 : decode cX6_units 21 = .ok (.isub, 1) := by decide +kernel
theorem dX6_units_22 : decode cX6_units 22 = .ok (.invokestatic 60, 3) := by decide +kernel
theorem dX6_units_25 : decode cX6_units 25 = .ok (.ifCond .eq 18, 3) := by decide +kernel
theorem dX6_units_28 : decode cX6_units 28 = .ok (.aload_n 0, 1) := by decide +kernel
theorem dX6_units_29 : decode cX6_units 29 = .ok (.getfield 7, 3) := by decide +kernel
theorem dX6_units_32 : decode cX6_units 32 = .ok (.iload_n 1, 1) := by decide +kernel
theorem dX6_units_33 : decode cX6_units 33 = .ok (.iconst 3, 1) := by decide +kernel
theorem dX6_units_34 : decode cX6_units 34 = .ok (.iload_n 2, 1) := by decide +kernel
theorem dX6_units_35 : decode cX6_units 35 = .ok (.iadd, 1) := by decide +kernel
theorem dX6_units_36 : decode cX6_units 36 = .ok (.invokestatic 75, 3) := by decide +kernel
theorem dX6_units_39 : decode cX6_units 39 = .ok (.iaload, 1) := by decide +kernel
theorem dX6_units_40 : decode cX6_units 40 = .ok (.goto 4, 3) := by decide +kernel
theorem dX6_units_43 : decode cX6_units 43 = .ok (.iconst (-1), 1) := by decide +kernel
theorem dX6_units_44 : decode cX6_units 44 = .ok (.ireturn, 1) := by decide +kernel
set_option maxRecDepth 20000 in
theorem ggX6_greatest_X6_laysOpen : GoodIn wsX6_greatest wsX6_laysOpen := goodIn_r _ [7, 1, 8, 9, 10, 6, 11, 12, 13, 14, 15, 16, 17, 18, 19, 20, 21, 22, 23, 24, 25, 26, 27, 28, 29, 30, 31, 32, 33, 34, 35, 36, 37, 38, 2, 39, 40, 41, 42, 43, 44, 45, 46, 47, 48, 49, 50, 51, 52, 53, 54, 55, 56, 57, 58, 59, 60, 61, 62, 63, 64, 65, 66, 67, 68, 69, 70, 71, 72] (by decide +kernel) (by decide +kernel)
set_option maxRecDepth 20000 in
theorem gX6_greatest_X6_laysOpen : GoodIn wsX6_greatest (wsV RX6 129 RX6 yX6_laysOpen wsX6_laysOpen) := goodIn_app (goodIn_of _ (by decide +kernel)) ggX6_greatest_X6_laysOpen
theorem dX6_greatest_0 : decode cX6_greatest 0 = .ok (.iload_n 1, 1) := by decide +kernel
theorem dX6_greatest_1 : decode cX6_greatest 1 = .ok (.ifCond .ge 6, 3) := by decide +kernel
theorem dX6_greatest_4 : decode cX6_greatest 4 = .ok (.bipush (-2), 2) := by decide +kernel
theorem dX6_greatest_6 : decode cX6_greatest 6 = .ok (.ireturn, 1) := by decide +kernel
theorem dX6_greatest_7 : decode cX6_greatest 7 = .ok (.aload_n 0, 1) := by decide +kernel
theorem dX6_greatest_8 : decode cX6_greatest 8 = .ok (.aload_n 0, 1) := by decide +kernel
theorem dX6_greatest_9 : decode cX6_greatest 9 = .ok (.getfield 7, 3) := by decide +kernel
theorem dX6_greatest_12 : decode cX6_greatest 12 = .ok (.iconst 4, 1) := by decide +kernel
theorem dX6_greatest_13 : decode cX6_greatest 13 = .ok (.iaload, 1) := by decide +kernel
theorem dX6_greatest_14 : decode cX6_greatest 14 = .ok (.invokevirtual 129, 3) := by decide +kernel
theorem dX6_greatest_17 : decode cX6_greatest 17 = .ok (.bipush (-5), 2) := by decide +kernel
theorem dX6_greatest_19 : decode cX6_greatest 19 = .ok (.istore_n 2, 1) := by decide +kernel
theorem dX6_greatest_20 : decode cX6_greatest 20 = .ok (.iconst 0, 1) := by decide +kernel
theorem dX6_greatest_21 : decode cX6_greatest 21 = .ok (.istore_n 3, 1) := by decide +kernel
theorem dX6_greatest_22 : decode cX6_greatest 22 = .ok (.iload_n 3, 1) := by decide +kernel
theorem dX6_greatest_23 : decode cX6_greatest 23 = .ok (.aload_n 0, 1) := by decide +kernel
theorem dX6_greatest_24 : decode cX6_greatest 24 = .ok (.getfield 7, 3) := by decide +kernel
theorem dX6_greatest_27 : decode cX6_greatest 27 = .ok (.iconst 0, 1) := by decide +kernel
theorem dX6_greatest_28 : decode cX6_greatest 28 = .ok (.iaload, 1) := by decide +kernel
theorem dX6_greatest_29 : decode cX6_greatest 29 = .ok (.if_icmp .ge 92, 3) := by decide +kernel
theorem dX6_greatest_32 : decode cX6_greatest 32 = .ok (.iconst 0, 1) := by decide +kernel
theorem dX6_greatest_33 : decode cX6_greatest 33 = .ok (.istore 4, 2) := by decide +kernel
theorem dX6_greatest_35 : decode cX6_greatest 35 = .ok (.iconst 0, 1) := by decide +kernel
theorem dX6_greatest_36 : decode cX6_greatest 36 = .ok (.istore 5, 2) := by decide +kernel
theorem dX6_greatest_38 : decode cX6_greatest 38 = .ok (.iload 5, 2) := by decide +kernel
theorem dX6_greatest_40 : decode cX6_greatest 40 = .ok (.aload_n 0, 1) := by decide +kernel
theorem dX6_greatest_41 : decode cX6_greatest 41 = .ok (.getfield 7, 3) := by decide +kernel
theorem dX6_greatest_44 : decode cX6_greatest 44 = .ok (.iconst 0, 1) := by decide +kernel
theorem dX6_greatest_45 : decode cX6_greatest 45 = .ok (.iaload, 1) := by decide +kernel
theorem dX6_greatest_46 : decode cX6_greatest 46 = .ok (.if_icmp .ge 57, 3) := by decide +kernel
theorem dX6_greatest_49 : decode cX6_greatest 49 = .ok (.iload 4, 2) := by decide +kernel
theorem dX6_greatest_51 : decode cX6_greatest 51 = .ok (.aload_n 0, 1) := by decide +kernel
theorem dX6_greatest_52 : decode cX6_greatest 52 = .ok (.getfield 39, 3) := by decide +kernel
theorem dX6_greatest_55 : decode cX6_greatest 55 = .ok (.iload 5, 2) := by decide +kernel
theorem dX6_greatest_57 : decode cX6_greatest 57 = .ok (.iaload, 1) := by decide +kernel
theorem dX6_greatest_58 : decode cX6_greatest 58 = .ok (.aload_n 0, 1) := by decide +kernel
theorem dX6_greatest_59 : decode cX6_greatest 59 = .ok (.getfield 39, 3) := by decide +kernel
theorem dX6_greatest_62 : decode cX6_greatest 62 = .ok (.iload_n 3, 1) := by decide +kernel
theorem dX6_greatest_63 : decode cX6_greatest 63 = .ok (.iaload, 1) := by decide +kernel
theorem dX6_greatest_64 : decode cX6_greatest 64 = .ok (.if_icmp .gt 25, 3) := by decide +kernel
theorem dX6_greatest_67 : decode cX6_greatest 67 = .ok (.aload_n 0, 1) := by decide +kernel
theorem dX6_greatest_68 : decode cX6_greatest 68 = .ok (.getfield 39, 3) := by decide +kernel
theorem dX6_greatest_71 : decode cX6_greatest 71 = .ok (.iload 5, 2) := by decide +kernel
theorem dX6_greatest_73 : decode cX6_greatest 73 = .ok (.iaload, 1) := by decide +kernel
theorem dX6_greatest_74 : decode cX6_greatest 74 = .ok (.aload_n 0, 1) := by decide +kernel
theorem dX6_greatest_75 : decode cX6_greatest 75 = .ok (.getfield 39, 3) := by decide +kernel
theorem dX6_greatest_78 : decode cX6_greatest 78 = .ok (.iload_n 3, 1) := by decide +kernel
theorem dX6_greatest_79 : decode cX6_greatest 79 = .ok (.iaload, 1) := by decide +kernel
theorem dX6_greatest_80 : decode cX6_greatest 80 = .ok (.if_icmp .ne 13, 3) := by decide +kernel
theorem dX6_greatest_83 : decode cX6_greatest 83 = .ok (.iload 5, 2) := by decide +kernel
theorem dX6_greatest_85 : decode cX6_greatest 85 = .ok (.iload_n 3, 1) := by decide +kernel
theorem dX6_greatest_86 : decode cX6_greatest 86 = .ok (.if_icmp .ge 7, 3) := by decide +kernel
theorem dX6_greatest_89 : decode cX6_greatest 89 = .ok (.iconst 1, 1) := by decide +kernel
theorem dX6_greatest_90 : decode cX6_greatest 90 = .ok (.goto 4, 3) := by decide +kernel
theorem dX6_greatest_93 : decode cX6_greatest 93 = .ok (.iconst 0, 1) := by decide +kernel
theorem dX6_greatest_94 : decode cX6_greatest 94 = .ok (.iadd, 1) := by decide +kernel
theorem dX6_greatest_95 : decode cX6_greatest 95 = .ok (.istore 4, 2) := by decide +kernel
theorem dX6_greatest_97 : decode cX6_greatest 97 = .ok (.iinc 5 1, 3) := by decide +kernel
theorem dX6_greatest_100 : decode cX6_greatest 100 = .ok (.goto (-62), 3) := by decide +kernel
theorem dX6_greatest_103 : decode cX6_greatest 103 = .ok (.iload 4, 2) := by decide +kernel
theorem dX6_greatest_105 : decode cX6_greatest 105 = .ok (.iload_n 1, 1) := by decide +kernel
theorem dX6_greatest_106 : decode cX6_greatest 106 = .ok (.if_icmp .ne 7, 3) := by decide +kernel
theorem dX6_greatest_109 : decode cX6_greatest 109 = .ok (.iload_n 3, 1) := by decide +kernel
theorem dX6_greatest_110 : decode cX6_greatest 110 = .ok (.goto 4, 3) := by decide +kernel
theorem dX6_greatest_113 : decode cX6_greatest 113 = .ok (.iload_n 2, 1) := by decide +kernel
theorem dX6_greatest_114 : decode cX6_greatest 114 = .ok (.istore_n 2, 1) := by decide +kernel
theorem dX6_greatest_115 : decode cX6_greatest 115 = .ok (.iinc 3 1, 3) := by decide +kernel
theorem dX6_greatest_118 : decode cX6_greatest 118 = .ok (.goto (-96), 3) := by decide +kernel
theorem dX6_greatest_121 : decode cX6_greatest 121 = .ok (.iload_n 2, 1) := by decide +kernel
theorem dX6_greatest_122 : decode cX6_greatest 122 = .ok (.ireturn, 1) := by decide +kernel
set_option maxRecDepth 20000 in
theorem ggX6_billBy_X6_laysOpen : GoodIn wsX6_billBy wsX6_laysOpen := goodIn_r _ [7, 8, 9, 10, 11, 6, 12, 13, 14, 15, 16, 17, 18, 19, 20, 21, 22, 23, 24, 25, 26, 27, 28, 29, 30, 31, 32, 33, 34, 35, 36, 1, 37, 38, 2, 39, 40, 41, 42, 43, 44, 45, 46, 47, 48, 49, 50, 51, 52, 53, 54, 55, 56, 57, 58, 59, 60, 61, 62, 63, 64, 65, 66, 67, 68, 69, 70, 71, 72] (by decide +kernel) (by decide +kernel)
set_option maxRecDepth 20000 in
theorem gX6_billBy_X6_laysOpen : GoodIn wsX6_billBy (wsV RX6 129 RX6 yX6_laysOpen wsX6_laysOpen) := goodIn_app (goodIn_of _ (by decide +kernel)) ggX6_billBy_X6_laysOpen
theorem dX6_billBy_0 : decode cX6_billBy 0 = .ok (.aload_n 0, 1) := by decide +kernel
theorem dX6_billBy_1 : decode cX6_billBy 1 = .ok (.iload_n 2, 1) := by decide +kernel
theorem dX6_billBy_2 : decode cX6_billBy 2 = .ok (.invokevirtual 129, 3) := by decide +kernel
theorem dX6_billBy_5 : decode cX6_billBy 5 = .ok (.aload_n 0, 1) := by decide +kernel
theorem dX6_billBy_6 : decode cX6_billBy 6 = .ok (.getfield 36, 3) := by decide +kernel
theorem dX6_billBy_9 : decode cX6_billBy 9 = .ok (.iload_n 1, 1) := by decide +kernel
theorem dX6_billBy_10 : decode cX6_billBy 10 = .ok (.iaload, 1) := by decide +kernel
theorem dX6_billBy_11 : decode cX6_billBy 11 = .ok (.aload_n 0, 1) := by decide +kernel
theorem dX6_billBy_12 : decode cX6_billBy 12 = .ok (.getfield 39, 3) := by decide +kernel
theorem dX6_billBy_15 : decode cX6_billBy 15 = .ok (.iload_n 1, 1) := by decide +kernel
theorem dX6_billBy_16 : decode cX6_billBy 16 = .ok (.iaload, 1) := by decide +kernel
theorem dX6_billBy_17 : decode cX6_billBy 17 = .ok (.iadd, 1) := by decide +kernel
theorem dX6_billBy_18 : decode cX6_billBy 18 = .ok (.ireturn, 1) := by decide +kernel
set_option maxRecDepth 20000 in
theorem ggX6_billIf_X6_isFlat : GoodIn wsX6_billIf wsX6_isFlat := goodIn_r _ [5, 6, 7, 8, 4, 9, 68, 69, 70, 71, 72, 73, 74, 75, 76, 77, 78, 79, 80, 81, 82, 83] (by decide +kernel) (by decide +kernel)
set_option maxRecDepth 20000 in
theorem gX6_billIf_X6_isFlat : GoodIn wsX6_billIf (wsV RX6 114 RX6 yX6_isFlat wsX6_isFlat) := goodIn_app (goodIn_of _ (by decide +kernel)) ggX6_billIf_X6_isFlat
set_option maxRecDepth 20000 in
theorem ggX6_billIf_X6_in : GoodIn wsX6_billIf wsX6_in := goodIn_r _ [9] (by decide +kernel) (by decide +kernel)
set_option maxRecDepth 20000 in
theorem gX6_billIf_X6_in : GoodIn wsX6_billIf (va_wsS RX6 60 yX6_in wsX6_in) := goodIn_app (goodIn_of _ (by decide +kernel)) ggX6_billIf_X6_in
set_option maxRecDepth 20000 in
theorem ggX6_billIf_X6_billBy : GoodIn wsX6_billIf wsX6_billBy := goodIn_r _ [13, 14, 15, 16, 17, 18, 4, 19, 6, 20, 21, 22, 23, 24, 25, 26, 27, 28, 29, 30, 31, 32, 33, 34, 35, 36, 37, 38, 39, 40, 41, 42, 43, 44, 45, 46, 47, 48, 49, 50, 51, 52, 53, 54, 55, 56, 57, 58, 59, 60, 61, 62, 63, 64, 65, 66, 67, 68, 69, 70, 71, 72, 73, 74, 75, 76, 77, 78, 79, 80, 81, 82, 83] (by decide +kernel) (by decide +kernel)
set_option maxRecDepth 20000 in
theorem gX6_billIf_X6_billBy : GoodIn wsX6_billIf (wsV RX6 177 RX6 yX6_billBy wsX6_billBy) := goodIn_app (goodIn_of _ (by decide +kernel)) ggX6_billIf_X6_billBy
theorem dX6_billIf_0 : decode cX6_billIf 0 = .ok (.aload_n 0, 1) := by decide +kernel
theorem dX6_billIf_1 : decode cX6_billIf 1 = .ok (.iload_n 1, 1) := by decide +kernel
theorem dX6_billIf_2 : decode cX6_billIf 2 = .ok (.invokevirtual 114, 3) := by decide +kernel
theorem dX6_billIf_5 : decode cX6_billIf 5 = .ok (.ifCond .ne 5, 3) := by decide +kernel
theorem dX6_billIf_8 : decode cX6_billIf 8 = .ok (.iconst (-1), 1) := by decide +kernel
theorem dX6_billIf_9 : decode cX6_billIf 9 = .ok (.ireturn, 1) := by decide +kernel
theorem dX6_billIf_10 : decode cX6_billIf 10 = .ok (.iload_n 2, 1) := by decide +kernel
theorem dX6_billIf_11 : decode cX6_billIf 11 = .ok (.iconst 0, 1) := by decide +kernel
theorem dX6_billIf_12 : decode cX6_billIf 12 = .ok (.bipush 100, 2) := by decide +kernel
theorem dX6_billIf_14 : decode cX6_billIf 14 = .ok (.invokestatic 60, 3) := by decide +kernel
theorem dX6_billIf_17 : decode cX6_billIf 17 = .ok (.ifCond .eq 12, 3) := by decide +kernel
theorem dX6_billIf_20 : decode cX6_billIf 20 = .ok (.aload_n 0, 1) := by decide +kernel
theorem dX6_billIf_21 : decode cX6_billIf 21 = .ok (.iload_n 1, 1) := by decide +kernel
theorem dX6_billIf_22 : decode cX6_billIf 22 = .ok (.iload_n 2, 1) := by decide +kernel
theorem dX6_billIf_23 : decode cX6_billIf 23 = .ok (.invokevirtual 177, 3) := by decide +kernel
theorem dX6_billIf_26 : decode cX6_billIf 26 = .ok (.goto 5, 3) := by decide +kernel
theorem dX6_billIf_29 : decode cX6_billIf 29 = .ok (.bipush (-2), 2) := by decide +kernel
theorem dX6_billIf_31 : decode cX6_billIf 31 = .ok (.ireturn, 1) := by decide +kernel
set_option maxRecDepth 20000 in
theorem ggX6_bestShare_X6_isFlat : GoodIn wsX6_bestShare wsX6_isFlat := goodIn_r _ [5, 6, 7, 8, 4, 9, 68, 69, 70, 71, 72, 73, 74, 75, 76, 77, 78, 79, 80, 81, 82, 83] (by decide +kernel) (by decide +kernel)
set_option maxRecDepth 20000 in
theorem gX6_bestShare_X6_isFlat : GoodIn wsX6_bestShare (wsV RX6 114 RX6 yX6_isFlat wsX6_isFlat) := goodIn_app (goodIn_of _ (by decide +kernel)) ggX6_bestShare_X6_isFlat
set_option maxRecDepth 20000 in
theorem ggX6_bestShare_X6_billBy : GoodIn wsX6_bestShare wsX6_billBy := goodIn_r _ [13, 14, 15, 16, 17, 18, 4, 19, 6, 20, 21, 22, 23, 24, 25, 26, 27, 28, 29, 30, 31, 32, 33, 34, 35, 36, 37, 38, 39, 40, 41, 42, 43, 44, 45, 46, 47, 48, 49, 50, 51, 52, 53, 54, 55, 56, 57, 58, 59, 60, 61, 62, 63, 64, 65, 66, 67, 68, 69, 70, 71, 72, 73, 74, 75, 76, 77, 78, 79, 80, 81, 82, 83] (by decide +kernel) (by decide +kernel)
set_option maxRecDepth 20000 in
theorem gX6_bestShare_X6_billBy : GoodIn wsX6_bestShare (wsV RX6 177 RX6 yX6_billBy wsX6_billBy) := goodIn_app (goodIn_of _ (by decide +kernel)) ggX6_bestShare_X6_billBy
theorem dX6_bestShare_0 : decode cX6_bestShare 0 = .ok (.aload_n 0, 1) := by decide +kernel
theorem dX6_bestShare_1 : decode cX6_bestShare 1 = .ok (.iload_n 1, 1) := by decide +kernel
theorem dX6_bestShare_2 : decode cX6_bestShare 2 = .ok (.invokevirtual 114, 3) := by decide +kernel
theorem dX6_bestShare_5 : decode cX6_bestShare 5 = .ok (.ifCond .ne 5, 3) := by decide +kernel
theorem dX6_bestShare_8 : decode cX6_bestShare 8 = .ok (.iconst (-1), 1) := by decide +kernel
theorem dX6_bestShare_9 : decode cX6_bestShare 9 = .ok (.ireturn, 1) := by decide +kernel
theorem dX6_bestShare_10 : decode cX6_bestShare 10 = .ok (.iconst 0, 1) := by decide +kernel
theorem dX6_bestShare_11 : decode cX6_bestShare 11 = .ok (.istore_n 2, 1) := by decide +kernel
theorem dX6_bestShare_12 : decode cX6_bestShare 12 = .ok (.aload_n 0, 1) := by decide +kernel
theorem dX6_bestShare_13 : decode cX6_bestShare 13 = .ok (.iload_n 1, 1) := by decide +kernel
theorem dX6_bestShare_14 : decode cX6_bestShare 14 = .ok (.iconst 0, 1) := by decide +kernel
theorem dX6_bestShare_15 : decode cX6_bestShare 15 = .ok (.invokevirtual 177, 3) := by decide +kernel
theorem dX6_bestShare_18 : decode cX6_bestShare 18 = .ok (.istore_n 3, 1) := by decide +kernel
theorem dX6_bestShare_19 : decode cX6_bestShare 19 = .ok (.iconst 1, 1) := by decide +kernel
theorem dX6_bestShare_20 : decode cX6_bestShare 20 = .ok (.istore 4, 2) := by decide +kernel
theorem dX6_bestShare_22 : decode cX6_bestShare 22 = .ok (.iload 4, 2) := by decide +kernel
theorem dX6_bestShare_24 : decode cX6_bestShare 24 = .ok (.bipush 100, 2) := by decide +kernel
theorem dX6_bestShare_26 : decode cX6_bestShare 26 = .ok (.if_icmp .gt 44, 3) := by decide +kernel
theorem dX6_bestShare_29 : decode cX6_bestShare 29 = .ok (.aload_n 0, 1) := by decide +kernel
theorem dX6_bestShare_30 : decode cX6_bestShare 30 = .ok (.iload_n 1, 1) := by decide +kernel
theorem dX6_bestShare_31 : decode cX6_bestShare 31 = .ok (.iload 4, 2) := by decide +kernel
theorem dX6_bestShare_33 : decode cX6_bestShare 33 = .ok (.invokevirtual 177, 3) := by decide +kernel
theorem dX6_bestShare_36 : decode cX6_bestShare 36 = .ok (.istore 5, 2) := by decide +kernel
theorem dX6_bestShare_38 : decode cX6_bestShare 38 = .ok (.iload 5, 2) := by decide +kernel
theorem dX6_bestShare_40 : decode cX6_bestShare 40 = .ok (.iload_n 3, 1) := by decide +kernel
theorem dX6_bestShare_41 : decode cX6_bestShare 41 = .ok (.if_icmp .ge 8, 3) := by decide +kernel
theorem dX6_bestShare_44 : decode cX6_bestShare 44 = .ok (.iload 4, 2) := by decide +kernel
theorem dX6_bestShare_46 : decode cX6_bestShare 46 = .ok (.goto 4, 3) := by decide +kernel
theorem dX6_bestShare_49 : decode cX6_bestShare 49 = .ok (.iload_n 2, 1) := by decide +kernel
theorem dX6_bestShare_50 : decode cX6_bestShare 50 = .ok (.istore_n 2, 1) := by decide +kernel
theorem dX6_bestShare_51 : decode cX6_bestShare 51 = .ok (.iload 5, 2) := by decide +kernel
theorem dX6_bestShare_53 : decode cX6_bestShare 53 = .ok (.iload_n 3, 1) := by decide +kernel
theorem dX6_bestShare_54 : decode cX6_bestShare 54 = .ok (.if_icmp .ge 8, 3) := by decide +kernel
theorem dX6_bestShare_57 : decode cX6_bestShare 57 = .ok (.iload 5, 2) := by decide +kernel
theorem dX6_bestShare_59 : decode cX6_bestShare 59 = .ok (.goto 4, 3) := by decide +kernel
theorem dX6_bestShare_62 : decode cX6_bestShare 62 = .ok (.iload_n 3, 1) := by decide +kernel
theorem dX6_bestShare_63 : decode cX6_bestShare 63 = .ok (.istore_n 3, 1) := by decide +kernel
theorem dX6_bestShare_64 : decode cX6_bestShare 64 = .ok (.iinc 4 1, 3) := by decide +kernel
theorem dX6_bestShare_67 : decode cX6_bestShare 67 = .ok (.goto (-45), 3) := by decide +kernel
theorem dX6_bestShare_70 : decode cX6_bestShare 70 = .ok (.iload_n 2, 1) := by decide +kernel
theorem dX6_bestShare_71 : decode cX6_bestShare 71 = .ok (.ireturn, 1) := by decide +kernel
set_option maxRecDepth 20000 in
theorem ggX6_areas_X6_ofFlat : GoodIn wsX6_areas wsX6_ofFlat := goodIn_r _ [6, 1, 7, 8, 9, 10, 11, 12, 13, 14, 15, 16, 17, 18, 19, 20, 21, 22] (by decide +kernel) (by decide +kernel)
set_option maxRecDepth 20000 in
theorem gX6_areas_X6_ofFlat : GoodIn wsX6_areas (wsV RX6 87 RX6 yX6_ofFlat wsX6_ofFlat) := goodIn_app (goodIn_of _ (by decide +kernel)) ggX6_areas_X6_ofFlat
theorem dX6_areas_0 : decode cX6_areas 0 = .ok (.iconst 0, 1) := by decide +kernel
theorem dX6_areas_1 : decode cX6_areas 1 = .ok (.istore_n 1, 1) := by decide +kernel
theorem dX6_areas_2 : decode cX6_areas 2 = .ok (.iconst 0, 1) := by decide +kernel
theorem dX6_areas_3 : decode cX6_areas 3 = .ok (.istore_n 2, 1) := by decide +kernel
theorem dX6_areas_4 : decode cX6_areas 4 = .ok (.iload_n 2, 1) := by decide +kernel
theorem dX6_areas_5 : decode cX6_areas 5 = .ok (.aload_n 0, 1) := by decide +kernel
theorem dX6_areas_6 : decode cX6_areas 6 = .ok (.getfield 7, 3) := by decide +kernel
theorem dX6_areas_9 : decode cX6_areas 9 = .ok (.iconst 0, 1) := by decide +kernel
theorem dX6_areas_10 : decode cX6_areas 10 = .ok (.iaload, 1) := by decide +kernel
theorem dX6_areas_11 : decode cX6_areas 11 = .ok (.if_icmp .ge 18, 3) := by decide +kernel
theorem dX6_areas_14 : decode cX6_areas 14 = .ok (.iload_n 1, 1) := by decide +kernel
theorem dX6_areas_15 : decode cX6_areas 15 = .ok (.aload_n 0, 1) := by decide +kernel
theorem dX6_areas_16 : decode cX6_areas 16 = .ok (.iload_n 2, 1) := by decide +kernel
theorem dX6_areas_17 : decode cX6_areas 17 = .ok (.iconst 0, 1) := by decide +kernel
theorem dX6_areas_18 : decode cX6_areas 18 = .ok (.invokevirtual 87, 3) := by decide +kernel
theorem dX6_areas_21 : decode cX6_areas 21 = .ok (.iadd, 1) := by decide +kernel
theorem dX6_areas_22 : decode cX6_areas 22 = .ok (.istore_n 1, 1) := by decide +kernel
theorem dX6_areas_23 : decode cX6_areas 23 = .ok (.iinc 2 1, 3) := by decide +kernel
theorem dX6_areas_26 : decode cX6_areas 26 = .ok (.goto (-22), 3) := by decide +kernel
theorem dX6_areas_29 : decode cX6_areas 29 = .ok (.iload_n 1, 1) := by decide +kernel
theorem dX6_areas_30 : decode cX6_areas 30 = .ok (.ireturn, 1) := by decide +kernel
set_option maxRecDepth 20000 in
theorem ggX6_allUnits_X6_unitsNow : GoodIn wsX6_allUnits wsX6_unitsNow := goodIn_r _ [6, 1, 7, 8, 9, 5, 10, 11, 12, 13, 14, 15, 16, 17, 18, 19, 20, 21, 22, 23, 24, 25, 26, 27, 28, 29, 30, 31, 32, 33, 34, 35, 36, 37] (by decide +kernel) (by decide +kernel)
set_option maxRecDepth 20000 in
theorem gX6_allUnits_X6_unitsNow : GoodIn wsX6_allUnits (wsV RX6 97 RX6 yX6_unitsNow wsX6_unitsNow) := goodIn_app (goodIn_of _ (by decide +kernel)) ggX6_allUnits_X6_unitsNow
theorem dX6_allUnits_0 : decode cX6_allUnits 0 = .ok (.iconst 0, 1) := by decide +kernel
theorem dX6_allUnits_1 : decode cX6_allUnits 1 = .ok (.istore_n 1, 1) := by decide +kernel
theorem dX6_allUnits_2 : decode cX6_allUnits 2 = .ok (.iconst 0, 1) := by decide +kernel
theorem dX6_allUnits_3 : decode cX6_allUnits 3 = .ok (.istore_n 2, 1) := by decide +kernel
theorem dX6_allUnits_4 : decode cX6_allUnits 4 = .ok (.iload_n 2, 1) := by decide +kernel
theorem dX6_allUnits_5 : decode cX6_allUnits 5 = .ok (.aload_n 0, 1) := by decide +kernel
theorem dX6_allUnits_6 : decode cX6_allUnits 6 = .ok (.getfield 7, 3) := by decide +kernel
theorem dX6_allUnits_9 : decode cX6_allUnits 9 = .ok (.iconst 1, 1) := by decide +kernel
theorem dX6_allUnits_10 : decode cX6_allUnits 10 = .ok (.iaload, 1) := by decide +kernel
theorem dX6_allUnits_11 : decode cX6_allUnits 11 = .ok (.if_icmp .ge 17, 3) := by decide +kernel
theorem dX6_allUnits_14 : decode cX6_allUnits 14 = .ok (.iload_n 1, 1) := by decide +kernel
theorem dX6_allUnits_15 : decode cX6_allUnits 15 = .ok (.aload_n 0, 1) := by decide +kernel
theorem dX6_allUnits_16 : decode cX6_allUnits 16 = .ok (.iload_n 2, 1) := by decide +kernel
theorem dX6_allUnits_17 : decode cX6_allUnits 17 = .ok (.invokevirtual 97, 3) := by decide +kernel
theorem dX6_allUnits_20 : decode cX6_allUnits 20 = .ok (.iadd, 1) := by decide +kernel
theorem dX6_allUnits_21 : decode cX6_allUnits 21 = .ok (.istore_n 1, 1) := by decide +kernel
theorem dX6_allUnits_22 : decode cX6_allUnits 22 = .ok (.iinc 2 1, 3) := by decide +kernel
theorem dX6_allUnits_25 : decode cX6_allUnits 25 = .ok (.goto (-21), 3) := by decide +kernel
theorem dX6_allUnits_28 : decode cX6_allUnits 28 = .ok (.iload_n 1, 1) := by decide +kernel
theorem dX6_allUnits_29 : decode cX6_allUnits 29 = .ok (.ireturn, 1) := by decide +kernel
set_option maxRecDepth 20000 in
theorem ggX6_openBills_X6_laysOpen : GoodIn wsX6_openBills wsX6_laysOpen := goodIn_r _ [8, 1, 9, 10, 11, 7, 12, 13, 14, 15, 16, 17, 18, 19, 20, 21, 22, 23, 24, 25, 26, 27, 28, 29, 30, 31, 32, 33, 34, 35, 36, 2, 37, 38, 3, 39, 40, 41, 42, 43, 44, 45, 46, 47, 48, 49, 50, 51, 52, 53, 54, 55, 56, 57, 58, 59, 60, 61, 62, 63, 64, 65, 66, 67, 68, 69, 70, 71, 72] (by decide +kernel) (by decide +kernel)
set_option maxRecDepth 20000 in
theorem gX6_openBills_X6_laysOpen : GoodIn wsX6_openBills (wsV RX6 129 RX6 yX6_laysOpen wsX6_laysOpen) := goodIn_app (goodIn_of _ (by decide +kernel)) ggX6_openBills_X6_laysOpen
theorem dX6_openBills_0 : decode cX6_openBills 0 = .ok (.aload_n 0, 1) := by decide +kernel
theorem dX6_openBills_1 : decode cX6_openBills 1 = .ok (.aload_n 0, 1) := by decide +kernel
theorem dX6_openBills_2 : decode cX6_openBills 2 = .ok (.getfield 7, 3) := by decide +kernel
theorem dX6_openBills_5 : decode cX6_openBills 5 = .ok (.iconst 4, 1) := by decide +kernel
theorem dX6_openBills_6 : decode cX6_openBills 6 = .ok (.iaload, 1) := by decide +kernel
theorem dX6_openBills_7 : decode cX6_openBills 7 = .ok (.invokevirtual 129, 3) := by decide +kernel
theorem dX6_openBills_10 : decode cX6_openBills 10 = .ok (.iconst 0, 1) := by decide +kernel
theorem dX6_openBills_11 : decode cX6_openBills 11 = .ok (.istore_n 1, 1) := by decide +kernel
theorem dX6_openBills_12 : decode cX6_openBills 12 = .ok (.iconst 0, 1) := by decide +kernel
theorem dX6_openBills_13 : decode cX6_openBills 13 = .ok (.istore_n 2, 1) := by decide +kernel
theorem dX6_openBills_14 : decode cX6_openBills 14 = .ok (.iload_n 2, 1) := by decide +kernel
theorem dX6_openBills_15 : decode cX6_openBills 15 = .ok (.aload_n 0, 1) := by decide +kernel
theorem dX6_openBills_16 : decode cX6_openBills 16 = .ok (.getfield 7, 3) := by decide +kernel
theorem dX6_openBills_19 : decode cX6_openBills 19 = .ok (.iconst 0, 1) := by decide +kernel
theorem dX6_openBills_20 : decode cX6_openBills 20 = .ok (.iaload, 1) := by decide +kernel
theorem dX6_openBills_21 : decode cX6_openBills 21 = .ok (.if_icmp .ge 25, 3) := by decide +kernel
theorem dX6_openBills_24 : decode cX6_openBills 24 = .ok (.iload_n 1, 1) := by decide +kernel
theorem dX6_openBills_25 : decode cX6_openBills 25 = .ok (.aload_n 0, 1) := by decide +kernel
theorem dX6_openBills_26 : decode cX6_openBills 26 = .ok (.getfield 36, 3) := by decide +kernel
theorem dX6_openBills_29 : decode cX6_openBills 29 = .ok (.iload_n 2, 1) := by decide +kernel
theorem dX6_openBills_30 : decode cX6_openBills 30 = .ok (.iaload, 1) := by decide +kernel
theorem dX6_openBills_31 : decode cX6_openBills 31 = .ok (.aload_n 0, 1) := by decide +kernel
theorem dX6_openBills_32 : decode cX6_openBills 32 = .ok (.getfield 39, 3) := by decide +kernel
theorem dX6_openBills_35 : decode cX6_openBills 35 = .ok (.iload_n 2, 1) := by decide +kernel
theorem dX6_openBills_36 : decode cX6_openBills 36 = .ok (.iaload, 1) := by decide +kernel
theorem dX6_openBills_37 : decode cX6_openBills 37 = .ok (.iadd, 1) := by decide +kernel
theorem dX6_openBills_38 : decode cX6_openBills 38 = .ok (.iadd, 1) := by decide +kernel
theorem dX6_openBills_39 : decode cX6_openBills 39 = .ok (.istore_n 1, 1) := by decide +kernel
theorem dX6_openBills_40 : decode cX6_openBills 40 = .ok (.iinc 2 1, 3) := by decide +kernel
theorem dX6_openBills_43 : decode cX6_openBills 43 = .ok (.goto (-29), 3) := by decide +kernel
theorem dX6_openBills_46 : decode cX6_openBills 46 = .ok (.iload_n 1, 1) := by decide +kernel
theorem dX6_openBills_47 : decode cX6_openBills 47 = .ok (.ireturn, 1) := by decide +kernel
set_option maxRecDepth 20000 in
theorem ggX6_oldBills_X6_old : GoodIn wsX6_oldBills wsX6_old := goodIn_r _ [5] (by decide +kernel) (by decide +kernel)
set_option maxRecDepth 20000 in
theorem gX6_oldBills_X6_old : GoodIn wsX6_oldBills (va_wsS RX6 75 yX6_old wsX6_old) := goodIn_app (goodIn_of _ (by decide +kernel)) ggX6_oldBills_X6_old
theorem dX6_oldBills_0 : decode cX6_oldBills 0 = .ok (.iconst 0, 1) := by decide +kernel
theorem dX6_oldBills_1 : decode cX6_oldBills 1 = .ok (.istore_n 1, 1) := by decide +kernel
theorem dX6_oldBills_2 : decode cX6_oldBills 2 = .ok (.iconst 0, 1) := by decide +kernel
theorem dX6_oldBills_3 : decode cX6_oldBills 3 = .ok (.istore_n 2, 1) := by decide +kernel
theorem dX6_oldBills_4 : decode cX6_oldBills 4 = .ok (.iload_n 2, 1) := by decide +kernel
theorem dX6_oldBills_5 : decode cX6_oldBills 5 = .ok (.aload_n 0, 1) := by decide +kernel
theorem dX6_oldBills_6 : decode cX6_oldBills 6 = .ok (.getfield 7, 3) := by decide +kernel
theorem dX6_oldBills_9 : decode cX6_oldBills 9 = .ok (.iconst 2, 1) := by decide +kernel
theorem dX6_oldBills_10 : decode cX6_oldBills 10 = .ok (.iaload, 1) := by decide +kernel
theorem dX6_oldBills_11 : decode cX6_oldBills 11 = .ok (.iconst 2, 1) := by decide +kernel
theorem dX6_oldBills_12 : decode cX6_oldBills 12 = .ok (.imul, 1) := by decide +kernel
theorem dX6_oldBills_13 : decode cX6_oldBills 13 = .ok (.aload_n 0, 1) := by decide +kernel
theorem dX6_oldBills_14 : decode cX6_oldBills 14 = .ok (.getfield 7, 3) := by decide +kernel
theorem dX6_oldBills_17 : decode cX6_oldBills 17 = .ok (.iconst 0, 1) := by decide +kernel
theorem dX6_oldBills_18 : decode cX6_oldBills 18 = .ok (.iaload, 1) := by decide +kernel
theorem dX6_oldBills_19 : decode cX6_oldBills 19 = .ok (.imul, 1) := by decide +kernel
theorem dX6_oldBills_20 : decode cX6_oldBills 20 = .ok (.if_icmp .ge 43, 3) := by decide +kernel
theorem dX6_oldBills_23 : decode cX6_oldBills 23 = .ok (.iload_n 1, 1) := by decide +kernel
theorem dX6_oldBills_24 : decode cX6_oldBills 24 = .ok (.aload_n 0, 1) := by decide +kernel
theorem dX6_oldBills_25 : decode cX6_oldBills 25 = .ok (.getfield 7, 3) := by decide +kernel
theorem dX6_oldBills_28 : decode cX6_oldBills 28 = .ok (.iload_n 2, 1) := by decide +kernel
theorem dX6_oldBills_29 : decode cX6_oldBills 29 = .ok (.iconst 2, 1) := by decide +kernel
theorem dX6_oldBills_30 : decode cX6_oldBills 30 = .ok (.aload_n 0, 1) := by decide +kernel
theorem dX6_oldBills_31 : decode cX6_oldBills 31 = .ok (.getfield 7, 3) := by decide +kernel
theorem dX6_oldBills_34 : decode cX6_oldBills 34 = .ok (.iconst 0, 1) := by decide +kernel
theorem dX6_oldBills_35 : decode cX6_oldBills 35 = .ok (.iaload, 1) := by decide +kernel
theorem dX6_oldBills_36 : decode cX6_oldBills 36 = .ok (.imul, 1) := by decide +kernel
theorem dX6_oldBills_37 : decode cX6_oldBills 37 = .ok (.idiv, 1) := by decide +kernel
theorem dX6_oldBills_38 : decode cX6_oldBills 38 = .ok (.bipush 39, 2) := by decide +kernel
theorem dX6_oldBills_40 : decode cX6_oldBills 40 = .ok (.iload_n 2, 1) := by decide +kernel
theorem dX6_oldBills_41 : decode cX6_oldBills 41 = .ok (.iconst 2, 1) := by decide +kernel
theorem dX6_oldBills_42 : decode cX6_oldBills 42 = .ok (.aload_n 0, 1) := by decide +kernel
theorem dX6_oldBills_43 : decode cX6_oldBills 43 = .ok (.getfield 7, 3) := by decide +kernel
theorem dX6_oldBills_46 : decode cX6_oldBills 46 = .ok (.iconst 0, 1) := by decide +kernel
theorem dX6_oldBills_47 : decode cX6_oldBills 47 = .ok (.iaload, 1) := by decide +kernel
theorem dX6_oldBills_48 : decode cX6_oldBills 48 = .ok (.imul, 1) := by decide +kernel
theorem dX6_oldBills_49 : decode cX6_oldBills 49 = .ok (.irem, 1) := by decide +kernel
theorem dX6_oldBills_50 : decode cX6_oldBills 50 = .ok (.iadd, 1) := by decide +kernel
theorem dX6_oldBills_51 : decode cX6_oldBills 51 = .ok (.invokestatic 75, 3) := by decide +kernel
theorem dX6_oldBills_54 : decode cX6_oldBills 54 = .ok (.iaload, 1) := by decide +kernel
theorem dX6_oldBills_55 : decode cX6_oldBills 55 = .ok (.iadd, 1) := by decide +kernel
theorem dX6_oldBills_56 : decode cX6_oldBills 56 = .ok (.istore_n 1, 1) := by decide +kernel
theorem dX6_oldBills_57 : decode cX6_oldBills 57 = .ok (.iinc 2 1, 3) := by decide +kernel
theorem dX6_oldBills_60 : decode cX6_oldBills 60 = .ok (.goto (-56), 3) := by decide +kernel
theorem dX6_oldBills_63 : decode cX6_oldBills 63 = .ok (.iload_n 1, 1) := by decide +kernel
theorem dX6_oldBills_64 : decode cX6_oldBills 64 = .ok (.ireturn, 1) := by decide +kernel
set_option maxRecDepth 20000 in
theorem ggX6_moves_X6_ofFlat : GoodIn wsX6_moves wsX6_ofFlat := goodIn_r _ [6, 1, 7, 8, 9, 10, 11, 12, 13, 14, 15, 16, 17, 18, 19, 20, 21, 22] (by decide +kernel) (by decide +kernel)
set_option maxRecDepth 20000 in
theorem gX6_moves_X6_ofFlat : GoodIn wsX6_moves (wsV RX6 87 RX6 yX6_ofFlat wsX6_ofFlat) := goodIn_app (goodIn_of _ (by decide +kernel)) ggX6_moves_X6_ofFlat
theorem dX6_moves_0 : decode cX6_moves 0 = .ok (.iconst 0, 1) := by decide +kernel
theorem dX6_moves_1 : decode cX6_moves 1 = .ok (.istore_n 1, 1) := by decide +kernel
theorem dX6_moves_2 : decode cX6_moves 2 = .ok (.iconst 0, 1) := by decide +kernel
theorem dX6_moves_3 : decode cX6_moves 3 = .ok (.istore_n 2, 1) := by decide +kernel
theorem dX6_moves_4 : decode cX6_moves 4 = .ok (.iload_n 2, 1) := by decide +kernel
theorem dX6_moves_5 : decode cX6_moves 5 = .ok (.aload_n 0, 1) := by decide +kernel
theorem dX6_moves_6 : decode cX6_moves 6 = .ok (.getfield 7, 3) := by decide +kernel
theorem dX6_moves_9 : decode cX6_moves 9 = .ok (.iconst 0, 1) := by decide +kernel
theorem dX6_moves_10 : decode cX6_moves 10 = .ok (.iaload, 1) := by decide +kernel
theorem dX6_moves_11 : decode cX6_moves 11 = .ok (.if_icmp .ge 26, 3) := by decide +kernel
theorem dX6_moves_14 : decode cX6_moves 14 = .ok (.iload_n 1, 1) := by decide +kernel
theorem dX6_moves_15 : decode cX6_moves 15 = .ok (.aload_n 0, 1) := by decide +kernel
theorem dX6_moves_16 : decode cX6_moves 16 = .ok (.iload_n 2, 1) := by decide +kernel
theorem dX6_moves_17 : decode cX6_moves 17 = .ok (.iconst 1, 1) := by decide +kernel
theorem dX6_moves_18 : decode cX6_moves 18 = .ok (.invokevirtual 87, 3) := by decide +kernel
theorem dX6_moves_21 : decode cX6_moves 21 = .ok (.ifCond .le 7, 3) := by decide +kernel
theorem dX6_moves_24 : decode cX6_moves 24 = .ok (.iconst 1, 1) := by decide +kernel
theorem dX6_moves_25 : decode cX6_moves 25 = .ok (.goto 4, 3) := by decide +kernel
theorem dX6_moves_28 : decode cX6_moves 28 = .ok (.iconst 0, 1) := by decide +kernel
theorem dX6_moves_29 : decode cX6_moves 29 = .ok (.iadd, 1) := by decide +kernel
theorem dX6_moves_30 : decode cX6_moves 30 = .ok (.istore_n 1, 1) := by decide +kernel
theorem dX6_moves_31 : decode cX6_moves 31 = .ok (.iinc 2 1, 3) := by decide +kernel
theorem dX6_moves_34 : decode cX6_moves 34 = .ok (.goto (-30), 3) := by decide +kernel
theorem dX6_moves_37 : decode cX6_moves 37 = .ok (.iload_n 1, 1) := by decide +kernel
theorem dX6_moves_38 : decode cX6_moves 38 = .ok (.ireturn, 1) := by decide +kernel
set_option maxRecDepth 20000 in
theorem ggX6_count_X6_faulty : GoodIn wsX6_count wsX6_faulty := goodIn_r _ [8, 1, 9, 10, 11, 7, 12, 83, 84, 85, 86, 87, 88, 89, 90, 91, 92, 93, 94, 95, 96, 97, 98] (by decide +kernel) (by decide +kernel)
set_option maxRecDepth 20000 in
theorem gX6_count_X6_faulty : GoodIn wsX6_count (wsV RX6 126 RX6 yX6_faulty wsX6_faulty) := goodIn_app (goodIn_of _ (by decide +kernel)) ggX6_count_X6_faulty
set_option maxRecDepth 20000 in
theorem ggX6_count_X6_areas : GoodIn wsX6_count wsX6_areas := goodIn_r _ [16, 1, 17, 18, 19, 7, 20, 83, 84, 85, 86, 87, 88, 89, 90, 91, 92, 93, 94, 95, 96, 97, 98] (by decide +kernel) (by decide +kernel)
set_option maxRecDepth 20000 in
theorem gX6_count_X6_areas : GoodIn wsX6_count (wsV RX6 180 RX6 yX6_areas wsX6_areas) := goodIn_app (goodIn_of _ (by decide +kernel)) ggX6_count_X6_areas
set_option maxRecDepth 20000 in
theorem ggX6_count_X6_allUnits : GoodIn wsX6_count wsX6_allUnits := goodIn_r _ [24, 1, 25, 26, 27, 7, 28, 9, 10, 11, 12, 29, 30, 31, 32, 33, 34, 35, 36, 37, 38, 39, 83, 84, 85, 86, 87, 88, 89, 90, 91, 92, 93, 94, 95, 96, 97, 98] (by decide +kernel) (by decide +kernel)
set_option maxRecDepth 20000 in
theorem gX6_count_X6_allUnits : GoodIn wsX6_count (wsV RX6 183 RX6 yX6_allUnits wsX6_allUnits) := goodIn_app (goodIn_of _ (by decide +kernel)) ggX6_count_X6_allUnits
set_option maxRecDepth 20000 in
theorem ggX6_count_X6_openBills : GoodIn wsX6_count wsX6_openBills := goodIn_r _ [43, 1, 44, 45, 46, 47, 48, 7, 49, 50, 51, 52, 53, 54, 9, 10, 11, 12, 25, 26, 27, 28, 29, 30, 31, 32, 33, 34, 35, 36, 37, 38, 39, 55, 56, 57, 58, 59, 60, 61, 62, 63, 64, 17, 18, 19, 20, 65, 66, 67, 68, 69, 70, 71, 72, 73, 74, 83, 84, 85, 86, 87, 88, 89, 90, 91, 92, 93, 94, 95, 96, 97, 98] (by decide +kernel) (by decide +kernel)
set_option maxRecDepth 20000 in
theorem gX6_count_X6_openBills : GoodIn wsX6_count (wsV RX6 186 RX6 yX6_openBills wsX6_openBills) := goodIn_app (goodIn_of _ (by decide +kernel)) ggX6_count_X6_openBills
set_option maxRecDepth 20000 in
theorem ggX6_count_X6_oldBills : GoodIn wsX6_count wsX6_oldBills := goodIn_r _ [78, 1, 33, 34, 7, 35, 83, 84, 85, 86, 87, 88, 89, 90, 91, 92, 93, 94, 95, 96, 97, 98] (by decide +kernel) (by decide +kernel)
set_option maxRecDepth 20000 in
theorem gX6_count_X6_oldBills : GoodIn wsX6_count (wsV RX6 189 RX6 yX6_oldBills wsX6_oldBills) := goodIn_app (goodIn_of _ (by decide +kernel)) ggX6_count_X6_oldBills
set_option maxRecDepth 20000 in
theorem ggX6_count_X6_moves : GoodIn wsX6_count wsX6_moves := goodIn_r _ [82, 1, 17, 18, 19, 7, 20, 83, 84, 85, 86, 87, 88, 89, 90, 91, 92, 93, 94, 95, 96, 97, 98] (by decide +kernel) (by decide +kernel)
set_option maxRecDepth 20000 in
theorem gX6_count_X6_moves : GoodIn wsX6_count (wsV RX6 192 RX6 yX6_moves wsX6_moves) := goodIn_app (goodIn_of _ (by decide +kernel)) ggX6_count_X6_moves
theorem dX6_count_0 : decode cX6_count 0 = .ok (.iload_n 1, 1) := by decide +kernel
theorem dX6_count_1 : decode cX6_count 1 = .ok (.tableswitch 155 0 14 #[75, 82, 89, 96, 101, 101, 101, 112, 117, 122, 127, 132, 140, 145, 150], 75) := by decide +kernel
theorem dX6_count_76 : decode cX6_count 76 = .ok (.aload_n 0, 1) := by decide +kernel
theorem dX6_count_77 : decode cX6_count 77 = .ok (.getfield 7, 3) := by decide +kernel
theorem dX6_count_80 : decode cX6_count 80 = .ok (.iconst 2, 1) := by decide +kernel
theorem dX6_count_81 : decode cX6_count 81 = .ok (.iaload, 1) := by decide +kernel
theorem dX6_count_82 : decode cX6_count 82 = .ok (.ireturn, 1) := by decide +kernel
theorem dX6_count_83 : decode cX6_count 83 = .ok (.aload_n 0, 1) := by decide +kernel
theorem dX6_count_84 : decode cX6_count 84 = .ok (.getfield 7, 3) := by decide +kernel
theorem dX6_count_87 : decode cX6_count 87 = .ok (.iconst 0, 1) := by decide +kernel
theorem dX6_count_88 : decode cX6_count 88 = .ok (.iaload, 1) := by decide +kernel
theorem dX6_count_89 : decode cX6_count 89 = .ok (.ireturn, 1) := by decide +kernel
theorem dX6_count_90 : decode cX6_count 90 = .ok (.aload_n 0, 1) := by decide +kernel
theorem dX6_count_91 : decode cX6_count 91 = .ok (.getfield 7, 3) := by decide +kernel
theorem dX6_count_94 : decode cX6_count 94 = .ok (.iconst 1, 1) := by decide +kernel
theorem dX6_count_95 : decode cX6_count 95 = .ok (.iaload, 1) := by decide +kernel
theorem dX6_count_96 : decode cX6_count 96 = .ok (.ireturn, 1) := by decide +kernel
theorem dX6_count_97 : decode cX6_count 97 = .ok (.aload_n 0, 1) := by decide +kernel
theorem dX6_count_98 : decode cX6_count 98 = .ok (.invokevirtual 126, 3) := by decide +kernel
theorem dX6_count_101 : decode cX6_count 101 = .ok (.ireturn, 1) := by decide +kernel
theorem dX6_count_102 : decode cX6_count 102 = .ok (.aload_n 0, 1) := by decide +kernel
theorem dX6_count_103 : decode cX6_count 103 = .ok (.getfield 7, 3) := by decide +kernel
theorem dX6_count_106 : decode cX6_count 106 = .ok (.iconst 3, 1) := by decide +kernel
theorem dX6_count_107 : decode cX6_count 107 = .ok (.iload_n 1, 1) := by decide +kernel
theorem dX6_count_108 : decode cX6_count 108 = .ok (.iadd, 1) := by decide +kernel
theorem dX6_count_109 : decode cX6_count 109 = .ok (.iconst 4, 1) := by decide +kernel
theorem dX6_count_110 : decode cX6_count 110 = .ok (.isub, 1) := by decide +kernel
theorem dX6_count_111 : decode cX6_count 111 = .ok (.iaload, 1) := by decide +kernel
theorem dX6_count_112 : decode cX6_count 112 = .ok (.ireturn, 1) := by decide +kernel
theorem dX6_count_113 : decode cX6_count 113 = .ok (.aload_n 0, 1) := by decide +kernel
theorem dX6_count_114 : decode cX6_count 114 = .ok (.invokevirtual 180, 3) := by decide +kernel
theorem dX6_count_117 : decode cX6_count 117 = .ok (.ireturn, 1) := by decide +kernel
theorem dX6_count_118 : decode cX6_count 118 = .ok (.aload_n 0, 1) := by decide +kernel
theorem dX6_count_119 : decode cX6_count 119 = .ok (.invokevirtual 183, 3) := by decide +kernel
theorem dX6_count_122 : decode cX6_count 122 = .ok (.ireturn, 1) := by decide +kernel
theorem dX6_count_123 : decode cX6_count 123 = .ok (.aload_n 0, 1) := by decide +kernel
theorem dX6_count_124 : decode cX6_count 124 = .ok (.invokevirtual 186, 3) := by decide +kernel
theorem dX6_count_127 : decode cX6_count 127 = .ok (.ireturn, 1) := by decide +kernel
theorem dX6_count_128 : decode cX6_count 128 = .ok (.aload_n 0, 1) := by decide +kernel
theorem dX6_count_129 : decode cX6_count 129 = .ok (.invokevirtual 189, 3) := by decide +kernel
theorem dX6_count_132 : decode cX6_count 132 = .ok (.ireturn, 1) := by decide +kernel
theorem dX6_count_133 : decode cX6_count 133 = .ok (.aload_n 0, 1) := by decide +kernel
theorem dX6_count_134 : decode cX6_count 134 = .ok (.getfield 7, 3) := by decide +kernel
theorem dX6_count_137 : decode cX6_count 137 = .ok (.bipush 6, 2) := by decide +kernel
theorem dX6_count_139 : decode cX6_count 139 = .ok (.iaload, 1) := by decide +kernel
theorem dX6_count_140 : decode cX6_count 140 = .ok (.ireturn, 1) := by decide +kernel
theorem dX6_count_141 : decode cX6_count 141 = .ok (.aload_n 0, 1) := by decide +kernel
theorem dX6_count_142 : decode cX6_count 142 = .ok (.invokevirtual 192, 3) := by decide +kernel
theorem dX6_count_145 : decode cX6_count 145 = .ok (.ireturn, 1) := by decide +kernel
theorem dX6_count_146 : decode cX6_count 146 = .ok (.aload_n 0, 1) := by decide +kernel
theorem dX6_count_147 : decode cX6_count 147 = .ok (.getfield 45, 3) := by decide +kernel
theorem dX6_count_150 : decode cX6_count 150 = .ok (.ireturn, 1) := by decide +kernel
theorem dX6_count_151 : decode cX6_count 151 = .ok (.aload_n 0, 1) := by decide +kernel
theorem dX6_count_152 : decode cX6_count 152 = .ok (.getfield 143, 3) := by decide +kernel
theorem dX6_count_155 : decode cX6_count 155 = .ok (.ireturn, 1) := by decide +kernel
theorem dX6_count_156 : decode cX6_count 156 = .ok (.bipush (-2), 2) := by decide +kernel
theorem dX6_count_158 : decode cX6_count 158 = .ok (.ireturn, 1) := by decide +kernel
theorem dJ7_fill_53178_0 : decode cJ7_fill_53178 0 = .ok (.iconst 0, 1) := by decide +kernel
theorem dJ7_fill_53178_1 : decode cJ7_fill_53178 1 = .ok (.istore_n 2, 1) := by decide +kernel
theorem dJ7_fill_53178_2 : decode cJ7_fill_53178 2 = .ok (.aload_n 0, 1) := by decide +kernel
theorem dJ7_fill_53178_3 : decode cJ7_fill_53178 3 = .ok (.arraylength, 1) := by decide +kernel
theorem dJ7_fill_53178_4 : decode cJ7_fill_53178 4 = .ok (.istore_n 3, 1) := by decide +kernel
theorem dJ7_fill_53178_5 : decode cJ7_fill_53178 5 = .ok (.iload_n 2, 1) := by decide +kernel
theorem dJ7_fill_53178_6 : decode cJ7_fill_53178 6 = .ok (.iload_n 3, 1) := by decide +kernel
theorem dJ7_fill_53178_7 : decode cJ7_fill_53178 7 = .ok (.if_icmp .ge 13, 3) := by decide +kernel
theorem dJ7_fill_53178_10 : decode cJ7_fill_53178 10 = .ok (.aload_n 0, 1) := by decide +kernel
theorem dJ7_fill_53178_11 : decode cJ7_fill_53178 11 = .ok (.iload_n 2, 1) := by decide +kernel
theorem dJ7_fill_53178_12 : decode cJ7_fill_53178 12 = .ok (.iload_n 1, 1) := by decide +kernel
theorem dJ7_fill_53178_13 : decode cJ7_fill_53178 13 = .ok (.iastore, 1) := by decide +kernel
theorem dJ7_fill_53178_14 : decode cJ7_fill_53178 14 = .ok (.iinc 2 1, 3) := by decide +kernel
theorem dJ7_fill_53178_17 : decode cJ7_fill_53178 17 = .ok (.goto (-12), 3) := by decide +kernel
theorem dJ7_fill_53178_20 : decode cJ7_fill_53178 20 = .ok (.return_, 1) := by decide +kernel
set_option maxRecDepth 20000 in
theorem ggL_law_X5_init : GoodIn wsL_law wsX5_init := goodIn_r _ [8, 9, 10, 11, 12, 13, 14, 15, 16, 17, 18, 19, 20, 21, 22, 23, 24, 25, 26, 27, 28, 29, 30, 31, 32, 33, 34, 35, 36, 37, 38, 39, 40, 41, 42, 43, 44, 45, 46, 47, 48, 49, 50, 51, 52, 53, 54, 55, 56, 57, 58, 59, 60, 61, 62, 63, 64, 65, 66, 67, 68, 69, 70, 71, 72, 73, 74, 75, 76, 77, 78, 79, 80, 81, 82, 83, 84, 85, 86, 87, 88, 89, 90, 91, 92, 93, 94, 95, 96, 97, 717, 718, 719, 720, 721, 722, 723, 724, 725, 726, 727, 728, 695, 696, 697, 698, 699, 700, 729, 730, 731, 732, 733, 734, 735, 736, 737, 738, 739, 740, 741, 742, 743, 744, 745, 746, 747, 748, 749, 750, 751] (by decide +kernel) (by decide +kernel)
set_option maxRecDepth 20000 in
theorem gL_law_X5_init : GoodIn wsL_law (wsX5_init) := ggL_law_X5_init
set_option maxRecDepth 20000 in
theorem ggL_law_X6_init : GoodIn wsL_law wsX6_init := goodIn_r _ [100, 101, 10, 11, 35, 102, 103, 104, 80, 105, 106, 107, 96, 108, 109, 110, 111, 112, 701, 702, 703, 704, 705, 706, 707, 708, 709, 710, 711, 712, 713, 714, 715, 716] (by decide +kernel) (by decide +kernel)
set_option maxRecDepth 20000 in
theorem gL_law_X6_init : GoodIn wsL_law (wsX6_init) := ggL_law_X6_init
set_option maxRecDepth 20000 in
theorem ggL_law_X5_addFlat : GoodIn wsL_law wsX5_addFlat := goodIn_r _ [116, 15, 117, 118, 21, 119, 120, 121, 122, 20, 123, 72, 73, 74, 124, 125, 126, 14, 127, 34, 36, 128, 129, 130, 131, 37, 38, 39, 40, 42, 43, 44, 48, 49, 50, 132, 133, 134, 47, 135, 55, 56, 57, 58, 136, 59, 60, 61, 62, 695, 696, 697, 698, 699, 700, 717, 718, 719, 720, 721, 722, 723, 724, 725, 726, 727, 728, 729, 730, 731, 744, 745, 746, 747, 748, 749, 750, 751] (by decide +kernel) (by decide +kernel)
set_option maxRecDepth 20000 in
theorem gL_law_X5_addFlat : GoodIn wsL_law (wsV RL 13 RX5 yX5_addFlat wsX5_addFlat) := goodIn_app (goodIn_of _ (by decide +kernel)) ggL_law_X5_addFlat
set_option maxRecDepth 20000 in
theorem ggL_law_X6_addFlat : GoodIn wsL_law wsX6_addFlat := goodIn_r _ [140, 102, 141, 142, 5, 143, 144, 145, 146, 147, 148, 103, 149, 150, 151, 701, 702, 703, 704, 705, 706, 707, 708, 709, 710, 711, 712, 713, 714, 715, 716] (by decide +kernel) (by decide +kernel)
set_option maxRecDepth 20000 in
theorem gL_law_X6_addFlat : GoodIn wsL_law (wsV RL 17 RX6 yX6_addFlat wsX6_addFlat) := goodIn_app (goodIn_of _ (by decide +kernel)) ggL_law_X6_addFlat
set_option maxRecDepth 20000 in
theorem ggL_law_X5_addDevice : GoodIn wsL_law wsX5_addDevice := goodIn_r _ [155, 15, 156, 157, 21, 158, 159, 160, 161, 162, 14, 163, 34, 120, 121, 122, 20, 123, 72, 73, 74, 124, 125, 126, 127, 36, 128, 129, 130, 131, 37, 38, 39, 40, 42, 43, 44, 48, 49, 50, 132, 133, 134, 47, 135, 55, 56, 57, 58, 136, 59, 60, 61, 62, 695, 696, 697, 698, 699, 700, 717, 718, 719, 720, 721, 722, 723, 724, 725, 726, 727, 728, 744, 745, 746, 747, 748, 749, 750, 751, 729, 730, 731] (by decide +kernel) (by decide +kernel)
set_option maxRecDepth 20000 in
theorem gL_law_X5_addDevice : GoodIn wsL_law (wsV RL 18 RX5 yX5_addDevice wsX5_addDevice) := goodIn_app (goodIn_of _ (by decide +kernel)) ggL_law_X5_addDevice
set_option maxRecDepth 20000 in
theorem ggL_law_X6_addDevice : GoodIn wsL_law wsX6_addDevice := goodIn_r _ [167, 102, 168, 169, 170, 5, 171, 141, 142, 143, 144, 145, 146, 147, 148, 103, 149, 150, 151, 172, 173, 174, 175, 701, 702, 703, 704, 705, 706, 707, 708, 709, 710, 711, 712, 713, 714, 715, 716] (by decide +kernel) (by decide +kernel)
set_option maxRecDepth 20000 in
theorem gL_law_X6_addDevice : GoodIn wsL_law (wsV RL 22 RX6 yX6_addDevice wsX6_addDevice) := goodIn_app (goodIn_of _ (by decide +kernel)) ggL_law_X6_addDevice
set_option maxRecDepth 20000 in
theorem ggL_law_X5_set : GoodIn wsL_law wsX5_set := goodIn_r _ [179, 180, 15, 21, 181, 182, 183, 14, 184, 48, 185, 186, 43, 120, 121, 122, 20, 123, 72, 73, 74, 124, 125, 126, 127, 34, 36, 128, 129, 130, 131, 37, 38, 39, 40, 42, 44, 49, 50, 132, 133, 134, 47, 135, 55, 56, 57, 58, 136, 59, 60, 61, 62, 187, 188, 189, 190, 695, 696, 697, 698, 699, 700, 717, 718, 719, 720, 721, 722, 723, 724, 725, 726, 727, 728, 744, 745, 746, 747, 748, 749, 750, 751, 729, 730, 731] (by decide +kernel) (by decide +kernel)
set_option maxRecDepth 20000 in
theorem gL_law_X5_set : GoodIn wsL_law (wsV RL 23 RX5 yX5_set wsX5_set) := goodIn_app (goodIn_of _ (by decide +kernel)) ggL_law_X5_set
set_option maxRecDepth 20000 in
theorem ggL_law_X6_set : GoodIn wsL_law wsX6_set := goodIn_r _ [194, 195, 102, 141, 142, 5, 143, 144, 145, 146, 147, 148, 103, 149, 150, 151, 701, 702, 703, 704, 705, 706, 707, 708, 709, 710, 711, 712, 713, 714, 715, 716] (by decide +kernel) (by decide +kernel)
set_option maxRecDepth 20000 in
theorem gL_law_X6_set : GoodIn wsL_law (wsV RL 26 RX6 yX6_set wsX6_set) := goodIn_app (goodIn_of _ (by decide +kernel)) ggL_law_X6_set
set_option maxRecDepth 20000 in
theorem ggL_law_X5_read : GoodIn wsL_law wsX5_read := goodIn_r _ [199, 15, 156, 200, 201, 21, 202, 203, 204, 205, 47, 206, 57, 120, 121, 122, 20, 123, 72, 73, 74, 124, 125, 126, 14, 127, 34, 36, 128, 129, 130, 131, 37, 38, 39, 40, 42, 43, 44, 48, 49, 50, 132, 133, 134, 135, 55, 56, 58, 136, 59, 60, 61, 62, 207, 208, 209, 210, 211, 212, 213, 214, 215, 216, 217, 218, 219, 220, 221, 695, 696, 697, 698, 699, 700, 717, 718, 719, 720, 721, 722, 723, 724, 725, 726, 727, 728, 744, 745, 746, 747, 748, 749, 750, 751, 729, 730, 731] (by decide +kernel) (by decide +kernel)
set_option maxRecDepth 20000 in
theorem gL_law_X5_read : GoodIn wsL_law (wsV RL 27 RX5 yX5_read wsX5_read) := goodIn_app (goodIn_of _ (by decide +kernel)) ggL_law_X5_read
set_option maxRecDepth 20000 in
theorem ggL_law_X6_read : GoodIn wsL_law wsX6_read := goodIn_r _ [225, 226, 227, 228, 5, 229, 102, 141, 142, 143, 230, 231, 232, 233, 144, 145, 146, 147, 148, 103, 149, 150, 151, 172, 173, 174, 175, 234, 235, 236, 237, 238, 239, 240, 241, 242, 243, 244, 245, 246, 247, 248, 701, 702, 703, 704, 705, 706, 707, 708, 709, 710, 711, 712, 713, 714, 715, 716] (by decide +kernel) (by decide +kernel)
set_option maxRecDepth 20000 in
theorem gL_law_X6_read : GoodIn wsL_law (wsV RL 30 RX6 yX6_read wsX6_read) := goodIn_app (goodIn_of _ (by decide +kernel)) ggL_law_X6_read
set_option maxRecDepth 20000 in
theorem ggL_law_X5_mark : GoodIn wsL_law wsX5_mark := goodIn_r _ [252, 15, 156, 253, 21, 203, 204, 205, 47, 206, 57, 120, 121, 122, 20, 123, 72, 73, 74, 124, 125, 126, 14, 127, 34, 36, 128, 129, 130, 131, 37, 38, 39, 40, 42, 43, 44, 48, 49, 50, 132, 133, 134, 135, 55, 56, 58, 136, 59, 60, 61, 62, 254, 255, 256, 257, 211, 695, 696, 697, 698, 699, 700, 717, 718, 719, 720, 721, 722, 723, 724, 725, 726, 727, 728, 744, 745, 746, 747, 748, 749, 750, 751, 729, 730, 731] (by decide +kernel) (by decide +kernel)
set_option maxRecDepth 20000 in
theorem gL_law_X5_mark : GoodIn wsL_law (wsV RL 31 RX5 yX5_mark wsX5_mark) := goodIn_app (goodIn_of _ (by decide +kernel)) ggL_law_X5_mark
set_option maxRecDepth 20000 in
theorem ggL_law_X6_mark : GoodIn wsL_law wsX6_mark := goodIn_r _ [261, 226, 227, 228, 5, 229, 102, 141, 142, 143, 230, 231, 232, 233, 144, 145, 146, 147, 148, 103, 149, 150, 151, 172, 173, 174, 175, 262, 263, 264, 265, 701, 702, 703, 704, 705, 706, 707, 708, 709, 710, 711, 712, 713, 714, 715, 716] (by decide +kernel) (by decide +kernel)
set_option maxRecDepth 20000 in
theorem gL_law_X6_mark : GoodIn wsL_law (wsV RL 35 RX6 yX6_mark wsX6_mark) := goodIn_app (goodIn_of _ (by decide +kernel)) ggL_law_X6_mark
set_option maxRecDepth 20000 in
theorem ggL_law_X5_readAll : GoodIn wsL_law wsX5_readAll := goodIn_r _ [269, 25, 270, 15, 21, 271, 272, 273, 274, 24, 275, 83, 85, 82, 276, 277, 278, 279, 86, 84, 87, 280, 281, 282, 283, 284, 285, 286, 287, 81, 288, 289, 290, 291, 292, 293, 294, 295, 296, 297, 298, 299, 300, 301, 302, 303, 304, 305, 204, 205, 47, 206, 57, 306, 307, 308, 309, 310, 120, 121, 122, 20, 123, 72, 73, 74, 124, 125, 126, 14, 127, 34, 36, 128, 129, 130, 131, 37, 38, 39, 40, 42, 43, 44, 48, 49, 50, 132, 133, 134, 135, 55, 56, 58, 136, 59, 60, 61, 62, 311, 312, 313, 314, 315, 316, 695, 696, 697, 698, 699, 700, 732, 733, 734, 735, 736, 737, 738, 717, 718, 719, 720, 721, 722, 723, 724, 725, 726, 727, 728, 744, 745, 746, 747, 748, 749, 750, 751, 729, 730, 731] (by decide +kernel) (by decide +kernel)
set_option maxRecDepth 20000 in
theorem gL_law_X5_readAll : GoodIn wsL_law (wsV RL 36 RX5 yX5_readAll wsX5_readAll) := goodIn_app (goodIn_of _ (by decide +kernel)) ggL_law_X5_readAll
set_option maxRecDepth 20000 in
theorem ggL_law_X6_readAll : GoodIn wsL_law wsX6_readAll := goodIn_r _ [320, 321, 322, 112, 323, 324, 325, 5, 326, 327, 328, 329, 330, 331, 332, 333, 334, 335, 105, 336, 337, 338, 339, 141, 142, 143, 340, 341, 342, 343, 344, 345, 346, 347, 226, 227, 228, 229, 102, 230, 231, 232, 233, 144, 145, 146, 147, 148, 103, 149, 150, 151, 172, 173, 174, 175, 701, 702, 703, 704, 705, 706, 707, 708, 709, 710, 711, 712, 713, 714, 715, 716] (by decide +kernel) (by decide +kernel)
set_option maxRecDepth 20000 in
theorem gL_law_X6_readAll : GoodIn wsL_law (wsV RL 40 RX6 yX6_readAll wsX6_readAll) := goodIn_app (goodIn_of _ (by decide +kernel)) ggL_law_X6_readAll
set_option maxRecDepth 20000 in
theorem ggL_law_X5_move : GoodIn wsL_law wsX5_move := goodIn_r _ [351, 15, 156, 21, 352, 160, 161, 162, 14, 163, 34, 353, 354, 355, 47, 356, 58, 120, 121, 122, 20, 123, 72, 73, 74, 124, 125, 126, 127, 36, 128, 129, 130, 131, 37, 38, 39, 40, 42, 43, 44, 48, 49, 50, 132, 133, 134, 135, 55, 56, 57, 136, 59, 60, 61, 62, 357, 358, 2, 359, 360, 695, 696, 697, 698, 699, 700, 717, 718, 719, 720, 721, 722, 723, 724, 725, 726, 727, 728, 744, 745, 746, 747, 748, 749, 750, 751, 729, 730, 731] (by decide +kernel) (by decide +kernel)
set_option maxRecDepth 20000 in
theorem gL_law_X5_move : GoodIn wsL_law (wsV RL 41 RX5 yX5_move wsX5_move) := goodIn_app (goodIn_of _ (by decide +kernel)) ggL_law_X5_move
set_option maxRecDepth 20000 in
theorem ggL_law_X6_move : GoodIn wsL_law wsX6_move := goodIn_r _ [364, 102, 168, 169, 170, 5, 171, 141, 142, 143, 365, 366, 367, 368, 144, 145, 146, 147, 148, 103, 149, 150, 151, 369, 370, 371, 372, 373, 374, 701, 702, 703, 704, 705, 706, 707, 708, 709, 710, 711, 712, 713, 714, 715, 716] (by decide +kernel) (by decide +kernel)
set_option maxRecDepth 20000 in
theorem gL_law_X6_move : GoodIn wsL_law (wsV RL 44 RX6 yX6_move wsX6_move) := goodIn_app (goodIn_of _ (by decide +kernel)) ggL_law_X6_move
set_option maxRecDepth 20000 in
theorem ggL_law_X5_between : GoodIn wsL_law wsX5_between := goodIn_r _ [378, 15, 156, 379, 21, 160, 161, 162, 14, 163, 34, 353, 354, 355, 47, 356, 58, 120, 121, 122, 20, 123, 72, 73, 74, 124, 125, 126, 127, 36, 128, 129, 130, 131, 37, 38, 39, 40, 42, 43, 44, 48, 49, 50, 132, 133, 134, 135, 55, 56, 57, 136, 59, 60, 61, 62, 695, 696, 697, 698, 699, 700, 717, 718, 719, 720, 721, 722, 723, 724, 725, 726, 727, 728, 744, 745, 746, 747, 748, 749, 750, 751, 729, 730, 731] (by decide +kernel) (by decide +kernel)
set_option maxRecDepth 20000 in
theorem gL_law_X5_between : GoodIn wsL_law (wsV RL 45 RX5 yX5_between wsX5_between) := goodIn_app (goodIn_of _ (by decide +kernel)) ggL_law_X5_between
set_option maxRecDepth 20000 in
theorem ggL_law_X6_between : GoodIn wsL_law wsX6_between := goodIn_r _ [383, 102, 168, 169, 170, 5, 171, 141, 142, 143, 365, 366, 367, 368, 144, 145, 146, 147, 148, 103, 149, 150, 151, 701, 702, 703, 704, 705, 706, 707, 708, 709, 710, 711, 712, 713, 714, 715, 716] (by decide +kernel) (by decide +kernel)
set_option maxRecDepth 20000 in
theorem gL_law_X6_between : GoodIn wsL_law (wsV RL 48 RX6 yX6_between wsX6_between) := goodIn_app (goodIn_of _ (by decide +kernel)) ggL_law_X6_between
set_option maxRecDepth 20000 in
theorem ggL_law_X5_close : GoodIn wsL_law wsX5_close := goodIn_r _ [387, 15, 118, 117, 21, 29, 156, 388, 120, 121, 122, 20, 123, 72, 73, 74, 124, 125, 126, 14, 127, 34, 36, 128, 129, 130, 131, 37, 38, 39, 40, 42, 43, 44, 48, 49, 50, 132, 133, 134, 47, 135, 55, 56, 57, 58, 136, 59, 60, 61, 62, 389, 390, 391, 2, 392, 207, 208, 209, 210, 211, 212, 213, 214, 215, 216, 217, 218, 219, 220, 221, 204, 205, 206, 393, 394, 395, 28, 396, 92, 397, 398, 399, 400, 401, 402, 64, 65, 66, 403, 404, 405, 406, 407, 408, 93, 94, 409, 410, 411, 412, 413, 414, 97, 415, 416, 417, 418, 419, 420, 421, 422, 423, 95, 424, 425, 426, 427, 428, 354, 355, 356, 429, 430, 431, 432, 433, 434, 435, 436, 437, 358, 359, 360, 438, 439, 440, 441, 442, 443, 444, 445, 446, 447, 448, 63, 695, 696, 697, 698, 699, 700, 717, 718, 719, 720, 721, 722, 723, 724, 725, 726, 727, 728, 739, 740, 741, 742, 743, 729, 730, 731, 744, 745, 746, 747, 748, 749, 750, 751] (by decide +kernel) (by decide +kernel)
set_option maxRecDepth 20000 in
theorem gL_law_X5_close : GoodIn wsL_law (wsV RL 49 RX5 yX5_close wsX5_close) := goodIn_app (goodIn_of _ (by decide +kernel)) ggL_law_X5_close
set_option maxRecDepth 20000 in
theorem ggL_law_X6_close : GoodIn wsL_law wsX6_close := goodIn_r _ [452, 102, 144, 145, 146, 5, 147, 148, 103, 149, 150, 151, 453, 454, 455, 456, 457, 458, 459, 460, 109, 230, 231, 232, 233, 234, 235, 236, 237, 238, 239, 240, 241, 242, 243, 244, 245, 246, 247, 248, 461, 462, 463, 464, 110, 107, 106, 111, 465, 466, 467, 468, 365, 366, 367, 368, 469, 470, 471, 472, 108, 473, 474, 475, 476, 477, 478, 479, 480, 481, 482, 483, 484, 485, 369, 370, 371, 372, 373, 374, 172, 173, 174, 175, 701, 702, 703, 704, 705, 706, 707, 708, 709, 710, 711, 712, 713, 714, 715, 716] (by decide +kernel) (by decide +kernel)
set_option maxRecDepth 20000 in
theorem gL_law_X6_close : GoodIn wsL_law (wsV RL 52 RX6 yX6_close wsX6_close) := goodIn_app (goodIn_of _ (by decide +kernel)) ggL_law_X6_close
set_option maxRecDepth 20000 in
theorem ggL_law_X5_correct : GoodIn wsL_law wsX5_correct := goodIn_r _ [489, 15, 490, 202, 21, 491, 29, 388, 492, 218, 219, 14, 220, 49, 50, 203, 204, 205, 47, 206, 57, 120, 121, 122, 20, 123, 72, 73, 74, 124, 125, 126, 127, 34, 36, 128, 129, 130, 131, 37, 38, 39, 40, 42, 43, 44, 48, 132, 133, 134, 135, 55, 56, 58, 136, 59, 60, 61, 62, 393, 394, 395, 28, 396, 92, 397, 398, 399, 400, 401, 402, 64, 65, 66, 403, 404, 405, 406, 407, 408, 93, 94, 409, 2, 410, 411, 412, 413, 414, 97, 415, 416, 417, 418, 419, 420, 421, 422, 423, 95, 424, 425, 426, 427, 428, 354, 355, 356, 429, 430, 431, 432, 433, 434, 435, 436, 437, 358, 359, 360, 438, 439, 493, 494, 495, 496, 695, 696, 697, 698, 699, 700, 744, 745, 746, 747, 748, 749, 750, 751, 717, 718, 719, 720, 721, 722, 723, 724, 725, 726, 727, 728, 739, 740, 741, 742, 743, 729, 730, 731] (by decide +kernel) (by decide +kernel)
set_option maxRecDepth 20000 in
theorem gL_law_X5_correct : GoodIn wsL_law (wsV RL 53 RX5 yX5_correct wsX5_correct) := goodIn_app (goodIn_of _ (by decide +kernel)) ggL_law_X5_correct
set_option maxRecDepth 20000 in
theorem ggL_law_X6_correct : GoodIn wsL_law wsX6_correct := goodIn_r _ [500, 102, 501, 502, 503, 504, 5, 505, 141, 142, 143, 242, 243, 244, 144, 145, 146, 147, 148, 103, 149, 150, 151, 506, 507, 508, 509, 109, 230, 231, 232, 233, 461, 462, 463, 464, 110, 107, 106, 111, 465, 466, 467, 468, 365, 366, 367, 368, 469, 470, 471, 472, 108, 473, 474, 475, 476, 477, 478, 479, 480, 481, 482, 483, 484, 485, 369, 370, 371, 372, 373, 374, 701, 702, 703, 704, 705, 706, 707, 708, 709, 710, 711, 712, 713, 714, 715, 716] (by decide +kernel) (by decide +kernel)
set_option maxRecDepth 20000 in
theorem gL_law_X6_correct : GoodIn wsL_law (wsV RL 57 RX6 yX6_correct wsX6_correct) := goodIn_app (goodIn_of _ (by decide +kernel)) ggL_law_X6_correct
set_option maxRecDepth 20000 in
theorem ggL_law_X5_type : GoodIn wsL_law wsX5_type := goodIn_r _ [513, 25, 514, 515, 516, 517, 24, 518, 82, 81, 695, 696, 697, 698, 699, 700, 732, 733, 734, 735, 736, 737, 738] (by decide +kernel) (by decide +kernel)
set_option maxRecDepth 20000 in
theorem gL_law_X5_type : GoodIn wsL_law (wsV RL 58 RX5 yX5_type wsX5_type) := goodIn_app (goodIn_of _ (by decide +kernel)) ggL_law_X5_type
set_option maxRecDepth 20000 in
theorem ggL_law_X6_type : GoodIn wsL_law wsX6_type := goodIn_r _ [522, 327, 105, 701, 702, 703, 704, 705, 706, 707, 708, 709, 710, 711, 712, 713, 714, 715, 716] (by decide +kernel) (by decide +kernel)
set_option maxRecDepth 20000 in
theorem gL_law_X6_type : GoodIn wsL_law (wsV RL 62 RX6 yX6_type wsX6_type) := goodIn_app (goodIn_of _ (by decide +kernel)) ggL_law_X6_type
set_option maxRecDepth 20000 in
theorem ggL_law_X5_clearText : GoodIn wsL_law wsX5_clearText := goodIn_r _ [526, 25, 514, 695, 696, 697, 698, 699, 700, 732, 733, 734, 735, 736, 737, 738] (by decide +kernel) (by decide +kernel)
set_option maxRecDepth 20000 in
theorem gL_law_X5_clearText : GoodIn wsL_law (wsV RL 63 RX5 yX5_clearText wsX5_clearText) := goodIn_app (goodIn_of _ (by decide +kernel)) ggL_law_X5_clearText
set_option maxRecDepth 20000 in
theorem ggL_law_X6_clearText : GoodIn wsL_law wsX6_clearText := goodIn_r _ [530, 327, 701, 702, 703, 704, 705, 706, 707, 708, 709, 710, 711, 712, 713, 714, 715, 716] (by decide +kernel) (by decide +kernel)
set_option maxRecDepth 20000 in
theorem gL_law_X6_clearText : GoodIn wsL_law (wsV RL 66 RX6 yX6_clearText wsX6_clearText) := goodIn_app (goodIn_of _ (by decide +kernel)) ggL_law_X6_clearText
set_option maxRecDepth 20000 in
theorem ggL_law_X5_undo : GoodIn wsL_law wsX5_undo := goodIn_r _ [534, 21, 15, 535, 536, 537, 538, 20, 539, 74, 72, 73, 540, 125, 126, 14, 127, 34, 36, 128, 129, 130, 131, 37, 38, 39, 40, 42, 43, 44, 48, 49, 50, 132, 133, 134, 47, 135, 55, 56, 57, 58, 136, 59, 60, 61, 62, 695, 696, 697, 698, 699, 700, 729, 730, 731, 717, 718, 719, 720, 721, 722, 723, 724, 725, 726, 727, 728, 744, 745, 746, 747, 748, 749, 750, 751] (by decide +kernel) (by decide +kernel)
set_option maxRecDepth 20000 in
theorem gL_law_X5_undo : GoodIn wsL_law (wsV RL 67 RX5 yX5_undo wsX5_undo) := goodIn_app (goodIn_of _ (by decide +kernel)) ggL_law_X5_undo
set_option maxRecDepth 20000 in
theorem ggL_law_X6_undo : GoodIn wsL_law wsX6_undo := goodIn_r _ [544, 148, 103, 102, 149, 150, 5, 151, 701, 702, 703, 704, 705, 706, 707, 708, 709, 710, 711, 712, 713, 714, 715, 716] (by decide +kernel) (by decide +kernel)
set_option maxRecDepth 20000 in
theorem gL_law_X6_undo : GoodIn wsL_law (wsV RL 70 RX6 yX6_undo wsX6_undo) := goodIn_app (goodIn_of _ (by decide +kernel)) ggL_law_X6_undo
set_option maxRecDepth 20000 in
theorem ggL_law_X5_keep : GoodIn wsL_law wsX5_keep := goodIn_r _ [548, 16, 15, 17, 118, 540, 125, 126, 14, 127, 34, 36, 128, 129, 130, 131, 37, 38, 39, 40, 42, 43, 44, 48, 49, 50, 132, 133, 134, 47, 135, 55, 56, 57, 58, 136, 59, 60, 61, 62, 695, 696, 697, 698, 699, 700, 717, 718, 719, 720, 721, 722, 723, 724, 725, 726, 727, 728, 744, 745, 746, 747, 748, 749, 750, 751] (by decide +kernel) (by decide +kernel)
set_option maxRecDepth 20000 in
theorem gL_law_X5_keep : GoodIn wsL_law (wsV RL 71 RX5 yX5_keep wsX5_keep) := goodIn_app (goodIn_of _ (by decide +kernel)) ggL_law_X5_keep
set_option maxRecDepth 20000 in
theorem ggL_law_X6_keep : GoodIn wsL_law wsX6_keep := goodIn_r _ [552, 102, 104, 553, 149, 150, 5, 151, 701, 702, 703, 704, 705, 706, 707, 708, 709, 710, 711, 712, 713, 714, 715, 716] (by decide +kernel) (by decide +kernel)
set_option maxRecDepth 20000 in
theorem gL_law_X6_keep : GoodIn wsL_law (wsV RL 74 RX6 yX6_keep wsX6_keep) := goodIn_app (goodIn_of _ (by decide +kernel)) ggL_law_X6_keep
set_option maxRecDepth 20000 in
theorem ggL_law_X5_restore : GoodIn wsL_law wsX5_restore := goodIn_r _ [557, 17, 21, 15, 16, 118, 120, 121, 122, 20, 123, 72, 73, 74, 124, 125, 126, 14, 127, 34, 36, 128, 129, 130, 131, 37, 38, 39, 40, 42, 43, 44, 48, 49, 50, 132, 133, 134, 47, 135, 55, 56, 57, 58, 136, 59, 60, 61, 62, 540, 695, 696, 697, 698, 699, 700, 717, 718, 719, 720, 721, 722, 723, 724, 725, 726, 727, 728, 729, 730, 731, 744, 745, 746, 747, 748, 749, 750, 751] (by decide +kernel) (by decide +kernel)
set_option maxRecDepth 20000 in
theorem gL_law_X5_restore : GoodIn wsL_law (wsV RL 75 RX5 yX5_restore wsX5_restore) := goodIn_app (goodIn_of _ (by decide +kernel)) ggL_law_X5_restore
set_option maxRecDepth 20000 in
theorem ggL_law_X6_restore : GoodIn wsL_law wsX6_restore := goodIn_r _ [561, 553, 104, 102, 144, 145, 146, 5, 147, 148, 103, 149, 150, 151, 701, 702, 703, 704, 705, 706, 707, 708, 709, 710, 711, 712, 713, 714, 715, 716] (by decide +kernel) (by decide +kernel)
set_option maxRecDepth 20000 in
theorem gL_law_X6_restore : GoodIn wsL_law (wsV RL 78 RX6 yX6_restore wsX6_restore) := goodIn_app (goodIn_of _ (by decide +kernel)) ggL_law_X6_restore
set_option maxRecDepth 20000 in
theorem ggL_law_X5_flat : GoodIn wsL_law wsX5_flat := goodIn_r _ [565, 15, 119, 29, 566, 567, 568, 156, 352, 379, 160, 161, 162, 14, 163, 34, 389, 390, 391, 2, 392, 207, 208, 209, 210, 48, 211, 42, 40, 39, 212, 38, 213, 214, 215, 216, 49, 43, 217, 218, 219, 220, 50, 221, 204, 205, 47, 206, 57, 393, 394, 395, 28, 396, 92, 397, 398, 399, 400, 401, 402, 64, 65, 66, 403, 404, 405, 406, 407, 408, 93, 94, 409, 410, 411, 412, 413, 414, 97, 415, 416, 417, 418, 419, 569, 570, 571, 572, 37, 573, 425, 426, 427, 695, 696, 697, 698, 699, 700, 717, 718, 719, 720, 721, 722, 723, 724, 725, 726, 727, 728, 739, 740, 741, 742, 743, 744, 745, 746, 747, 748, 749, 750, 751] (by decide +kernel) (by decide +kernel)
set_option maxRecDepth 20000 in
theorem gL_law_X5_flat : GoodIn wsL_law (wsV RL 79 RX5 yX5_flat wsX5_flat) := goodIn_app (goodIn_of _ (by decide +kernel)) ggL_law_X5_flat
set_option maxRecDepth 20000 in
theorem ggL_law_X6_flat : GoodIn wsL_law wsX6_flat := goodIn_r _ [577, 102, 109, 110, 111, 168, 169, 170, 5, 171, 141, 142, 143, 453, 454, 455, 456, 457, 458, 459, 460, 230, 231, 232, 233, 234, 235, 236, 237, 238, 239, 240, 241, 242, 243, 244, 245, 246, 247, 248, 461, 462, 463, 464, 107, 106, 465, 466, 467, 468, 365, 366, 367, 368, 469, 470, 471, 472, 108, 473, 474, 475, 476, 477, 578, 579, 580, 581, 701, 702, 703, 704, 705, 706, 707, 708, 709, 710, 711, 712, 713, 714, 715, 716] (by decide +kernel) (by decide +kernel)
set_option maxRecDepth 20000 in
theorem gL_law_X6_flat : GoodIn wsL_law (wsV RL 82 RX6 yX6_flat wsX6_flat) := goodIn_app (goodIn_of _ (by decide +kernel)) ggL_law_X6_flat
set_option maxRecDepth 20000 in
theorem ggL_law_X5_device : GoodIn wsL_law wsX5_device := goodIn_r _ [585, 15, 156, 158, 159, 200, 201, 253, 202, 203, 204, 205, 47, 206, 57, 207, 208, 209, 14, 210, 48, 211, 42, 40, 39, 212, 38, 213, 214, 215, 216, 49, 43, 217, 218, 219, 220, 50, 221, 695, 696, 697, 698, 699, 700, 717, 718, 719, 720, 721, 722, 723, 724, 725, 726, 727, 728, 744, 745, 746, 747, 748, 749, 750, 751] (by decide +kernel) (by decide +kernel)
set_option maxRecDepth 20000 in
theorem gL_law_X5_device : GoodIn wsL_law (wsV RL 83 RX5 yX5_device wsX5_device) := goodIn_app (goodIn_of _ (by decide +kernel)) ggL_law_X5_device
set_option maxRecDepth 20000 in
theorem ggL_law_X6_device : GoodIn wsL_law wsX6_device := goodIn_r _ [589, 226, 227, 228, 5, 229, 102, 141, 142, 143, 234, 235, 236, 237, 230, 231, 232, 233, 238, 239, 240, 241, 242, 243, 244, 245, 246, 247, 248, 701, 702, 703, 704, 705, 706, 707, 708, 709, 710, 711, 712, 713, 714, 715, 716] (by decide +kernel) (by decide +kernel)
set_option maxRecDepth 20000 in
theorem gL_law_X6_device : GoodIn wsL_law (wsV RL 86 RX6 yX6_device wsX6_device) := goodIn_app (goodIn_of _ (by decide +kernel)) ggL_law_X6_device
set_option maxRecDepth 20000 in
theorem ggL_law_X5_draft : GoodIn wsL_law wsX5_draft := goodIn_r _ [593, 15, 156, 29, 388, 160, 161, 162, 14, 163, 34, 353, 354, 355, 47, 356, 58, 389, 390, 391, 2, 392, 207, 208, 209, 210, 48, 211, 42, 40, 39, 212, 38, 213, 214, 215, 216, 49, 43, 217, 218, 219, 220, 50, 221, 204, 205, 206, 57, 393, 394, 395, 28, 396, 92, 397, 398, 399, 400, 401, 402, 64, 65, 66, 403, 404, 405, 406, 407, 408, 93, 94, 409, 410, 411, 412, 413, 414, 97, 415, 416, 417, 418, 419, 420, 421, 422, 423, 95, 424, 425, 426, 427, 428, 429, 430, 431, 432, 433, 434, 435, 436, 437, 59, 358, 359, 360, 438, 439, 594, 695, 696, 697, 698, 699, 700, 717, 718, 719, 720, 721, 722, 723, 724, 725, 726, 727, 728, 739, 740, 741, 742, 743, 744, 745, 746, 747, 748, 749, 750, 751] (by decide +kernel) (by decide +kernel)
set_option maxRecDepth 20000 in
theorem gL_law_X5_draft : GoodIn wsL_law (wsV RL 87 RX5 yX5_draft wsX5_draft) := goodIn_app (goodIn_of _ (by decide +kernel)) ggL_law_X5_draft
set_option maxRecDepth 20000 in
theorem ggL_law_X6_draft : GoodIn wsL_law wsX6_draft := goodIn_r _ [598, 102, 168, 169, 170, 5, 171, 141, 142, 143, 365, 366, 367, 368, 453, 454, 455, 456, 457, 458, 459, 460, 109, 230, 231, 232, 233, 234, 235, 236, 237, 238, 239, 240, 241, 242, 243, 244, 245, 246, 247, 248, 461, 462, 463, 464, 110, 107, 106, 111, 465, 466, 467, 468, 469, 470, 471, 472, 108, 473, 474, 475, 476, 477, 478, 479, 480, 481, 482, 483, 484, 485, 369, 370, 371, 372, 373, 374, 701, 702, 703, 704, 705, 706, 707, 708, 709, 710, 711, 712, 713, 714, 715, 716] (by decide +kernel) (by decide +kernel)
set_option maxRecDepth 20000 in
theorem gL_law_X6_draft : GoodIn wsL_law (wsV RL 90 RX6 yX6_draft wsX6_draft) := goodIn_app (goodIn_of _ (by decide +kernel)) ggL_law_X6_draft
set_option maxRecDepth 20000 in
theorem ggL_law_X5_bill : GoodIn wsL_law wsX5_bill := goodIn_r _ [602, 15, 603, 604, 605, 492, 218, 219, 14, 220, 49, 50, 160, 161, 162, 163, 34, 353, 354, 355, 47, 356, 58, 594, 438, 2, 439, 695, 696, 697, 698, 699, 700, 744, 745, 746, 747, 748, 749, 750, 751, 717, 718, 719, 720, 721, 722, 723, 724, 725, 726, 727, 728] (by decide +kernel) (by decide +kernel)
set_option maxRecDepth 20000 in
theorem gL_law_X5_bill : GoodIn wsL_law (wsV RL 91 RX5 yX5_bill wsX5_bill) := goodIn_app (goodIn_of _ (by decide +kernel)) ggL_law_X5_bill
set_option maxRecDepth 20000 in
theorem ggL_law_X6_bill : GoodIn wsL_law wsX6_bill := goodIn_r _ [609, 102, 610, 502, 503, 504, 5, 505, 141, 142, 143, 168, 169, 170, 171, 242, 243, 244, 701, 702, 703, 704, 705, 706, 707, 708, 709, 710, 711, 712, 713, 714, 715, 716] (by decide +kernel) (by decide +kernel)
set_option maxRecDepth 20000 in
theorem gL_law_X6_bill : GoodIn wsL_law (wsV RL 95 RX6 yX6_bill wsX6_bill) := goodIn_app (goodIn_of _ (by decide +kernel)) ggL_law_X6_bill
set_option maxRecDepth 20000 in
theorem ggL_law_X5_units : GoodIn wsL_law wsX5_units := goodIn_r _ [614, 15, 202, 492, 218, 219, 14, 220, 49, 50, 203, 204, 205, 47, 206, 57, 695, 696, 697, 698, 699, 700, 744, 745, 746, 747, 748, 749, 750, 751, 717, 718, 719, 720, 721, 722, 723, 724, 725, 726, 727, 728] (by decide +kernel) (by decide +kernel)
set_option maxRecDepth 20000 in
theorem gL_law_X5_units : GoodIn wsL_law (wsV RL 96 RX5 yX5_units wsX5_units) := goodIn_app (goodIn_of _ (by decide +kernel)) ggL_law_X5_units
set_option maxRecDepth 20000 in
theorem ggL_law_X6_units : GoodIn wsL_law wsX6_units := goodIn_r _ [618, 102, 502, 503, 504, 5, 505, 141, 142, 143, 242, 243, 244, 701, 702, 703, 704, 705, 706, 707, 708, 709, 710, 711, 712, 713, 714, 715, 716] (by decide +kernel) (by decide +kernel)
set_option maxRecDepth 20000 in
theorem gL_law_X6_units : GoodIn wsL_law (wsV RL 99 RX6 yX6_units wsX6_units) := goodIn_app (goodIn_of _ (by decide +kernel)) ggL_law_X6_units
set_option maxRecDepth 20000 in
theorem ggL_law_X5_greatest : GoodIn wsL_law wsX5_greatest := goodIn_r _ [622, 15, 117, 29, 389, 390, 391, 2, 392, 156, 207, 208, 209, 14, 210, 48, 211, 42, 40, 39, 212, 38, 213, 214, 215, 216, 49, 43, 217, 218, 219, 220, 50, 221, 204, 205, 47, 206, 57, 393, 394, 395, 28, 396, 92, 397, 398, 399, 400, 401, 402, 64, 65, 66, 403, 404, 405, 406, 407, 408, 93, 94, 409, 410, 411, 412, 413, 414, 97, 415, 416, 417, 418, 419, 623, 624, 625, 626, 695, 696, 697, 698, 699, 700, 717, 718, 719, 720, 721, 722, 723, 724, 725, 726, 727, 728, 744, 745, 746, 747, 748, 749, 750, 751, 739, 740, 741, 742, 743] (by decide +kernel) (by decide +kernel)
set_option maxRecDepth 20000 in
theorem gL_law_X5_greatest : GoodIn wsL_law (wsV RL 100 RX5 yX5_greatest wsX5_greatest) := goodIn_app (goodIn_of _ (by decide +kernel)) ggL_law_X5_greatest
set_option maxRecDepth 20000 in
theorem ggL_law_X6_greatest : GoodIn wsL_law wsX6_greatest := goodIn_r _ [630, 102, 111, 453, 454, 455, 5, 456, 457, 458, 459, 460, 109, 230, 231, 232, 233, 234, 235, 236, 237, 238, 239, 240, 241, 242, 243, 244, 245, 246, 247, 248, 461, 462, 463, 464, 110, 107, 106, 465, 466, 467, 468, 365, 366, 367, 368, 469, 470, 471, 472, 108, 473, 474, 475, 476, 477, 701, 702, 703, 704, 705, 706, 707, 708, 709, 710, 711, 712, 713, 714, 715, 716] (by decide +kernel) (by decide +kernel)
set_option maxRecDepth 20000 in
theorem gL_law_X6_greatest : GoodIn wsL_law (wsV RL 103 RX6 yX6_greatest wsX6_greatest) := goodIn_app (goodIn_of _ (by decide +kernel)) ggL_law_X6_greatest
set_option maxRecDepth 20000 in
theorem ggL_law_X5_billIf : GoodIn wsL_law wsX5_billIf := goodIn_r _ [634, 15, 160, 161, 162, 14, 163, 34, 389, 390, 391, 2, 392, 29, 156, 207, 208, 209, 210, 48, 211, 42, 40, 39, 212, 38, 213, 214, 215, 216, 49, 43, 217, 218, 219, 220, 50, 221, 204, 205, 47, 206, 57, 393, 394, 395, 28, 396, 92, 397, 398, 399, 400, 401, 402, 64, 65, 66, 403, 404, 405, 406, 407, 408, 93, 94, 409, 410, 411, 412, 413, 414, 97, 415, 416, 417, 418, 419, 635, 636, 637, 638, 639, 640, 573, 425, 426, 427, 695, 696, 697, 698, 699, 700, 717, 718, 719, 720, 721, 722, 723, 724, 725, 726, 727, 728, 744, 745, 746, 747, 748, 749, 750, 751, 739, 740, 741, 742, 743] (by decide +kernel) (by decide +kernel)
set_option maxRecDepth 20000 in
theorem gL_law_X5_billIf : GoodIn wsL_law (wsV RL 104 RX5 yX5_billIf wsX5_billIf) := goodIn_app (goodIn_of _ (by decide +kernel)) ggL_law_X5_billIf
set_option maxRecDepth 20000 in
theorem ggL_law_X6_billIf : GoodIn wsL_law wsX6_billIf := goodIn_r _ [644, 168, 169, 170, 5, 171, 102, 141, 142, 143, 645, 646, 647, 648, 110, 111, 453, 454, 455, 456, 457, 458, 459, 460, 109, 230, 231, 232, 233, 234, 235, 236, 237, 238, 239, 240, 241, 242, 243, 244, 245, 246, 247, 248, 461, 462, 463, 464, 107, 106, 465, 466, 467, 468, 365, 366, 367, 368, 469, 470, 471, 472, 108, 473, 474, 475, 476, 477, 701, 702, 703, 704, 705, 706, 707, 708, 709, 710, 711, 712, 713, 714, 715, 716] (by decide +kernel) (by decide +kernel)
set_option maxRecDepth 20000 in
theorem gL_law_X6_billIf : GoodIn wsL_law (wsV RL 107 RX6 yX6_billIf wsX6_billIf) := goodIn_app (goodIn_of _ (by decide +kernel)) ggL_law_X6_billIf
set_option maxRecDepth 20000 in
theorem ggL_law_X5_bestShare : GoodIn wsL_law wsX5_bestShare := goodIn_r _ [652, 15, 160, 161, 162, 14, 163, 34, 389, 390, 391, 2, 392, 29, 156, 207, 208, 209, 210, 48, 211, 42, 40, 39, 212, 38, 213, 214, 215, 216, 49, 43, 217, 218, 219, 220, 50, 221, 204, 205, 47, 206, 57, 393, 394, 395, 28, 396, 92, 397, 398, 399, 400, 401, 402, 64, 65, 66, 403, 404, 405, 406, 407, 408, 93, 94, 409, 410, 411, 412, 413, 414, 97, 415, 416, 417, 418, 419, 635, 636, 637, 638, 639, 640, 573, 425, 426, 427, 695, 696, 697, 698, 699, 700, 717, 718, 719, 720, 721, 722, 723, 724, 725, 726, 727, 728, 744, 745, 746, 747, 748, 749, 750, 751, 739, 740, 741, 742, 743] (by decide +kernel) (by decide +kernel)
set_option maxRecDepth 20000 in
theorem gL_law_X5_bestShare : GoodIn wsL_law (wsV RL 108 RX5 yX5_bestShare wsX5_bestShare) := goodIn_app (goodIn_of _ (by decide +kernel)) ggL_law_X5_bestShare
set_option maxRecDepth 20000 in
theorem ggL_law_X6_bestShare : GoodIn wsL_law wsX6_bestShare := goodIn_r _ [656, 168, 169, 170, 5, 171, 102, 141, 142, 143, 645, 646, 647, 648, 110, 111, 453, 454, 455, 456, 457, 458, 459, 460, 109, 230, 231, 232, 233, 234, 235, 236, 237, 238, 239, 240, 241, 242, 243, 244, 245, 246, 247, 248, 461, 462, 463, 464, 107, 106, 465, 466, 467, 468, 365, 366, 367, 368, 469, 470, 471, 472, 108, 473, 474, 475, 476, 477, 701, 702, 703, 704, 705, 706, 707, 708, 709, 710, 711, 712, 713, 714, 715, 716] (by decide +kernel) (by decide +kernel)
set_option maxRecDepth 20000 in
theorem gL_law_X6_bestShare : GoodIn wsL_law (wsV RL 111 RX6 yX6_bestShare wsX6_bestShare) := goodIn_app (goodIn_of _ (by decide +kernel)) ggL_law_X6_bestShare
set_option maxRecDepth 20000 in
theorem ggL_law_X5_count : GoodIn wsL_law wsX5_count := goodIn_r _ [660, 15, 118, 117, 156, 157, 119, 29, 566, 567, 568, 491, 21, 535, 25, 514, 254, 255, 256, 14, 257, 48, 211, 42, 181, 182, 183, 184, 185, 186, 43, 661, 409, 2, 410, 389, 390, 391, 392, 207, 208, 209, 210, 40, 39, 212, 38, 213, 214, 215, 216, 49, 217, 218, 219, 220, 50, 221, 204, 205, 47, 206, 57, 393, 394, 395, 28, 396, 92, 397, 398, 399, 400, 401, 402, 64, 65, 66, 403, 404, 405, 406, 407, 408, 93, 94, 411, 412, 413, 414, 97, 415, 416, 417, 418, 419, 662, 663, 664, 665, 444, 666, 667, 668, 669, 34, 670, 354, 355, 356, 58, 695, 696, 697, 698, 699, 700, 717, 718, 719, 720, 721, 722, 723, 724, 725, 726, 727, 728, 744, 745, 746, 747, 748, 749, 750, 751, 739, 740, 741, 742, 743, 729, 730, 731, 732, 733, 734, 735, 736, 737, 738] (by decide +kernel) (by decide +kernel)
set_option maxRecDepth 20000 in
theorem gL_law_X5_count : GoodIn wsL_law (wsV RL 112 RX5 yX5_count wsX5_count) := goodIn_app (goodIn_of _ (by decide +kernel)) ggL_law_X5_count
set_option maxRecDepth 20000 in
theorem ggL_law_X6_count : GoodIn wsL_law wsX6_count := goodIn_r _ [674, 102, 148, 327, 262, 263, 264, 5, 265, 230, 231, 232, 233, 675, 676, 677, 678, 365, 366, 367, 368, 679, 680, 681, 682, 234, 235, 236, 237, 238, 239, 240, 241, 242, 243, 244, 245, 246, 247, 248, 683, 684, 685, 686, 110, 111, 453, 454, 455, 456, 457, 458, 459, 460, 109, 461, 462, 463, 464, 107, 106, 465, 466, 467, 468, 469, 470, 471, 472, 108, 473, 474, 475, 476, 477, 687, 688, 689, 690, 691, 692, 693, 694, 701, 702, 703, 704, 705, 706, 707, 708, 709, 710, 711, 712, 713, 714, 715, 716] (by decide +kernel) (by decide +kernel)
set_option maxRecDepth 20000 in
theorem gL_law_X6_count : GoodIn wsL_law (wsV RL 115 RX6 yX6_count wsX6_count) := goodIn_app (goodIn_of _ (by decide +kernel)) ggL_law_X6_count
theorem dL_law_0 : decode cL_law 0 = .ok (.new 7, 3) := by decide +kernel
theorem dL_law_3 : decode cL_law 3 = .ok (.dup, 1) := by decide +kernel
theorem dL_law_4 : decode cL_law 4 = .ok (.invokespecial 9, 3) := by decide +kernel
theorem dL_law_7 : decode cL_law 7 = .ok (.astore_n 1, 1) := by decide +kernel
theorem dL_law_8 : decode cL_law 8 = .ok (.new 10, 3) := by decide +kernel
theorem dL_law_11 : decode cL_law 11 = .ok (.dup, 1) := by decide +kernel
theorem dL_law_12 : decode cL_law 12 = .ok (.invokespecial 12, 3) := by decide +kernel
theorem dL_law_15 : decode cL_law 15 = .ok (.astore_n 2, 1) := by decide +kernel
theorem dL_law_16 : decode cL_law 16 = .ok (.iconst 0, 1) := by decide +kernel
theorem dL_law_17 : decode cL_law 17 = .ok (.istore_n 3, 1) := by decide +kernel
theorem dL_law_18 : decode cL_law 18 = .ok (.iload_n 3, 1) := by decide +kernel
theorem dL_law_19 : decode cL_law 19 = .ok (.aload_n 0, 1) := by decide +kernel
theorem dL_law_20 : decode cL_law 20 = .ok (.arraylength, 1) := by decide +kernel
theorem dL_law_21 : decode cL_law 21 = .ok (.iconst 5, 1) := by decide +kernel
theorem dL_law_22 : decode cL_law 22 = .ok (.isub, 1) := by decide +kernel
theorem dL_law_23 : decode cL_law 23 = .ok (.if_icmp .gt 845, 3) := by decide +kernel
theorem dL_law_26 : decode cL_law 26 = .ok (.aload_n 0, 1) := by decide +kernel
theorem dL_law_27 : decode cL_law 27 = .ok (.iload_n 3, 1) := by decide +kernel
theorem dL_law_28 : decode cL_law 28 = .ok (.iaload, 1) := by decide +kernel
theorem dL_law_29 : decode cL_law 29 = .ok (.bipush 31, 2) := by decide +kernel
theorem dL_law_31 : decode cL_law 31 = .ok (.iand, 1) := by decide +kernel
theorem dL_law_32 : decode cL_law 32 = .ok (.tableswitch 830 0 23 #[112, 135, 168, 201, 234, 283, 296, 329, 362, 375, 418, 443, 456, 469, 482, 495, 528, 561, 610, 695, 728, 751, 784, 807], 112) := by decide +kernel
theorem dL_law_144 : decode cL_law 144 = .ok (.aload_n 1, 1) := by decide +kernel
theorem dL_law_145 : decode cL_law 145 = .ok (.aload_n 0, 1) := by decide +kernel
theorem dL_law_146 : decode cL_law 146 = .ok (.iload_n 3, 1) := by decide +kernel
theorem dL_law_147 : decode cL_law 147 = .ok (.iconst 1, 1) := by decide +kernel
theorem dL_law_148 : decode cL_law 148 = .ok (.iadd, 1) := by decide +kernel
theorem dL_law_149 : decode cL_law 149 = .ok (.iaload, 1) := by decide +kernel
theorem dL_law_150 : decode cL_law 150 = .ok (.invokevirtual 13, 3) := by decide +kernel
theorem dL_law_153 : decode cL_law 153 = .ok (.aload_n 2, 1) := by decide +kernel
theorem dL_law_154 : decode cL_law 154 = .ok (.aload_n 0, 1) := by decide +kernel
theorem dL_law_155 : decode cL_law 155 = .ok (.iload_n 3, 1) := by decide +kernel
theorem dL_law_156 : decode cL_law 156 = .ok (.iconst 1, 1) := by decide +kernel
theorem dL_law_157 : decode cL_law 157 = .ok (.iadd, 1) := by decide +kernel
theorem dL_law_158 : decode cL_law 158 = .ok (.iaload, 1) := by decide +kernel
theorem dL_law_159 : decode cL_law 159 = .ok (.invokevirtual 17, 3) := by decide +kernel
theorem dL_law_162 : decode cL_law 162 = .ok (.if_icmp .eq 700, 3) := by decide +kernel
theorem dL_law_165 : decode cL_law 165 = .ok (.iconst 0, 1) := by decide +kernel
theorem dL_law_166 : decode cL_law 166 = .ok (.ireturn, 1) := by decide +kernel
theorem dL_law_167 : decode cL_law 167 = .ok (.aload_n 1, 1) := by decide +kernel
theorem dL_law_168 : decode cL_law 168 = .ok (.aload_n 0, 1) := by decide +kernel
theorem dL_law_169 : decode cL_law 169 = .ok (.iload_n 3, 1) := by decide +kernel
theorem dL_law_170 : decode cL_law 170 = .ok (.iconst 1, 1) := by decide +kernel
theorem dL_law_171 : decode cL_law 171 = .ok (.iadd, 1) := by decide +kernel
theorem dL_law_172 : decode cL_law 172 = .ok (.iaload, 1) := by decide +kernel
theorem dL_law_173 : decode cL_law 173 = .ok (.aload_n 0, 1) := by decide +kernel
theorem dL_law_174 : decode cL_law 174 = .ok (.iload_n 3, 1) := by decide +kernel
theorem dL_law_175 : decode cL_law 175 = .ok (.iconst 2, 1) := by decide +kernel
theorem dL_law_176 : decode cL_law 176 = .ok (.iadd, 1) := by decide +kernel
theorem dL_law_177 : decode cL_law 177 = .ok (.iaload, 1) := by decide +kernel
theorem dL_law_178 : decode cL_law 178 = .ok (.invokevirtual 18, 3) := by decide +kernel
theorem dL_law_181 : decode cL_law 181 = .ok (.aload_n 2, 1) := by decide +kernel
theorem dL_law_182 : decode cL_law 182 = .ok (.aload_n 0, 1) := by decide +kernel
theorem dL_law_183 : decode cL_law 183 = .ok (.iload_n 3, 1) := by decide +kernel
theorem dL_law_184 : decode cL_law 184 = .ok (.iconst 1, 1) := by decide +kernel
theorem dL_law_185 : decode cL_law 185 = .ok (.iadd, 1) := by decide +kernel
theorem dL_law_186 : decode cL_law 186 = .ok (.iaload, 1) := by decide +kernel
theorem dL_law_187 : decode cL_law 187 = .ok (.aload_n 0, 1) := by decide +kernel
theorem dL_law_188 : decode cL_law 188 = .ok (.iload_n 3, 1) := by decide +kernel
theorem dL_law_189 : decode cL_law 189 = .ok (.iconst 2, 1) := by decide +kernel
theorem dL_law_190 : decode cL_law 190 = .ok (.iadd, 1) := by decide +kernel
theorem dL_law_191 : decode cL_law 191 = .ok (.iaload, 1) := by decide +kernel
theorem dL_law_192 : decode cL_law 192 = .ok (.invokevirtual 22, 3) := by decide +kernel
theorem dL_law_195 : decode cL_law 195 = .ok (.if_icmp .eq 667, 3) := by decide +kernel
theorem dL_law_198 : decode cL_law 198 = .ok (.iconst 0, 1) := by decide +kernel
theorem dL_law_199 : decode cL_law 199 = .ok (.ireturn, 1) := by decide +kernel
theorem dL_law_200 : decode cL_law 200 = .ok (.aload_n 1, 1) := by decide +kernel
theorem dL_law_201 : decode cL_law 201 = .ok (.aload_n 0, 1) := by decide +kernel
theorem dL_law_202 : decode cL_law 202 = .ok (.iload_n 3, 1) := by decide +kernel
theorem dL_law_203 : decode cL_law 203 = .ok (.iconst 1, 1) := by decide +kernel
theorem dL_law_204 : decode cL_law 204 = .ok (.iadd, 1) := by decide +kernel
theorem dL_law_205 : decode cL_law 205 = .ok (.iaload, 1) := by decide +kernel
theorem dL_law_206 : decode cL_law 206 = .ok (.aload_n 0, 1) := by decide +kernel
theorem dL_law_207 : decode cL_law 207 = .ok (.iload_n 3, 1) := by decide +kernel
theorem dL_law_208 : decode cL_law 208 = .ok (.iconst 2, 1) := by decide +kernel
theorem dL_law_209 : decode cL_law 209 = .ok (.iadd, 1) := by decide +kernel
theorem dL_law_210 : decode cL_law 210 = .ok (.iaload, 1) := by decide +kernel
theorem dL_law_211 : decode cL_law 211 = .ok (.invokevirtual 23, 3) := by decide +kernel
theorem dL_law_214 : decode cL_law 214 = .ok (.aload_n 2, 1) := by decide +kernel
theorem dL_law_215 : decode cL_law 215 = .ok (.aload_n 0, 1) := by decide +kernel
theorem dL_law_216 : decode cL_law 216 = .ok (.iload_n 3, 1) := by decide +kernel
theorem dL_law_217 : decode cL_law 217 = .ok (.iconst 1, 1) := by decide +kernel
theorem dL_law_218 : decode cL_law 218 = .ok (.iadd, 1) := by decide +kernel
theorem dL_law_219 : decode cL_law 219 = .ok (.iaload, 1) := by decide +kernel
theorem dL_law_220 : decode cL_law 220 = .ok (.aload_n 0, 1) := by decide +kernel
theorem dL_law_221 : decode cL_law 221 = .ok (.iload_n 3, 1) := by decide +kernel
theorem dL_law_222 : decode cL_law 222 = .ok (.iconst 2, 1) := by decide +kernel
theorem dL_law_223 : decode cL_law 223 = .ok (.iadd, 1) := by decide +kernel
theorem dL_law_224 : decode cL_law 224 = .ok (.iaload, 1) := by decide +kernel
theorem dL_law_225 : decode cL_law 225 = .ok (.invokevirtual 26, 3) := by decide +kernel
theorem dL_law_228 : decode cL_law 228 = .ok (.if_icmp .eq 634, 3) := by decide +kernel
theorem dL_law_231 : decode cL_law 231 = .ok (.iconst 0, 1) := by decide +kernel
theorem dL_law_232 : decode cL_law 232 = .ok (.ireturn, 1) := by decide +kernel
theorem dL_law_233 : decode cL_law 233 = .ok (.aload_n 1, 1) := by decide +kernel
theorem dL_law_234 : decode cL_law 234 = .ok (.aload_n 0, 1) := by decide +kernel
theorem dL_law_235 : decode cL_law 235 = .ok (.iload_n 3, 1) := by decide +kernel
theorem dL_law_236 : decode cL_law 236 = .ok (.iconst 1, 1) := by decide +kernel
theorem dL_law_237 : decode cL_law 237 = .ok (.iadd, 1) := by decide +kernel
theorem dL_law_238 : decode cL_law 238 = .ok (.iaload, 1) := by decide +kernel
theorem dL_law_239 : decode cL_law 239 = .ok (.aload_n 0, 1) := by decide +kernel
theorem dL_law_240 : decode cL_law 240 = .ok (.iload_n 3, 1) := by decide +kernel
theorem dL_law_241 : decode cL_law 241 = .ok (.iconst 2, 1) := by decide +kernel
theorem dL_law_242 : decode cL_law 242 = .ok (.iadd, 1) := by decide +kernel
theorem dL_law_243 : decode cL_law 243 = .ok (.iaload, 1) := by decide +kernel
theorem dL_law_244 : decode cL_law 244 = .ok (.invokevirtual 27, 3) := by decide +kernel
theorem dL_law_247 : decode cL_law 247 = .ok (.aload_n 2, 1) := by decide +kernel
theorem dL_law_248 : decode cL_law 248 = .ok (.aload_n 0, 1) := by decide +kernel
theorem dL_law_249 : decode cL_law 249 = .ok (.iload_n 3, 1) := by decide +kernel
theorem dL_law_250 : decode cL_law 250 = .ok (.iconst 1, 1) := by decide +kernel
theorem dL_law_251 : decode cL_law 251 = .ok (.iadd, 1) := by decide +kernel
theorem dL_law_252 : decode cL_law 252 = .ok (.iaload, 1) := by decide +kernel
theorem dL_law_253 : decode cL_law 253 = .ok (.aload_n 0, 1) := by decide +kernel
theorem dL_law_254 : decode cL_law 254 = .ok (.iload_n 3, 1) := by decide +kernel
theorem dL_law_255 : decode cL_law 255 = .ok (.iconst 2, 1) := by decide +kernel
theorem dL_law_256 : decode cL_law 256 = .ok (.iadd, 1) := by decide +kernel
theorem dL_law_257 : decode cL_law 257 = .ok (.iaload, 1) := by decide +kernel
theorem dL_law_258 : decode cL_law 258 = .ok (.invokevirtual 30, 3) := by decide +kernel
theorem dL_law_261 : decode cL_law 261 = .ok (.if_icmp .eq 601, 3) := by decide +kernel
theorem dL_law_264 : decode cL_law 264 = .ok (.iconst 0, 1) := by decide +kernel
theorem dL_law_265 : decode cL_law 265 = .ok (.ireturn, 1) := by decide +kernel
theorem dL_law_266 : decode cL_law 266 = .ok (.aload_n 1, 1) := by decide +kernel
theorem dL_law_267 : decode cL_law 267 = .ok (.aload_n 0, 1) := by decide +kernel
theorem dL_law_268 : decode cL_law 268 = .ok (.iload_n 3, 1) := by decide +kernel
theorem dL_law_269 : decode cL_law 269 = .ok (.iconst 1, 1) := by decide +kernel
theorem dL_law_270 : decode cL_law 270 = .ok (.iadd, 1) := by decide +kernel
theorem dL_law_271 : decode cL_law 271 = .ok (.iaload, 1) := by decide +kernel
theorem dL_law_272 : decode cL_law 272 = .ok (.aload_n 0, 1) := by decide +kernel
theorem dL_law_273 : decode cL_law 273 = .ok (.iload_n 3, 1) := by decide +kernel
theorem dL_law_274 : decode cL_law 274 = .ok (.iconst 2, 1) := by decide +kernel
theorem dL_law_275 : decode cL_law 275 = .ok (.iadd, 1) := by decide +kernel
theorem dL_law_276 : decode cL_law 276 = .ok (.iaload, 1) := by decide +kernel
theorem dL_law_277 : decode cL_law 277 = .ok (.ifCond .eq 7, 3) := by decide +kernel
theorem dL_law_280 : decode cL_law 280 = .ok (.iconst 1, 1) := by decide +kernel
theorem dL_law_281 : decode cL_law 281 = .ok (.goto 4, 3) := by decide +kernel
theorem dL_law_284 : decode cL_law 284 = .ok (.iconst 0, 1) := by decide +kernel
theorem dL_law_285 : decode cL_law 285 = .ok (.invokevirtual 31, 3) := by decide +kernel
theorem dL_law_288 : decode cL_law 288 = .ok (.aload_n 2, 1) := by decide +kernel
theorem dL_law_289 : decode cL_law 289 = .ok (.aload_n 0, 1) := by decide +kernel
theorem dL_law_290 : decode cL_law 290 = .ok (.iload_n 3, 1) := by decide +kernel
theorem dL_law_291 : decode cL_law 291 = .ok (.iconst 1, 1) := by decide +kernel
theorem dL_law_292 : decode cL_law 292 = .ok (.iadd, 1) := by decide +kernel
theorem dL_law_293 : decode cL_law 293 = .ok (.iaload, 1) := by decide +kernel
theorem dL_law_294 : decode cL_law 294 = .ok (.aload_n 0, 1) := by decide +kernel
theorem dL_law_295 : decode cL_law 295 = .ok (.iload_n 3, 1) := by decide +kernel
theorem dL_law_296 : decode cL_law 296 = .ok (.iconst 2, 1) := by decide +kernel
theorem dL_law_297 : decode cL_law 297 = .ok (.iadd, 1) := by decide +kernel
theorem dL_law_298 : decode cL_law 298 = .ok (.iaload, 1) := by decide +kernel
theorem dL_law_299 : decode cL_law 299 = .ok (.ifCond .eq 7, 3) := by decide +kernel
theorem dL_law_302 : decode cL_law 302 = .ok (.iconst 1, 1) := by decide +kernel
theorem dL_law_303 : decode cL_law 303 = .ok (.goto 4, 3) := by decide +kernel
theorem dL_law_306 : decode cL_law 306 = .ok (.iconst 0, 1) := by decide +kernel
theorem dL_law_307 : decode cL_law 307 = .ok (.invokevirtual 35, 3) := by decide +kernel
theorem dL_law_310 : decode cL_law 310 = .ok (.if_icmp .eq 552, 3) := by decide +kernel
theorem dL_law_313 : decode cL_law 313 = .ok (.iconst 0, 1) := by decide +kernel
theorem dL_law_314 : decode cL_law 314 = .ok (.ireturn, 1) := by decide +kernel
theorem dL_law_315 : decode cL_law 315 = .ok (.aload_n 1, 1) := by decide +kernel
theorem dL_law_316 : decode cL_law 316 = .ok (.invokevirtual 36, 3) := by decide +kernel
theorem dL_law_319 : decode cL_law 319 = .ok (.aload_n 2, 1) := by decide +kernel
theorem dL_law_320 : decode cL_law 320 = .ok (.invokevirtual 40, 3) := by decide +kernel
theorem dL_law_323 : decode cL_law 323 = .ok (.if_icmp .eq 539, 3) := by decide +kernel
theorem dL_law_326 : decode cL_law 326 = .ok (.iconst 0, 1) := by decide +kernel
theorem dL_law_327 : decode cL_law 327 = .ok (.ireturn, 1) := by decide +kernel
theorem dL_law_328 : decode cL_law 328 = .ok (.aload_n 1, 1) := by decide +kernel
