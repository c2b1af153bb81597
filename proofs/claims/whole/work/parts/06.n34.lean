theorem dX3_init_0 : decode cX3_init 0 = .ok (.aload_n 0, 1) := by decide +kernel
theorem dX3_init_1 : decode cX3_init 1 = .ok (.invokespecial 3, 3) := by decide +kernel
theorem dX3_init_4 : decode cX3_init 4 = .ok (.aload_n 0, 1) := by decide +kernel
theorem dX3_init_5 : decode cX3_init 5 = .ok (.sipush 255, 3) := by decide +kernel
theorem dX3_init_8 : decode cX3_init 8 = .ok (.anewarray 9, 3) := by decide +kernel
theorem dX3_init_11 : decode cX3_init 11 = .ok (.putfield 11, 3) := by decide +kernel
theorem dX3_init_14 : decode cX3_init 14 = .ok (.return_, 1) := by decide +kernel
theorem dX3_rowOf_0 : decode cX3_rowOf 0 = .ok (.iload_n 1, 1) := by decide +kernel
theorem dX3_rowOf_1 : decode cX3_rowOf 1 = .ok (.ifCond .lt 29, 3) := by decide +kernel
theorem dX3_rowOf_4 : decode cX3_rowOf 4 = .ok (.iload_n 1, 1) := by decide +kernel
theorem dX3_rowOf_5 : decode cX3_rowOf 5 = .ok (.aload_n 0, 1) := by decide +kernel
theorem dX3_rowOf_6 : decode cX3_rowOf 6 = .ok (.getfield 17, 3) := by decide +kernel
theorem dX3_rowOf_9 : decode cX3_rowOf 9 = .ok (.if_icmp .ge 21, 3) := by decide +kernel
theorem dX3_rowOf_12 : decode cX3_rowOf 12 = .ok (.iload_n 1, 1) := by decide +kernel
theorem dX3_rowOf_13 : decode cX3_rowOf 13 = .ok (.aload_n 0, 1) := by decide +kernel
theorem dX3_rowOf_14 : decode cX3_rowOf 14 = .ok (.getfield 11, 3) := by decide +kernel
theorem dX3_rowOf_17 : decode cX3_rowOf 17 = .ok (.arraylength, 1) := by decide +kernel
theorem dX3_rowOf_18 : decode cX3_rowOf 18 = .ok (.if_icmp .ge 12, 3) := by decide +kernel
theorem dX3_rowOf_21 : decode cX3_rowOf 21 = .ok (.aload_n 0, 1) := by decide +kernel
theorem dX3_rowOf_22 : decode cX3_rowOf 22 = .ok (.getfield 11, 3) := by decide +kernel
theorem dX3_rowOf_25 : decode cX3_rowOf 25 = .ok (.iload_n 1, 1) := by decide +kernel
theorem dX3_rowOf_26 : decode cX3_rowOf 26 = .ok (.aaload, 1) := by decide +kernel
theorem dX3_rowOf_27 : decode cX3_rowOf 27 = .ok (.goto 4, 3) := by decide +kernel
theorem dX3_rowOf_30 : decode cX3_rowOf 30 = .ok (.aconst_null, 1) := by decide +kernel
theorem dX3_rowOf_31 : decode cX3_rowOf 31 = .ok (.areturn, 1) := by decide +kernel
set_option maxRecDepth 20000 in
theorem ggX3_build_X6_init : GoodIn wsX3_build wsX6_init := goodIn_r _ [9, 10, 11, 12, 13, 14, 125, 126] rfl (by decide +kernel)
set_option maxRecDepth 20000 in
theorem gX3_build_X6_init : GoodIn wsX3_build (wsX6_init) := ggX3_build_X6_init
set_option maxRecDepth 20000 in
theorem ggX3_build_X7_partEnd : GoodIn wsX3_build wsX7_partEnd := goodIn_r _ [19, 20, 21, 22, 18, 23, 24, 25, 26, 27, 28, 29, 30, 31, 32, 33, 34, 35, 36, 37, 38, 39, 40, 41, 42, 43, 44, 45, 46, 47, 48, 49, 50, 51, 52, 53, 54, 55, 56, 57, 58, 59, 60, 61, 62, 63, 64, 65, 66, 67, 68, 127, 128, 129, 130] rfl (by decide +kernel)
set_option maxRecDepth 20000 in
theorem gX3_build_X7_partEnd : GoodIn wsX3_build (wsV RX3 24 RX7 yX7_partEnd wsX7_partEnd) := goodIn_app (goodIn_of _ (by decide +kernel)) ggX3_build_X7_partEnd
set_option maxRecDepth 20000 in
theorem ggX3_build_X7_inAlphabet : GoodIn wsX3_build wsX7_inAlphabet := goodIn_r _ [23, 24, 127, 128, 129, 130] rfl (by decide +kernel)
set_option maxRecDepth 20000 in
theorem gX3_build_X7_inAlphabet : GoodIn wsX3_build (wsV RX3 33 RX7 yX7_inAlphabet wsX7_inAlphabet) := goodIn_app (goodIn_of _ (by decide +kernel)) ggX3_build_X7_inAlphabet
set_option maxRecDepth 20000 in
theorem ggX3_build_X3_writeSevens : GoodIn wsX3_build wsX3_writeSevens := goodIn_r _ [73, 74, 75, 76, 18, 77, 30, 31, 32, 33, 29, 34, 35, 36, 37, 38, 39, 40, 41, 42, 43, 44, 45, 46, 47, 48, 49, 50, 51, 52, 53, 54, 78, 79, 80, 81, 82, 83, 4, 84, 14, 85, 86, 87, 88, 89, 90, 91, 92, 93, 94, 95, 96, 97, 98, 99, 100, 101, 102, 103, 104, 105, 106, 107, 108, 109, 110, 111, 112, 113, 114, 115, 116, 127, 128, 129, 130, 125, 126] rfl (by decide +kernel)
set_option maxRecDepth 20000 in
theorem gX3_build_X3_writeSevens : GoodIn wsX3_build (va_wsS RX3 37 yX3_writeSevens wsX3_writeSevens) := goodIn_app (goodIn_of _ (by decide +kernel)) ggX3_build_X3_writeSevens
set_option maxRecDepth 20000 in
theorem ggX3_build_X3_writePairs : GoodIn wsX3_build wsX3_writePairs := goodIn_r _ [119, 81, 82, 83, 4, 84, 14, 85, 86, 87, 88, 89, 90, 91, 92, 93, 94, 95, 96, 97, 98, 99, 100, 101, 31, 32, 18, 33, 29, 34, 125, 126, 127, 128, 129, 130] rfl (by decide +kernel)
set_option maxRecDepth 20000 in
theorem gX3_build_X3_writePairs : GoodIn wsX3_build (va_wsS RX3 41 yX3_writePairs wsX3_writePairs) := goodIn_app (goodIn_of _ (by decide +kernel)) ggX3_build_X3_writePairs
set_option maxRecDepth 20000 in
theorem ggX3_build_X3_writeHeader : GoodIn wsX3_build wsX3_writeHeader := goodIn_r _ [122, 97, 98, 99, 4, 100, 92, 14, 125, 126] rfl (by decide +kernel)
set_option maxRecDepth 20000 in
theorem gX3_build_X3_writeHeader : GoodIn wsX3_build (va_wsS RX3 44 yX3_writeHeader wsX3_writeHeader) := goodIn_app (goodIn_of _ (by decide +kernel)) ggX3_build_X3_writeHeader
theorem dX3_build_0 : decode cX3_build 0 = .ok (.iconst 0, 1) := by decide +kernel
theorem dX3_build_1 : decode cX3_build 1 = .ok (.istore 4, 2) := by decide +kernel
theorem dX3_build_3 : decode cX3_build 3 = .ok (.iconst 0, 1) := by decide +kernel
theorem dX3_build_4 : decode cX3_build 4 = .ok (.istore 5, 2) := by decide +kernel
theorem dX3_build_6 : decode cX3_build 6 = .ok (.iload 5, 2) := by decide +kernel
theorem dX3_build_8 : decode cX3_build 8 = .ok (.iload_n 2, 1) := by decide +kernel
theorem dX3_build_9 : decode cX3_build 9 = .ok (.if_icmp .ge 147, 3) := by decide +kernel
theorem dX3_build_12 : decode cX3_build 12 = .ok (.iload 5, 2) := by decide +kernel
theorem dX3_build_14 : decode cX3_build 14 = .ok (.aload_n 0, 1) := by decide +kernel
theorem dX3_build_15 : decode cX3_build 15 = .ok (.getfield 11, 3) := by decide +kernel
theorem dX3_build_18 : decode cX3_build 18 = .ok (.arraylength, 1) := by decide +kernel
theorem dX3_build_19 : decode cX3_build 19 = .ok (.if_icmp .ge 137, 3) := by decide +kernel
theorem dX3_build_22 : decode cX3_build 22 = .ok (.aload_n 0, 1) := by decide +kernel
theorem dX3_build_23 : decode cX3_build 23 = .ok (.getfield 11, 3) := by decide +kernel
theorem dX3_build_26 : decode cX3_build 26 = .ok (.iload 5, 2) := by decide +kernel
theorem dX3_build_28 : decode cX3_build 28 = .ok (.aaload, 1) := by decide +kernel
theorem dX3_build_29 : decode cX3_build 29 = .ok (.ifnonnull 20, 3) := by decide +kernel
theorem dX3_build_32 : decode cX3_build 32 = .ok (.aload_n 0, 1) := by decide +kernel
theorem dX3_build_33 : decode cX3_build 33 = .ok (.getfield 11, 3) := by decide +kernel
theorem dX3_build_36 : decode cX3_build 36 = .ok (.iload 5, 2) := by decide +kernel
theorem dX3_build_38 : decode cX3_build 38 = .ok (.new 9, 3) := by decide +kernel
theorem dX3_build_41 : decode cX3_build 41 = .ok (.dup, 1) := by decide +kernel
theorem dX3_build_42 : decode cX3_build 42 = .ok (.sipush 142, 3) := by decide +kernel
theorem dX3_build_45 : decode cX3_build 45 = .ok (.invokespecial 21, 3) := by decide +kernel
theorem dX3_build_48 : decode cX3_build 48 = .ok (.aastore, 1) := by decide +kernel
theorem dX3_build_49 : decode cX3_build 49 = .ok (.iload_n 2, 1) := by decide +kernel
theorem dX3_build_50 : decode cX3_build 50 = .ok (.iconst 1, 1) := by decide +kernel
theorem dX3_build_51 : decode cX3_build 51 = .ok (.if_icmp .le 7, 3) := by decide +kernel
theorem dX3_build_54 : decode cX3_build 54 = .ok (.iconst 1, 1) := by decide +kernel
theorem dX3_build_55 : decode cX3_build 55 = .ok (.goto 4, 3) := by decide +kernel
theorem dX3_build_58 : decode cX3_build 58 = .ok (.iconst 0, 1) := by decide +kernel
theorem dX3_build_59 : decode cX3_build 59 = .ok (.istore 6, 2) := by decide +kernel
theorem dX3_build_61 : decode cX3_build 61 = .ok (.iload 6, 2) := by decide +kernel
theorem dX3_build_63 : decode cX3_build 63 = .ok (.ifCond .eq 12, 3) := by decide +kernel
theorem dX3_build_66 : decode cX3_build 66 = .ok (.aload_n 1, 1) := by decide +kernel
theorem dX3_build_67 : decode cX3_build 67 = .ok (.iload 4, 2) := by decide +kernel
theorem dX3_build_69 : decode cX3_build 69 = .ok (.invokevirtual 24, 3) := by decide +kernel
theorem dX3_build_72 : decode cX3_build 72 = .ok (.goto 7, 3) := by decide +kernel
theorem dX3_build_75 : decode cX3_build 75 = .ok (.aload_n 1, 1) := by decide +kernel
theorem dX3_build_76 : decode cX3_build 76 = .ok (.getfield 30, 3) := by decide +kernel
theorem dX3_build_79 : decode cX3_build 79 = .ok (.istore 7, 2) := by decide +kernel
theorem dX3_build_81 : decode cX3_build 81 = .ok (.aload_n 1, 1) := by decide +kernel
theorem dX3_build_82 : decode cX3_build 82 = .ok (.invokevirtual 33, 3) := by decide +kernel
theorem dX3_build_85 : decode cX3_build 85 = .ok (.ifCond .eq 23, 3) := by decide +kernel
theorem dX3_build_88 : decode cX3_build 88 = .ok (.aload_n 0, 1) := by decide +kernel
theorem dX3_build_89 : decode cX3_build 89 = .ok (.getfield 11, 3) := by decide +kernel
theorem dX3_build_92 : decode cX3_build 92 = .ok (.iload 5, 2) := by decide +kernel
theorem dX3_build_94 : decode cX3_build 94 = .ok (.aaload, 1) := by decide +kernel
theorem dX3_build_95 : decode cX3_build 95 = .ok (.aload_n 1, 1) := by decide +kernel
theorem dX3_build_96 : decode cX3_build 96 = .ok (.iload 4, 2) := by decide +kernel
theorem dX3_build_98 : decode cX3_build 98 = .ok (.iload 7, 2) := by decide +kernel
theorem dX3_build_100 : decode cX3_build 100 = .ok (.iload 6, 2) := by decide +kernel
theorem dX3_build_102 : decode cX3_build 102 = .ok (.invokestatic 37, 3) := by decide +kernel
theorem dX3_build_105 : decode cX3_build 105 = .ok (.goto 20, 3) := by decide +kernel
theorem dX3_build_108 : decode cX3_build 108 = .ok (.aload_n 0, 1) := by decide +kernel
theorem dX3_build_109 : decode cX3_build 109 = .ok (.getfield 11, 3) := by decide +kernel
theorem dX3_build_112 : decode cX3_build 112 = .ok (.iload 5, 2) := by decide +kernel
theorem dX3_build_114 : decode cX3_build 114 = .ok (.aaload, 1) := by decide +kernel
theorem dX3_build_115 : decode cX3_build 115 = .ok (.aload_n 1, 1) := by decide +kernel
theorem dX3_build_116 : decode cX3_build 116 = .ok (.iload 4, 2) := by decide +kernel
theorem dX3_build_118 : decode cX3_build 118 = .ok (.iload 7, 2) := by decide +kernel
theorem dX3_build_120 : decode cX3_build 120 = .ok (.iload 6, 2) := by decide +kernel
theorem dX3_build_122 : decode cX3_build 122 = .ok (.invokestatic 41, 3) := by decide +kernel
theorem dX3_build_125 : decode cX3_build 125 = .ok (.iload 6, 2) := by decide +kernel
theorem dX3_build_127 : decode cX3_build 127 = .ok (.ifCond .eq 19, 3) := by decide +kernel
theorem dX3_build_130 : decode cX3_build 130 = .ok (.aload_n 0, 1) := by decide +kernel
theorem dX3_build_131 : decode cX3_build 131 = .ok (.getfield 11, 3) := by decide +kernel
theorem dX3_build_134 : decode cX3_build 134 = .ok (.iload 5, 2) := by decide +kernel
theorem dX3_build_136 : decode cX3_build 136 = .ok (.aaload, 1) := by decide +kernel
theorem dX3_build_137 : decode cX3_build 137 = .ok (.iload_n 3, 1) := by decide +kernel
theorem dX3_build_138 : decode cX3_build 138 = .ok (.iload_n 2, 1) := by decide +kernel
theorem dX3_build_139 : decode cX3_build 139 = .ok (.iload 5, 2) := by decide +kernel
theorem dX3_build_141 : decode cX3_build 141 = .ok (.iconst 1, 1) := by decide +kernel
theorem dX3_build_142 : decode cX3_build 142 = .ok (.iadd, 1) := by decide +kernel
theorem dX3_build_143 : decode cX3_build 143 = .ok (.invokestatic 44, 3) := by decide +kernel
theorem dX3_build_146 : decode cX3_build 146 = .ok (.iload 7, 2) := by decide +kernel
theorem dX3_build_148 : decode cX3_build 148 = .ok (.istore 4, 2) := by decide +kernel
theorem dX3_build_150 : decode cX3_build 150 = .ok (.iinc 5 1, 3) := by decide +kernel
theorem dX3_build_153 : decode cX3_build 153 = .ok (.goto (-147), 3) := by decide +kernel
theorem dX3_build_156 : decode cX3_build 156 = .ok (.aload_n 0, 1) := by decide +kernel
theorem dX3_build_157 : decode cX3_build 157 = .ok (.iload_n 2, 1) := by decide +kernel
theorem dX3_build_158 : decode cX3_build 158 = .ok (.putfield 17, 3) := by decide +kernel
theorem dX3_build_161 : decode cX3_build 161 = .ok (.return_, 1) := by decide +kernel
set_option maxRecDepth 20000 in
theorem ggX3_writeSevens_X7_sevensBetween : GoodIn wsX3_writeSevens wsX7_sevensBetween := goodIn_r _ [5, 6, 7, 8, 4, 9, 10, 11, 12, 13, 14, 15, 16, 17, 18, 19, 20, 21, 22, 23, 24, 25, 26, 27, 28, 29, 30, 31, 73, 74, 75, 76] rfl (by decide +kernel)
set_option maxRecDepth 20000 in
theorem gX3_writeSevens_X7_sevensBetween : GoodIn wsX3_writeSevens (wsV RX3 48 RX7 yX7_sevensBetween wsX7_sevensBetween) := goodIn_app (goodIn_of _ (by decide +kernel)) ggX3_writeSevens_X7_sevensBetween
set_option maxRecDepth 20000 in
theorem ggX3_writeSevens_X8_bytesForSevens : GoodIn wsX3_writeSevens wsX8_bytesForSevens := goodIn_r _ [34] rfl (by decide +kernel)
set_option maxRecDepth 20000 in
theorem gX3_writeSevens_X8_bytesForSevens_n52 : GoodIn wsX3_writeSevens (wsX8_bytesForSevens) := ggX3_writeSevens_X8_bytesForSevens
set_option maxRecDepth 20000 in
theorem ggX3_writeSevens_X6_restart : GoodIn wsX3_writeSevens wsX6_restart := goodIn_r _ [39, 40, 41, 42, 43, 44, 45, 46, 47, 48, 49, 50, 51, 52, 77, 78] rfl (by decide +kernel)
set_option maxRecDepth 20000 in
theorem gX3_writeSevens_X6_restart : GoodIn wsX3_writeSevens (wsV RX3 55 RX6 yX6_restart wsX6_restart) := goodIn_app (goodIn_of _ (by decide +kernel)) ggX3_writeSevens_X6_restart
set_option maxRecDepth 20000 in
theorem ggX3_writeSevens_X6_setByte : GoodIn wsX3_writeSevens wsX6_setByte := goodIn_r _ [56, 48, 40, 77, 78] rfl (by decide +kernel)
set_option maxRecDepth 20000 in
theorem gX3_writeSevens_X6_setByte : GoodIn wsX3_writeSevens (wsV RX3 58 RX6 yX6_setByte wsX6_setByte) := goodIn_app (goodIn_of _ (by decide +kernel)) ggX3_writeSevens_X6_setByte
set_option maxRecDepth 20000 in
theorem ggX3_writeSevens_X7_unitAt : GoodIn wsX3_writeSevens wsX7_unitAt := goodIn_r _ [9, 10, 11, 73, 74, 75, 76] rfl (by decide +kernel)
set_option maxRecDepth 20000 in
theorem gX3_writeSevens_X7_unitAt : GoodIn wsX3_writeSevens (wsV RX3 62 RX7 yX7_unitAt wsX7_unitAt) := goodIn_app (goodIn_of _ (by decide +kernel)) ggX3_writeSevens_X7_unitAt
set_option maxRecDepth 20000 in
theorem ggX3_writeSevens_X0_plainSeven : GoodIn wsX3_writeSevens wsX0_plainSeven := goodIn_r _ [18, 19, 20, 21, 22, 14, 23, 24, 25, 26] rfl (by decide +kernel)
set_option maxRecDepth 20000 in
theorem gX3_writeSevens_X0_plainSeven : GoodIn wsX3_writeSevens (va_wsS RX3 65 yX0_plainSeven wsX0_plainSeven) := goodIn_app (goodIn_of _ (by decide +kernel)) ggX3_writeSevens_X0_plainSeven
set_option maxRecDepth 20000 in
theorem ggX3_writeSevens_X6_addSeven : GoodIn wsX3_writeSevens wsX6_addSeven := goodIn_r _ [62, 63, 64, 65, 38, 66, 45, 46, 43, 47, 67, 68, 69, 70, 48, 40, 71, 54, 55, 56, 77, 78] rfl (by decide +kernel)
set_option maxRecDepth 20000 in
theorem gX3_writeSevens_X6_addSeven : GoodIn wsX3_writeSevens (wsV RX3 70 RX6 yX6_addSeven wsX6_addSeven) := goodIn_app (goodIn_of _ (by decide +kernel)) ggX3_writeSevens_X6_addSeven
set_option maxRecDepth 20000 in
theorem ggX3_writeSevens_X0_escapedSeven : GoodIn wsX3_writeSevens wsX0_escapedSeven := goodIn_r _ [29, 30, 31, 24, 25, 14, 26] rfl (by decide +kernel)
set_option maxRecDepth 20000 in
theorem gX3_writeSevens_X0_escapedSeven : GoodIn wsX3_writeSevens (va_wsS RX3 73 yX0_escapedSeven wsX0_escapedSeven) := goodIn_app (goodIn_of _ (by decide +kernel)) ggX3_writeSevens_X0_escapedSeven
theorem dX3_writeSevens_0 : decode cX3_writeSevens 0 = .ok (.iload 4, 2) := by decide +kernel
theorem dX3_writeSevens_2 : decode cX3_writeSevens 2 = .ok (.ifCond .eq 8, 3) := by decide +kernel
theorem dX3_writeSevens_5 : decode cX3_writeSevens 5 = .ok (.bipush 7, 2) := by decide +kernel
theorem dX3_writeSevens_7 : decode cX3_writeSevens 7 = .ok (.goto 4, 3) := by decide +kernel
theorem dX3_writeSevens_10 : decode cX3_writeSevens 10 = .ok (.iconst 0, 1) := by decide +kernel
theorem dX3_writeSevens_11 : decode cX3_writeSevens 11 = .ok (.istore 5, 2) := by decide +kernel
theorem dX3_writeSevens_13 : decode cX3_writeSevens 13 = .ok (.iload 5, 2) := by decide +kernel
theorem dX3_writeSevens_15 : decode cX3_writeSevens 15 = .ok (.aload_n 1, 1) := by decide +kernel
theorem dX3_writeSevens_16 : decode cX3_writeSevens 16 = .ok (.iload_n 2, 1) := by decide +kernel
theorem dX3_writeSevens_17 : decode cX3_writeSevens 17 = .ok (.iload_n 3, 1) := by decide +kernel
theorem dX3_writeSevens_18 : decode cX3_writeSevens 18 = .ok (.invokevirtual 48, 3) := by decide +kernel
theorem dX3_writeSevens_21 : decode cX3_writeSevens 21 = .ok (.iadd, 1) := by decide +kernel
theorem dX3_writeSevens_22 : decode cX3_writeSevens 22 = .ok (.istore 6, 2) := by decide +kernel
theorem dX3_writeSevens_24 : decode cX3_writeSevens 24 = .ok (.aload_n 0, 1) := by decide +kernel
theorem dX3_writeSevens_25 : decode cX3_writeSevens 25 = .ok (.iconst 2, 1) := by decide +kernel
theorem dX3_writeSevens_26 : decode cX3_writeSevens 26 = .ok (.iload 6, 2) := by decide +kernel
theorem dX3_writeSevens_28 : decode cX3_writeSevens 28 = .ok (.invokestatic 52, 3) := by decide +kernel
theorem dX3_writeSevens_31 : decode cX3_writeSevens 31 = .ok (.iadd, 1) := by decide +kernel
theorem dX3_writeSevens_32 : decode cX3_writeSevens 32 = .ok (.invokevirtual 55, 3) := by decide +kernel
theorem dX3_writeSevens_35 : decode cX3_writeSevens 35 = .ok (.aload_n 0, 1) := by decide +kernel
theorem dX3_writeSevens_36 : decode cX3_writeSevens 36 = .ok (.iconst 0, 1) := by decide +kernel
theorem dX3_writeSevens_37 : decode cX3_writeSevens 37 = .ok (.iload 4, 2) := by decide +kernel
theorem dX3_writeSevens_39 : decode cX3_writeSevens 39 = .ok (.ifCond .eq 7, 3) := by decide +kernel
theorem dX3_writeSevens_42 : decode cX3_writeSevens 42 = .ok (.iconst 1, 1) := by decide +kernel
theorem dX3_writeSevens_43 : decode cX3_writeSevens 43 = .ok (.goto 4, 3) := by decide +kernel
theorem dX3_writeSevens_46 : decode cX3_writeSevens 46 = .ok (.iconst 0, 1) := by decide +kernel
theorem dX3_writeSevens_47 : decode cX3_writeSevens 47 = .ok (.invokevirtual 58, 3) := by decide +kernel
theorem dX3_writeSevens_50 : decode cX3_writeSevens 50 = .ok (.aload_n 0, 1) := by decide +kernel
theorem dX3_writeSevens_51 : decode cX3_writeSevens 51 = .ok (.iconst 1, 1) := by decide +kernel
theorem dX3_writeSevens_52 : decode cX3_writeSevens 52 = .ok (.iload 6, 2) := by decide +kernel
theorem dX3_writeSevens_54 : decode cX3_writeSevens 54 = .ok (.invokevirtual 58, 3) := by decide +kernel
theorem dX3_writeSevens_57 : decode cX3_writeSevens 57 = .ok (.iload_n 2, 1) := by decide +kernel
theorem dX3_writeSevens_58 : decode cX3_writeSevens 58 = .ok (.istore 7, 2) := by decide +kernel
theorem dX3_writeSevens_60 : decode cX3_writeSevens 60 = .ok (.iload 7, 2) := by decide +kernel
theorem dX3_writeSevens_62 : decode cX3_writeSevens 62 = .ok (.iload_n 3, 1) := by decide +kernel
theorem dX3_writeSevens_63 : decode cX3_writeSevens 63 = .ok (.if_icmp .ge 59, 3) := by decide +kernel
theorem dX3_writeSevens_66 : decode cX3_writeSevens 66 = .ok (.aload_n 1, 1) := by decide +kernel
theorem dX3_writeSevens_67 : decode cX3_writeSevens 67 = .ok (.iload 7, 2) := by decide +kernel
theorem dX3_writeSevens_69 : decode cX3_writeSevens 69 = .ok (.invokevirtual 62, 3) := by decide +kernel
theorem dX3_writeSevens_72 : decode cX3_writeSevens 72 = .ok (.istore 8, 2) := by decide +kernel
theorem dX3_writeSevens_74 : decode cX3_writeSevens 74 = .ok (.iload 8, 2) := by decide +kernel
theorem dX3_writeSevens_76 : decode cX3_writeSevens 76 = .ok (.invokestatic 65, 3) := by decide +kernel
theorem dX3_writeSevens_79 : decode cX3_writeSevens 79 = .ok (.istore 9, 2) := by decide +kernel
theorem dX3_writeSevens_81 : decode cX3_writeSevens 81 = .ok (.iload 9, 2) := by decide +kernel
theorem dX3_writeSevens_83 : decode cX3_writeSevens 83 = .ok (.iconst (-1), 1) := by decide +kernel
theorem dX3_writeSevens_84 : decode cX3_writeSevens 84 = .ok (.if_icmp .ne 21, 3) := by decide +kernel
theorem dX3_writeSevens_87 : decode cX3_writeSevens 87 = .ok (.aload_n 0, 1) := by decide +kernel
theorem dX3_writeSevens_88 : decode cX3_writeSevens 88 = .ok (.iload 5, 2) := by decide +kernel
theorem dX3_writeSevens_90 : decode cX3_writeSevens 90 = .ok (.bipush 27, 2) := by decide +kernel
theorem dX3_writeSevens_92 : decode cX3_writeSevens 92 = .ok (.invokevirtual 70, 3) := by decide +kernel
theorem dX3_writeSevens_95 : decode cX3_writeSevens 95 = .ok (.iinc 5 1, 3) := by decide +kernel
theorem dX3_writeSevens_98 : decode cX3_writeSevens 98 = .ok (.iload 8, 2) := by decide +kernel
theorem dX3_writeSevens_100 : decode cX3_writeSevens 100 = .ok (.invokestatic 73, 3) := by decide +kernel
theorem dX3_writeSevens_103 : decode cX3_writeSevens 103 = .ok (.istore 9, 2) := by decide +kernel
theorem dX3_writeSevens_105 : decode cX3_writeSevens 105 = .ok (.aload_n 0, 1) := by decide +kernel
theorem dX3_writeSevens_106 : decode cX3_writeSevens 106 = .ok (.iload 5, 2) := by decide +kernel
theorem dX3_writeSevens_108 : decode cX3_writeSevens 108 = .ok (.iload 9, 2) := by decide +kernel
theorem dX3_writeSevens_110 : decode cX3_writeSevens 110 = .ok (.invokevirtual 70, 3) := by decide +kernel
theorem dX3_writeSevens_113 : decode cX3_writeSevens 113 = .ok (.iinc 5 1, 3) := by decide +kernel
theorem dX3_writeSevens_116 : decode cX3_writeSevens 116 = .ok (.iinc 7 1, 3) := by decide +kernel
theorem dX3_writeSevens_119 : decode cX3_writeSevens 119 = .ok (.goto (-59), 3) := by decide +kernel
theorem dX3_writeSevens_122 : decode cX3_writeSevens 122 = .ok (.return_, 1) := by decide +kernel
set_option maxRecDepth 20000 in
theorem ggX3_writePairs_X6_restart : GoodIn wsX3_writePairs wsX6_restart := goodIn_r _ [5, 6, 7, 8, 9, 10, 11, 12, 13, 14, 15, 16, 17, 18, 30, 31] rfl (by decide +kernel)
set_option maxRecDepth 20000 in
theorem gX3_writePairs_X6_restart : GoodIn wsX3_writePairs (wsV RX3 55 RX6 yX6_restart wsX6_restart) := goodIn_app (goodIn_of _ (by decide +kernel)) ggX3_writePairs_X6_restart
set_option maxRecDepth 20000 in
theorem ggX3_writePairs_X6_setByte : GoodIn wsX3_writePairs wsX6_setByte := goodIn_r _ [22, 14, 6, 30, 31] rfl (by decide +kernel)
set_option maxRecDepth 20000 in
theorem gX3_writePairs_X6_setByte : GoodIn wsX3_writePairs (wsV RX3 58 RX6 yX6_setByte wsX6_setByte) := goodIn_app (goodIn_of _ (by decide +kernel)) ggX3_writePairs_X6_setByte
set_option maxRecDepth 20000 in
theorem ggX3_writePairs_X7_unitAt : GoodIn wsX3_writePairs wsX7_unitAt := goodIn_r _ [27, 28, 29, 32, 33, 34, 35] rfl (by decide +kernel)
set_option maxRecDepth 20000 in
theorem gX3_writePairs_X7_unitAt : GoodIn wsX3_writePairs (wsV RX3 62 RX7 yX7_unitAt wsX7_unitAt) := goodIn_app (goodIn_of _ (by decide +kernel)) ggX3_writePairs_X7_unitAt
theorem dX3_writePairs_0 : decode cX3_writePairs 0 = .ok (.iload 4, 2) := by decide +kernel
theorem dX3_writePairs_2 : decode cX3_writePairs 2 = .ok (.ifCond .eq 8, 3) := by decide +kernel
theorem dX3_writePairs_5 : decode cX3_writePairs 5 = .ok (.bipush 6, 2) := by decide +kernel
theorem dX3_writePairs_7 : decode cX3_writePairs 7 = .ok (.goto 4, 3) := by decide +kernel
theorem dX3_writePairs_10 : decode cX3_writePairs 10 = .ok (.iconst 0, 1) := by decide +kernel
theorem dX3_writePairs_11 : decode cX3_writePairs 11 = .ok (.istore 5, 2) := by decide +kernel
theorem dX3_writePairs_13 : decode cX3_writePairs 13 = .ok (.iload 5, 2) := by decide +kernel
theorem dX3_writePairs_15 : decode cX3_writePairs 15 = .ok (.iconst 2, 1) := by decide +kernel
theorem dX3_writePairs_16 : decode cX3_writePairs 16 = .ok (.iload_n 3, 1) := by decide +kernel
theorem dX3_writePairs_17 : decode cX3_writePairs 17 = .ok (.iload_n 2, 1) := by decide +kernel
theorem dX3_writePairs_18 : decode cX3_writePairs 18 = .ok (.isub, 1) := by decide +kernel
theorem dX3_writePairs_19 : decode cX3_writePairs 19 = .ok (.imul, 1) := by decide +kernel
theorem dX3_writePairs_20 : decode cX3_writePairs 20 = .ok (.iadd, 1) := by decide +kernel
theorem dX3_writePairs_21 : decode cX3_writePairs 21 = .ok (.istore 6, 2) := by decide +kernel
theorem dX3_writePairs_23 : decode cX3_writePairs 23 = .ok (.aload_n 0, 1) := by decide +kernel
theorem dX3_writePairs_24 : decode cX3_writePairs 24 = .ok (.iconst 2, 1) := by decide +kernel
theorem dX3_writePairs_25 : decode cX3_writePairs 25 = .ok (.iload 6, 2) := by decide +kernel
theorem dX3_writePairs_27 : decode cX3_writePairs 27 = .ok (.iadd, 1) := by decide +kernel
theorem dX3_writePairs_28 : decode cX3_writePairs 28 = .ok (.invokevirtual 55, 3) := by decide +kernel
theorem dX3_writePairs_31 : decode cX3_writePairs 31 = .ok (.aload_n 0, 1) := by decide +kernel
theorem dX3_writePairs_32 : decode cX3_writePairs 32 = .ok (.iconst 0, 1) := by decide +kernel
theorem dX3_writePairs_33 : decode cX3_writePairs 33 = .ok (.iload 4, 2) := by decide +kernel
theorem dX3_writePairs_35 : decode cX3_writePairs 35 = .ok (.ifCond .eq 7, 3) := by decide +kernel
theorem dX3_writePairs_38 : decode cX3_writePairs 38 = .ok (.iconst 5, 1) := by decide +kernel
theorem dX3_writePairs_39 : decode cX3_writePairs 39 = .ok (.goto 4, 3) := by decide +kernel
theorem dX3_writePairs_42 : decode cX3_writePairs 42 = .ok (.iconst 4, 1) := by decide +kernel
theorem dX3_writePairs_43 : decode cX3_writePairs 43 = .ok (.invokevirtual 58, 3) := by decide +kernel
theorem dX3_writePairs_46 : decode cX3_writePairs 46 = .ok (.aload_n 0, 1) := by decide +kernel
theorem dX3_writePairs_47 : decode cX3_writePairs 47 = .ok (.iconst 1, 1) := by decide +kernel
theorem dX3_writePairs_48 : decode cX3_writePairs 48 = .ok (.iload 6, 2) := by decide +kernel
theorem dX3_writePairs_50 : decode cX3_writePairs 50 = .ok (.invokevirtual 58, 3) := by decide +kernel
theorem dX3_writePairs_53 : decode cX3_writePairs 53 = .ok (.iload_n 2, 1) := by decide +kernel
theorem dX3_writePairs_54 : decode cX3_writePairs 54 = .ok (.istore 7, 2) := by decide +kernel
theorem dX3_writePairs_56 : decode cX3_writePairs 56 = .ok (.iload 7, 2) := by decide +kernel
theorem dX3_writePairs_58 : decode cX3_writePairs 58 = .ok (.iload_n 3, 1) := by decide +kernel
theorem dX3_writePairs_59 : decode cX3_writePairs 59 = .ok (.if_icmp .ge 49, 3) := by decide +kernel
theorem dX3_writePairs_62 : decode cX3_writePairs 62 = .ok (.aload_n 0, 1) := by decide +kernel
theorem dX3_writePairs_63 : decode cX3_writePairs 63 = .ok (.iconst 2, 1) := by decide +kernel
theorem dX3_writePairs_64 : decode cX3_writePairs 64 = .ok (.iload 5, 2) := by decide +kernel
theorem dX3_writePairs_66 : decode cX3_writePairs 66 = .ok (.iadd, 1) := by decide +kernel
theorem dX3_writePairs_67 : decode cX3_writePairs 67 = .ok (.aload_n 1, 1) := by decide +kernel
theorem dX3_writePairs_68 : decode cX3_writePairs 68 = .ok (.iload 7, 2) := by decide +kernel
theorem dX3_writePairs_70 : decode cX3_writePairs 70 = .ok (.invokevirtual 62, 3) := by decide +kernel
theorem dX3_writePairs_73 : decode cX3_writePairs 73 = .ok (.bipush 8, 2) := by decide +kernel
theorem dX3_writePairs_75 : decode cX3_writePairs 75 = .ok (.ishr, 1) := by decide +kernel
theorem dX3_writePairs_76 : decode cX3_writePairs 76 = .ok (.invokevirtual 58, 3) := by decide +kernel
theorem dX3_writePairs_79 : decode cX3_writePairs 79 = .ok (.aload_n 0, 1) := by decide +kernel
theorem dX3_writePairs_80 : decode cX3_writePairs 80 = .ok (.iconst 2, 1) := by decide +kernel
theorem dX3_writePairs_81 : decode cX3_writePairs 81 = .ok (.iload 5, 2) := by decide +kernel
theorem dX3_writePairs_83 : decode cX3_writePairs 83 = .ok (.iadd, 1) := by decide +kernel
theorem dX3_writePairs_84 : decode cX3_writePairs 84 = .ok (.iconst 1, 1) := by decide +kernel
theorem dX3_writePairs_85 : decode cX3_writePairs 85 = .ok (.iadd, 1) := by decide +kernel
theorem dX3_writePairs_86 : decode cX3_writePairs 86 = .ok (.aload_n 1, 1) := by decide +kernel
theorem dX3_writePairs_87 : decode cX3_writePairs 87 = .ok (.iload 7, 2) := by decide +kernel
theorem dX3_writePairs_89 : decode cX3_writePairs 89 = .ok (.invokevirtual 62, 3) := by decide +kernel
theorem dX3_writePairs_92 : decode cX3_writePairs 92 = .ok (.sipush 255, 3) := by decide +kernel
theorem dX3_writePairs_95 : decode cX3_writePairs 95 = .ok (.iand, 1) := by decide +kernel
theorem dX3_writePairs_96 : decode cX3_writePairs 96 = .ok (.invokevirtual 58, 3) := by decide +kernel
theorem dX3_writePairs_99 : decode cX3_writePairs 99 = .ok (.iinc 5 2, 3) := by decide +kernel
theorem dX3_writePairs_102 : decode cX3_writePairs 102 = .ok (.iinc 7 1, 3) := by decide +kernel
theorem dX3_writePairs_105 : decode cX3_writePairs 105 = .ok (.goto (-49), 3) := by decide +kernel
theorem dX3_writePairs_108 : decode cX3_writePairs 108 = .ok (.return_, 1) := by decide +kernel
set_option maxRecDepth 20000 in
theorem ggX3_writeHeader_X6_setByte : GoodIn wsX3_writeHeader wsX6_setByte := goodIn_r _ [5, 6, 7, 8, 9] rfl (by decide +kernel)
set_option maxRecDepth 20000 in
theorem gX3_writeHeader_X6_setByte : GoodIn wsX3_writeHeader (wsV RX3 58 RX6 yX6_setByte wsX6_setByte) := goodIn_app (goodIn_of _ (by decide +kernel)) ggX3_writeHeader_X6_setByte
theorem dX3_writeHeader_0 : decode cX3_writeHeader 0 = .ok (.aload_n 0, 1) := by decide +kernel
theorem dX3_writeHeader_1 : decode cX3_writeHeader 1 = .ok (.iconst 2, 1) := by decide +kernel
theorem dX3_writeHeader_2 : decode cX3_writeHeader 2 = .ok (.iconst 5, 1) := by decide +kernel
theorem dX3_writeHeader_3 : decode cX3_writeHeader 3 = .ok (.invokevirtual 58, 3) := by decide +kernel
theorem dX3_writeHeader_6 : decode cX3_writeHeader 6 = .ok (.aload_n 0, 1) := by decide +kernel
theorem dX3_writeHeader_7 : decode cX3_writeHeader 7 = .ok (.iconst 3, 1) := by decide +kernel
theorem dX3_writeHeader_8 : decode cX3_writeHeader 8 = .ok (.iconst 0, 1) := by decide +kernel
theorem dX3_writeHeader_9 : decode cX3_writeHeader 9 = .ok (.invokevirtual 58, 3) := by decide +kernel
theorem dX3_writeHeader_12 : decode cX3_writeHeader 12 = .ok (.aload_n 0, 1) := by decide +kernel
theorem dX3_writeHeader_13 : decode cX3_writeHeader 13 = .ok (.iconst 4, 1) := by decide +kernel
theorem dX3_writeHeader_14 : decode cX3_writeHeader 14 = .ok (.iconst 3, 1) := by decide +kernel
theorem dX3_writeHeader_15 : decode cX3_writeHeader 15 = .ok (.invokevirtual 58, 3) := by decide +kernel
theorem dX3_writeHeader_18 : decode cX3_writeHeader 18 = .ok (.aload_n 0, 1) := by decide +kernel
theorem dX3_writeHeader_19 : decode cX3_writeHeader 19 = .ok (.iconst 5, 1) := by decide +kernel
theorem dX3_writeHeader_20 : decode cX3_writeHeader 20 = .ok (.iload_n 1, 1) := by decide +kernel
theorem dX3_writeHeader_21 : decode cX3_writeHeader 21 = .ok (.invokevirtual 58, 3) := by decide +kernel
theorem dX3_writeHeader_24 : decode cX3_writeHeader 24 = .ok (.aload_n 0, 1) := by decide +kernel
theorem dX3_writeHeader_25 : decode cX3_writeHeader 25 = .ok (.bipush 6, 2) := by decide +kernel
theorem dX3_writeHeader_27 : decode cX3_writeHeader 27 = .ok (.iload_n 2, 1) := by decide +kernel
theorem dX3_writeHeader_28 : decode cX3_writeHeader 28 = .ok (.invokevirtual 58, 3) := by decide +kernel
theorem dX3_writeHeader_31 : decode cX3_writeHeader 31 = .ok (.aload_n 0, 1) := by decide +kernel
theorem dX3_writeHeader_32 : decode cX3_writeHeader 32 = .ok (.bipush 7, 2) := by decide +kernel
theorem dX3_writeHeader_34 : decode cX3_writeHeader 34 = .ok (.iload_n 3, 1) := by decide +kernel
theorem dX3_writeHeader_35 : decode cX3_writeHeader 35 = .ok (.invokevirtual 58, 3) := by decide +kernel
theorem dX3_writeHeader_38 : decode cX3_writeHeader 38 = .ok (.return_, 1) := by decide +kernel
theorem dX4_init_0 : decode cX4_init 0 = .ok (.aload_n 0, 1) := by decide +kernel
theorem dX4_init_1 : decode cX4_init 1 = .ok (.invokespecial 3, 3) := by decide +kernel
theorem dX4_init_4 : decode cX4_init 4 = .ok (.aload_n 0, 1) := by decide +kernel
theorem dX4_init_5 : decode cX4_init 5 = .ok (.sipush 160, 3) := by decide +kernel
theorem dX4_init_8 : decode cX4_init 8 = .ok (.newarray .int, 2) := by decide +kernel
theorem dX4_init_10 : decode cX4_init 10 = .ok (.putfield 9, 3) := by decide +kernel
theorem dX4_init_13 : decode cX4_init 13 = .ok (.return_, 1) := by decide +kernel
set_option maxRecDepth 20000 in
theorem ggX4_faultOf_X6_byteAt : GoodIn wsX4_faultOf wsX6_byteAt := goodIn_r _ [9, 10, 11, 44, 45] rfl (by decide +kernel)
set_option maxRecDepth 20000 in
theorem gX4_faultOf_X6_byteAt : GoodIn wsX4_faultOf (wsV RX4 21 RX6 yX6_byteAt wsX6_byteAt) := goodIn_app (goodIn_of _ (by decide +kernel)) ggX4_faultOf_X6_byteAt
set_option maxRecDepth 20000 in
theorem ggX4_faultOf_X4_isWrongSize : GoodIn wsX4_faultOf wsX4_isWrongSize := goodIn_r _ [16, 3, 4, 17, 18, 19, 46, 47, 48, 49, 50, 51, 52] rfl (by decide +kernel)
set_option maxRecDepth 20000 in
theorem gX4_faultOf_X4_isWrongSize : GoodIn wsX4_faultOf (wsV RX4 35 RX4 yX4_isWrongSize wsX4_isWrongSize) := goodIn_app (goodIn_of _ (by decide +kernel)) ggX4_faultOf_X4_isWrongSize
set_option maxRecDepth 20000 in
theorem ggX4_faultOf_X4_isWrongHeader : GoodIn wsX4_faultOf wsX4_isWrongHeader := goodIn_r _ [23, 4, 3, 24, 25, 26, 5, 6, 7, 8, 9, 10, 11, 46, 47, 48, 49, 50, 51, 52, 44, 45] rfl (by decide +kernel)
set_option maxRecDepth 20000 in
theorem gX4_faultOf_X4_isWrongHeader : GoodIn wsX4_faultOf (wsV RX4 39 RX4 yX4_isWrongHeader wsX4_isWrongHeader) := goodIn_app (goodIn_of _ (by decide +kernel)) ggX4_faultOf_X4_isWrongHeader
set_option maxRecDepth 20000 in
theorem ggX4_faultOf_X4_hasStrayBits : GoodIn wsX4_faultOf wsX4_hasStrayBits := goodIn_r _ [30, 2, 4, 31, 32, 33, 8, 34, 35, 36, 37, 38, 39, 40, 41, 42, 43, 6, 7, 9, 10, 11, 17, 18, 19, 46, 47, 48, 49, 50, 51, 52, 44, 45] rfl (by decide +kernel)
set_option maxRecDepth 20000 in
theorem gX4_faultOf_X4_hasStrayBits : GoodIn wsX4_faultOf (wsV RX4 43 RX4 yX4_hasStrayBits wsX4_hasStrayBits) := goodIn_app (goodIn_of _ (by decide +kernel)) ggX4_faultOf_X4_hasStrayBits
theorem dX4_faultOf_0 : decode cX4_faultOf 0 = .ok (.aload_n 1, 1) := by decide +kernel
theorem dX4_faultOf_1 : decode cX4_faultOf 1 = .ok (.getfield 15, 3) := by decide +kernel
theorem dX4_faultOf_4 : decode cX4_faultOf 4 = .ok (.iconst 2, 1) := by decide +kernel
theorem dX4_faultOf_5 : decode cX4_faultOf 5 = .ok (.if_icmp .ge 5, 3) := by decide +kernel
theorem dX4_faultOf_8 : decode cX4_faultOf 8 = .ok (.iconst (-1), 1) := by decide +kernel
theorem dX4_faultOf_9 : decode cX4_faultOf 9 = .ok (.ireturn, 1) := by decide +kernel
theorem dX4_faultOf_10 : decode cX4_faultOf 10 = .ok (.aload_n 1, 1) := by decide +kernel
theorem dX4_faultOf_11 : decode cX4_faultOf 11 = .ok (.iconst 0, 1) := by decide +kernel
theorem dX4_faultOf_12 : decode cX4_faultOf 12 = .ok (.invokevirtual 21, 3) := by decide +kernel
theorem dX4_faultOf_15 : decode cX4_faultOf 15 = .ok (.istore_n 2, 1) := by decide +kernel
theorem dX4_faultOf_16 : decode cX4_faultOf 16 = .ok (.iload_n 2, 1) := by decide +kernel
theorem dX4_faultOf_17 : decode cX4_faultOf 17 = .ok (.iload_n 2, 1) := by decide +kernel
theorem dX4_faultOf_18 : decode cX4_faultOf 18 = .ok (.iconst 5, 1) := by decide +kernel
theorem dX4_faultOf_19 : decode cX4_faultOf 19 = .ok (.iand, 1) := by decide +kernel
theorem dX4_faultOf_20 : decode cX4_faultOf 20 = .ok (.if_icmp .eq 6, 3) := by decide +kernel
theorem dX4_faultOf_23 : decode cX4_faultOf 23 = .ok (.bipush (-2), 2) := by decide +kernel
theorem dX4_faultOf_25 : decode cX4_faultOf 25 = .ok (.ireturn, 1) := by decide +kernel
theorem dX4_faultOf_26 : decode cX4_faultOf 26 = .ok (.aload_n 0, 1) := by decide +kernel
theorem dX4_faultOf_27 : decode cX4_faultOf 27 = .ok (.iload_n 2, 1) := by decide +kernel
theorem dX4_faultOf_28 : decode cX4_faultOf 28 = .ok (.iconst 1, 1) := by decide +kernel
theorem dX4_faultOf_29 : decode cX4_faultOf 29 = .ok (.iand, 1) := by decide +kernel
theorem dX4_faultOf_30 : decode cX4_faultOf 30 = .ok (.ifCond .eq 7, 3) := by decide +kernel
theorem dX4_faultOf_33 : decode cX4_faultOf 33 = .ok (.iconst 1, 1) := by decide +kernel
theorem dX4_faultOf_34 : decode cX4_faultOf 34 = .ok (.goto 4, 3) := by decide +kernel
theorem dX4_faultOf_37 : decode cX4_faultOf 37 = .ok (.iconst 0, 1) := by decide +kernel
theorem dX4_faultOf_38 : decode cX4_faultOf 38 = .ok (.putfield 25, 3) := by decide +kernel
theorem dX4_faultOf_41 : decode cX4_faultOf 41 = .ok (.aload_n 0, 1) := by decide +kernel
theorem dX4_faultOf_42 : decode cX4_faultOf 42 = .ok (.iload_n 2, 1) := by decide +kernel
theorem dX4_faultOf_43 : decode cX4_faultOf 43 = .ok (.iconst 4, 1) := by decide +kernel
theorem dX4_faultOf_44 : decode cX4_faultOf 44 = .ok (.iand, 1) := by decide +kernel
theorem dX4_faultOf_45 : decode cX4_faultOf 45 = .ok (.ifCond .eq 7, 3) := by decide +kernel
theorem dX4_faultOf_48 : decode cX4_faultOf 48 = .ok (.iconst 1, 1) := by decide +kernel
theorem dX4_faultOf_49 : decode cX4_faultOf 49 = .ok (.goto 4, 3) := by decide +kernel
theorem dX4_faultOf_52 : decode cX4_faultOf 52 = .ok (.iconst 0, 1) := by decide +kernel
theorem dX4_faultOf_53 : decode cX4_faultOf 53 = .ok (.putfield 29, 3) := by decide +kernel
theorem dX4_faultOf_56 : decode cX4_faultOf 56 = .ok (.aload_n 0, 1) := by decide +kernel
theorem dX4_faultOf_57 : decode cX4_faultOf 57 = .ok (.aload_n 1, 1) := by decide +kernel
theorem dX4_faultOf_58 : decode cX4_faultOf 58 = .ok (.iconst 1, 1) := by decide +kernel
theorem dX4_faultOf_59 : decode cX4_faultOf 59 = .ok (.invokevirtual 21, 3) := by decide +kernel
theorem dX4_faultOf_62 : decode cX4_faultOf 62 = .ok (.putfield 32, 3) := by decide +kernel
theorem dX4_faultOf_65 : decode cX4_faultOf 65 = .ok (.aload_n 0, 1) := by decide +kernel
theorem dX4_faultOf_66 : decode cX4_faultOf 66 = .ok (.aload_n 1, 1) := by decide +kernel
theorem dX4_faultOf_67 : decode cX4_faultOf 67 = .ok (.getfield 15, 3) := by decide +kernel
theorem dX4_faultOf_70 : decode cX4_faultOf 70 = .ok (.iconst 2, 1) := by decide +kernel
theorem dX4_faultOf_71 : decode cX4_faultOf 71 = .ok (.isub, 1) := by decide +kernel
theorem dX4_faultOf_72 : decode cX4_faultOf 72 = .ok (.invokevirtual 35, 3) := by decide +kernel
theorem dX4_faultOf_75 : decode cX4_faultOf 75 = .ok (.ifCond .eq 6, 3) := by decide +kernel
theorem dX4_faultOf_78 : decode cX4_faultOf 78 = .ok (.bipush (-3), 2) := by decide +kernel
theorem dX4_faultOf_80 : decode cX4_faultOf 80 = .ok (.ireturn, 1) := by decide +kernel
theorem dX4_faultOf_81 : decode cX4_faultOf 81 = .ok (.aload_n 0, 1) := by decide +kernel
theorem dX4_faultOf_82 : decode cX4_faultOf 82 = .ok (.getfield 25, 3) := by decide +kernel
theorem dX4_faultOf_85 : decode cX4_faultOf 85 = .ok (.ifCond .eq 14, 3) := by decide +kernel
theorem dX4_faultOf_88 : decode cX4_faultOf 88 = .ok (.aload_n 0, 1) := by decide +kernel
theorem dX4_faultOf_89 : decode cX4_faultOf 89 = .ok (.aload_n 1, 1) := by decide +kernel
theorem dX4_faultOf_90 : decode cX4_faultOf 90 = .ok (.invokevirtual 39, 3) := by decide +kernel
theorem dX4_faultOf_93 : decode cX4_faultOf 93 = .ok (.ifCond .eq 6, 3) := by decide +kernel
theorem dX4_faultOf_96 : decode cX4_faultOf 96 = .ok (.bipush (-4), 2) := by decide +kernel
theorem dX4_faultOf_98 : decode cX4_faultOf 98 = .ok (.ireturn, 1) := by decide +kernel
theorem dX4_faultOf_99 : decode cX4_faultOf 99 = .ok (.aload_n 0, 1) := by decide +kernel
theorem dX4_faultOf_100 : decode cX4_faultOf 100 = .ok (.getfield 29, 3) := by decide +kernel
theorem dX4_faultOf_103 : decode cX4_faultOf 103 = .ok (.ifCond .eq 15, 3) := by decide +kernel
theorem dX4_faultOf_106 : decode cX4_faultOf 106 = .ok (.aload_n 0, 1) := by decide +kernel
theorem dX4_faultOf_107 : decode cX4_faultOf 107 = .ok (.getfield 32, 3) := by decide +kernel
theorem dX4_faultOf_110 : decode cX4_faultOf 110 = .ok (.iconst 2, 1) := by decide +kernel
theorem dX4_faultOf_111 : decode cX4_faultOf 111 = .ok (.irem, 1) := by decide +kernel
theorem dX4_faultOf_112 : decode cX4_faultOf 112 = .ok (.ifCond .eq 6, 3) := by decide +kernel
theorem dX4_faultOf_115 : decode cX4_faultOf 115 = .ok (.bipush (-5), 2) := by decide +kernel
theorem dX4_faultOf_117 : decode cX4_faultOf 117 = .ok (.ireturn, 1) := by decide +kernel
theorem dX4_faultOf_118 : decode cX4_faultOf 118 = .ok (.aload_n 0, 1) := by decide +kernel
theorem dX4_faultOf_119 : decode cX4_faultOf 119 = .ok (.getfield 29, 3) := by decide +kernel
theorem dX4_faultOf_122 : decode cX4_faultOf 122 = .ok (.ifCond .ne 16, 3) := by decide +kernel
theorem dX4_faultOf_125 : decode cX4_faultOf 125 = .ok (.aload_n 0, 1) := by decide +kernel
theorem dX4_faultOf_126 : decode cX4_faultOf 126 = .ok (.aload_n 1, 1) := by decide +kernel
theorem dX4_faultOf_127 : decode cX4_faultOf 127 = .ok (.invokevirtual 43, 3) := by decide +kernel
theorem dX4_faultOf_130 : decode cX4_faultOf 130 = .ok (.ifCond .eq 8, 3) := by decide +kernel
theorem dX4_faultOf_133 : decode cX4_faultOf 133 = .ok (.bipush (-6), 2) := by decide +kernel
theorem dX4_faultOf_135 : decode cX4_faultOf 135 = .ok (.goto 4, 3) := by decide +kernel
theorem dX4_faultOf_138 : decode cX4_faultOf 138 = .ok (.iconst 0, 1) := by decide +kernel
theorem dX4_faultOf_139 : decode cX4_faultOf 139 = .ok (.ireturn, 1) := by decide +kernel
set_option maxRecDepth 20000 in
theorem ggX4_unitsOf_X4_collectPairs : GoodIn wsX4_unitsOf wsX4_collectPairs := goodIn_r _ [7, 8, 9, 2, 10, 11, 12, 13, 14, 15, 16, 70, 71, 72, 73, 74, 75, 76, 77, 78] rfl (by decide +kernel)
set_option maxRecDepth 20000 in
theorem gX4_unitsOf_X4_collectPairs : GoodIn wsX4_unitsOf (wsV RX4 46 RX4 yX4_collectPairs wsX4_collectPairs) := goodIn_app (goodIn_of _ (by decide +kernel)) ggX4_unitsOf_X4_collectPairs
set_option maxRecDepth 20000 in
theorem ggX4_unitsOf_X4_collectSevens : GoodIn wsX4_unitsOf wsX4_collectSevens := goodIn_r _ [20, 8, 9, 2, 21, 22, 23, 13, 24, 25, 26, 27, 28, 29, 30, 31, 32, 33, 11, 12, 14, 15, 16, 34, 35, 36, 37, 38, 39, 40, 41, 42, 43, 44, 45, 46, 47, 48, 49, 50, 51, 70, 71, 72, 73, 74, 75, 76, 77, 78] rfl (by decide +kernel)
set_option maxRecDepth 20000 in
theorem gX4_unitsOf_X4_collectSevens : GoodIn wsX4_unitsOf (wsV RX4 50 RX4 yX4_collectSevens wsX4_collectSevens) := goodIn_app (goodIn_of _ (by decide +kernel)) ggX4_unitsOf_X4_collectSevens
set_option maxRecDepth 20000 in
theorem ggX4_unitsOf_J7_copyOf_59c91 : GoodIn wsX4_unitsOf wsJ7_copyOf_59c91 := goodIn_r _ [55, 56, 57, 58, 59, 60, 61, 62, 63, 64, 31, 65, 66, 67, 68, 69] rfl (by decide +kernel)
set_option maxRecDepth 20000 in
theorem gX4_unitsOf_J7_copyOf_59c91 : GoodIn wsX4_unitsOf (va_wsS RX4 53 yJ7_copyOf_59c91 wsJ7_copyOf_59c91) := goodIn_app (goodIn_of _ (by decide +kernel)) ggX4_unitsOf_J7_copyOf_59c91
theorem dX4_unitsOf_0 : decode cX4_unitsOf 0 = .ok (.aload_n 0, 1) := by decide +kernel
theorem dX4_unitsOf_1 : decode cX4_unitsOf 1 = .ok (.getfield 29, 3) := by decide +kernel
theorem dX4_unitsOf_4 : decode cX4_unitsOf 4 = .ok (.ifCond .eq 11, 3) := by decide +kernel
theorem dX4_unitsOf_7 : decode cX4_unitsOf 7 = .ok (.aload_n 0, 1) := by decide +kernel
theorem dX4_unitsOf_8 : decode cX4_unitsOf 8 = .ok (.aload_n 1, 1) := by decide +kernel
theorem dX4_unitsOf_9 : decode cX4_unitsOf 9 = .ok (.invokevirtual 46, 3) := by decide +kernel
theorem dX4_unitsOf_12 : decode cX4_unitsOf 12 = .ok (.goto 8, 3) := by decide +kernel
theorem dX4_unitsOf_15 : decode cX4_unitsOf 15 = .ok (.aload_n 0, 1) := by decide +kernel
theorem dX4_unitsOf_16 : decode cX4_unitsOf 16 = .ok (.aload_n 1, 1) := by decide +kernel
theorem dX4_unitsOf_17 : decode cX4_unitsOf 17 = .ok (.invokevirtual 50, 3) := by decide +kernel
theorem dX4_unitsOf_20 : decode cX4_unitsOf 20 = .ok (.istore_n 2, 1) := by decide +kernel
theorem dX4_unitsOf_21 : decode cX4_unitsOf 21 = .ok (.aload_n 0, 1) := by decide +kernel
theorem dX4_unitsOf_22 : decode cX4_unitsOf 22 = .ok (.getfield 9, 3) := by decide +kernel
theorem dX4_unitsOf_25 : decode cX4_unitsOf 25 = .ok (.iload_n 2, 1) := by decide +kernel
theorem dX4_unitsOf_26 : decode cX4_unitsOf 26 = .ok (.invokestatic 53, 3) := by decide +kernel
theorem dX4_unitsOf_29 : decode cX4_unitsOf 29 = .ok (.areturn, 1) := by decide +kernel
set_option maxRecDepth 20000 in
theorem ggX4_isWrongSize_X8_bytesForSevens : GoodIn wsX4_isWrongSize wsX8_bytesForSevens := goodIn_r _ [5] rfl (by decide +kernel)
set_option maxRecDepth 20000 in
theorem gX4_isWrongSize_X8_bytesForSevens_n59 : GoodIn wsX4_isWrongSize (wsX8_bytesForSevens) := ggX4_isWrongSize_X8_bytesForSevens
theorem dX4_isWrongSize_0 : decode cX4_isWrongSize 0 = .ok (.aload_n 0, 1) := by decide +kernel
theorem dX4_isWrongSize_1 : decode cX4_isWrongSize 1 = .ok (.getfield 29, 3) := by decide +kernel
theorem dX4_isWrongSize_4 : decode cX4_isWrongSize 4 = .ok (.ifCond .eq 27, 3) := by decide +kernel
theorem dX4_isWrongSize_7 : decode cX4_isWrongSize 7 = .ok (.aload_n 0, 1) := by decide +kernel
theorem dX4_isWrongSize_8 : decode cX4_isWrongSize 8 = .ok (.getfield 32, 3) := by decide +kernel
theorem dX4_isWrongSize_11 : decode cX4_isWrongSize 11 = .ok (.sipush 140, 3) := by decide +kernel
theorem dX4_isWrongSize_14 : decode cX4_isWrongSize 14 = .ok (.if_icmp .gt 11, 3) := by decide +kernel
theorem dX4_isWrongSize_17 : decode cX4_isWrongSize 17 = .ok (.iload_n 1, 1) := by decide +kernel
theorem dX4_isWrongSize_18 : decode cX4_isWrongSize 18 = .ok (.aload_n 0, 1) := by decide +kernel
theorem dX4_isWrongSize_19 : decode cX4_isWrongSize 19 = .ok (.getfield 32, 3) := by decide +kernel
theorem dX4_isWrongSize_22 : decode cX4_isWrongSize 22 = .ok (.if_icmp .eq 7, 3) := by decide +kernel
theorem dX4_isWrongSize_25 : decode cX4_isWrongSize 25 = .ok (.iconst 1, 1) := by decide +kernel
theorem dX4_isWrongSize_26 : decode cX4_isWrongSize 26 = .ok (.goto 4, 3) := by decide +kernel
theorem dX4_isWrongSize_29 : decode cX4_isWrongSize 29 = .ok (.iconst 0, 1) := by decide +kernel
theorem dX4_isWrongSize_30 : decode cX4_isWrongSize 30 = .ok (.ireturn, 1) := by decide +kernel
theorem dX4_isWrongSize_31 : decode cX4_isWrongSize 31 = .ok (.aload_n 0, 1) := by decide +kernel
theorem dX4_isWrongSize_32 : decode cX4_isWrongSize 32 = .ok (.getfield 32, 3) := by decide +kernel
theorem dX4_isWrongSize_35 : decode cX4_isWrongSize 35 = .ok (.sipush 160, 3) := by decide +kernel
theorem dX4_isWrongSize_38 : decode cX4_isWrongSize 38 = .ok (.if_icmp .gt 14, 3) := by decide +kernel
theorem dX4_isWrongSize_41 : decode cX4_isWrongSize 41 = .ok (.iload_n 1, 1) := by decide +kernel
theorem dX4_isWrongSize_42 : decode cX4_isWrongSize 42 = .ok (.aload_n 0, 1) := by decide +kernel
theorem dX4_isWrongSize_43 : decode cX4_isWrongSize 43 = .ok (.getfield 32, 3) := by decide +kernel
theorem dX4_isWrongSize_46 : decode cX4_isWrongSize 46 = .ok (.invokestatic 59, 3) := by decide +kernel
theorem dX4_isWrongSize_49 : decode cX4_isWrongSize 49 = .ok (.if_icmp .eq 7, 3) := by decide +kernel
theorem dX4_isWrongSize_52 : decode cX4_isWrongSize 52 = .ok (.iconst 1, 1) := by decide +kernel
theorem dX4_isWrongSize_53 : decode cX4_isWrongSize 53 = .ok (.goto 4, 3) := by decide +kernel
theorem dX4_isWrongSize_56 : decode cX4_isWrongSize 56 = .ok (.iconst 0, 1) := by decide +kernel
theorem dX4_isWrongSize_57 : decode cX4_isWrongSize 57 = .ok (.ireturn, 1) := by decide +kernel
set_option maxRecDepth 20000 in
theorem ggX4_isWrongHeader_X6_byteAt : GoodIn wsX4_isWrongHeader wsX6_byteAt := goodIn_r _ [10, 11, 12, 20, 21] rfl (by decide +kernel)
set_option maxRecDepth 20000 in
theorem gX4_isWrongHeader_X6_byteAt : GoodIn wsX4_isWrongHeader (wsV RX4 21 RX6 yX6_byteAt wsX6_byteAt) := goodIn_app (goodIn_of _ (by decide +kernel)) ggX4_isWrongHeader_X6_byteAt
theorem dX4_isWrongHeader_0 : decode cX4_isWrongHeader 0 = .ok (.aload_n 0, 1) := by decide +kernel
theorem dX4_isWrongHeader_1 : decode cX4_isWrongHeader 1 = .ok (.getfield 32, 3) := by decide +kernel
theorem dX4_isWrongHeader_4 : decode cX4_isWrongHeader 4 = .ok (.aload_n 0, 1) := by decide +kernel
theorem dX4_isWrongHeader_5 : decode cX4_isWrongHeader 5 = .ok (.getfield 29, 3) := by decide +kernel
theorem dX4_isWrongHeader_8 : decode cX4_isWrongHeader 8 = .ok (.ifCond .eq 8, 3) := by decide +kernel
theorem dX4_isWrongHeader_11 : decode cX4_isWrongHeader 11 = .ok (.bipush 6, 2) := by decide +kernel
theorem dX4_isWrongHeader_13 : decode cX4_isWrongHeader 13 = .ok (.goto 5, 3) := by decide +kernel
theorem dX4_isWrongHeader_16 : decode cX4_isWrongHeader 16 = .ok (.bipush 7, 2) := by decide +kernel
theorem dX4_isWrongHeader_18 : decode cX4_isWrongHeader 18 = .ok (.if_icmp .ge 5, 3) := by decide +kernel
theorem dX4_isWrongHeader_21 : decode cX4_isWrongHeader 21 = .ok (.iconst 1, 1) := by decide +kernel
theorem dX4_isWrongHeader_22 : decode cX4_isWrongHeader 22 = .ok (.ireturn, 1) := by decide +kernel
theorem dX4_isWrongHeader_23 : decode cX4_isWrongHeader 23 = .ok (.aload_n 0, 1) := by decide +kernel
theorem dX4_isWrongHeader_24 : decode cX4_isWrongHeader 24 = .ok (.aload_n 1, 1) := by decide +kernel
theorem dX4_isWrongHeader_25 : decode cX4_isWrongHeader 25 = .ok (.iconst 5, 1) := by decide +kernel
theorem dX4_isWrongHeader_26 : decode cX4_isWrongHeader 26 = .ok (.invokevirtual 21, 3) := by decide +kernel
theorem dX4_isWrongHeader_29 : decode cX4_isWrongHeader 29 = .ok (.putfield 62, 3) := by decide +kernel
theorem dX4_isWrongHeader_32 : decode cX4_isWrongHeader 32 = .ok (.aload_n 0, 1) := by decide +kernel
theorem dX4_isWrongHeader_33 : decode cX4_isWrongHeader 33 = .ok (.aload_n 1, 1) := by decide +kernel
theorem dX4_isWrongHeader_34 : decode cX4_isWrongHeader 34 = .ok (.bipush 6, 2) := by decide +kernel
theorem dX4_isWrongHeader_36 : decode cX4_isWrongHeader 36 = .ok (.invokevirtual 21, 3) := by decide +kernel
theorem dX4_isWrongHeader_39 : decode cX4_isWrongHeader 39 = .ok (.putfield 65, 3) := by decide +kernel
theorem dX4_isWrongHeader_42 : decode cX4_isWrongHeader 42 = .ok (.aload_n 0, 1) := by decide +kernel
theorem dX4_isWrongHeader_43 : decode cX4_isWrongHeader 43 = .ok (.aload_n 1, 1) := by decide +kernel
theorem dX4_isWrongHeader_44 : decode cX4_isWrongHeader 44 = .ok (.bipush 7, 2) := by decide +kernel
theorem dX4_isWrongHeader_46 : decode cX4_isWrongHeader 46 = .ok (.invokevirtual 21, 3) := by decide +kernel
theorem dX4_isWrongHeader_49 : decode cX4_isWrongHeader 49 = .ok (.putfield 68, 3) := by decide +kernel
theorem dX4_isWrongHeader_52 : decode cX4_isWrongHeader 52 = .ok (.aload_n 1, 1) := by decide +kernel
theorem dX4_isWrongHeader_53 : decode cX4_isWrongHeader 53 = .ok (.iconst 2, 1) := by decide +kernel
theorem dX4_isWrongHeader_54 : decode cX4_isWrongHeader 54 = .ok (.invokevirtual 21, 3) := by decide +kernel
theorem dX4_isWrongHeader_57 : decode cX4_isWrongHeader 57 = .ok (.iconst 5, 1) := by decide +kernel
theorem dX4_isWrongHeader_58 : decode cX4_isWrongHeader 58 = .ok (.if_icmp .ne 24, 3) := by decide +kernel
theorem dX4_isWrongHeader_61 : decode cX4_isWrongHeader 61 = .ok (.aload_n 1, 1) := by decide +kernel
theorem dX4_isWrongHeader_62 : decode cX4_isWrongHeader 62 = .ok (.iconst 3, 1) := by decide +kernel
theorem dX4_isWrongHeader_63 : decode cX4_isWrongHeader 63 = .ok (.invokevirtual 21, 3) := by decide +kernel
theorem dX4_isWrongHeader_66 : decode cX4_isWrongHeader 66 = .ok (.ifCond .ne 16, 3) := by decide +kernel
theorem dX4_isWrongHeader_69 : decode cX4_isWrongHeader 69 = .ok (.aload_n 1, 1) := by decide +kernel
theorem dX4_isWrongHeader_70 : decode cX4_isWrongHeader 70 = .ok (.iconst 4, 1) := by decide +kernel
theorem dX4_isWrongHeader_71 : decode cX4_isWrongHeader 71 = .ok (.invokevirtual 21, 3) := by decide +kernel
theorem dX4_isWrongHeader_74 : decode cX4_isWrongHeader 74 = .ok (.iconst 3, 1) := by decide +kernel
theorem dX4_isWrongHeader_75 : decode cX4_isWrongHeader 75 = .ok (.if_icmp .ne 7, 3) := by decide +kernel
theorem dX4_isWrongHeader_78 : decode cX4_isWrongHeader 78 = .ok (.iconst 1, 1) := by decide +kernel
theorem dX4_isWrongHeader_79 : decode cX4_isWrongHeader 79 = .ok (.goto 4, 3) := by decide +kernel
theorem dX4_isWrongHeader_82 : decode cX4_isWrongHeader 82 = .ok (.iconst 0, 1) := by decide +kernel
theorem dX4_isWrongHeader_83 : decode cX4_isWrongHeader 83 = .ok (.istore_n 2, 1) := by decide +kernel
theorem dX4_isWrongHeader_84 : decode cX4_isWrongHeader 84 = .ok (.iload_n 2, 1) := by decide +kernel
theorem dX4_isWrongHeader_85 : decode cX4_isWrongHeader 85 = .ok (.ifCond .eq 28, 3) := by decide +kernel
theorem dX4_isWrongHeader_88 : decode cX4_isWrongHeader 88 = .ok (.aload_n 0, 1) := by decide +kernel
theorem dX4_isWrongHeader_89 : decode cX4_isWrongHeader 89 = .ok (.getfield 65, 3) := by decide +kernel
theorem dX4_isWrongHeader_92 : decode cX4_isWrongHeader 92 = .ok (.ifCond .eq 21, 3) := by decide +kernel
theorem dX4_isWrongHeader_95 : decode cX4_isWrongHeader 95 = .ok (.aload_n 0, 1) := by decide +kernel
theorem dX4_isWrongHeader_96 : decode cX4_isWrongHeader 96 = .ok (.getfield 68, 3) := by decide +kernel
theorem dX4_isWrongHeader_99 : decode cX4_isWrongHeader 99 = .ok (.ifCond .eq 14, 3) := by decide +kernel
theorem dX4_isWrongHeader_102 : decode cX4_isWrongHeader 102 = .ok (.aload_n 0, 1) := by decide +kernel
theorem dX4_isWrongHeader_103 : decode cX4_isWrongHeader 103 = .ok (.getfield 68, 3) := by decide +kernel
theorem dX4_isWrongHeader_106 : decode cX4_isWrongHeader 106 = .ok (.aload_n 0, 1) := by decide +kernel
theorem dX4_isWrongHeader_107 : decode cX4_isWrongHeader 107 = .ok (.getfield 65, 3) := by decide +kernel
theorem dX4_isWrongHeader_110 : decode cX4_isWrongHeader 110 = .ok (.if_icmp .le 7, 3) := by decide +kernel
theorem dX4_isWrongHeader_113 : decode cX4_isWrongHeader 113 = .ok (.iconst 1, 1) := by decide +kernel
theorem dX4_isWrongHeader_114 : decode cX4_isWrongHeader 114 = .ok (.goto 4, 3) := by decide +kernel
theorem dX4_isWrongHeader_117 : decode cX4_isWrongHeader 117 = .ok (.iconst 0, 1) := by decide +kernel
theorem dX4_isWrongHeader_118 : decode cX4_isWrongHeader 118 = .ok (.ireturn, 1) := by decide +kernel
set_option maxRecDepth 20000 in
theorem ggX4_hasStrayBits_X6_isBitSet : GoodIn wsX4_hasStrayBits wsX6_isBitSet := goodIn_r _ [7, 8, 9, 10, 6, 11, 12, 13, 14, 15, 16, 17, 18, 19, 20, 21, 32, 33] rfl (by decide +kernel)
set_option maxRecDepth 20000 in
theorem gX4_hasStrayBits_X6_isBitSet : GoodIn wsX4_hasStrayBits (wsV RX4 71 RX6 yX6_isBitSet wsX6_isBitSet) := goodIn_app (goodIn_of _ (by decide +kernel)) ggX4_hasStrayBits_X6_isBitSet
set_option maxRecDepth 20000 in
theorem ggX4_hasStrayBits_X8_bytesForSevens : GoodIn wsX4_hasStrayBits wsX8_bytesForSevens := goodIn_r _ [24] rfl (by decide +kernel)
set_option maxRecDepth 20000 in
theorem gX4_hasStrayBits_X8_bytesForSevens_n59 : GoodIn wsX4_hasStrayBits (wsX8_bytesForSevens) := ggX4_hasStrayBits_X8_bytesForSevens
theorem dX4_hasStrayBits_0 : decode cX4_hasStrayBits 0 = .ok (.aload_n 0, 1) := by decide +kernel
theorem dX4_hasStrayBits_1 : decode cX4_hasStrayBits 1 = .ok (.getfield 25, 3) := by decide +kernel
theorem dX4_hasStrayBits_4 : decode cX4_hasStrayBits 4 = .ok (.ifCond .eq 14, 3) := by decide +kernel
theorem dX4_hasStrayBits_7 : decode cX4_hasStrayBits 7 = .ok (.aload_n 1, 1) := by decide +kernel
theorem dX4_hasStrayBits_8 : decode cX4_hasStrayBits 8 = .ok (.bipush 48, 2) := by decide +kernel
theorem dX4_hasStrayBits_10 : decode cX4_hasStrayBits 10 = .ok (.invokevirtual 71, 3) := by decide +kernel
theorem dX4_hasStrayBits_13 : decode cX4_hasStrayBits 13 = .ok (.ifCond .eq 5, 3) := by decide +kernel
theorem dX4_hasStrayBits_16 : decode cX4_hasStrayBits 16 = .ok (.iconst 1, 1) := by decide +kernel
theorem dX4_hasStrayBits_17 : decode cX4_hasStrayBits 17 = .ok (.ireturn, 1) := by decide +kernel
theorem dX4_hasStrayBits_18 : decode cX4_hasStrayBits 18 = .ok (.bipush 8, 2) := by decide +kernel
theorem dX4_hasStrayBits_20 : decode cX4_hasStrayBits 20 = .ok (.aload_n 0, 1) := by decide +kernel
theorem dX4_hasStrayBits_21 : decode cX4_hasStrayBits 21 = .ok (.getfield 32, 3) := by decide +kernel
theorem dX4_hasStrayBits_24 : decode cX4_hasStrayBits 24 = .ok (.invokestatic 59, 3) := by decide +kernel
theorem dX4_hasStrayBits_27 : decode cX4_hasStrayBits 27 = .ok (.imul, 1) := by decide +kernel
theorem dX4_hasStrayBits_28 : decode cX4_hasStrayBits 28 = .ok (.istore_n 2, 1) := by decide +kernel
theorem dX4_hasStrayBits_29 : decode cX4_hasStrayBits 29 = .ok (.bipush 7, 2) := by decide +kernel
theorem dX4_hasStrayBits_31 : decode cX4_hasStrayBits 31 = .ok (.aload_n 0, 1) := by decide +kernel
theorem dX4_hasStrayBits_32 : decode cX4_hasStrayBits 32 = .ok (.getfield 32, 3) := by decide +kernel
theorem dX4_hasStrayBits_35 : decode cX4_hasStrayBits 35 = .ok (.imul, 1) := by decide +kernel
theorem dX4_hasStrayBits_36 : decode cX4_hasStrayBits 36 = .ok (.istore_n 3, 1) := by decide +kernel
theorem dX4_hasStrayBits_37 : decode cX4_hasStrayBits 37 = .ok (.iload_n 3, 1) := by decide +kernel
theorem dX4_hasStrayBits_38 : decode cX4_hasStrayBits 38 = .ok (.iload_n 2, 1) := by decide +kernel
theorem dX4_hasStrayBits_39 : decode cX4_hasStrayBits 39 = .ok (.if_icmp .ge 19, 3) := by decide +kernel
theorem dX4_hasStrayBits_42 : decode cX4_hasStrayBits 42 = .ok (.aload_n 1, 1) := by decide +kernel
theorem dX4_hasStrayBits_43 : decode cX4_hasStrayBits 43 = .ok (.iload_n 3, 1) := by decide +kernel
theorem dX4_hasStrayBits_44 : decode cX4_hasStrayBits 44 = .ok (.invokevirtual 71, 3) := by decide +kernel
theorem dX4_hasStrayBits_47 : decode cX4_hasStrayBits 47 = .ok (.ifCond .eq 5, 3) := by decide +kernel
theorem dX4_hasStrayBits_50 : decode cX4_hasStrayBits 50 = .ok (.iconst 1, 1) := by decide +kernel
theorem dX4_hasStrayBits_51 : decode cX4_hasStrayBits 51 = .ok (.ireturn, 1) := by decide +kernel
theorem dX4_hasStrayBits_52 : decode cX4_hasStrayBits 52 = .ok (.iinc 3 1, 3) := by decide +kernel
theorem dX4_hasStrayBits_55 : decode cX4_hasStrayBits 55 = .ok (.goto (-18), 3) := by decide +kernel
theorem dX4_hasStrayBits_58 : decode cX4_hasStrayBits 58 = .ok (.iconst 0, 1) := by decide +kernel
theorem dX4_hasStrayBits_59 : decode cX4_hasStrayBits 59 = .ok (.ireturn, 1) := by decide +kernel
set_option maxRecDepth 20000 in
theorem ggX4_collectPairs_X6_byteAt : GoodIn wsX4_collectPairs wsX6_byteAt := goodIn_r _ [8, 9, 10, 18, 19] rfl (by decide +kernel)
set_option maxRecDepth 20000 in
theorem gX4_collectPairs_X6_byteAt : GoodIn wsX4_collectPairs (wsV RX4 21 RX6 yX6_byteAt wsX6_byteAt) := goodIn_app (goodIn_of _ (by decide +kernel)) ggX4_collectPairs_X6_byteAt
theorem dX4_collectPairs_0 : decode cX4_collectPairs 0 = .ok (.iconst 0, 1) := by decide +kernel
theorem dX4_collectPairs_1 : decode cX4_collectPairs 1 = .ok (.istore_n 2, 1) := by decide +kernel
theorem dX4_collectPairs_2 : decode cX4_collectPairs 2 = .ok (.aload_n 0, 1) := by decide +kernel
theorem dX4_collectPairs_3 : decode cX4_collectPairs 3 = .ok (.getfield 25, 3) := by decide +kernel
theorem dX4_collectPairs_6 : decode cX4_collectPairs 6 = .ok (.ifCond .eq 8, 3) := by decide +kernel
theorem dX4_collectPairs_9 : decode cX4_collectPairs 9 = .ok (.bipush 6, 2) := by decide +kernel
theorem dX4_collectPairs_11 : decode cX4_collectPairs 11 = .ok (.goto 4, 3) := by decide +kernel
theorem dX4_collectPairs_14 : decode cX4_collectPairs 14 = .ok (.iconst 0, 1) := by decide +kernel
theorem dX4_collectPairs_15 : decode cX4_collectPairs 15 = .ok (.istore_n 3, 1) := by decide +kernel
theorem dX4_collectPairs_16 : decode cX4_collectPairs 16 = .ok (.iload_n 3, 1) := by decide +kernel
theorem dX4_collectPairs_17 : decode cX4_collectPairs 17 = .ok (.iconst 1, 1) := by decide +kernel
theorem dX4_collectPairs_18 : decode cX4_collectPairs 18 = .ok (.iadd, 1) := by decide +kernel
theorem dX4_collectPairs_19 : decode cX4_collectPairs 19 = .ok (.aload_n 0, 1) := by decide +kernel
theorem dX4_collectPairs_20 : decode cX4_collectPairs 20 = .ok (.getfield 32, 3) := by decide +kernel
theorem dX4_collectPairs_23 : decode cX4_collectPairs 23 = .ok (.if_icmp .ge 47, 3) := by decide +kernel
theorem dX4_collectPairs_26 : decode cX4_collectPairs 26 = .ok (.iload_n 2, 1) := by decide +kernel
theorem dX4_collectPairs_27 : decode cX4_collectPairs 27 = .ok (.aload_n 0, 1) := by decide +kernel
theorem dX4_collectPairs_28 : decode cX4_collectPairs 28 = .ok (.getfield 9, 3) := by decide +kernel
theorem dX4_collectPairs_31 : decode cX4_collectPairs 31 = .ok (.arraylength, 1) := by decide +kernel
theorem dX4_collectPairs_32 : decode cX4_collectPairs 32 = .ok (.if_icmp .ge 38, 3) := by decide +kernel
theorem dX4_collectPairs_35 : decode cX4_collectPairs 35 = .ok (.aload_n 0, 1) := by decide +kernel
theorem dX4_collectPairs_36 : decode cX4_collectPairs 36 = .ok (.getfield 9, 3) := by decide +kernel
theorem dX4_collectPairs_39 : decode cX4_collectPairs 39 = .ok (.iload_n 2, 1) := by decide +kernel
theorem dX4_collectPairs_40 : decode cX4_collectPairs 40 = .ok (.aload_n 1, 1) := by decide +kernel
theorem dX4_collectPairs_41 : decode cX4_collectPairs 41 = .ok (.iconst 2, 1) := by decide +kernel
theorem dX4_collectPairs_42 : decode cX4_collectPairs 42 = .ok (.iload_n 3, 1) := by decide +kernel
theorem dX4_collectPairs_43 : decode cX4_collectPairs 43 = .ok (.iadd, 1) := by decide +kernel
theorem dX4_collectPairs_44 : decode cX4_collectPairs 44 = .ok (.invokevirtual 21, 3) := by decide +kernel
theorem dX4_collectPairs_47 : decode cX4_collectPairs 47 = .ok (.bipush 8, 2) := by decide +kernel
theorem dX4_collectPairs_49 : decode cX4_collectPairs 49 = .ok (.ishl, 1) := by decide +kernel
theorem dX4_collectPairs_50 : decode cX4_collectPairs 50 = .ok (.aload_n 1, 1) := by decide +kernel
theorem dX4_collectPairs_51 : decode cX4_collectPairs 51 = .ok (.iconst 2, 1) := by decide +kernel
theorem dX4_collectPairs_52 : decode cX4_collectPairs 52 = .ok (.iload_n 3, 1) := by decide +kernel
theorem dX4_collectPairs_53 : decode cX4_collectPairs 53 = .ok (.iadd, 1) := by decide +kernel
theorem dX4_collectPairs_54 : decode cX4_collectPairs 54 = .ok (.iconst 1, 1) := by decide +kernel
theorem dX4_collectPairs_55 : decode cX4_collectPairs 55 = .ok (.iadd, 1) := by decide +kernel
theorem dX4_collectPairs_56 : decode cX4_collectPairs 56 = .ok (.invokevirtual 21, 3) := by decide +kernel
theorem dX4_collectPairs_59 : decode cX4_collectPairs 59 = .ok (.ior, 1) := by decide +kernel
theorem dX4_collectPairs_60 : decode cX4_collectPairs 60 = .ok (.iastore, 1) := by decide +kernel
theorem dX4_collectPairs_61 : decode cX4_collectPairs 61 = .ok (.iinc 2 1, 3) := by decide +kernel
theorem dX4_collectPairs_64 : decode cX4_collectPairs 64 = .ok (.iinc 3 2, 3) := by decide +kernel
theorem dX4_collectPairs_67 : decode cX4_collectPairs 67 = .ok (.goto (-51), 3) := by decide +kernel
theorem dX4_collectPairs_70 : decode cX4_collectPairs 70 = .ok (.iload_n 2, 1) := by decide +kernel
theorem dX4_collectPairs_71 : decode cX4_collectPairs 71 = .ok (.ireturn, 1) := by decide +kernel
set_option maxRecDepth 20000 in
theorem ggX4_collectSevens_X6_sevenAt : GoodIn wsX4_collectSevens wsX6_sevenAt := goodIn_r _ [8, 9, 10, 11, 7, 12, 13, 14, 15, 16, 17, 18, 19, 20, 21, 22, 48, 49] rfl (by decide +kernel)
set_option maxRecDepth 20000 in
theorem gX4_collectSevens_X6_sevenAt : GoodIn wsX4_collectSevens (wsV RX4 74 RX6 yX6_sevenAt wsX6_sevenAt) := goodIn_app (goodIn_of _ (by decide +kernel)) ggX4_collectSevens_X6_sevenAt
set_option maxRecDepth 20000 in
theorem ggX4_collectSevens_X0_escapedUnit : GoodIn wsX4_collectSevens wsX0_escapedUnit := goodIn_r _ [26, 27, 28, 29, 30, 25, 31, 32, 33, 34, 35, 36, 37, 38, 39] rfl (by decide +kernel)
set_option maxRecDepth 20000 in
theorem gX4_collectSevens_X0_escapedUnit : GoodIn wsX4_collectSevens (va_wsS RX4 79 yX0_escapedUnit wsX0_escapedUnit) := goodIn_app (goodIn_of _ (by decide +kernel)) ggX4_collectSevens_X0_escapedUnit
set_option maxRecDepth 20000 in
theorem ggX4_collectSevens_X0_plainUnit : GoodIn wsX4_collectSevens wsX0_plainUnit := goodIn_r _ [34, 35, 36, 37, 38, 25, 39, 29, 30, 31] rfl (by decide +kernel)
set_option maxRecDepth 20000 in
theorem gX4_collectSevens_X0_plainUnit : GoodIn wsX4_collectSevens (va_wsS RX4 82 yX0_plainUnit wsX0_plainUnit) := goodIn_app (goodIn_of _ (by decide +kernel)) ggX4_collectSevens_X0_plainUnit
theorem dX4_collectSevens_0 : decode cX4_collectSevens 0 = .ok (.iconst 0, 1) := by decide +kernel
theorem dX4_collectSevens_1 : decode cX4_collectSevens 1 = .ok (.istore_n 2, 1) := by decide +kernel
theorem dX4_collectSevens_2 : decode cX4_collectSevens 2 = .ok (.aload_n 0, 1) := by decide +kernel
theorem dX4_collectSevens_3 : decode cX4_collectSevens 3 = .ok (.getfield 25, 3) := by decide +kernel
theorem dX4_collectSevens_6 : decode cX4_collectSevens 6 = .ok (.ifCond .eq 8, 3) := by decide +kernel
theorem dX4_collectSevens_9 : decode cX4_collectSevens 9 = .ok (.bipush 7, 2) := by decide +kernel
theorem dX4_collectSevens_11 : decode cX4_collectSevens 11 = .ok (.goto 4, 3) := by decide +kernel
theorem dX4_collectSevens_14 : decode cX4_collectSevens 14 = .ok (.iconst 0, 1) := by decide +kernel
theorem dX4_collectSevens_15 : decode cX4_collectSevens 15 = .ok (.istore_n 3, 1) := by decide +kernel
theorem dX4_collectSevens_16 : decode cX4_collectSevens 16 = .ok (.iload_n 3, 1) := by decide +kernel
theorem dX4_collectSevens_17 : decode cX4_collectSevens 17 = .ok (.aload_n 0, 1) := by decide +kernel
theorem dX4_collectSevens_18 : decode cX4_collectSevens 18 = .ok (.getfield 32, 3) := by decide +kernel
theorem dX4_collectSevens_21 : decode cX4_collectSevens 21 = .ok (.if_icmp .ge 78, 3) := by decide +kernel
theorem dX4_collectSevens_24 : decode cX4_collectSevens 24 = .ok (.iload_n 2, 1) := by decide +kernel
theorem dX4_collectSevens_25 : decode cX4_collectSevens 25 = .ok (.aload_n 0, 1) := by decide +kernel
theorem dX4_collectSevens_26 : decode cX4_collectSevens 26 = .ok (.getfield 9, 3) := by decide +kernel
theorem dX4_collectSevens_29 : decode cX4_collectSevens 29 = .ok (.arraylength, 1) := by decide +kernel
theorem dX4_collectSevens_30 : decode cX4_collectSevens 30 = .ok (.if_icmp .ge 69, 3) := by decide +kernel
theorem dX4_collectSevens_33 : decode cX4_collectSevens 33 = .ok (.aload_n 1, 1) := by decide +kernel
theorem dX4_collectSevens_34 : decode cX4_collectSevens 34 = .ok (.iload_n 3, 1) := by decide +kernel
theorem dX4_collectSevens_35 : decode cX4_collectSevens 35 = .ok (.invokevirtual 74, 3) := by decide +kernel
theorem dX4_collectSevens_38 : decode cX4_collectSevens 38 = .ok (.istore 4, 2) := by decide +kernel
theorem dX4_collectSevens_40 : decode cX4_collectSevens 40 = .ok (.iload 4, 2) := by decide +kernel
theorem dX4_collectSevens_42 : decode cX4_collectSevens 42 = .ok (.bipush 27, 2) := by decide +kernel
theorem dX4_collectSevens_44 : decode cX4_collectSevens 44 = .ok (.if_icmp .ne 35, 3) := by decide +kernel
theorem dX4_collectSevens_47 : decode cX4_collectSevens 47 = .ok (.iinc 3 1, 3) := by decide +kernel
theorem dX4_collectSevens_50 : decode cX4_collectSevens 50 = .ok (.aload_n 0, 1) := by decide +kernel
theorem dX4_collectSevens_51 : decode cX4_collectSevens 51 = .ok (.getfield 9, 3) := by decide +kernel
theorem dX4_collectSevens_54 : decode cX4_collectSevens 54 = .ok (.iload_n 2, 1) := by decide +kernel
theorem dX4_collectSevens_55 : decode cX4_collectSevens 55 = .ok (.iload_n 3, 1) := by decide +kernel
theorem dX4_collectSevens_56 : decode cX4_collectSevens 56 = .ok (.aload_n 0, 1) := by decide +kernel
theorem dX4_collectSevens_57 : decode cX4_collectSevens 57 = .ok (.getfield 32, 3) := by decide +kernel
theorem dX4_collectSevens_60 : decode cX4_collectSevens 60 = .ok (.if_icmp .ge 11, 3) := by decide +kernel
theorem dX4_collectSevens_63 : decode cX4_collectSevens 63 = .ok (.aload_n 1, 1) := by decide +kernel
theorem dX4_collectSevens_64 : decode cX4_collectSevens 64 = .ok (.iload_n 3, 1) := by decide +kernel
theorem dX4_collectSevens_65 : decode cX4_collectSevens 65 = .ok (.invokevirtual 74, 3) := by decide +kernel
theorem dX4_collectSevens_68 : decode cX4_collectSevens 68 = .ok (.goto 4, 3) := by decide +kernel
theorem dX4_collectSevens_71 : decode cX4_collectSevens 71 = .ok (.iconst (-1), 1) := by decide +kernel
theorem dX4_collectSevens_72 : decode cX4_collectSevens 72 = .ok (.invokestatic 79, 3) := by decide +kernel
theorem dX4_collectSevens_75 : decode cX4_collectSevens 75 = .ok (.iastore, 1) := by decide +kernel
theorem dX4_collectSevens_76 : decode cX4_collectSevens 76 = .ok (.goto 14, 3) := by decide +kernel
theorem dX4_collectSevens_79 : decode cX4_collectSevens 79 = .ok (.aload_n 0, 1) := by decide +kernel
theorem dX4_collectSevens_80 : decode cX4_collectSevens 80 = .ok (.getfield 9, 3) := by decide +kernel
theorem dX4_collectSevens_83 : decode cX4_collectSevens 83 = .ok (.iload_n 2, 1) := by decide +kernel
theorem dX4_collectSevens_84 : decode cX4_collectSevens 84 = .ok (.iload 4, 2) := by decide +kernel
theorem dX4_collectSevens_86 : decode cX4_collectSevens 86 = .ok (.invokestatic 82, 3) := by decide +kernel
theorem dX4_collectSevens_89 : decode cX4_collectSevens 89 = .ok (.iastore, 1) := by decide +kernel
theorem dX4_collectSevens_90 : decode cX4_collectSevens 90 = .ok (.iinc 2 1, 3) := by decide +kernel
theorem dX4_collectSevens_93 : decode cX4_collectSevens 93 = .ok (.iinc 3 1, 3) := by decide +kernel
theorem dX4_collectSevens_96 : decode cX4_collectSevens 96 = .ok (.goto (-80), 3) := by decide +kernel
theorem dX4_collectSevens_99 : decode cX4_collectSevens 99 = .ok (.iload_n 2, 1) := by decide +kernel
theorem dX4_collectSevens_100 : decode cX4_collectSevens 100 = .ok (.ireturn, 1) := by decide +kernel
