set_option maxRecDepth 20000 in
theorem ggX8_init_X7_init : GoodIn wsX8_init wsX7_init := goodIn_r _ [22, 23, 2, 3, 24, 25, 49, 50, 51, 52] rfl (by decide +kernel)
set_option maxRecDepth 20000 in
theorem gX8_init_X7_init_n9 : GoodIn wsX8_init (wsX7_init) := ggX8_init_X7_init
set_option maxRecDepth 20000 in
theorem ggX8_init_X3_init : GoodIn wsX8_init wsX3_init := goodIn_r _ [27, 28, 2, 3, 29, 30, 58, 59] rfl (by decide +kernel)
set_option maxRecDepth 20000 in
theorem gX8_init_X3_init_n18 : GoodIn wsX8_init (wsX3_init) := ggX8_init_X3_init
set_option maxRecDepth 20000 in
theorem ggX8_init_X6_init : GoodIn wsX8_init wsX6_init := goodIn_r _ [33, 34, 2, 3, 24, 35, 60, 61] rfl (by decide +kernel)
set_option maxRecDepth 20000 in
theorem gX8_init_X6_init : GoodIn wsX8_init (wsX6_init) := ggX8_init_X6_init
set_option maxRecDepth 20000 in
theorem ggX8_init_X2_init : GoodIn wsX8_init wsX2_init := goodIn_r _ [37, 38, 2, 3, 39, 40, 41, 42, 43, 44, 45, 46, 47, 24, 48, 67, 68, 69, 70, 71, 72, 73, 62, 63, 64, 65, 66] rfl (by decide +kernel)
set_option maxRecDepth 20000 in
theorem gX8_init_X2_init_n34 : GoodIn wsX8_init (wsX2_init) := ggX8_init_X2_init
theorem dX8_init_0 : decode cX8_init 0 = .ok (.aload_n 0, 1) := by decide +kernel
theorem dX8_init_1 : decode cX8_init 1 = .ok (.invokespecial 1, 3) := by decide +kernel
theorem dX8_init_4 : decode cX8_init 4 = .ok (.aload_n 0, 1) := by decide +kernel
theorem dX8_init_5 : decode cX8_init 5 = .ok (.new 7, 3) := by decide +kernel
theorem dX8_init_8 : decode cX8_init 8 = .ok (.dup, 1) := by decide +kernel
theorem dX8_init_9 : decode cX8_init 9 = .ok (.invokespecial 9, 3) := by decide +kernel
theorem dX8_init_12 : decode cX8_init 12 = .ok (.putfield 10, 3) := by decide +kernel
theorem dX8_init_15 : decode cX8_init 15 = .ok (.aload_n 0, 1) := by decide +kernel
theorem dX8_init_16 : decode cX8_init 16 = .ok (.new 16, 3) := by decide +kernel
theorem dX8_init_19 : decode cX8_init 19 = .ok (.dup, 1) := by decide +kernel
theorem dX8_init_20 : decode cX8_init 20 = .ok (.invokespecial 18, 3) := by decide +kernel
theorem dX8_init_23 : decode cX8_init 23 = .ok (.putfield 19, 3) := by decide +kernel
theorem dX8_init_26 : decode cX8_init 26 = .ok (.aload_n 0, 1) := by decide +kernel
theorem dX8_init_27 : decode cX8_init 27 = .ok (.new 23, 3) := by decide +kernel
theorem dX8_init_30 : decode cX8_init 30 = .ok (.dup, 1) := by decide +kernel
theorem dX8_init_31 : decode cX8_init 31 = .ok (.sipush 200, 3) := by decide +kernel
theorem dX8_init_34 : decode cX8_init 34 = .ok (.invokespecial 25, 3) := by decide +kernel
theorem dX8_init_37 : decode cX8_init 37 = .ok (.putfield 28, 3) := by decide +kernel
theorem dX8_init_40 : decode cX8_init 40 = .ok (.aload_n 0, 1) := by decide +kernel
theorem dX8_init_41 : decode cX8_init 41 = .ok (.new 32, 3) := by decide +kernel
theorem dX8_init_44 : decode cX8_init 44 = .ok (.dup, 1) := by decide +kernel
theorem dX8_init_45 : decode cX8_init 45 = .ok (.invokespecial 34, 3) := by decide +kernel
theorem dX8_init_48 : decode cX8_init 48 = .ok (.putfield 35, 3) := by decide +kernel
theorem dX8_init_51 : decode cX8_init 51 = .ok (.aload_n 0, 1) := by decide +kernel
theorem dX8_init_52 : decode cX8_init 52 = .ok (.iconst 0, 1) := by decide +kernel
theorem dX8_init_53 : decode cX8_init 53 = .ok (.putfield 39, 3) := by decide +kernel
theorem dX8_init_56 : decode cX8_init 56 = .ok (.return_, 1) := by decide +kernel
set_option maxRecDepth 20000 in
theorem ggX8_put_X7_append : GoodIn wsX8_put wsX7_append := goodIn_r _ [12, 13, 14, 15, 16, 17, 18, 19, 20, 21, 22, 23, 24, 25, 26, 27, 28, 29, 30, 31, 32, 33, 34, 35, 36, 42, 43, 44, 45] rfl (by decide +kernel)
set_option maxRecDepth 20000 in
theorem gX8_put_X7_append : GoodIn wsX8_put (wsV RX8 59 RX7 yX7_append wsX7_append) := goodIn_app (goodIn_of _ (by decide +kernel)) ggX8_put_X7_append
theorem dX8_put_0 : decode cX8_put 0 = .ok (.iload_n 1, 1) := by decide +kernel
theorem dX8_put_1 : decode cX8_put 1 = .ok (.ifCond .lt 9, 3) := by decide +kernel
theorem dX8_put_4 : decode cX8_put 4 = .ok (.iload_n 1, 1) := by decide +kernel
theorem dX8_put_5 : decode cX8_put 5 = .ok (.ldc 43, 2) := by decide +kernel
theorem dX8_put_7 : decode cX8_put 7 = .ok (.if_icmp .le 13, 3) := by decide +kernel
theorem dX8_put_10 : decode cX8_put 10 = .ok (.new 44, 3) := by decide +kernel
theorem dX8_put_13 : decode cX8_put 13 = .ok (.dup, 1) := by decide +kernel
theorem dX8_put_14 : decode cX8_put 14 = .ok (.ldc 46, 2) := by decide +kernel
theorem dX8_put_16 : decode cX8_put 16 = .ok (.invokespecial 48, 3) := by decide +kernel
theorem dX8_put_19 : decode cX8_put 19 = .ok (.athrow, 1) := by decide +kernel
theorem dX8_put_20 : decode cX8_put 20 = .ok (.aload_n 0, 1) := by decide +kernel
theorem dX8_put_21 : decode cX8_put 21 = .ok (.getfield 10, 3) := by decide +kernel
theorem dX8_put_24 : decode cX8_put 24 = .ok (.getfield 51, 3) := by decide +kernel
theorem dX8_put_27 : decode cX8_put 27 = .ok (.sipush 3000, 3) := by decide +kernel
theorem dX8_put_30 : decode cX8_put 30 = .ok (.if_icmp .lt 13, 3) := by decide +kernel
theorem dX8_put_33 : decode cX8_put 33 = .ok (.new 54, 3) := by decide +kernel
theorem dX8_put_36 : decode cX8_put 36 = .ok (.dup, 1) := by decide +kernel
theorem dX8_put_37 : decode cX8_put 37 = .ok (.ldc 56, 2) := by decide +kernel
theorem dX8_put_39 : decode cX8_put 39 = .ok (.invokespecial 58, 3) := by decide +kernel
theorem dX8_put_42 : decode cX8_put 42 = .ok (.athrow, 1) := by decide +kernel
theorem dX8_put_43 : decode cX8_put 43 = .ok (.aload_n 0, 1) := by decide +kernel
theorem dX8_put_44 : decode cX8_put 44 = .ok (.getfield 10, 3) := by decide +kernel
theorem dX8_put_47 : decode cX8_put 47 = .ok (.iload_n 1, 1) := by decide +kernel
theorem dX8_put_48 : decode cX8_put 48 = .ok (.invokevirtual 59, 3) := by decide +kernel
theorem dX8_put_51 : decode cX8_put 51 = .ok (.aload_n 0, 1) := by decide +kernel
theorem dX8_put_52 : decode cX8_put 52 = .ok (.getfield 10, 3) := by decide +kernel
theorem dX8_put_55 : decode cX8_put 55 = .ok (.getfield 51, 3) := by decide +kernel
theorem dX8_put_58 : decode cX8_put 58 = .ok (.ireturn, 1) := by decide +kernel
set_option maxRecDepth 20000 in
theorem ggX8_clear_X7_empty : GoodIn wsX8_clear wsX7_empty := goodIn_r _ [7, 8, 9, 10, 16, 17, 18, 19] rfl (by decide +kernel)
set_option maxRecDepth 20000 in
theorem gX8_clear_X7_empty : GoodIn wsX8_clear (wsV RX8 62 RX7 yX7_empty wsX7_empty) := goodIn_app (goodIn_of _ (by decide +kernel)) ggX8_clear_X7_empty
theorem dX8_clear_0 : decode cX8_clear 0 = .ok (.aload_n 0, 1) := by decide +kernel
theorem dX8_clear_1 : decode cX8_clear 1 = .ok (.getfield 10, 3) := by decide +kernel
theorem dX8_clear_4 : decode cX8_clear 4 = .ok (.getfield 51, 3) := by decide +kernel
theorem dX8_clear_7 : decode cX8_clear 7 = .ok (.istore_n 1, 1) := by decide +kernel
theorem dX8_clear_8 : decode cX8_clear 8 = .ok (.aload_n 0, 1) := by decide +kernel
theorem dX8_clear_9 : decode cX8_clear 9 = .ok (.getfield 10, 3) := by decide +kernel
theorem dX8_clear_12 : decode cX8_clear 12 = .ok (.invokevirtual 62, 3) := by decide +kernel
theorem dX8_clear_15 : decode cX8_clear 15 = .ok (.iload_n 1, 1) := by decide +kernel
theorem dX8_clear_16 : decode cX8_clear 16 = .ok (.ireturn, 1) := by decide +kernel
set_option maxRecDepth 20000 in
theorem ggX8_about_X7_inAlphabet : GoodIn wsX8_about wsX7_inAlphabet := goodIn_r _ [17, 18, 89, 90, 91, 92] rfl (by decide +kernel)
set_option maxRecDepth 20000 in
theorem gX8_about_X7_inAlphabet : GoodIn wsX8_about (wsV RX8 65 RX7 yX7_inAlphabet wsX7_inAlphabet) := goodIn_app (goodIn_of _ (by decide +kernel)) ggX8_about_X7_inAlphabet
set_option maxRecDepth 20000 in
theorem ggX8_about_X7_partCount : GoodIn wsX8_about wsX7_partCount := goodIn_r _ [22, 23, 24, 25, 26, 16, 27, 28, 29, 14, 15, 17, 18, 30, 31, 32, 33, 34, 35, 36, 37, 38, 39, 40, 41, 42, 43, 44, 45, 46, 47, 48, 49, 50, 51, 52, 53, 54, 55, 56, 57, 58, 59, 60, 61, 62, 63, 64, 65, 66, 67, 68, 69, 70, 71, 72, 73, 74, 75, 76, 89, 90, 91, 92] rfl (by decide +kernel)
set_option maxRecDepth 20000 in
theorem gX8_about_X7_partCount : GoodIn wsX8_about (wsV RX8 72 RX7 yX7_partCount wsX7_partCount) := goodIn_app (goodIn_of _ (by decide +kernel)) ggX8_about_X7_partCount
set_option maxRecDepth 20000 in
theorem ggX8_about_X2_latestUnits : GoodIn wsX8_about wsX2_latestUnits := goodIn_r _ [81, 82, 83, 95, 96, 97, 98, 99, 102, 103, 104, 105, 106, 107] rfl (by decide +kernel)
set_option maxRecDepth 20000 in
theorem gX8_about_X2_latestUnits : GoodIn wsX8_about (wsV RX8 81 RX2 yX2_latestUnits wsX2_latestUnits) := goodIn_app (goodIn_of _ (by decide +kernel)) ggX8_about_X2_latestUnits
theorem dX8_about_0 : decode cX8_about 0 = .ok (.iload_n 1, 1) := by decide +kernel
theorem dX8_about_1 : decode cX8_about 1 = .ok (.tableswitch 122 0 7 #[47, 69, 77, 85, 90, 98, 106, 114], 47) := by decide +kernel
theorem dX8_about_48 : decode cX8_about 48 = .ok (.aload_n 0, 1) := by decide +kernel
theorem dX8_about_49 : decode cX8_about 49 = .ok (.getfield 10, 3) := by decide +kernel
theorem dX8_about_52 : decode cX8_about 52 = .ok (.invokevirtual 65, 3) := by decide +kernel
theorem dX8_about_55 : decode cX8_about 55 = .ok (.ifCond .eq 13, 3) := by decide +kernel
theorem dX8_about_58 : decode cX8_about 58 = .ok (.aload_n 0, 1) := by decide +kernel
theorem dX8_about_59 : decode cX8_about 59 = .ok (.getfield 10, 3) := by decide +kernel
theorem dX8_about_62 : decode cX8_about 62 = .ok (.getfield 69, 3) := by decide +kernel
theorem dX8_about_65 : decode cX8_about 65 = .ok (.goto 4, 3) := by decide +kernel
theorem dX8_about_68 : decode cX8_about 68 = .ok (.iconst (-1), 1) := by decide +kernel
theorem dX8_about_69 : decode cX8_about 69 = .ok (.ireturn, 1) := by decide +kernel
theorem dX8_about_70 : decode cX8_about 70 = .ok (.aload_n 0, 1) := by decide +kernel
theorem dX8_about_71 : decode cX8_about 71 = .ok (.getfield 10, 3) := by decide +kernel
theorem dX8_about_74 : decode cX8_about 74 = .ok (.invokevirtual 72, 3) := by decide +kernel
theorem dX8_about_77 : decode cX8_about 77 = .ok (.ireturn, 1) := by decide +kernel
theorem dX8_about_78 : decode cX8_about 78 = .ok (.aload_n 0, 1) := by decide +kernel
theorem dX8_about_79 : decode cX8_about 79 = .ok (.getfield 10, 3) := by decide +kernel
theorem dX8_about_82 : decode cX8_about 82 = .ok (.getfield 51, 3) := by decide +kernel
theorem dX8_about_85 : decode cX8_about 85 = .ok (.ireturn, 1) := by decide +kernel
theorem dX8_about_86 : decode cX8_about 86 = .ok (.aload_n 0, 1) := by decide +kernel
theorem dX8_about_87 : decode cX8_about 87 = .ok (.getfield 39, 3) := by decide +kernel
theorem dX8_about_90 : decode cX8_about 90 = .ok (.ireturn, 1) := by decide +kernel
theorem dX8_about_91 : decode cX8_about 91 = .ok (.aload_n 0, 1) := by decide +kernel
theorem dX8_about_92 : decode cX8_about 92 = .ok (.getfield 19, 3) := by decide +kernel
theorem dX8_about_95 : decode cX8_about 95 = .ok (.getfield 76, 3) := by decide +kernel
theorem dX8_about_98 : decode cX8_about 98 = .ok (.ireturn, 1) := by decide +kernel
theorem dX8_about_99 : decode cX8_about 99 = .ok (.aload_n 0, 1) := by decide +kernel
theorem dX8_about_100 : decode cX8_about 100 = .ok (.getfield 35, 3) := by decide +kernel
theorem dX8_about_103 : decode cX8_about 103 = .ok (.getfield 78, 3) := by decide +kernel
theorem dX8_about_106 : decode cX8_about 106 = .ok (.ireturn, 1) := by decide +kernel
theorem dX8_about_107 : decode cX8_about 107 = .ok (.aload_n 0, 1) := by decide +kernel
theorem dX8_about_108 : decode cX8_about 108 = .ok (.getfield 35, 3) := by decide +kernel
theorem dX8_about_111 : decode cX8_about 111 = .ok (.invokevirtual 81, 3) := by decide +kernel
theorem dX8_about_114 : decode cX8_about 114 = .ok (.ireturn, 1) := by decide +kernel
theorem dX8_about_115 : decode cX8_about 115 = .ok (.aload_n 0, 1) := by decide +kernel
theorem dX8_about_116 : decode cX8_about 116 = .ok (.getfield 28, 3) := by decide +kernel
theorem dX8_about_119 : decode cX8_about 119 = .ok (.getfield 84, 3) := by decide +kernel
theorem dX8_about_122 : decode cX8_about 122 = .ok (.ireturn, 1) := by decide +kernel
theorem dX8_about_123 : decode cX8_about 123 = .ok (.new 44, 3) := by decide +kernel
theorem dX8_about_126 : decode cX8_about 126 = .ok (.dup, 1) := by decide +kernel
theorem dX8_about_127 : decode cX8_about 127 = .ok (.ldc 87, 2) := by decide +kernel
theorem dX8_about_129 : decode cX8_about 129 = .ok (.invokespecial 48, 3) := by decide +kernel
theorem dX8_about_132 : decode cX8_about 132 = .ok (.athrow, 1) := by decide +kernel
set_option maxRecDepth 20000 in
theorem ggX8_make_X7_partCount : GoodIn wsX8_make wsX7_partCount := goodIn_r _ [10, 11, 12, 13, 14, 9, 15, 16, 17, 18, 19, 20, 21, 22, 23, 24, 25, 26, 27, 28, 29, 30, 31, 32, 33, 34, 35, 36, 37, 38, 39, 40, 41, 42, 43, 44, 45, 46, 47, 48, 49, 50, 51, 52, 53, 54, 55, 56, 57, 58, 59, 60, 61, 62, 63, 64, 65, 66, 67, 68, 147, 148, 149, 150] rfl (by decide +kernel)
set_option maxRecDepth 20000 in
theorem gX8_make_X7_partCount : GoodIn wsX8_make (wsV RX8 72 RX7 yX7_partCount wsX7_partCount) := goodIn_app (goodIn_of _ (by decide +kernel)) ggX8_make_X7_partCount
set_option maxRecDepth 20000 in
theorem ggX8_make_X3_build : GoodIn wsX8_make wsX3_build := goodIn_r _ [73, 74, 75, 76, 77, 78, 79, 80, 81, 82, 83, 84, 85, 86, 87, 88, 23, 24, 9, 25, 17, 18, 19, 20, 21, 26, 27, 28, 29, 11, 30, 31, 32, 33, 34, 35, 36, 37, 38, 39, 40, 41, 42, 43, 44, 45, 46, 47, 48, 49, 50, 51, 52, 53, 54, 55, 56, 57, 58, 59, 60, 61, 62, 63, 64, 65, 66, 67, 68, 89, 90, 91, 72, 92, 93, 94, 95, 96, 97, 98, 99, 100, 101, 102, 103, 104, 105, 106, 107, 108, 109, 110, 111, 112, 113, 114, 115, 116, 117, 118, 119, 120, 121, 122, 123, 124, 125, 126, 127, 128, 129, 130, 131, 132, 133, 134, 135, 136, 137, 138, 139, 140, 141, 151, 152, 153, 154, 147, 148, 149, 150] rfl (by decide +kernel)
set_option maxRecDepth 20000 in
theorem gX8_make_X3_build : GoodIn wsX8_make (wsV RX8 94 RX3 yX3_build wsX3_build) := goodIn_app (goodIn_of _ (by decide +kernel)) ggX8_make_X3_build
theorem dX8_make_0 : decode cX8_make 0 = .ok (.aload_n 0, 1) := by decide +kernel
theorem dX8_make_1 : decode cX8_make 1 = .ok (.getfield 10, 3) := by decide +kernel
theorem dX8_make_4 : decode cX8_make 4 = .ok (.invokevirtual 72, 3) := by decide +kernel
theorem dX8_make_7 : decode cX8_make 7 = .ok (.istore_n 1, 1) := by decide +kernel
theorem dX8_make_8 : decode cX8_make 8 = .ok (.iload_n 1, 1) := by decide +kernel
theorem dX8_make_9 : decode cX8_make 9 = .ok (.ifCond .ne 13, 3) := by decide +kernel
theorem dX8_make_12 : decode cX8_make 12 = .ok (.new 89, 3) := by decide +kernel
theorem dX8_make_15 : decode cX8_make 15 = .ok (.dup, 1) := by decide +kernel
theorem dX8_make_16 : decode cX8_make 16 = .ok (.ldc 91, 2) := by decide +kernel
theorem dX8_make_18 : decode cX8_make 18 = .ok (.invokespecial 93, 3) := by decide +kernel
theorem dX8_make_21 : decode cX8_make 21 = .ok (.athrow, 1) := by decide +kernel
theorem dX8_make_22 : decode cX8_make 22 = .ok (.aload_n 0, 1) := by decide +kernel
theorem dX8_make_23 : decode cX8_make 23 = .ok (.getfield 19, 3) := by decide +kernel
theorem dX8_make_26 : decode cX8_make 26 = .ok (.aload_n 0, 1) := by decide +kernel
theorem dX8_make_27 : decode cX8_make 27 = .ok (.getfield 10, 3) := by decide +kernel
theorem dX8_make_30 : decode cX8_make 30 = .ok (.iload_n 1, 1) := by decide +kernel
theorem dX8_make_31 : decode cX8_make 31 = .ok (.aload_n 0, 1) := by decide +kernel
theorem dX8_make_32 : decode cX8_make 32 = .ok (.getfield 39, 3) := by decide +kernel
theorem dX8_make_35 : decode cX8_make 35 = .ok (.invokevirtual 94, 3) := by decide +kernel
theorem dX8_make_38 : decode cX8_make 38 = .ok (.iload_n 1, 1) := by decide +kernel
theorem dX8_make_39 : decode cX8_make 39 = .ok (.iconst 1, 1) := by decide +kernel
theorem dX8_make_40 : decode cX8_make 40 = .ok (.if_icmp .le 17, 3) := by decide +kernel
theorem dX8_make_43 : decode cX8_make 43 = .ok (.aload_n 0, 1) := by decide +kernel
theorem dX8_make_44 : decode cX8_make 44 = .ok (.aload_n 0, 1) := by decide +kernel
theorem dX8_make_45 : decode cX8_make 45 = .ok (.getfield 39, 3) := by decide +kernel
theorem dX8_make_48 : decode cX8_make 48 = .ok (.iconst 1, 1) := by decide +kernel
theorem dX8_make_49 : decode cX8_make 49 = .ok (.iadd, 1) := by decide +kernel
theorem dX8_make_50 : decode cX8_make 50 = .ok (.sipush 256, 3) := by decide +kernel
theorem dX8_make_53 : decode cX8_make 53 = .ok (.irem, 1) := by decide +kernel
theorem dX8_make_54 : decode cX8_make 54 = .ok (.putfield 39, 3) := by decide +kernel
theorem dX8_make_57 : decode cX8_make 57 = .ok (.iload_n 1, 1) := by decide +kernel
theorem dX8_make_58 : decode cX8_make 58 = .ok (.ireturn, 1) := by decide +kernel
set_option maxRecDepth 20000 in
theorem ggX8_length_X3_rowOf : GoodIn wsX8_length wsX3_rowOf := goodIn_r _ [9, 10, 11, 19, 20] rfl (by decide +kernel)
set_option maxRecDepth 20000 in
theorem gX8_length_X3_rowOf : GoodIn wsX8_length (wsV RX8 98 RX3 yX3_rowOf wsX3_rowOf) := goodIn_app (goodIn_of _ (by decide +kernel)) ggX8_length_X3_rowOf
theorem dX8_length_0 : decode cX8_length 0 = .ok (.aload_n 0, 1) := by decide +kernel
theorem dX8_length_1 : decode cX8_length 1 = .ok (.getfield 19, 3) := by decide +kernel
theorem dX8_length_4 : decode cX8_length 4 = .ok (.iload_n 1, 1) := by decide +kernel
theorem dX8_length_5 : decode cX8_length 5 = .ok (.invokevirtual 98, 3) := by decide +kernel
theorem dX8_length_8 : decode cX8_length 8 = .ok (.astore_n 2, 1) := by decide +kernel
theorem dX8_length_9 : decode cX8_length 9 = .ok (.aload_n 2, 1) := by decide +kernel
theorem dX8_length_10 : decode cX8_length 10 = .ok (.ifnonnull 13, 3) := by decide +kernel
theorem dX8_length_13 : decode cX8_length 13 = .ok (.new 44, 3) := by decide +kernel
theorem dX8_length_16 : decode cX8_length 16 = .ok (.dup, 1) := by decide +kernel
theorem dX8_length_17 : decode cX8_length 17 = .ok (.ldc 102, 2) := by decide +kernel
theorem dX8_length_19 : decode cX8_length 19 = .ok (.invokespecial 48, 3) := by decide +kernel
theorem dX8_length_22 : decode cX8_length 22 = .ok (.athrow, 1) := by decide +kernel
theorem dX8_length_23 : decode cX8_length 23 = .ok (.aload_n 2, 1) := by decide +kernel
theorem dX8_length_24 : decode cX8_length 24 = .ok (.getfield 84, 3) := by decide +kernel
theorem dX8_length_27 : decode cX8_length 27 = .ok (.ireturn, 1) := by decide +kernel
set_option maxRecDepth 20000 in
theorem ggX8_byteOf_X3_rowOf : GoodIn wsX8_byteOf wsX3_rowOf := goodIn_r _ [8, 9, 10, 23, 24] rfl (by decide +kernel)
set_option maxRecDepth 20000 in
theorem gX8_byteOf_X3_rowOf : GoodIn wsX8_byteOf (wsV RX8 98 RX3 yX3_rowOf wsX3_rowOf) := goodIn_app (goodIn_of _ (by decide +kernel)) ggX8_byteOf_X3_rowOf
set_option maxRecDepth 20000 in
theorem ggX8_byteOf_X6_byteAt : GoodIn wsX8_byteOf wsX6_byteAt := goodIn_r _ [15, 16, 17, 25, 26] rfl (by decide +kernel)
set_option maxRecDepth 20000 in
theorem gX8_byteOf_X6_byteAt : GoodIn wsX8_byteOf (wsV RX8 104 RX6 yX6_byteAt wsX6_byteAt) := goodIn_app (goodIn_of _ (by decide +kernel)) ggX8_byteOf_X6_byteAt
theorem dX8_byteOf_0 : decode cX8_byteOf 0 = .ok (.aload_n 0, 1) := by decide +kernel
theorem dX8_byteOf_1 : decode cX8_byteOf 1 = .ok (.getfield 19, 3) := by decide +kernel
theorem dX8_byteOf_4 : decode cX8_byteOf 4 = .ok (.iload_n 1, 1) := by decide +kernel
theorem dX8_byteOf_5 : decode cX8_byteOf 5 = .ok (.invokevirtual 98, 3) := by decide +kernel
theorem dX8_byteOf_8 : decode cX8_byteOf 8 = .ok (.astore_n 3, 1) := by decide +kernel
theorem dX8_byteOf_9 : decode cX8_byteOf 9 = .ok (.aload_n 3, 1) := by decide +kernel
theorem dX8_byteOf_10 : decode cX8_byteOf 10 = .ok (.ifnonnull 13, 3) := by decide +kernel
theorem dX8_byteOf_13 : decode cX8_byteOf 13 = .ok (.new 44, 3) := by decide +kernel
theorem dX8_byteOf_16 : decode cX8_byteOf 16 = .ok (.dup, 1) := by decide +kernel
theorem dX8_byteOf_17 : decode cX8_byteOf 17 = .ok (.ldc 102, 2) := by decide +kernel
theorem dX8_byteOf_19 : decode cX8_byteOf 19 = .ok (.invokespecial 48, 3) := by decide +kernel
theorem dX8_byteOf_22 : decode cX8_byteOf 22 = .ok (.athrow, 1) := by decide +kernel
theorem dX8_byteOf_23 : decode cX8_byteOf 23 = .ok (.aload_n 3, 1) := by decide +kernel
theorem dX8_byteOf_24 : decode cX8_byteOf 24 = .ok (.iload_n 2, 1) := by decide +kernel
theorem dX8_byteOf_25 : decode cX8_byteOf 25 = .ok (.invokevirtual 104, 3) := by decide +kernel
theorem dX8_byteOf_28 : decode cX8_byteOf 28 = .ok (.ireturn, 1) := by decide +kernel
set_option maxRecDepth 20000 in
theorem ggX8_take_X3_rowOf : GoodIn wsX8_take wsX3_rowOf := goodIn_r _ [9, 10, 11, 192, 193] rfl (by decide +kernel)
set_option maxRecDepth 20000 in
theorem gX8_take_X3_rowOf : GoodIn wsX8_take (wsV RX8 98 RX3 yX3_rowOf wsX3_rowOf) := goodIn_app (goodIn_of _ (by decide +kernel)) ggX8_take_X3_rowOf
set_option maxRecDepth 20000 in
theorem ggX8_take_X8_isSender : GoodIn wsX8_take wsX8_isSender := goodIn_r _ [15] rfl (by decide +kernel)
set_option maxRecDepth 20000 in
theorem gX8_take_X8_isSender : GoodIn wsX8_take (va_wsS RX8 108 yX8_isSender wsX8_isSender) := goodIn_app (goodIn_of _ (by decide +kernel)) ggX8_take_X8_isSender
set_option maxRecDepth 20000 in
theorem ggX8_take_X2_accept : GoodIn wsX8_take wsX2_accept := goodIn_r _ [20, 21, 22, 23, 24, 25, 26, 27, 28, 29, 30, 31, 32, 33, 34, 35, 36, 37, 38, 39, 40, 41, 42, 43, 44, 45, 46, 47, 14, 48, 49, 50, 51, 52, 53, 54, 55, 56, 57, 58, 59, 60, 61, 62, 63, 64, 65, 66, 67, 68, 69, 70, 71, 72, 73, 74, 75, 76, 77, 78, 79, 80, 81, 82, 83, 84, 85, 86, 87, 88, 89, 90, 91, 92, 93, 94, 95, 96, 97, 98, 99, 100, 101, 102, 103, 104, 105, 106, 107, 108, 109, 110, 111, 112, 113, 114, 115, 116, 117, 118, 119, 120, 121, 122, 123, 124, 125, 126, 127, 128, 19, 129, 130, 131, 132, 133, 134, 135, 136, 137, 138, 139, 140, 141, 142, 143, 144, 145, 146, 147, 148, 149, 150, 151, 152, 153, 154, 155, 156, 157, 158, 159, 160, 161, 162, 163, 164, 165, 166, 167, 168, 169, 170, 171, 172, 173, 174, 175, 176, 177, 178, 179, 180, 181, 182, 183, 184, 185, 186, 194, 195, 196, 197, 198, 199, 200, 201, 202, 203, 204, 205, 206, 207, 208, 209, 210, 211, 212, 213, 214] rfl (by decide +kernel)
set_option maxRecDepth 20000 in
theorem gX8_take_X2_accept : GoodIn wsX8_take (wsV RX8 114 RX2 yX2_accept wsX2_accept) := goodIn_app (goodIn_of _ (by decide +kernel)) ggX8_take_X2_accept
theorem dX8_take_0 : decode cX8_take 0 = .ok (.aload_n 0, 1) := by decide +kernel
theorem dX8_take_1 : decode cX8_take 1 = .ok (.getfield 19, 3) := by decide +kernel
theorem dX8_take_4 : decode cX8_take 4 = .ok (.iload_n 2, 1) := by decide +kernel
theorem dX8_take_5 : decode cX8_take 5 = .ok (.invokevirtual 98, 3) := by decide +kernel
theorem dX8_take_8 : decode cX8_take 8 = .ok (.astore_n 3, 1) := by decide +kernel
theorem dX8_take_9 : decode cX8_take 9 = .ok (.aload_n 3, 1) := by decide +kernel
theorem dX8_take_10 : decode cX8_take 10 = .ok (.ifnull 10, 3) := by decide +kernel
theorem dX8_take_13 : decode cX8_take 13 = .ok (.iload_n 1, 1) := by decide +kernel
theorem dX8_take_14 : decode cX8_take 14 = .ok (.invokestatic 108, 3) := by decide +kernel
theorem dX8_take_17 : decode cX8_take 17 = .ok (.ifCond .ne 13, 3) := by decide +kernel
theorem dX8_take_20 : decode cX8_take 20 = .ok (.new 44, 3) := by decide +kernel
theorem dX8_take_23 : decode cX8_take 23 = .ok (.dup, 1) := by decide +kernel
theorem dX8_take_24 : decode cX8_take 24 = .ok (.ldc 112, 2) := by decide +kernel
theorem dX8_take_26 : decode cX8_take 26 = .ok (.invokespecial 48, 3) := by decide +kernel
theorem dX8_take_29 : decode cX8_take 29 = .ok (.athrow, 1) := by decide +kernel
theorem dX8_take_30 : decode cX8_take 30 = .ok (.aload_n 0, 1) := by decide +kernel
theorem dX8_take_31 : decode cX8_take 31 = .ok (.getfield 35, 3) := by decide +kernel
theorem dX8_take_34 : decode cX8_take 34 = .ok (.iload_n 1, 1) := by decide +kernel
theorem dX8_take_35 : decode cX8_take 35 = .ok (.aload_n 3, 1) := by decide +kernel
theorem dX8_take_36 : decode cX8_take 36 = .ok (.invokevirtual 114, 3) := by decide +kernel
theorem dX8_take_39 : decode cX8_take 39 = .ok (.ireturn, 1) := by decide +kernel
set_option maxRecDepth 20000 in
theorem ggX8_alter_X3_rowOf : GoodIn wsX8_alter wsX3_rowOf := goodIn_r _ [8, 9, 10, 27, 28] rfl (by decide +kernel)
set_option maxRecDepth 20000 in
theorem gX8_alter_X3_rowOf : GoodIn wsX8_alter (wsV RX8 98 RX3 yX3_rowOf wsX3_rowOf) := goodIn_app (goodIn_of _ (by decide +kernel)) ggX8_alter_X3_rowOf
set_option maxRecDepth 20000 in
theorem ggX8_alter_X6_byteAt : GoodIn wsX8_alter wsX6_byteAt := goodIn_r _ [15, 16, 17, 29, 30] rfl (by decide +kernel)
set_option maxRecDepth 20000 in
theorem gX8_alter_X6_byteAt : GoodIn wsX8_alter (wsV RX8 104 RX6 yX6_byteAt wsX6_byteAt) := goodIn_app (goodIn_of _ (by decide +kernel)) ggX8_alter_X6_byteAt
set_option maxRecDepth 20000 in
theorem ggX8_alter_X6_setByte : GoodIn wsX8_alter wsX6_setByte := goodIn_r _ [21, 16, 17, 29, 30] rfl (by decide +kernel)
set_option maxRecDepth 20000 in
theorem gX8_alter_X6_setByte : GoodIn wsX8_alter (wsV RX8 120 RX6 yX6_setByte wsX6_setByte) := goodIn_app (goodIn_of _ (by decide +kernel)) ggX8_alter_X6_setByte
theorem dX8_alter_0 : decode cX8_alter 0 = .ok (.aload_n 0, 1) := by decide +kernel
theorem dX8_alter_1 : decode cX8_alter 1 = .ok (.getfield 19, 3) := by decide +kernel
theorem dX8_alter_4 : decode cX8_alter 4 = .ok (.iload_n 1, 1) := by decide +kernel
theorem dX8_alter_5 : decode cX8_alter 5 = .ok (.invokevirtual 98, 3) := by decide +kernel
theorem dX8_alter_8 : decode cX8_alter 8 = .ok (.astore 4, 2) := by decide +kernel
theorem dX8_alter_10 : decode cX8_alter 10 = .ok (.aload 4, 2) := by decide +kernel
theorem dX8_alter_12 : decode cX8_alter 12 = .ok (.ifnull 24, 3) := by decide +kernel
theorem dX8_alter_15 : decode cX8_alter 15 = .ok (.aload 4, 2) := by decide +kernel
theorem dX8_alter_17 : decode cX8_alter 17 = .ok (.iload_n 2, 1) := by decide +kernel
theorem dX8_alter_18 : decode cX8_alter 18 = .ok (.invokevirtual 104, 3) := by decide +kernel
theorem dX8_alter_21 : decode cX8_alter 21 = .ok (.iconst (-1), 1) := by decide +kernel
theorem dX8_alter_22 : decode cX8_alter 22 = .ok (.if_icmp .eq 14, 3) := by decide +kernel
theorem dX8_alter_25 : decode cX8_alter 25 = .ok (.iload_n 3, 1) := by decide +kernel
theorem dX8_alter_26 : decode cX8_alter 26 = .ok (.ifCond .lt 10, 3) := by decide +kernel
theorem dX8_alter_29 : decode cX8_alter 29 = .ok (.iload_n 3, 1) := by decide +kernel
theorem dX8_alter_30 : decode cX8_alter 30 = .ok (.sipush 255, 3) := by decide +kernel
theorem dX8_alter_33 : decode cX8_alter 33 = .ok (.if_icmp .le 13, 3) := by decide +kernel
theorem dX8_alter_36 : decode cX8_alter 36 = .ok (.new 44, 3) := by decide +kernel
theorem dX8_alter_39 : decode cX8_alter 39 = .ok (.dup, 1) := by decide +kernel
theorem dX8_alter_40 : decode cX8_alter 40 = .ok (.ldc 118, 2) := by decide +kernel
theorem dX8_alter_42 : decode cX8_alter 42 = .ok (.invokespecial 48, 3) := by decide +kernel
theorem dX8_alter_45 : decode cX8_alter 45 = .ok (.athrow, 1) := by decide +kernel
theorem dX8_alter_46 : decode cX8_alter 46 = .ok (.aload 4, 2) := by decide +kernel
theorem dX8_alter_48 : decode cX8_alter 48 = .ok (.iload_n 2, 1) := by decide +kernel
theorem dX8_alter_49 : decode cX8_alter 49 = .ok (.invokevirtual 104, 3) := by decide +kernel
theorem dX8_alter_52 : decode cX8_alter 52 = .ok (.istore 5, 2) := by decide +kernel
theorem dX8_alter_54 : decode cX8_alter 54 = .ok (.aload 4, 2) := by decide +kernel
theorem dX8_alter_56 : decode cX8_alter 56 = .ok (.iload_n 2, 1) := by decide +kernel
theorem dX8_alter_57 : decode cX8_alter 57 = .ok (.iload_n 3, 1) := by decide +kernel
theorem dX8_alter_58 : decode cX8_alter 58 = .ok (.invokevirtual 120, 3) := by decide +kernel
theorem dX8_alter_61 : decode cX8_alter 61 = .ok (.iload 5, 2) := by decide +kernel
theorem dX8_alter_63 : decode cX8_alter 63 = .ok (.ireturn, 1) := by decide +kernel
set_option maxRecDepth 20000 in
theorem ggX8_feed_X6_append : GoodIn wsX8_feed wsX6_append := goodIn_r _ [11, 12, 13, 19, 20] rfl (by decide +kernel)
set_option maxRecDepth 20000 in
theorem gX8_feed_X6_append : GoodIn wsX8_feed (wsV RX8 128 RX6 yX6_append wsX6_append) := goodIn_app (goodIn_of _ (by decide +kernel)) ggX8_feed_X6_append
theorem dX8_feed_0 : decode cX8_feed 0 = .ok (.iload_n 3, 1) := by decide +kernel
theorem dX8_feed_1 : decode cX8_feed 1 = .ok (.ifCond .lt 9, 3) := by decide +kernel
theorem dX8_feed_4 : decode cX8_feed 4 = .ok (.iload_n 3, 1) := by decide +kernel
theorem dX8_feed_5 : decode cX8_feed 5 = .ok (.bipush 8, 2) := by decide +kernel
theorem dX8_feed_7 : decode cX8_feed 7 = .ok (.if_icmp .le 13, 3) := by decide +kernel
theorem dX8_feed_10 : decode cX8_feed 10 = .ok (.new 44, 3) := by decide +kernel
theorem dX8_feed_13 : decode cX8_feed 13 = .ok (.dup, 1) := by decide +kernel
theorem dX8_feed_14 : decode cX8_feed 14 = .ok (.ldc 124, 2) := by decide +kernel
theorem dX8_feed_16 : decode cX8_feed 16 = .ok (.invokespecial 48, 3) := by decide +kernel
theorem dX8_feed_19 : decode cX8_feed 19 = .ok (.athrow, 1) := by decide +kernel
theorem dX8_feed_20 : decode cX8_feed 20 = .ok (.aload_n 0, 1) := by decide +kernel
theorem dX8_feed_21 : decode cX8_feed 21 = .ok (.getfield 28, 3) := by decide +kernel
theorem dX8_feed_24 : decode cX8_feed 24 = .ok (.getfield 84, 3) := by decide +kernel
theorem dX8_feed_27 : decode cX8_feed 27 = .ok (.iload_n 3, 1) := by decide +kernel
theorem dX8_feed_28 : decode cX8_feed 28 = .ok (.iadd, 1) := by decide +kernel
theorem dX8_feed_29 : decode cX8_feed 29 = .ok (.sipush 200, 3) := by decide +kernel
theorem dX8_feed_32 : decode cX8_feed 32 = .ok (.if_icmp .le 13, 3) := by decide +kernel
theorem dX8_feed_35 : decode cX8_feed 35 = .ok (.new 54, 3) := by decide +kernel
theorem dX8_feed_38 : decode cX8_feed 38 = .ok (.dup, 1) := by decide +kernel
theorem dX8_feed_39 : decode cX8_feed 39 = .ok (.ldc 126, 2) := by decide +kernel
theorem dX8_feed_41 : decode cX8_feed 41 = .ok (.invokespecial 58, 3) := by decide +kernel
theorem dX8_feed_44 : decode cX8_feed 44 = .ok (.athrow, 1) := by decide +kernel
theorem dX8_feed_45 : decode cX8_feed 45 = .ok (.iconst 0, 1) := by decide +kernel
theorem dX8_feed_46 : decode cX8_feed 46 = .ok (.istore 4, 2) := by decide +kernel
theorem dX8_feed_48 : decode cX8_feed 48 = .ok (.iload 4, 2) := by decide +kernel
theorem dX8_feed_50 : decode cX8_feed 50 = .ok (.iload_n 3, 1) := by decide +kernel
theorem dX8_feed_51 : decode cX8_feed 51 = .ok (.if_icmp .ge 28, 3) := by decide +kernel
theorem dX8_feed_54 : decode cX8_feed 54 = .ok (.aload_n 0, 1) := by decide +kernel
theorem dX8_feed_55 : decode cX8_feed 55 = .ok (.getfield 28, 3) := by decide +kernel
theorem dX8_feed_58 : decode cX8_feed 58 = .ok (.lload_n 1, 1) := by decide +kernel
theorem dX8_feed_59 : decode cX8_feed 59 = .ok (.bipush 8, 2) := by decide +kernel
theorem dX8_feed_61 : decode cX8_feed 61 = .ok (.iload 4, 2) := by decide +kernel
theorem dX8_feed_63 : decode cX8_feed 63 = .ok (.imul, 1) := by decide +kernel
theorem dX8_feed_64 : decode cX8_feed 64 = .ok (.lushr, 1) := by decide +kernel
theorem dX8_feed_65 : decode cX8_feed 65 = .ok (.l2i, 1) := by decide +kernel
theorem dX8_feed_66 : decode cX8_feed 66 = .ok (.sipush 255, 3) := by decide +kernel
theorem dX8_feed_69 : decode cX8_feed 69 = .ok (.iand, 1) := by decide +kernel
theorem dX8_feed_70 : decode cX8_feed 70 = .ok (.invokevirtual 128, 3) := by decide +kernel
theorem dX8_feed_73 : decode cX8_feed 73 = .ok (.iinc 4 1, 3) := by decide +kernel
theorem dX8_feed_76 : decode cX8_feed 76 = .ok (.goto (-28), 3) := by decide +kernel
theorem dX8_feed_79 : decode cX8_feed 79 = .ok (.aload_n 0, 1) := by decide +kernel
theorem dX8_feed_80 : decode cX8_feed 80 = .ok (.getfield 28, 3) := by decide +kernel
theorem dX8_feed_83 : decode cX8_feed 83 = .ok (.getfield 84, 3) := by decide +kernel
theorem dX8_feed_86 : decode cX8_feed 86 = .ok (.ireturn, 1) := by decide +kernel
set_option maxRecDepth 20000 in
theorem ggX8_read_X8_isSender : GoodIn wsX8_read wsX8_isSender := goodIn_r _ [8] rfl (by decide +kernel)
set_option maxRecDepth 20000 in
theorem gX8_read_X8_isSender : GoodIn wsX8_read (va_wsS RX8 108 yX8_isSender wsX8_isSender) := goodIn_app (goodIn_of _ (by decide +kernel)) ggX8_read_X8_isSender
set_option maxRecDepth 20000 in
theorem ggX8_read_X2_accept : GoodIn wsX8_read wsX2_accept := goodIn_r _ [13, 14, 15, 16, 17, 18, 19, 20, 21, 22, 23, 24, 25, 26, 27, 28, 29, 30, 31, 32, 33, 34, 35, 36, 37, 38, 39, 40, 7, 41, 42, 43, 44, 45, 46, 47, 48, 49, 50, 51, 52, 53, 54, 55, 56, 57, 58, 59, 60, 61, 62, 63, 64, 65, 66, 67, 68, 69, 70, 71, 72, 73, 74, 75, 76, 77, 78, 79, 80, 81, 82, 83, 84, 85, 86, 87, 88, 89, 90, 91, 92, 93, 94, 95, 96, 97, 98, 99, 100, 101, 102, 103, 104, 105, 106, 107, 108, 109, 110, 111, 112, 113, 114, 115, 116, 117, 118, 119, 120, 121, 12, 122, 123, 124, 125, 126, 127, 128, 129, 130, 131, 132, 133, 134, 135, 136, 137, 138, 139, 140, 141, 142, 143, 144, 145, 146, 147, 148, 149, 150, 151, 152, 153, 154, 155, 156, 157, 158, 159, 160, 161, 162, 163, 164, 165, 166, 167, 168, 169, 170, 171, 172, 173, 174, 175, 176, 177, 178, 179, 193, 194, 195, 196, 197, 198, 199, 200, 201, 202, 203, 204, 205, 206, 207, 208, 209, 210, 211, 212, 213] rfl (by decide +kernel)
set_option maxRecDepth 20000 in
theorem gX8_read_X2_accept : GoodIn wsX8_read (wsV RX8 114 RX2 yX2_accept wsX2_accept) := goodIn_app (goodIn_of _ (by decide +kernel)) ggX8_read_X2_accept
set_option maxRecDepth 20000 in
theorem ggX8_read_X6_restart : GoodIn wsX8_read wsX6_restart := goodIn_r _ [183, 35, 184, 113, 63, 114, 61, 62, 64, 34, 185, 186, 103, 187, 211, 212] rfl (by decide +kernel)
set_option maxRecDepth 20000 in
theorem gX8_read_X6_restart : GoodIn wsX8_read (wsV RX8 131 RX6 yX6_restart wsX6_restart) := goodIn_app (goodIn_of _ (by decide +kernel)) ggX8_read_X6_restart
theorem dX8_read_0 : decode cX8_read 0 = .ok (.iload_n 1, 1) := by decide +kernel
theorem dX8_read_1 : decode cX8_read 1 = .ok (.invokestatic 108, 3) := by decide +kernel
theorem dX8_read_4 : decode cX8_read 4 = .ok (.ifCond .ne 13, 3) := by decide +kernel
theorem dX8_read_7 : decode cX8_read 7 = .ok (.new 44, 3) := by decide +kernel
theorem dX8_read_10 : decode cX8_read 10 = .ok (.dup, 1) := by decide +kernel
theorem dX8_read_11 : decode cX8_read 11 = .ok (.ldc 129, 2) := by decide +kernel
theorem dX8_read_13 : decode cX8_read 13 = .ok (.invokespecial 48, 3) := by decide +kernel
theorem dX8_read_16 : decode cX8_read 16 = .ok (.athrow, 1) := by decide +kernel
theorem dX8_read_17 : decode cX8_read 17 = .ok (.aload_n 0, 1) := by decide +kernel
theorem dX8_read_18 : decode cX8_read 18 = .ok (.getfield 35, 3) := by decide +kernel
theorem dX8_read_21 : decode cX8_read 21 = .ok (.iload_n 1, 1) := by decide +kernel
theorem dX8_read_22 : decode cX8_read 22 = .ok (.aload_n 0, 1) := by decide +kernel
theorem dX8_read_23 : decode cX8_read 23 = .ok (.getfield 28, 3) := by decide +kernel
theorem dX8_read_26 : decode cX8_read 26 = .ok (.invokevirtual 114, 3) := by decide +kernel
theorem dX8_read_29 : decode cX8_read 29 = .ok (.istore_n 2, 1) := by decide +kernel
theorem dX8_read_30 : decode cX8_read 30 = .ok (.aload_n 0, 1) := by decide +kernel
theorem dX8_read_31 : decode cX8_read 31 = .ok (.getfield 28, 3) := by decide +kernel
theorem dX8_read_34 : decode cX8_read 34 = .ok (.iconst 0, 1) := by decide +kernel
theorem dX8_read_35 : decode cX8_read 35 = .ok (.invokevirtual 131, 3) := by decide +kernel
theorem dX8_read_38 : decode cX8_read 38 = .ok (.iload_n 2, 1) := by decide +kernel
theorem dX8_read_39 : decode cX8_read 39 = .ok (.ireturn, 1) := by decide +kernel
set_option maxRecDepth 20000 in
theorem ggX8_unit_X2_latestUnit : GoodIn wsX8_unit wsX2_latestUnit := goodIn_r _ [6, 7, 8, 9, 10, 11, 12, 13, 14, 20, 21, 22, 23, 24, 25, 26, 27, 28, 29, 30, 31] rfl (by decide +kernel)
set_option maxRecDepth 20000 in
theorem gX8_unit_X2_latestUnit : GoodIn wsX8_unit (wsV RX8 134 RX2 yX2_latestUnit wsX2_latestUnit) := goodIn_app (goodIn_of _ (by decide +kernel)) ggX8_unit_X2_latestUnit
theorem dX8_unit_0 : decode cX8_unit 0 = .ok (.aload_n 0, 1) := by decide +kernel
theorem dX8_unit_1 : decode cX8_unit 1 = .ok (.getfield 35, 3) := by decide +kernel
theorem dX8_unit_4 : decode cX8_unit 4 = .ok (.iload_n 1, 1) := by decide +kernel
theorem dX8_unit_5 : decode cX8_unit 5 = .ok (.invokevirtual 134, 3) := by decide +kernel
theorem dX8_unit_8 : decode cX8_unit 8 = .ok (.ireturn, 1) := by decide +kernel
set_option maxRecDepth 20000 in
theorem ggX8_heap_X2_aboutHeap : GoodIn wsX8_heap wsX2_aboutHeap := goodIn_r _ [8, 9, 10, 11, 12, 13, 14, 15, 16, 17, 18, 19, 25, 26, 27, 28, 29, 30, 31, 32, 33, 34, 35] rfl (by decide +kernel)
set_option maxRecDepth 20000 in
theorem gX8_heap_X2_aboutHeap : GoodIn wsX8_heap (wsV RX8 139 RX2 yX2_aboutHeap wsX2_aboutHeap) := goodIn_app (goodIn_of _ (by decide +kernel)) ggX8_heap_X2_aboutHeap
theorem dX8_heap_0 : decode cX8_heap 0 = .ok (.iload_n 2, 1) := by decide +kernel
theorem dX8_heap_1 : decode cX8_heap 1 = .ok (.ifCond .lt 8, 3) := by decide +kernel
theorem dX8_heap_4 : decode cX8_heap 4 = .ok (.iload_n 2, 1) := by decide +kernel
theorem dX8_heap_5 : decode cX8_heap 5 = .ok (.iconst 3, 1) := by decide +kernel
theorem dX8_heap_6 : decode cX8_heap 6 = .ok (.if_icmp .le 13, 3) := by decide +kernel
theorem dX8_heap_9 : decode cX8_heap 9 = .ok (.new 44, 3) := by decide +kernel
theorem dX8_heap_12 : decode cX8_heap 12 = .ok (.dup, 1) := by decide +kernel
theorem dX8_heap_13 : decode cX8_heap 13 = .ok (.ldc 137, 2) := by decide +kernel
theorem dX8_heap_15 : decode cX8_heap 15 = .ok (.invokespecial 48, 3) := by decide +kernel
theorem dX8_heap_18 : decode cX8_heap 18 = .ok (.athrow, 1) := by decide +kernel
theorem dX8_heap_19 : decode cX8_heap 19 = .ok (.aload_n 0, 1) := by decide +kernel
theorem dX8_heap_20 : decode cX8_heap 20 = .ok (.getfield 35, 3) := by decide +kernel
theorem dX8_heap_23 : decode cX8_heap 23 = .ok (.iload_n 1, 1) := by decide +kernel
theorem dX8_heap_24 : decode cX8_heap 24 = .ok (.iload_n 2, 1) := by decide +kernel
theorem dX8_heap_25 : decode cX8_heap 25 = .ok (.invokevirtual 139, 3) := by decide +kernel
theorem dX8_heap_28 : decode cX8_heap 28 = .ok (.ireturn, 1) := by decide +kernel
set_option maxRecDepth 20000 in
theorem ggX8_forget_X8_isSender : GoodIn wsX8_forget wsX8_isSender := goodIn_r _ [7] rfl (by decide +kernel)
set_option maxRecDepth 20000 in
theorem gX8_forget_X8_isSender : GoodIn wsX8_forget (va_wsS RX8 108 yX8_isSender wsX8_isSender) := goodIn_app (goodIn_of _ (by decide +kernel)) ggX8_forget_X8_isSender
set_option maxRecDepth 20000 in
theorem ggX8_forget_X2_dropSender : GoodIn wsX8_forget wsX2_dropSender := goodIn_r _ [12, 13, 14, 15, 16, 11, 17, 18, 19, 20, 21, 22, 23, 24, 25, 26, 27, 28, 29, 30, 31, 37, 38, 39, 40, 41, 42, 43, 44, 45, 46, 47] rfl (by decide +kernel)
set_option maxRecDepth 20000 in
theorem gX8_forget_X2_dropSender : GoodIn wsX8_forget (wsV RX8 143 RX2 yX2_dropSender wsX2_dropSender) := goodIn_app (goodIn_of _ (by decide +kernel)) ggX8_forget_X2_dropSender
theorem dX8_forget_0 : decode cX8_forget 0 = .ok (.iload_n 1, 1) := by decide +kernel
theorem dX8_forget_1 : decode cX8_forget 1 = .ok (.invokestatic 108, 3) := by decide +kernel
theorem dX8_forget_4 : decode cX8_forget 4 = .ok (.ifCond .ne 13, 3) := by decide +kernel
theorem dX8_forget_7 : decode cX8_forget 7 = .ok (.new 44, 3) := by decide +kernel
theorem dX8_forget_10 : decode cX8_forget 10 = .ok (.dup, 1) := by decide +kernel
theorem dX8_forget_11 : decode cX8_forget 11 = .ok (.ldc 129, 2) := by decide +kernel
theorem dX8_forget_13 : decode cX8_forget 13 = .ok (.invokespecial 48, 3) := by decide +kernel
theorem dX8_forget_16 : decode cX8_forget 16 = .ok (.athrow, 1) := by decide +kernel
theorem dX8_forget_17 : decode cX8_forget 17 = .ok (.aload_n 0, 1) := by decide +kernel
theorem dX8_forget_18 : decode cX8_forget 18 = .ok (.getfield 35, 3) := by decide +kernel
theorem dX8_forget_21 : decode cX8_forget 21 = .ok (.iload_n 1, 1) := by decide +kernel
theorem dX8_forget_22 : decode cX8_forget 22 = .ok (.invokevirtual 143, 3) := by decide +kernel
theorem dX8_forget_25 : decode cX8_forget 25 = .ok (.ireturn, 1) := by decide +kernel
theorem dX8_isSender_0 : decode cX8_isSender 0 = .ok (.iload_n 0, 1) := by decide +kernel
theorem dX8_isSender_1 : decode cX8_isSender 1 = .ok (.ifCond .lt 14, 3) := by decide +kernel
theorem dX8_isSender_4 : decode cX8_isSender 4 = .ok (.iload_n 0, 1) := by decide +kernel
theorem dX8_isSender_5 : decode cX8_isSender 5 = .ok (.sipush 999, 3) := by decide +kernel
theorem dX8_isSender_8 : decode cX8_isSender 8 = .ok (.if_icmp .gt 7, 3) := by decide +kernel
theorem dX8_isSender_11 : decode cX8_isSender 11 = .ok (.iconst 1, 1) := by decide +kernel
theorem dX8_isSender_12 : decode cX8_isSender 12 = .ok (.goto 4, 3) := by decide +kernel
theorem dX8_isSender_15 : decode cX8_isSender 15 = .ok (.iconst 0, 1) := by decide +kernel
theorem dX8_isSender_16 : decode cX8_isSender 16 = .ok (.ireturn, 1) := by decide +kernel
theorem dX8_bytesForSevens_0 : decode cX8_bytesForSevens 0 = .ok (.bipush 7, 2) := by decide +kernel
theorem dX8_bytesForSevens_2 : decode cX8_bytesForSevens 2 = .ok (.iload_n 0, 1) := by decide +kernel
theorem dX8_bytesForSevens_3 : decode cX8_bytesForSevens 3 = .ok (.imul, 1) := by decide +kernel
theorem dX8_bytesForSevens_4 : decode cX8_bytesForSevens 4 = .ok (.bipush 7, 2) := by decide +kernel
theorem dX8_bytesForSevens_6 : decode cX8_bytesForSevens 6 = .ok (.iadd, 1) := by decide +kernel
theorem dX8_bytesForSevens_7 : decode cX8_bytesForSevens 7 = .ok (.bipush 8, 2) := by decide +kernel
theorem dX8_bytesForSevens_9 : decode cX8_bytesForSevens 9 = .ok (.idiv, 1) := by decide +kernel
theorem dX8_bytesForSevens_10 : decode cX8_bytesForSevens 10 = .ok (.ireturn, 1) := by decide +kernel
