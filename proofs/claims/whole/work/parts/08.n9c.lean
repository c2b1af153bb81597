theorem dX9_gone_37 : decode cX9_gone 37 = .ok (.iload_n 3, 1) := by decide +kernel
theorem dX9_gone_38 : decode cX9_gone 38 = .ok (.aload_n 0, 1) := by decide +kernel
theorem dX9_gone_39 : decode cX9_gone 39 = .ok (.getfield 36, 3) := by decide +kernel
theorem dX9_gone_42 : decode cX9_gone 42 = .ok (.iload_n 3, 1) := by decide +kernel
theorem dX9_gone_43 : decode cX9_gone 43 = .ok (.iconst 1, 1) := by decide +kernel
theorem dX9_gone_44 : decode cX9_gone 44 = .ok (.iadd, 1) := by decide +kernel
theorem dX9_gone_45 : decode cX9_gone 45 = .ok (.iaload, 1) := by decide +kernel
theorem dX9_gone_46 : decode cX9_gone 46 = .ok (.iastore, 1) := by decide +kernel
theorem dX9_gone_47 : decode cX9_gone 47 = .ok (.aload_n 0, 1) := by decide +kernel
theorem dX9_gone_48 : decode cX9_gone 48 = .ok (.getfield 39, 3) := by decide +kernel
theorem dX9_gone_51 : decode cX9_gone 51 = .ok (.iload_n 3, 1) := by decide +kernel
theorem dX9_gone_52 : decode cX9_gone 52 = .ok (.aload_n 0, 1) := by decide +kernel
theorem dX9_gone_53 : decode cX9_gone 53 = .ok (.getfield 39, 3) := by decide +kernel
theorem dX9_gone_56 : decode cX9_gone 56 = .ok (.iload_n 3, 1) := by decide +kernel
theorem dX9_gone_57 : decode cX9_gone 57 = .ok (.iconst 1, 1) := by decide +kernel
theorem dX9_gone_58 : decode cX9_gone 58 = .ok (.iadd, 1) := by decide +kernel
theorem dX9_gone_59 : decode cX9_gone 59 = .ok (.iaload, 1) := by decide +kernel
theorem dX9_gone_60 : decode cX9_gone 60 = .ok (.iastore, 1) := by decide +kernel
theorem dX9_gone_61 : decode cX9_gone 61 = .ok (.aload_n 0, 1) := by decide +kernel
theorem dX9_gone_62 : decode cX9_gone 62 = .ok (.getfield 42, 3) := by decide +kernel
theorem dX9_gone_65 : decode cX9_gone 65 = .ok (.iload_n 3, 1) := by decide +kernel
theorem dX9_gone_66 : decode cX9_gone 66 = .ok (.aload_n 0, 1) := by decide +kernel
theorem dX9_gone_67 : decode cX9_gone 67 = .ok (.getfield 42, 3) := by decide +kernel
theorem dX9_gone_70 : decode cX9_gone 70 = .ok (.iload_n 3, 1) := by decide +kernel
theorem dX9_gone_71 : decode cX9_gone 71 = .ok (.iconst 1, 1) := by decide +kernel
theorem dX9_gone_72 : decode cX9_gone 72 = .ok (.iadd, 1) := by decide +kernel
theorem dX9_gone_73 : decode cX9_gone 73 = .ok (.iaload, 1) := by decide +kernel
theorem dX9_gone_74 : decode cX9_gone 74 = .ok (.iastore, 1) := by decide +kernel
theorem dX9_gone_75 : decode cX9_gone 75 = .ok (.aload_n 0, 1) := by decide +kernel
theorem dX9_gone_76 : decode cX9_gone 76 = .ok (.getfield 45, 3) := by decide +kernel
theorem dX9_gone_79 : decode cX9_gone 79 = .ok (.iload_n 3, 1) := by decide +kernel
theorem dX9_gone_80 : decode cX9_gone 80 = .ok (.aload_n 0, 1) := by decide +kernel
theorem dX9_gone_81 : decode cX9_gone 81 = .ok (.getfield 45, 3) := by decide +kernel
theorem dX9_gone_84 : decode cX9_gone 84 = .ok (.iload_n 3, 1) := by decide +kernel
theorem dX9_gone_85 : decode cX9_gone 85 = .ok (.iconst 1, 1) := by decide +kernel
theorem dX9_gone_86 : decode cX9_gone 86 = .ok (.iadd, 1) := by decide +kernel
theorem dX9_gone_87 : decode cX9_gone 87 = .ok (.iaload, 1) := by decide +kernel
theorem dX9_gone_88 : decode cX9_gone 88 = .ok (.iastore, 1) := by decide +kernel
theorem dX9_gone_89 : decode cX9_gone 89 = .ok (.aload_n 0, 1) := by decide +kernel
theorem dX9_gone_90 : decode cX9_gone 90 = .ok (.getfield 48, 3) := by decide +kernel
theorem dX9_gone_93 : decode cX9_gone 93 = .ok (.iload_n 3, 1) := by decide +kernel
theorem dX9_gone_94 : decode cX9_gone 94 = .ok (.aload_n 0, 1) := by decide +kernel
theorem dX9_gone_95 : decode cX9_gone 95 = .ok (.getfield 48, 3) := by decide +kernel
theorem dX9_gone_98 : decode cX9_gone 98 = .ok (.iload_n 3, 1) := by decide +kernel
theorem dX9_gone_99 : decode cX9_gone 99 = .ok (.iconst 1, 1) := by decide +kernel
theorem dX9_gone_100 : decode cX9_gone 100 = .ok (.iadd, 1) := by decide +kernel
theorem dX9_gone_101 : decode cX9_gone 101 = .ok (.iaload, 1) := by decide +kernel
theorem dX9_gone_102 : decode cX9_gone 102 = .ok (.iastore, 1) := by decide +kernel
theorem dX9_gone_103 : decode cX9_gone 103 = .ok (.iinc 3 1, 3) := by decide +kernel
theorem dX9_gone_106 : decode cX9_gone 106 = .ok (.goto (-97), 3) := by decide +kernel
theorem dX9_gone_109 : decode cX9_gone 109 = .ok (.aload_n 0, 1) := by decide +kernel
theorem dX9_gone_110 : decode cX9_gone 110 = .ok (.dup, 1) := by decide +kernel
theorem dX9_gone_111 : decode cX9_gone 111 = .ok (.getfield 107, 3) := by decide +kernel
theorem dX9_gone_114 : decode cX9_gone 114 = .ok (.iconst 1, 1) := by decide +kernel
theorem dX9_gone_115 : decode cX9_gone 115 = .ok (.isub, 1) := by decide +kernel
theorem dX9_gone_116 : decode cX9_gone 116 = .ok (.putfield 107, 3) := by decide +kernel
theorem dX9_gone_119 : decode cX9_gone 119 = .ok (.aload_n 0, 1) := by decide +kernel
theorem dX9_gone_120 : decode cX9_gone 120 = .ok (.getfield 33, 3) := by decide +kernel
theorem dX9_gone_123 : decode cX9_gone 123 = .ok (.aload_n 0, 1) := by decide +kernel
theorem dX9_gone_124 : decode cX9_gone 124 = .ok (.getfield 107, 3) := by decide +kernel
theorem dX9_gone_127 : decode cX9_gone 127 = .ok (.iload_n 2, 1) := by decide +kernel
theorem dX9_gone_128 : decode cX9_gone 128 = .ok (.iastore, 1) := by decide +kernel
theorem dX9_gone_129 : decode cX9_gone 129 = .ok (.return_, 1) := by decide +kernel
set_option maxRecDepth 20000 in
theorem ggX9_begin_X9_gone : GoodIn wsX9_begin wsX9_gone := goodIn_r _ [13, 3, 1, 4, 5, 6, 7, 2, 14, 15, 16, 17, 18, 19, 20, 21, 22, 23, 24, 25, 26, 27, 28, 29, 30, 31, 32, 33, 34, 35, 36, 37, 38, 39, 40] rfl (by decide +kernel)
set_option maxRecDepth 20000 in
theorem gX9_begin_X9_gone : GoodIn wsX9_begin (wsV RX9 138 RX9 yX9_gone wsX9_gone) := goodIn_app (goodIn_of _ (by decide +kernel)) ggX9_begin_X9_gone
theorem dX9_begin_0 : decode cX9_begin 0 = .ok (.aload_n 0, 1) := by decide +kernel
theorem dX9_begin_1 : decode cX9_begin 1 = .ok (.getfield 107, 3) := by decide +kernel
theorem dX9_begin_4 : decode cX9_begin 4 = .ok (.bipush 16, 2) := by decide +kernel
theorem dX9_begin_6 : decode cX9_begin 6 = .ok (.if_icmp .ne 54, 3) := by decide +kernel
theorem dX9_begin_9 : decode cX9_begin 9 = .ok (.iconst 0, 1) := by decide +kernel
theorem dX9_begin_10 : decode cX9_begin 10 = .ok (.istore 4, 2) := by decide +kernel
theorem dX9_begin_12 : decode cX9_begin 12 = .ok (.iconst 1, 1) := by decide +kernel
theorem dX9_begin_13 : decode cX9_begin 13 = .ok (.istore 5, 2) := by decide +kernel
theorem dX9_begin_15 : decode cX9_begin 15 = .ok (.iload 5, 2) := by decide +kernel
theorem dX9_begin_17 : decode cX9_begin 17 = .ok (.bipush 16, 2) := by decide +kernel
theorem dX9_begin_19 : decode cX9_begin 19 = .ok (.if_icmp .ge 35, 3) := by decide +kernel
theorem dX9_begin_22 : decode cX9_begin 22 = .ok (.aload_n 0, 1) := by decide +kernel
theorem dX9_begin_23 : decode cX9_begin 23 = .ok (.getfield 48, 3) := by decide +kernel
theorem dX9_begin_26 : decode cX9_begin 26 = .ok (.iload 5, 2) := by decide +kernel
theorem dX9_begin_28 : decode cX9_begin 28 = .ok (.iaload, 1) := by decide +kernel
theorem dX9_begin_29 : decode cX9_begin 29 = .ok (.aload_n 0, 1) := by decide +kernel
theorem dX9_begin_30 : decode cX9_begin 30 = .ok (.getfield 48, 3) := by decide +kernel
theorem dX9_begin_33 : decode cX9_begin 33 = .ok (.iload 4, 2) := by decide +kernel
theorem dX9_begin_35 : decode cX9_begin 35 = .ok (.iaload, 1) := by decide +kernel
theorem dX9_begin_36 : decode cX9_begin 36 = .ok (.if_icmp .ge 8, 3) := by decide +kernel
theorem dX9_begin_39 : decode cX9_begin 39 = .ok (.iload 5, 2) := by decide +kernel
theorem dX9_begin_41 : decode cX9_begin 41 = .ok (.goto 5, 3) := by decide +kernel
theorem dX9_begin_44 : decode cX9_begin 44 = .ok (.iload 4, 2) := by decide +kernel
theorem dX9_begin_46 : decode cX9_begin 46 = .ok (.istore 4, 2) := by decide +kernel
theorem dX9_begin_48 : decode cX9_begin 48 = .ok (.iinc 5 1, 3) := by decide +kernel
theorem dX9_begin_51 : decode cX9_begin 51 = .ok (.goto (-36), 3) := by decide +kernel
theorem dX9_begin_54 : decode cX9_begin 54 = .ok (.aload_n 0, 1) := by decide +kernel
theorem dX9_begin_55 : decode cX9_begin 55 = .ok (.iload 4, 2) := by decide +kernel
theorem dX9_begin_57 : decode cX9_begin 57 = .ok (.invokevirtual 138, 3) := by decide +kernel
theorem dX9_begin_60 : decode cX9_begin 60 = .ok (.iconst 0, 1) := by decide +kernel
theorem dX9_begin_61 : decode cX9_begin 61 = .ok (.istore 4, 2) := by decide +kernel
theorem dX9_begin_63 : decode cX9_begin 63 = .ok (.iconst 0, 1) := by decide +kernel
theorem dX9_begin_64 : decode cX9_begin 64 = .ok (.istore 5, 2) := by decide +kernel
theorem dX9_begin_66 : decode cX9_begin 66 = .ok (.iload 5, 2) := by decide +kernel
theorem dX9_begin_68 : decode cX9_begin 68 = .ok (.aload_n 0, 1) := by decide +kernel
theorem dX9_begin_69 : decode cX9_begin 69 = .ok (.getfield 107, 3) := by decide +kernel
theorem dX9_begin_72 : decode cX9_begin 72 = .ok (.if_icmp .ge 49, 3) := by decide +kernel
theorem dX9_begin_75 : decode cX9_begin 75 = .ok (.iconst 0, 1) := by decide +kernel
theorem dX9_begin_76 : decode cX9_begin 76 = .ok (.istore 6, 2) := by decide +kernel
theorem dX9_begin_78 : decode cX9_begin 78 = .ok (.iload 6, 2) := by decide +kernel
theorem dX9_begin_80 : decode cX9_begin 80 = .ok (.aload_n 0, 1) := by decide +kernel
theorem dX9_begin_81 : decode cX9_begin 81 = .ok (.getfield 107, 3) := by decide +kernel
theorem dX9_begin_84 : decode cX9_begin 84 = .ok (.if_icmp .ge 31, 3) := by decide +kernel
theorem dX9_begin_87 : decode cX9_begin 87 = .ok (.iload 4, 2) := by decide +kernel
theorem dX9_begin_89 : decode cX9_begin 89 = .ok (.aload_n 0, 1) := by decide +kernel
theorem dX9_begin_90 : decode cX9_begin 90 = .ok (.getfield 33, 3) := by decide +kernel
theorem dX9_begin_93 : decode cX9_begin 93 = .ok (.iload 6, 2) := by decide +kernel
theorem dX9_begin_95 : decode cX9_begin 95 = .ok (.iaload, 1) := by decide +kernel
theorem dX9_begin_96 : decode cX9_begin 96 = .ok (.iload 4, 2) := by decide +kernel
theorem dX9_begin_98 : decode cX9_begin 98 = .ok (.if_icmp .ne 7, 3) := by decide +kernel
theorem dX9_begin_101 : decode cX9_begin 101 = .ok (.iconst 1, 1) := by decide +kernel
theorem dX9_begin_102 : decode cX9_begin 102 = .ok (.goto 4, 3) := by decide +kernel
theorem dX9_begin_105 : decode cX9_begin 105 = .ok (.iconst 0, 1) := by decide +kernel
theorem dX9_begin_106 : decode cX9_begin 106 = .ok (.iadd, 1) := by decide +kernel
theorem dX9_begin_107 : decode cX9_begin 107 = .ok (.istore 4, 2) := by decide +kernel
theorem dX9_begin_109 : decode cX9_begin 109 = .ok (.iinc 6 1, 3) := by decide +kernel
theorem dX9_begin_112 : decode cX9_begin 112 = .ok (.goto (-34), 3) := by decide +kernel
theorem dX9_begin_115 : decode cX9_begin 115 = .ok (.iinc 5 1, 3) := by decide +kernel
theorem dX9_begin_118 : decode cX9_begin 118 = .ok (.goto (-52), 3) := by decide +kernel
theorem dX9_begin_121 : decode cX9_begin 121 = .ok (.aload_n 0, 1) := by decide +kernel
theorem dX9_begin_122 : decode cX9_begin 122 = .ok (.getfield 107, 3) := by decide +kernel
theorem dX9_begin_125 : decode cX9_begin 125 = .ok (.istore 5, 2) := by decide +kernel
theorem dX9_begin_127 : decode cX9_begin 127 = .ok (.aload_n 0, 1) := by decide +kernel
theorem dX9_begin_128 : decode cX9_begin 128 = .ok (.dup, 1) := by decide +kernel
theorem dX9_begin_129 : decode cX9_begin 129 = .ok (.getfield 107, 3) := by decide +kernel
theorem dX9_begin_132 : decode cX9_begin 132 = .ok (.iconst 1, 1) := by decide +kernel
theorem dX9_begin_133 : decode cX9_begin 133 = .ok (.iadd, 1) := by decide +kernel
theorem dX9_begin_134 : decode cX9_begin 134 = .ok (.putfield 107, 3) := by decide +kernel
theorem dX9_begin_137 : decode cX9_begin 137 = .ok (.aload_n 0, 1) := by decide +kernel
theorem dX9_begin_138 : decode cX9_begin 138 = .ok (.getfield 33, 3) := by decide +kernel
theorem dX9_begin_141 : decode cX9_begin 141 = .ok (.iload 5, 2) := by decide +kernel
theorem dX9_begin_143 : decode cX9_begin 143 = .ok (.iload 4, 2) := by decide +kernel
theorem dX9_begin_145 : decode cX9_begin 145 = .ok (.iastore, 1) := by decide +kernel
theorem dX9_begin_146 : decode cX9_begin 146 = .ok (.aload_n 0, 1) := by decide +kernel
theorem dX9_begin_147 : decode cX9_begin 147 = .ok (.getfield 36, 3) := by decide +kernel
theorem dX9_begin_150 : decode cX9_begin 150 = .ok (.iload 5, 2) := by decide +kernel
theorem dX9_begin_152 : decode cX9_begin 152 = .ok (.iload_n 1, 1) := by decide +kernel
theorem dX9_begin_153 : decode cX9_begin 153 = .ok (.iastore, 1) := by decide +kernel
theorem dX9_begin_154 : decode cX9_begin 154 = .ok (.aload_n 0, 1) := by decide +kernel
theorem dX9_begin_155 : decode cX9_begin 155 = .ok (.getfield 39, 3) := by decide +kernel
theorem dX9_begin_158 : decode cX9_begin 158 = .ok (.iload 5, 2) := by decide +kernel
theorem dX9_begin_160 : decode cX9_begin 160 = .ok (.iload_n 2, 1) := by decide +kernel
theorem dX9_begin_161 : decode cX9_begin 161 = .ok (.iastore, 1) := by decide +kernel
theorem dX9_begin_162 : decode cX9_begin 162 = .ok (.aload_n 0, 1) := by decide +kernel
theorem dX9_begin_163 : decode cX9_begin 163 = .ok (.getfield 42, 3) := by decide +kernel
theorem dX9_begin_166 : decode cX9_begin 166 = .ok (.iload 5, 2) := by decide +kernel
theorem dX9_begin_168 : decode cX9_begin 168 = .ok (.iload_n 3, 1) := by decide +kernel
theorem dX9_begin_169 : decode cX9_begin 169 = .ok (.iastore, 1) := by decide +kernel
theorem dX9_begin_170 : decode cX9_begin 170 = .ok (.aload_n 0, 1) := by decide +kernel
theorem dX9_begin_171 : decode cX9_begin 171 = .ok (.getfield 45, 3) := by decide +kernel
theorem dX9_begin_174 : decode cX9_begin 174 = .ok (.iload 5, 2) := by decide +kernel
theorem dX9_begin_176 : decode cX9_begin 176 = .ok (.iconst 0, 1) := by decide +kernel
theorem dX9_begin_177 : decode cX9_begin 177 = .ok (.iastore, 1) := by decide +kernel
theorem dX9_begin_178 : decode cX9_begin 178 = .ok (.iconst 0, 1) := by decide +kernel
theorem dX9_begin_179 : decode cX9_begin 179 = .ok (.istore 6, 2) := by decide +kernel
theorem dX9_begin_181 : decode cX9_begin 181 = .ok (.iload 6, 2) := by decide +kernel
theorem dX9_begin_183 : decode cX9_begin 183 = .ok (.sipush 255, 3) := by decide +kernel
theorem dX9_begin_186 : decode cX9_begin 186 = .ok (.if_icmp .ge 24, 3) := by decide +kernel
theorem dX9_begin_189 : decode cX9_begin 189 = .ok (.aload_n 0, 1) := by decide +kernel
theorem dX9_begin_190 : decode cX9_begin 190 = .ok (.getfield 51, 3) := by decide +kernel
theorem dX9_begin_193 : decode cX9_begin 193 = .ok (.sipush 255, 3) := by decide +kernel
theorem dX9_begin_196 : decode cX9_begin 196 = .ok (.iload 4, 2) := by decide +kernel
theorem dX9_begin_198 : decode cX9_begin 198 = .ok (.imul, 1) := by decide +kernel
theorem dX9_begin_199 : decode cX9_begin 199 = .ok (.iload 6, 2) := by decide +kernel
theorem dX9_begin_201 : decode cX9_begin 201 = .ok (.iadd, 1) := by decide +kernel
theorem dX9_begin_202 : decode cX9_begin 202 = .ok (.iconst (-1), 1) := by decide +kernel
theorem dX9_begin_203 : decode cX9_begin 203 = .ok (.iastore, 1) := by decide +kernel
theorem dX9_begin_204 : decode cX9_begin 204 = .ok (.iinc 6 1, 3) := by decide +kernel
theorem dX9_begin_207 : decode cX9_begin 207 = .ok (.goto (-26), 3) := by decide +kernel
theorem dX9_begin_210 : decode cX9_begin 210 = .ok (.iload 5, 2) := by decide +kernel
theorem dX9_begin_212 : decode cX9_begin 212 = .ok (.ireturn, 1) := by decide +kernel
set_option maxRecDepth 20000 in
theorem ggX9_reads_X9_fault : GoodIn wsX9_reads wsX9_fault := goodIn_r _ [20, 21, 1, 2, 22, 4, 23, 24, 25, 19, 26, 27, 28, 29, 30, 31, 32, 33, 34, 35, 44, 45, 46, 47, 48, 49, 50, 51, 52, 53, 54, 55, 56, 57, 58, 59, 60, 61, 62, 63, 64, 65, 66, 67, 68, 69, 70] rfl (by decide +kernel)
set_option maxRecDepth 20000 in
theorem gX9_reads_X9_fault : GoodIn wsX9_reads (wsV RX9 142 RX9 yX9_fault wsX9_fault) := goodIn_app (goodIn_of _ (by decide +kernel)) ggX9_reads_X9_fault
set_option maxRecDepth 20000 in
theorem ggX9_reads_X9_begin : GoodIn wsX9_reads wsX9_begin := goodIn_r _ [39, 6, 15, 10, 7, 8, 9, 13, 11, 40, 41, 42, 19, 43, 44, 45, 46, 47, 48, 49, 50, 51, 52, 53, 54, 55, 56, 57, 58, 59, 60, 61, 62, 63, 64, 65, 66, 67, 68, 69, 70] rfl (by decide +kernel)
set_option maxRecDepth 20000 in
theorem gX9_reads_X9_begin : GoodIn wsX9_reads (wsV RX9 145 RX9 yX9_begin wsX9_begin) := goodIn_app (goodIn_of _ (by decide +kernel)) ggX9_reads_X9_begin
set_option maxRecDepth 20000 in
theorem ggX9_reads_X9_gone : GoodIn wsX9_reads wsX9_gone := goodIn_r _ [43, 10, 6, 7, 8, 9, 13, 15, 44, 45, 46, 47, 48, 49, 50, 51, 52, 53, 54, 55, 56, 57, 58, 59, 60, 61, 62, 63, 64, 65, 66, 67, 68, 69, 70] rfl (by decide +kernel)
set_option maxRecDepth 20000 in
theorem gX9_reads_X9_gone : GoodIn wsX9_reads (wsV RX9 138 RX9 yX9_gone wsX9_gone) := goodIn_app (goodIn_of _ (by decide +kernel)) ggX9_reads_X9_gone
theorem dX9_reads_0 : decode cX9_reads 0 = .ok (.aload_n 0, 1) := by decide +kernel
theorem dX9_reads_1 : decode cX9_reads 1 = .ok (.invokevirtual 142, 3) := by decide +kernel
theorem dX9_reads_4 : decode cX9_reads 4 = .ok (.istore_n 2, 1) := by decide +kernel
theorem dX9_reads_5 : decode cX9_reads 5 = .ok (.iload_n 2, 1) := by decide +kernel
theorem dX9_reads_6 : decode cX9_reads 6 = .ok (.ifCond .le 6, 3) := by decide +kernel
theorem dX9_reads_9 : decode cX9_reads 9 = .ok (.iload_n 2, 1) := by decide +kernel
theorem dX9_reads_10 : decode cX9_reads 10 = .ok (.ineg, 1) := by decide +kernel
theorem dX9_reads_11 : decode cX9_reads 11 = .ok (.ireturn, 1) := by decide +kernel
theorem dX9_reads_12 : decode cX9_reads 12 = .ok (.aload_n 0, 1) := by decide +kernel
theorem dX9_reads_13 : decode cX9_reads 13 = .ok (.getfield 58, 3) := by decide +kernel
theorem dX9_reads_16 : decode cX9_reads 16 = .ok (.iconst 0, 1) := by decide +kernel
theorem dX9_reads_17 : decode cX9_reads 17 = .ok (.iaload, 1) := by decide +kernel
theorem dX9_reads_18 : decode cX9_reads 18 = .ok (.iconst 1, 1) := by decide +kernel
theorem dX9_reads_19 : decode cX9_reads 19 = .ok (.iand, 1) := by decide +kernel
theorem dX9_reads_20 : decode cX9_reads 20 = .ok (.ifCond .ne 41, 3) := by decide +kernel
theorem dX9_reads_23 : decode cX9_reads 23 = .ok (.iconst 0, 1) := by decide +kernel
theorem dX9_reads_24 : decode cX9_reads 24 = .ok (.istore_n 3, 1) := by decide +kernel
theorem dX9_reads_25 : decode cX9_reads 25 = .ok (.iload_n 3, 1) := by decide +kernel
theorem dX9_reads_26 : decode cX9_reads 26 = .ok (.aload_n 0, 1) := by decide +kernel
theorem dX9_reads_27 : decode cX9_reads 27 = .ok (.getfield 129, 3) := by decide +kernel
theorem dX9_reads_30 : decode cX9_reads 30 = .ok (.if_icmp .ge 21, 3) := by decide +kernel
theorem dX9_reads_33 : decode cX9_reads 33 = .ok (.aload_n 0, 1) := by decide +kernel
theorem dX9_reads_34 : decode cX9_reads 34 = .ok (.getfield 30, 3) := by decide +kernel
theorem dX9_reads_37 : decode cX9_reads 37 = .ok (.iload_n 3, 1) := by decide +kernel
theorem dX9_reads_38 : decode cX9_reads 38 = .ok (.aload_n 0, 1) := by decide +kernel
theorem dX9_reads_39 : decode cX9_reads 39 = .ok (.getfield 61, 3) := by decide +kernel
theorem dX9_reads_42 : decode cX9_reads 42 = .ok (.iload_n 3, 1) := by decide +kernel
theorem dX9_reads_43 : decode cX9_reads 43 = .ok (.iaload, 1) := by decide +kernel
theorem dX9_reads_44 : decode cX9_reads 44 = .ok (.iastore, 1) := by decide +kernel
theorem dX9_reads_45 : decode cX9_reads 45 = .ok (.iinc 3 1, 3) := by decide +kernel
theorem dX9_reads_48 : decode cX9_reads 48 = .ok (.goto (-23), 3) := by decide +kernel
theorem dX9_reads_51 : decode cX9_reads 51 = .ok (.aload_n 0, 1) := by decide +kernel
theorem dX9_reads_52 : decode cX9_reads 52 = .ok (.aload_n 0, 1) := by decide +kernel
theorem dX9_reads_53 : decode cX9_reads 53 = .ok (.getfield 129, 3) := by decide +kernel
theorem dX9_reads_56 : decode cX9_reads 56 = .ok (.putfield 110, 3) := by decide +kernel
theorem dX9_reads_59 : decode cX9_reads 59 = .ok (.iconst 1, 1) := by decide +kernel
theorem dX9_reads_60 : decode cX9_reads 60 = .ok (.ireturn, 1) := by decide +kernel
theorem dX9_reads_61 : decode cX9_reads 61 = .ok (.iconst (-1), 1) := by decide +kernel
theorem dX9_reads_62 : decode cX9_reads 62 = .ok (.istore_n 3, 1) := by decide +kernel
theorem dX9_reads_63 : decode cX9_reads 63 = .ok (.iconst 0, 1) := by decide +kernel
theorem dX9_reads_64 : decode cX9_reads 64 = .ok (.istore 4, 2) := by decide +kernel
theorem dX9_reads_66 : decode cX9_reads 66 = .ok (.iload 4, 2) := by decide +kernel
theorem dX9_reads_68 : decode cX9_reads 68 = .ok (.aload_n 0, 1) := by decide +kernel
theorem dX9_reads_69 : decode cX9_reads 69 = .ok (.getfield 107, 3) := by decide +kernel
theorem dX9_reads_72 : decode cX9_reads 72 = .ok (.if_icmp .ge 60, 3) := by decide +kernel
theorem dX9_reads_75 : decode cX9_reads 75 = .ok (.aload_n 0, 1) := by decide +kernel
theorem dX9_reads_76 : decode cX9_reads 76 = .ok (.getfield 36, 3) := by decide +kernel
theorem dX9_reads_79 : decode cX9_reads 79 = .ok (.iload 4, 2) := by decide +kernel
theorem dX9_reads_81 : decode cX9_reads 81 = .ok (.iaload, 1) := by decide +kernel
theorem dX9_reads_82 : decode cX9_reads 82 = .ok (.iload_n 1, 1) := by decide +kernel
theorem dX9_reads_83 : decode cX9_reads 83 = .ok (.if_icmp .ne 41, 3) := by decide +kernel
theorem dX9_reads_86 : decode cX9_reads 86 = .ok (.aload_n 0, 1) := by decide +kernel
theorem dX9_reads_87 : decode cX9_reads 87 = .ok (.getfield 39, 3) := by decide +kernel
theorem dX9_reads_90 : decode cX9_reads 90 = .ok (.iload 4, 2) := by decide +kernel
theorem dX9_reads_92 : decode cX9_reads 92 = .ok (.iaload, 1) := by decide +kernel
theorem dX9_reads_93 : decode cX9_reads 93 = .ok (.aload_n 0, 1) := by decide +kernel
theorem dX9_reads_94 : decode cX9_reads 94 = .ok (.getfield 58, 3) := by decide +kernel
theorem dX9_reads_97 : decode cX9_reads 97 = .ok (.iconst 5, 1) := by decide +kernel
theorem dX9_reads_98 : decode cX9_reads 98 = .ok (.iaload, 1) := by decide +kernel
theorem dX9_reads_99 : decode cX9_reads 99 = .ok (.if_icmp .ne 25, 3) := by decide +kernel
theorem dX9_reads_102 : decode cX9_reads 102 = .ok (.aload_n 0, 1) := by decide +kernel
theorem dX9_reads_103 : decode cX9_reads 103 = .ok (.getfield 42, 3) := by decide +kernel
theorem dX9_reads_106 : decode cX9_reads 106 = .ok (.iload 4, 2) := by decide +kernel
theorem dX9_reads_108 : decode cX9_reads 108 = .ok (.iaload, 1) := by decide +kernel
theorem dX9_reads_109 : decode cX9_reads 109 = .ok (.aload_n 0, 1) := by decide +kernel
theorem dX9_reads_110 : decode cX9_reads 110 = .ok (.getfield 58, 3) := by decide +kernel
theorem dX9_reads_113 : decode cX9_reads 113 = .ok (.bipush 6, 2) := by decide +kernel
theorem dX9_reads_115 : decode cX9_reads 115 = .ok (.iaload, 1) := by decide +kernel
theorem dX9_reads_116 : decode cX9_reads 116 = .ok (.if_icmp .ne 8, 3) := by decide +kernel
theorem dX9_reads_119 : decode cX9_reads 119 = .ok (.iload 4, 2) := by decide +kernel
theorem dX9_reads_121 : decode cX9_reads 121 = .ok (.goto 4, 3) := by decide +kernel
theorem dX9_reads_124 : decode cX9_reads 124 = .ok (.iload_n 3, 1) := by decide +kernel
theorem dX9_reads_125 : decode cX9_reads 125 = .ok (.istore_n 3, 1) := by decide +kernel
theorem dX9_reads_126 : decode cX9_reads 126 = .ok (.iinc 4 1, 3) := by decide +kernel
theorem dX9_reads_129 : decode cX9_reads 129 = .ok (.goto (-63), 3) := by decide +kernel
theorem dX9_reads_132 : decode cX9_reads 132 = .ok (.iload_n 3, 1) := by decide +kernel
theorem dX9_reads_133 : decode cX9_reads 133 = .ok (.iconst (-1), 1) := by decide +kernel
theorem dX9_reads_134 : decode cX9_reads 134 = .ok (.if_icmp .ne 24, 3) := by decide +kernel
theorem dX9_reads_137 : decode cX9_reads 137 = .ok (.aload_n 0, 1) := by decide +kernel
theorem dX9_reads_138 : decode cX9_reads 138 = .ok (.iload_n 1, 1) := by decide +kernel
theorem dX9_reads_139 : decode cX9_reads 139 = .ok (.aload_n 0, 1) := by decide +kernel
theorem dX9_reads_140 : decode cX9_reads 140 = .ok (.getfield 58, 3) := by decide +kernel
theorem dX9_reads_143 : decode cX9_reads 143 = .ok (.iconst 5, 1) := by decide +kernel
theorem dX9_reads_144 : decode cX9_reads 144 = .ok (.iaload, 1) := by decide +kernel
theorem dX9_reads_145 : decode cX9_reads 145 = .ok (.aload_n 0, 1) := by decide +kernel
theorem dX9_reads_146 : decode cX9_reads 146 = .ok (.getfield 58, 3) := by decide +kernel
theorem dX9_reads_149 : decode cX9_reads 149 = .ok (.bipush 6, 2) := by decide +kernel
theorem dX9_reads_151 : decode cX9_reads 151 = .ok (.iaload, 1) := by decide +kernel
theorem dX9_reads_152 : decode cX9_reads 152 = .ok (.invokevirtual 145, 3) := by decide +kernel
theorem dX9_reads_155 : decode cX9_reads 155 = .ok (.goto 4, 3) := by decide +kernel
theorem dX9_reads_158 : decode cX9_reads 158 = .ok (.iload_n 3, 1) := by decide +kernel
theorem dX9_reads_159 : decode cX9_reads 159 = .ok (.istore_n 3, 1) := by decide +kernel
theorem dX9_reads_160 : decode cX9_reads 160 = .ok (.sipush 255, 3) := by decide +kernel
theorem dX9_reads_163 : decode cX9_reads 163 = .ok (.aload_n 0, 1) := by decide +kernel
theorem dX9_reads_164 : decode cX9_reads 164 = .ok (.getfield 33, 3) := by decide +kernel
theorem dX9_reads_167 : decode cX9_reads 167 = .ok (.iload_n 3, 1) := by decide +kernel
theorem dX9_reads_168 : decode cX9_reads 168 = .ok (.iaload, 1) := by decide +kernel
theorem dX9_reads_169 : decode cX9_reads 169 = .ok (.imul, 1) := by decide +kernel
theorem dX9_reads_170 : decode cX9_reads 170 = .ok (.aload_n 0, 1) := by decide +kernel
theorem dX9_reads_171 : decode cX9_reads 171 = .ok (.getfield 58, 3) := by decide +kernel
theorem dX9_reads_174 : decode cX9_reads 174 = .ok (.bipush 7, 2) := by decide +kernel
theorem dX9_reads_176 : decode cX9_reads 176 = .ok (.iaload, 1) := by decide +kernel
theorem dX9_reads_177 : decode cX9_reads 177 = .ok (.iadd, 1) := by decide +kernel
theorem dX9_reads_178 : decode cX9_reads 178 = .ok (.iconst 1, 1) := by decide +kernel
theorem dX9_reads_179 : decode cX9_reads 179 = .ok (.isub, 1) := by decide +kernel
theorem dX9_reads_180 : decode cX9_reads 180 = .ok (.istore 4, 2) := by decide +kernel
theorem dX9_reads_182 : decode cX9_reads 182 = .ok (.aload_n 0, 1) := by decide +kernel
theorem dX9_reads_183 : decode cX9_reads 183 = .ok (.getfield 51, 3) := by decide +kernel
theorem dX9_reads_186 : decode cX9_reads 186 = .ok (.iload 4, 2) := by decide +kernel
theorem dX9_reads_188 : decode cX9_reads 188 = .ok (.iaload, 1) := by decide +kernel
theorem dX9_reads_189 : decode cX9_reads 189 = .ok (.iconst (-1), 1) := by decide +kernel
theorem dX9_reads_190 : decode cX9_reads 190 = .ok (.if_icmp .eq 5, 3) := by decide +kernel
theorem dX9_reads_193 : decode cX9_reads 193 = .ok (.iconst 0, 1) := by decide +kernel
theorem dX9_reads_194 : decode cX9_reads 194 = .ok (.ireturn, 1) := by decide +kernel
theorem dX9_reads_195 : decode cX9_reads 195 = .ok (.aload_n 0, 1) := by decide +kernel
theorem dX9_reads_196 : decode cX9_reads 196 = .ok (.getfield 51, 3) := by decide +kernel
theorem dX9_reads_199 : decode cX9_reads 199 = .ok (.iload 4, 2) := by decide +kernel
theorem dX9_reads_201 : decode cX9_reads 201 = .ok (.aload_n 0, 1) := by decide +kernel
theorem dX9_reads_202 : decode cX9_reads 202 = .ok (.getfield 129, 3) := by decide +kernel
theorem dX9_reads_205 : decode cX9_reads 205 = .ok (.iastore, 1) := by decide +kernel
theorem dX9_reads_206 : decode cX9_reads 206 = .ok (.iconst 0, 1) := by decide +kernel
theorem dX9_reads_207 : decode cX9_reads 207 = .ok (.istore 5, 2) := by decide +kernel
theorem dX9_reads_209 : decode cX9_reads 209 = .ok (.iload 5, 2) := by decide +kernel
theorem dX9_reads_211 : decode cX9_reads 211 = .ok (.aload_n 0, 1) := by decide +kernel
theorem dX9_reads_212 : decode cX9_reads 212 = .ok (.getfield 129, 3) := by decide +kernel
theorem dX9_reads_215 : decode cX9_reads 215 = .ok (.if_icmp .ge 30, 3) := by decide +kernel
theorem dX9_reads_218 : decode cX9_reads 218 = .ok (.aload_n 0, 1) := by decide +kernel
theorem dX9_reads_219 : decode cX9_reads 219 = .ok (.getfield 55, 3) := by decide +kernel
theorem dX9_reads_222 : decode cX9_reads 222 = .ok (.sipush 160, 3) := by decide +kernel
theorem dX9_reads_225 : decode cX9_reads 225 = .ok (.iload 4, 2) := by decide +kernel
theorem dX9_reads_227 : decode cX9_reads 227 = .ok (.imul, 1) := by decide +kernel
theorem dX9_reads_228 : decode cX9_reads 228 = .ok (.iload 5, 2) := by decide +kernel
theorem dX9_reads_230 : decode cX9_reads 230 = .ok (.iadd, 1) := by decide +kernel
theorem dX9_reads_231 : decode cX9_reads 231 = .ok (.aload_n 0, 1) := by decide +kernel
theorem dX9_reads_232 : decode cX9_reads 232 = .ok (.getfield 61, 3) := by decide +kernel
theorem dX9_reads_235 : decode cX9_reads 235 = .ok (.iload 5, 2) := by decide +kernel
theorem dX9_reads_237 : decode cX9_reads 237 = .ok (.iaload, 1) := by decide +kernel
theorem dX9_reads_238 : decode cX9_reads 238 = .ok (.iastore, 1) := by decide +kernel
theorem dX9_reads_239 : decode cX9_reads 239 = .ok (.iinc 5 1, 3) := by decide +kernel
theorem dX9_reads_242 : decode cX9_reads 242 = .ok (.goto (-33), 3) := by decide +kernel
theorem dX9_reads_245 : decode cX9_reads 245 = .ok (.aload_n 0, 1) := by decide +kernel
theorem dX9_reads_246 : decode cX9_reads 246 = .ok (.getfield 45, 3) := by decide +kernel
theorem dX9_reads_249 : decode cX9_reads 249 = .ok (.iload_n 3, 1) := by decide +kernel
theorem dX9_reads_250 : decode cX9_reads 250 = .ok (.dup2, 1) := by decide +kernel
theorem dX9_reads_251 : decode cX9_reads 251 = .ok (.iaload, 1) := by decide +kernel
theorem dX9_reads_252 : decode cX9_reads 252 = .ok (.iconst 1, 1) := by decide +kernel
theorem dX9_reads_253 : decode cX9_reads 253 = .ok (.iadd, 1) := by decide +kernel
theorem dX9_reads_254 : decode cX9_reads 254 = .ok (.iastore, 1) := by decide +kernel
theorem dX9_reads_255 : decode cX9_reads 255 = .ok (.aload_n 0, 1) := by decide +kernel
theorem dX9_reads_256 : decode cX9_reads 256 = .ok (.dup, 1) := by decide +kernel
theorem dX9_reads_257 : decode cX9_reads 257 = .ok (.getfield 149, 3) := by decide +kernel
theorem dX9_reads_260 : decode cX9_reads 260 = .ok (.iconst 1, 1) := by decide +kernel
theorem dX9_reads_261 : decode cX9_reads 261 = .ok (.iadd, 1) := by decide +kernel
theorem dX9_reads_262 : decode cX9_reads 262 = .ok (.putfield 149, 3) := by decide +kernel
theorem dX9_reads_265 : decode cX9_reads 265 = .ok (.aload_n 0, 1) := by decide +kernel
theorem dX9_reads_266 : decode cX9_reads 266 = .ok (.getfield 48, 3) := by decide +kernel
theorem dX9_reads_269 : decode cX9_reads 269 = .ok (.iload_n 3, 1) := by decide +kernel
theorem dX9_reads_270 : decode cX9_reads 270 = .ok (.aload_n 0, 1) := by decide +kernel
theorem dX9_reads_271 : decode cX9_reads 271 = .ok (.getfield 149, 3) := by decide +kernel
theorem dX9_reads_274 : decode cX9_reads 274 = .ok (.iastore, 1) := by decide +kernel
theorem dX9_reads_275 : decode cX9_reads 275 = .ok (.aload_n 0, 1) := by decide +kernel
theorem dX9_reads_276 : decode cX9_reads 276 = .ok (.getfield 45, 3) := by decide +kernel
theorem dX9_reads_279 : decode cX9_reads 279 = .ok (.iload_n 3, 1) := by decide +kernel
theorem dX9_reads_280 : decode cX9_reads 280 = .ok (.iaload, 1) := by decide +kernel
theorem dX9_reads_281 : decode cX9_reads 281 = .ok (.aload_n 0, 1) := by decide +kernel
theorem dX9_reads_282 : decode cX9_reads 282 = .ok (.getfield 42, 3) := by decide +kernel
theorem dX9_reads_285 : decode cX9_reads 285 = .ok (.iload_n 3, 1) := by decide +kernel
theorem dX9_reads_286 : decode cX9_reads 286 = .ok (.iaload, 1) := by decide +kernel
theorem dX9_reads_287 : decode cX9_reads 287 = .ok (.if_icmp .ge 5, 3) := by decide +kernel
theorem dX9_reads_290 : decode cX9_reads 290 = .ok (.iconst 0, 1) := by decide +kernel
theorem dX9_reads_291 : decode cX9_reads 291 = .ok (.ireturn, 1) := by decide +kernel
theorem dX9_reads_292 : decode cX9_reads 292 = .ok (.aload_n 0, 1) := by decide +kernel
theorem dX9_reads_293 : decode cX9_reads 293 = .ok (.iconst 0, 1) := by decide +kernel
theorem dX9_reads_294 : decode cX9_reads 294 = .ok (.putfield 110, 3) := by decide +kernel
theorem dX9_reads_297 : decode cX9_reads 297 = .ok (.iconst 0, 1) := by decide +kernel
theorem dX9_reads_298 : decode cX9_reads 298 = .ok (.istore 5, 2) := by decide +kernel
theorem dX9_reads_300 : decode cX9_reads 300 = .ok (.iload 5, 2) := by decide +kernel
theorem dX9_reads_302 : decode cX9_reads 302 = .ok (.aload_n 0, 1) := by decide +kernel
theorem dX9_reads_303 : decode cX9_reads 303 = .ok (.getfield 42, 3) := by decide +kernel
theorem dX9_reads_306 : decode cX9_reads 306 = .ok (.iload_n 3, 1) := by decide +kernel
theorem dX9_reads_307 : decode cX9_reads 307 = .ok (.iaload, 1) := by decide +kernel
theorem dX9_reads_308 : decode cX9_reads 308 = .ok (.if_icmp .ge 78, 3) := by decide +kernel
theorem dX9_reads_311 : decode cX9_reads 311 = .ok (.sipush 255, 3) := by decide +kernel
theorem dX9_reads_314 : decode cX9_reads 314 = .ok (.aload_n 0, 1) := by decide +kernel
theorem dX9_reads_315 : decode cX9_reads 315 = .ok (.getfield 33, 3) := by decide +kernel
theorem dX9_reads_318 : decode cX9_reads 318 = .ok (.iload_n 3, 1) := by decide +kernel
theorem dX9_reads_319 : decode cX9_reads 319 = .ok (.iaload, 1) := by decide +kernel
theorem dX9_reads_320 : decode cX9_reads 320 = .ok (.imul, 1) := by decide +kernel
theorem dX9_reads_321 : decode cX9_reads 321 = .ok (.iload 5, 2) := by decide +kernel
theorem dX9_reads_323 : decode cX9_reads 323 = .ok (.iadd, 1) := by decide +kernel
theorem dX9_reads_324 : decode cX9_reads 324 = .ok (.istore 6, 2) := by decide +kernel
theorem dX9_reads_326 : decode cX9_reads 326 = .ok (.iconst 0, 1) := by decide +kernel
theorem dX9_reads_327 : decode cX9_reads 327 = .ok (.istore 7, 2) := by decide +kernel
theorem dX9_reads_329 : decode cX9_reads 329 = .ok (.iload 7, 2) := by decide +kernel
theorem dX9_reads_331 : decode cX9_reads 331 = .ok (.aload_n 0, 1) := by decide +kernel
theorem dX9_reads_332 : decode cX9_reads 332 = .ok (.getfield 51, 3) := by decide +kernel
theorem dX9_reads_335 : decode cX9_reads 335 = .ok (.iload 6, 2) := by decide +kernel
theorem dX9_reads_337 : decode cX9_reads 337 = .ok (.iaload, 1) := by decide +kernel
theorem dX9_reads_338 : decode cX9_reads 338 = .ok (.if_icmp .ge 42, 3) := by decide +kernel
theorem dX9_reads_341 : decode cX9_reads 341 = .ok (.aload_n 0, 1) := by decide +kernel
theorem dX9_reads_342 : decode cX9_reads 342 = .ok (.getfield 30, 3) := by decide +kernel
theorem dX9_reads_345 : decode cX9_reads 345 = .ok (.aload_n 0, 1) := by decide +kernel
theorem dX9_reads_346 : decode cX9_reads 346 = .ok (.getfield 110, 3) := by decide +kernel
theorem dX9_reads_349 : decode cX9_reads 349 = .ok (.aload_n 0, 1) := by decide +kernel
theorem dX9_reads_350 : decode cX9_reads 350 = .ok (.getfield 55, 3) := by decide +kernel
theorem dX9_reads_353 : decode cX9_reads 353 = .ok (.sipush 160, 3) := by decide +kernel
theorem dX9_reads_356 : decode cX9_reads 356 = .ok (.iload 6, 2) := by decide +kernel
theorem dX9_reads_358 : decode cX9_reads 358 = .ok (.imul, 1) := by decide +kernel
theorem dX9_reads_359 : decode cX9_reads 359 = .ok (.iload 7, 2) := by decide +kernel
theorem dX9_reads_361 : decode cX9_reads 361 = .ok (.iadd, 1) := by decide +kernel
theorem dX9_reads_362 : decode cX9_reads 362 = .ok (.iaload, 1) := by decide +kernel
theorem dX9_reads_363 : decode cX9_reads 363 = .ok (.iastore, 1) := by decide +kernel
theorem dX9_reads_364 : decode cX9_reads 364 = .ok (.aload_n 0, 1) := by decide +kernel
theorem dX9_reads_365 : decode cX9_reads 365 = .ok (.dup, 1) := by decide +kernel
theorem dX9_reads_366 : decode cX9_reads 366 = .ok (.getfield 110, 3) := by decide +kernel
theorem dX9_reads_369 : decode cX9_reads 369 = .ok (.iconst 1, 1) := by decide +kernel
theorem dX9_reads_370 : decode cX9_reads 370 = .ok (.iadd, 1) := by decide +kernel
theorem dX9_reads_371 : decode cX9_reads 371 = .ok (.putfield 110, 3) := by decide +kernel
theorem dX9_reads_374 : decode cX9_reads 374 = .ok (.iinc 7 1, 3) := by decide +kernel
theorem dX9_reads_377 : decode cX9_reads 377 = .ok (.goto (-48), 3) := by decide +kernel
theorem dX9_reads_380 : decode cX9_reads 380 = .ok (.iinc 5 1, 3) := by decide +kernel
theorem dX9_reads_383 : decode cX9_reads 383 = .ok (.goto (-83), 3) := by decide +kernel
theorem dX9_reads_386 : decode cX9_reads 386 = .ok (.aload_n 0, 1) := by decide +kernel
theorem dX9_reads_387 : decode cX9_reads 387 = .ok (.iload_n 3, 1) := by decide +kernel
theorem dX9_reads_388 : decode cX9_reads 388 = .ok (.invokevirtual 138, 3) := by decide +kernel
theorem dX9_reads_391 : decode cX9_reads 391 = .ok (.iconst 1, 1) := by decide +kernel
theorem dX9_reads_392 : decode cX9_reads 392 = .ok (.ireturn, 1) := by decide +kernel
set_option maxRecDepth 20000 in
theorem ggX9_take_X9_refuses : GoodIn wsX9_take wsX9_refuses := goodIn_r _ [10, 11, 56, 57, 58, 59, 60, 61, 62, 63, 64, 65, 66, 67, 68, 69, 70, 71, 72, 73, 74, 75, 76, 77, 78, 79, 80, 81, 82] rfl (by decide +kernel)
set_option maxRecDepth 20000 in
theorem gX9_take_X9_refuses : GoodIn wsX9_take (wsV RX9 72 RX9 yX9_refuses wsX9_refuses) := goodIn_app (goodIn_of _ (by decide +kernel)) ggX9_take_X9_refuses
set_option maxRecDepth 20000 in
theorem ggX9_take_X9_reads : GoodIn wsX9_take wsX9_reads := goodIn_r _ [15, 4, 16, 17, 18, 19, 20, 21, 22, 23, 24, 25, 26, 27, 28, 29, 30, 31, 32, 9, 33, 3, 34, 35, 36, 37, 38, 39, 40, 41, 42, 43, 44, 45, 46, 47, 48, 49, 50, 51, 52, 53, 54, 55, 56, 57, 58, 59, 60, 61, 62, 63, 64, 65, 66, 67, 68, 69, 70, 71, 72, 73, 74, 75, 76, 77, 78, 79, 80, 81, 82] rfl (by decide +kernel)
set_option maxRecDepth 20000 in
theorem gX9_take_X9_reads : GoodIn wsX9_take (wsV RX9 152 RX9 yX9_reads wsX9_reads) := goodIn_app (goodIn_of _ (by decide +kernel)) ggX9_take_X9_reads
theorem dX9_take_0 : decode cX9_take 0 = .ok (.aload_n 0, 1) := by decide +kernel
theorem dX9_take_1 : decode cX9_take 1 = .ok (.iload_n 1, 1) := by decide +kernel
theorem dX9_take_2 : decode cX9_take 2 = .ok (.ifCond .lt 22, 3) := by decide +kernel
theorem dX9_take_5 : decode cX9_take 5 = .ok (.iload_n 1, 1) := by decide +kernel
theorem dX9_take_6 : decode cX9_take 6 = .ok (.sipush 999, 3) := by decide +kernel
theorem dX9_take_9 : decode cX9_take 9 = .ok (.if_icmp .gt 15, 3) := by decide +kernel
theorem dX9_take_12 : decode cX9_take 12 = .ok (.iload_n 2, 1) := by decide +kernel
theorem dX9_take_13 : decode cX9_take 13 = .ok (.ifCond .lt 11, 3) := by decide +kernel
theorem dX9_take_16 : decode cX9_take 16 = .ok (.iload_n 2, 1) := by decide +kernel
theorem dX9_take_17 : decode cX9_take 17 = .ok (.aload_n 0, 1) := by decide +kernel
theorem dX9_take_18 : decode cX9_take 18 = .ok (.getfield 104, 3) := by decide +kernel
theorem dX9_take_21 : decode cX9_take 21 = .ok (.if_icmp .lt 7, 3) := by decide +kernel
theorem dX9_take_24 : decode cX9_take 24 = .ok (.iconst 1, 1) := by decide +kernel
theorem dX9_take_25 : decode cX9_take 25 = .ok (.goto 4, 3) := by decide +kernel
theorem dX9_take_28 : decode cX9_take 28 = .ok (.iconst 0, 1) := by decide +kernel
theorem dX9_take_29 : decode cX9_take 29 = .ok (.invokevirtual 72, 3) := by decide +kernel
theorem dX9_take_32 : decode cX9_take 32 = .ok (.ifCond .eq 5, 3) := by decide +kernel
theorem dX9_take_35 : decode cX9_take 35 = .ok (.iconst 0, 1) := by decide +kernel
theorem dX9_take_36 : decode cX9_take 36 = .ok (.ireturn, 1) := by decide +kernel
theorem dX9_take_37 : decode cX9_take 37 = .ok (.aload_n 0, 1) := by decide +kernel
theorem dX9_take_38 : decode cX9_take 38 = .ok (.aload_n 0, 1) := by decide +kernel
theorem dX9_take_39 : decode cX9_take 39 = .ok (.getfield 19, 3) := by decide +kernel
theorem dX9_take_42 : decode cX9_take 42 = .ok (.iload_n 2, 1) := by decide +kernel
theorem dX9_take_43 : decode cX9_take 43 = .ok (.iaload, 1) := by decide +kernel
theorem dX9_take_44 : decode cX9_take 44 = .ok (.putfield 126, 3) := by decide +kernel
theorem dX9_take_47 : decode cX9_take 47 = .ok (.iconst 0, 1) := by decide +kernel
theorem dX9_take_48 : decode cX9_take 48 = .ok (.istore_n 3, 1) := by decide +kernel
theorem dX9_take_49 : decode cX9_take 49 = .ok (.iload_n 3, 1) := by decide +kernel
theorem dX9_take_50 : decode cX9_take 50 = .ok (.aload_n 0, 1) := by decide +kernel
theorem dX9_take_51 : decode cX9_take 51 = .ok (.getfield 126, 3) := by decide +kernel
theorem dX9_take_54 : decode cX9_take 54 = .ok (.if_icmp .ge 27, 3) := by decide +kernel
theorem dX9_take_57 : decode cX9_take 57 = .ok (.aload_n 0, 1) := by decide +kernel
theorem dX9_take_58 : decode cX9_take 58 = .ok (.getfield 58, 3) := by decide +kernel
theorem dX9_take_61 : decode cX9_take 61 = .ok (.iload_n 3, 1) := by decide +kernel
theorem dX9_take_62 : decode cX9_take 62 = .ok (.aload_n 0, 1) := by decide +kernel
theorem dX9_take_63 : decode cX9_take 63 = .ok (.getfield 23, 3) := by decide +kernel
theorem dX9_take_66 : decode cX9_take 66 = .ok (.sipush 142, 3) := by decide +kernel
theorem dX9_take_69 : decode cX9_take 69 = .ok (.iload_n 2, 1) := by decide +kernel
theorem dX9_take_70 : decode cX9_take 70 = .ok (.imul, 1) := by decide +kernel
theorem dX9_take_71 : decode cX9_take 71 = .ok (.iload_n 3, 1) := by decide +kernel
theorem dX9_take_72 : decode cX9_take 72 = .ok (.iadd, 1) := by decide +kernel
theorem dX9_take_73 : decode cX9_take 73 = .ok (.iaload, 1) := by decide +kernel
theorem dX9_take_74 : decode cX9_take 74 = .ok (.iastore, 1) := by decide +kernel
theorem dX9_take_75 : decode cX9_take 75 = .ok (.iinc 3 1, 3) := by decide +kernel
theorem dX9_take_78 : decode cX9_take 78 = .ok (.goto (-29), 3) := by decide +kernel
theorem dX9_take_81 : decode cX9_take 81 = .ok (.aload_n 0, 1) := by decide +kernel
theorem dX9_take_82 : decode cX9_take 82 = .ok (.iload_n 1, 1) := by decide +kernel
theorem dX9_take_83 : decode cX9_take 83 = .ok (.invokevirtual 152, 3) := by decide +kernel
theorem dX9_take_86 : decode cX9_take 86 = .ok (.ireturn, 1) := by decide +kernel
set_option maxRecDepth 20000 in
theorem ggX9_feed_X9_refuses : GoodIn wsX9_feed wsX9_refuses := goodIn_r _ [7, 8, 9, 10, 11, 12, 13, 14, 15, 16, 17, 18, 19, 20, 21, 22, 23, 24, 25, 26, 27, 28, 29, 30, 31, 32, 33, 34, 35] rfl (by decide +kernel)
set_option maxRecDepth 20000 in
theorem gX9_feed_X9_refuses : GoodIn wsX9_feed (wsV RX9 72 RX9 yX9_refuses wsX9_refuses) := goodIn_app (goodIn_of _ (by decide +kernel)) ggX9_feed_X9_refuses
theorem dX9_feed_0 : decode cX9_feed 0 = .ok (.aload_n 0, 1) := by decide +kernel
theorem dX9_feed_1 : decode cX9_feed 1 = .ok (.iload_n 3, 1) := by decide +kernel
theorem dX9_feed_2 : decode cX9_feed 2 = .ok (.ifCond .lt 9, 3) := by decide +kernel
theorem dX9_feed_5 : decode cX9_feed 5 = .ok (.iload_n 3, 1) := by decide +kernel
theorem dX9_feed_6 : decode cX9_feed 6 = .ok (.bipush 8, 2) := by decide +kernel
theorem dX9_feed_8 : decode cX9_feed 8 = .ok (.if_icmp .le 7, 3) := by decide +kernel
theorem dX9_feed_11 : decode cX9_feed 11 = .ok (.iconst 1, 1) := by decide +kernel
theorem dX9_feed_12 : decode cX9_feed 12 = .ok (.goto 20, 3) := by decide +kernel
theorem dX9_feed_15 : decode cX9_feed 15 = .ok (.aload_n 0, 1) := by decide +kernel
theorem dX9_feed_16 : decode cX9_feed 16 = .ok (.getfield 113, 3) := by decide +kernel
theorem dX9_feed_19 : decode cX9_feed 19 = .ok (.iload_n 3, 1) := by decide +kernel
theorem dX9_feed_20 : decode cX9_feed 20 = .ok (.iadd, 1) := by decide +kernel
theorem dX9_feed_21 : decode cX9_feed 21 = .ok (.sipush 200, 3) := by decide +kernel
theorem dX9_feed_24 : decode cX9_feed 24 = .ok (.if_icmp .le 7, 3) := by decide +kernel
theorem dX9_feed_27 : decode cX9_feed 27 = .ok (.iconst 2, 1) := by decide +kernel
theorem dX9_feed_28 : decode cX9_feed 28 = .ok (.goto 4, 3) := by decide +kernel
theorem dX9_feed_31 : decode cX9_feed 31 = .ok (.iconst 0, 1) := by decide +kernel
theorem dX9_feed_32 : decode cX9_feed 32 = .ok (.invokevirtual 72, 3) := by decide +kernel
theorem dX9_feed_35 : decode cX9_feed 35 = .ok (.ifCond .eq 5, 3) := by decide +kernel
theorem dX9_feed_38 : decode cX9_feed 38 = .ok (.iconst 0, 1) := by decide +kernel
theorem dX9_feed_39 : decode cX9_feed 39 = .ok (.ireturn, 1) := by decide +kernel
theorem dX9_feed_40 : decode cX9_feed 40 = .ok (.iconst 0, 1) := by decide +kernel
theorem dX9_feed_41 : decode cX9_feed 41 = .ok (.istore 4, 2) := by decide +kernel
theorem dX9_feed_43 : decode cX9_feed 43 = .ok (.iload 4, 2) := by decide +kernel
theorem dX9_feed_45 : decode cX9_feed 45 = .ok (.iload_n 3, 1) := by decide +kernel
theorem dX9_feed_46 : decode cX9_feed 46 = .ok (.if_icmp .ge 40, 3) := by decide +kernel
theorem dX9_feed_49 : decode cX9_feed 49 = .ok (.aload_n 0, 1) := by decide +kernel
theorem dX9_feed_50 : decode cX9_feed 50 = .ok (.getfield 26, 3) := by decide +kernel
theorem dX9_feed_53 : decode cX9_feed 53 = .ok (.aload_n 0, 1) := by decide +kernel
theorem dX9_feed_54 : decode cX9_feed 54 = .ok (.getfield 113, 3) := by decide +kernel
theorem dX9_feed_57 : decode cX9_feed 57 = .ok (.lload_n 1, 1) := by decide +kernel
theorem dX9_feed_58 : decode cX9_feed 58 = .ok (.bipush 8, 2) := by decide +kernel
theorem dX9_feed_60 : decode cX9_feed 60 = .ok (.iload 4, 2) := by decide +kernel
theorem dX9_feed_62 : decode cX9_feed 62 = .ok (.imul, 1) := by decide +kernel
theorem dX9_feed_63 : decode cX9_feed 63 = .ok (.lshr, 1) := by decide +kernel
theorem dX9_feed_64 : decode cX9_feed 64 = .ok (.l2i, 1) := by decide +kernel
theorem dX9_feed_65 : decode cX9_feed 65 = .ok (.sipush 255, 3) := by decide +kernel
theorem dX9_feed_68 : decode cX9_feed 68 = .ok (.iand, 1) := by decide +kernel
theorem dX9_feed_69 : decode cX9_feed 69 = .ok (.iastore, 1) := by decide +kernel
theorem dX9_feed_70 : decode cX9_feed 70 = .ok (.aload_n 0, 1) := by decide +kernel
theorem dX9_feed_71 : decode cX9_feed 71 = .ok (.dup, 1) := by decide +kernel
theorem dX9_feed_72 : decode cX9_feed 72 = .ok (.getfield 113, 3) := by decide +kernel
theorem dX9_feed_75 : decode cX9_feed 75 = .ok (.iconst 1, 1) := by decide +kernel
theorem dX9_feed_76 : decode cX9_feed 76 = .ok (.iadd, 1) := by decide +kernel
theorem dX9_feed_77 : decode cX9_feed 77 = .ok (.putfield 113, 3) := by decide +kernel
theorem dX9_feed_80 : decode cX9_feed 80 = .ok (.iinc 4 1, 3) := by decide +kernel
theorem dX9_feed_83 : decode cX9_feed 83 = .ok (.goto (-40), 3) := by decide +kernel
theorem dX9_feed_86 : decode cX9_feed 86 = .ok (.aload_n 0, 1) := by decide +kernel
theorem dX9_feed_87 : decode cX9_feed 87 = .ok (.getfield 113, 3) := by decide +kernel
theorem dX9_feed_90 : decode cX9_feed 90 = .ok (.ireturn, 1) := by decide +kernel
set_option maxRecDepth 20000 in
theorem ggX9_read_X9_refuses : GoodIn wsX9_read wsX9_refuses := goodIn_r _ [9, 10, 55, 56, 57, 58, 59, 60, 61, 62, 63, 64, 65, 66, 67, 68, 69, 70, 71, 72, 73, 74, 75, 76, 77, 78, 79, 80, 81] rfl (by decide +kernel)
set_option maxRecDepth 20000 in
theorem gX9_read_X9_refuses : GoodIn wsX9_read (wsV RX9 72 RX9 yX9_refuses wsX9_refuses) := goodIn_app (goodIn_of _ (by decide +kernel)) ggX9_read_X9_refuses
set_option maxRecDepth 20000 in
theorem ggX9_read_X9_reads : GoodIn wsX9_read wsX9_reads := goodIn_r _ [14, 3, 15, 16, 17, 18, 19, 20, 21, 22, 23, 24, 25, 26, 27, 28, 29, 30, 31, 8, 32, 2, 33, 34, 35, 36, 37, 38, 39, 40, 41, 42, 43, 44, 45, 46, 47, 48, 49, 50, 51, 52, 53, 54, 55, 56, 57, 58, 59, 60, 61, 62, 63, 64, 65, 66, 67, 68, 69, 70, 71, 72, 73, 74, 75, 76, 77, 78, 79, 80, 81] rfl (by decide +kernel)
set_option maxRecDepth 20000 in
theorem gX9_read_X9_reads : GoodIn wsX9_read (wsV RX9 152 RX9 yX9_reads wsX9_reads) := goodIn_app (goodIn_of _ (by decide +kernel)) ggX9_read_X9_reads
theorem dX9_read_0 : decode cX9_read 0 = .ok (.aload_n 0, 1) := by decide +kernel
theorem dX9_read_1 : decode cX9_read 1 = .ok (.iload_n 1, 1) := by decide +kernel
theorem dX9_read_2 : decode cX9_read 2 = .ok (.ifCond .lt 10, 3) := by decide +kernel
theorem dX9_read_5 : decode cX9_read 5 = .ok (.iload_n 1, 1) := by decide +kernel
theorem dX9_read_6 : decode cX9_read 6 = .ok (.sipush 999, 3) := by decide +kernel
theorem dX9_read_9 : decode cX9_read 9 = .ok (.if_icmp .le 7, 3) := by decide +kernel
theorem dX9_read_12 : decode cX9_read 12 = .ok (.iconst 1, 1) := by decide +kernel
theorem dX9_read_13 : decode cX9_read 13 = .ok (.goto 4, 3) := by decide +kernel
theorem dX9_read_16 : decode cX9_read 16 = .ok (.iconst 0, 1) := by decide +kernel
theorem dX9_read_17 : decode cX9_read 17 = .ok (.invokevirtual 72, 3) := by decide +kernel
theorem dX9_read_20 : decode cX9_read 20 = .ok (.ifCond .eq 5, 3) := by decide +kernel
theorem dX9_read_23 : decode cX9_read 23 = .ok (.iconst 0, 1) := by decide +kernel
theorem dX9_read_24 : decode cX9_read 24 = .ok (.ireturn, 1) := by decide +kernel
theorem dX9_read_25 : decode cX9_read 25 = .ok (.aload_n 0, 1) := by decide +kernel
theorem dX9_read_26 : decode cX9_read 26 = .ok (.aload_n 0, 1) := by decide +kernel
theorem dX9_read_27 : decode cX9_read 27 = .ok (.getfield 113, 3) := by decide +kernel
theorem dX9_read_30 : decode cX9_read 30 = .ok (.putfield 126, 3) := by decide +kernel
theorem dX9_read_33 : decode cX9_read 33 = .ok (.iconst 0, 1) := by decide +kernel
theorem dX9_read_34 : decode cX9_read 34 = .ok (.istore_n 2, 1) := by decide +kernel
theorem dX9_read_35 : decode cX9_read 35 = .ok (.iload_n 2, 1) := by decide +kernel
theorem dX9_read_36 : decode cX9_read 36 = .ok (.aload_n 0, 1) := by decide +kernel
theorem dX9_read_37 : decode cX9_read 37 = .ok (.getfield 126, 3) := by decide +kernel
theorem dX9_read_40 : decode cX9_read 40 = .ok (.if_icmp .ge 21, 3) := by decide +kernel
theorem dX9_read_43 : decode cX9_read 43 = .ok (.aload_n 0, 1) := by decide +kernel
theorem dX9_read_44 : decode cX9_read 44 = .ok (.getfield 58, 3) := by decide +kernel
theorem dX9_read_47 : decode cX9_read 47 = .ok (.iload_n 2, 1) := by decide +kernel
theorem dX9_read_48 : decode cX9_read 48 = .ok (.aload_n 0, 1) := by decide +kernel
theorem dX9_read_49 : decode cX9_read 49 = .ok (.getfield 26, 3) := by decide +kernel
theorem dX9_read_52 : decode cX9_read 52 = .ok (.iload_n 2, 1) := by decide +kernel
theorem dX9_read_53 : decode cX9_read 53 = .ok (.iaload, 1) := by decide +kernel
theorem dX9_read_54 : decode cX9_read 54 = .ok (.iastore, 1) := by decide +kernel
theorem dX9_read_55 : decode cX9_read 55 = .ok (.iinc 2 1, 3) := by decide +kernel
theorem dX9_read_58 : decode cX9_read 58 = .ok (.goto (-23), 3) := by decide +kernel
theorem dX9_read_61 : decode cX9_read 61 = .ok (.aload_n 0, 1) := by decide +kernel
theorem dX9_read_62 : decode cX9_read 62 = .ok (.iconst 0, 1) := by decide +kernel
theorem dX9_read_63 : decode cX9_read 63 = .ok (.putfield 113, 3) := by decide +kernel
theorem dX9_read_66 : decode cX9_read 66 = .ok (.aload_n 0, 1) := by decide +kernel
theorem dX9_read_67 : decode cX9_read 67 = .ok (.iload_n 1, 1) := by decide +kernel
theorem dX9_read_68 : decode cX9_read 68 = .ok (.invokevirtual 152, 3) := by decide +kernel
theorem dX9_read_71 : decode cX9_read 71 = .ok (.ireturn, 1) := by decide +kernel
theorem dX9_unit_0 : decode cX9_unit 0 = .ok (.aload_n 0, 1) := by decide +kernel
theorem dX9_unit_1 : decode cX9_unit 1 = .ok (.iconst 0, 1) := by decide +kernel
theorem dX9_unit_2 : decode cX9_unit 2 = .ok (.putfield 64, 3) := by decide +kernel
theorem dX9_unit_5 : decode cX9_unit 5 = .ok (.iload_n 1, 1) := by decide +kernel
theorem dX9_unit_6 : decode cX9_unit 6 = .ok (.ifCond .lt 20, 3) := by decide +kernel
theorem dX9_unit_9 : decode cX9_unit 9 = .ok (.iload_n 1, 1) := by decide +kernel
theorem dX9_unit_10 : decode cX9_unit 10 = .ok (.aload_n 0, 1) := by decide +kernel
theorem dX9_unit_11 : decode cX9_unit 11 = .ok (.getfield 110, 3) := by decide +kernel
theorem dX9_unit_14 : decode cX9_unit 14 = .ok (.if_icmp .ge 12, 3) := by decide +kernel
theorem dX9_unit_17 : decode cX9_unit 17 = .ok (.aload_n 0, 1) := by decide +kernel
theorem dX9_unit_18 : decode cX9_unit 18 = .ok (.getfield 30, 3) := by decide +kernel
theorem dX9_unit_21 : decode cX9_unit 21 = .ok (.iload_n 1, 1) := by decide +kernel
theorem dX9_unit_22 : decode cX9_unit 22 = .ok (.iaload, 1) := by decide +kernel
theorem dX9_unit_23 : decode cX9_unit 23 = .ok (.goto 4, 3) := by decide +kernel
theorem dX9_unit_26 : decode cX9_unit 26 = .ok (.iconst (-1), 1) := by decide +kernel
theorem dX9_unit_27 : decode cX9_unit 27 = .ok (.ireturn, 1) := by decide +kernel
set_option maxRecDepth 20000 in
theorem ggX9_heap_X9_refuses : GoodIn wsX9_heap wsX9_refuses := goodIn_r _ [10, 11, 12, 13, 14, 15, 16, 17, 18, 19, 20, 21, 22, 23, 24, 25, 26, 27, 28, 29, 30, 31, 32, 33, 34, 35, 36, 37, 38] rfl (by decide +kernel)
set_option maxRecDepth 20000 in
theorem gX9_heap_X9_refuses : GoodIn wsX9_heap (wsV RX9 72 RX9 yX9_refuses wsX9_refuses) := goodIn_app (goodIn_of _ (by decide +kernel)) ggX9_heap_X9_refuses
theorem dX9_heap_0 : decode cX9_heap 0 = .ok (.aload_n 0, 1) := by decide +kernel
theorem dX9_heap_1 : decode cX9_heap 1 = .ok (.iload_n 2, 1) := by decide +kernel
theorem dX9_heap_2 : decode cX9_heap 2 = .ok (.ifCond .lt 8, 3) := by decide +kernel
theorem dX9_heap_5 : decode cX9_heap 5 = .ok (.iload_n 2, 1) := by decide +kernel
theorem dX9_heap_6 : decode cX9_heap 6 = .ok (.iconst 3, 1) := by decide +kernel
theorem dX9_heap_7 : decode cX9_heap 7 = .ok (.if_icmp .le 7, 3) := by decide +kernel
theorem dX9_heap_10 : decode cX9_heap 10 = .ok (.iconst 1, 1) := by decide +kernel
theorem dX9_heap_11 : decode cX9_heap 11 = .ok (.goto 4, 3) := by decide +kernel
theorem dX9_heap_14 : decode cX9_heap 14 = .ok (.iconst 0, 1) := by decide +kernel
theorem dX9_heap_15 : decode cX9_heap 15 = .ok (.invokevirtual 72, 3) := by decide +kernel
theorem dX9_heap_18 : decode cX9_heap 18 = .ok (.ifCond .eq 5, 3) := by decide +kernel
theorem dX9_heap_21 : decode cX9_heap 21 = .ok (.iconst 0, 1) := by decide +kernel
theorem dX9_heap_22 : decode cX9_heap 22 = .ok (.ireturn, 1) := by decide +kernel
theorem dX9_heap_23 : decode cX9_heap 23 = .ok (.iload_n 1, 1) := by decide +kernel
theorem dX9_heap_24 : decode cX9_heap 24 = .ok (.ifCond .lt 11, 3) := by decide +kernel
theorem dX9_heap_27 : decode cX9_heap 27 = .ok (.iload_n 1, 1) := by decide +kernel
theorem dX9_heap_28 : decode cX9_heap 28 = .ok (.aload_n 0, 1) := by decide +kernel
theorem dX9_heap_29 : decode cX9_heap 29 = .ok (.getfield 107, 3) := by decide +kernel
theorem dX9_heap_32 : decode cX9_heap 32 = .ok (.if_icmp .lt 5, 3) := by decide +kernel
theorem dX9_heap_35 : decode cX9_heap 35 = .ok (.iconst (-1), 1) := by decide +kernel
theorem dX9_heap_36 : decode cX9_heap 36 = .ok (.ireturn, 1) := by decide +kernel
theorem dX9_heap_37 : decode cX9_heap 37 = .ok (.iload_n 2, 1) := by decide +kernel
theorem dX9_heap_38 : decode cX9_heap 38 = .ok (.ifCond .ne 12, 3) := by decide +kernel
theorem dX9_heap_41 : decode cX9_heap 41 = .ok (.aload_n 0, 1) := by decide +kernel
theorem dX9_heap_42 : decode cX9_heap 42 = .ok (.getfield 36, 3) := by decide +kernel
theorem dX9_heap_45 : decode cX9_heap 45 = .ok (.iload_n 1, 1) := by decide +kernel
theorem dX9_heap_46 : decode cX9_heap 46 = .ok (.iaload, 1) := by decide +kernel
theorem dX9_heap_47 : decode cX9_heap 47 = .ok (.goto 37, 3) := by decide +kernel
theorem dX9_heap_50 : decode cX9_heap 50 = .ok (.iload_n 2, 1) := by decide +kernel
theorem dX9_heap_51 : decode cX9_heap 51 = .ok (.iconst 1, 1) := by decide +kernel
theorem dX9_heap_52 : decode cX9_heap 52 = .ok (.if_icmp .ne 12, 3) := by decide +kernel
theorem dX9_heap_55 : decode cX9_heap 55 = .ok (.aload_n 0, 1) := by decide +kernel
theorem dX9_heap_56 : decode cX9_heap 56 = .ok (.getfield 39, 3) := by decide +kernel
theorem dX9_heap_59 : decode cX9_heap 59 = .ok (.iload_n 1, 1) := by decide +kernel
theorem dX9_heap_60 : decode cX9_heap 60 = .ok (.iaload, 1) := by decide +kernel
theorem dX9_heap_61 : decode cX9_heap 61 = .ok (.goto 23, 3) := by decide +kernel
theorem dX9_heap_64 : decode cX9_heap 64 = .ok (.iload_n 2, 1) := by decide +kernel
theorem dX9_heap_65 : decode cX9_heap 65 = .ok (.iconst 2, 1) := by decide +kernel
theorem dX9_heap_66 : decode cX9_heap 66 = .ok (.if_icmp .ne 12, 3) := by decide +kernel
theorem dX9_heap_69 : decode cX9_heap 69 = .ok (.aload_n 0, 1) := by decide +kernel
theorem dX9_heap_70 : decode cX9_heap 70 = .ok (.getfield 42, 3) := by decide +kernel
theorem dX9_heap_73 : decode cX9_heap 73 = .ok (.iload_n 1, 1) := by decide +kernel
theorem dX9_heap_74 : decode cX9_heap 74 = .ok (.iaload, 1) := by decide +kernel
theorem dX9_heap_75 : decode cX9_heap 75 = .ok (.goto 9, 3) := by decide +kernel
theorem dX9_heap_78 : decode cX9_heap 78 = .ok (.aload_n 0, 1) := by decide +kernel
theorem dX9_heap_79 : decode cX9_heap 79 = .ok (.getfield 45, 3) := by decide +kernel
theorem dX9_heap_82 : decode cX9_heap 82 = .ok (.iload_n 1, 1) := by decide +kernel
theorem dX9_heap_83 : decode cX9_heap 83 = .ok (.iaload, 1) := by decide +kernel
theorem dX9_heap_84 : decode cX9_heap 84 = .ok (.ireturn, 1) := by decide +kernel
set_option maxRecDepth 20000 in
theorem ggX9_forget_X9_refuses : GoodIn wsX9_forget wsX9_refuses := goodIn_r _ [7, 8, 18, 19, 20, 21, 22, 23, 24, 25, 26, 27, 28, 29, 30, 31, 32, 33, 34, 35, 36, 37, 38, 39, 40, 41, 42, 43, 44] rfl (by decide +kernel)
set_option maxRecDepth 20000 in
theorem gX9_forget_X9_refuses : GoodIn wsX9_forget (wsV RX9 72 RX9 yX9_refuses wsX9_refuses) := goodIn_app (goodIn_of _ (by decide +kernel)) ggX9_forget_X9_refuses
set_option maxRecDepth 20000 in
theorem ggX9_forget_X9_gone : GoodIn wsX9_forget wsX9_gone := goodIn_r _ [12, 13, 1, 2, 14, 15, 16, 17, 18, 19, 20, 21, 22, 23, 24, 25, 26, 27, 28, 29, 30, 31, 32, 33, 34, 35, 36, 37, 38, 39, 40, 41, 42, 43, 44] rfl (by decide +kernel)
set_option maxRecDepth 20000 in
theorem gX9_forget_X9_gone : GoodIn wsX9_forget (wsV RX9 138 RX9 yX9_gone wsX9_gone) := goodIn_app (goodIn_of _ (by decide +kernel)) ggX9_forget_X9_gone
theorem dX9_forget_0 : decode cX9_forget 0 = .ok (.aload_n 0, 1) := by decide +kernel
theorem dX9_forget_1 : decode cX9_forget 1 = .ok (.iload_n 1, 1) := by decide +kernel
theorem dX9_forget_2 : decode cX9_forget 2 = .ok (.ifCond .lt 10, 3) := by decide +kernel
theorem dX9_forget_5 : decode cX9_forget 5 = .ok (.iload_n 1, 1) := by decide +kernel
theorem dX9_forget_6 : decode cX9_forget 6 = .ok (.sipush 999, 3) := by decide +kernel
theorem dX9_forget_9 : decode cX9_forget 9 = .ok (.if_icmp .le 7, 3) := by decide +kernel
theorem dX9_forget_12 : decode cX9_forget 12 = .ok (.iconst 1, 1) := by decide +kernel
theorem dX9_forget_13 : decode cX9_forget 13 = .ok (.goto 4, 3) := by decide +kernel
theorem dX9_forget_16 : decode cX9_forget 16 = .ok (.iconst 0, 1) := by decide +kernel
theorem dX9_forget_17 : decode cX9_forget 17 = .ok (.invokevirtual 72, 3) := by decide +kernel
theorem dX9_forget_20 : decode cX9_forget 20 = .ok (.ifCond .eq 5, 3) := by decide +kernel
theorem dX9_forget_23 : decode cX9_forget 23 = .ok (.iconst 0, 1) := by decide +kernel
theorem dX9_forget_24 : decode cX9_forget 24 = .ok (.ireturn, 1) := by decide +kernel
theorem dX9_forget_25 : decode cX9_forget 25 = .ok (.iconst 0, 1) := by decide +kernel
theorem dX9_forget_26 : decode cX9_forget 26 = .ok (.istore_n 2, 1) := by decide +kernel
theorem dX9_forget_27 : decode cX9_forget 27 = .ok (.aload_n 0, 1) := by decide +kernel
theorem dX9_forget_28 : decode cX9_forget 28 = .ok (.getfield 107, 3) := by decide +kernel
theorem dX9_forget_31 : decode cX9_forget 31 = .ok (.iconst 1, 1) := by decide +kernel
theorem dX9_forget_32 : decode cX9_forget 32 = .ok (.isub, 1) := by decide +kernel
theorem dX9_forget_33 : decode cX9_forget 33 = .ok (.istore_n 3, 1) := by decide +kernel
theorem dX9_forget_34 : decode cX9_forget 34 = .ok (.iload_n 3, 1) := by decide +kernel
theorem dX9_forget_35 : decode cX9_forget 35 = .ok (.ifCond .lt 27, 3) := by decide +kernel
theorem dX9_forget_38 : decode cX9_forget 38 = .ok (.aload_n 0, 1) := by decide +kernel
theorem dX9_forget_39 : decode cX9_forget 39 = .ok (.getfield 36, 3) := by decide +kernel
theorem dX9_forget_42 : decode cX9_forget 42 = .ok (.iload_n 3, 1) := by decide +kernel
theorem dX9_forget_43 : decode cX9_forget 43 = .ok (.iaload, 1) := by decide +kernel
theorem dX9_forget_44 : decode cX9_forget 44 = .ok (.iload_n 1, 1) := by decide +kernel
theorem dX9_forget_45 : decode cX9_forget 45 = .ok (.if_icmp .ne 11, 3) := by decide +kernel
theorem dX9_forget_48 : decode cX9_forget 48 = .ok (.aload_n 0, 1) := by decide +kernel
theorem dX9_forget_49 : decode cX9_forget 49 = .ok (.iload_n 3, 1) := by decide +kernel
theorem dX9_forget_50 : decode cX9_forget 50 = .ok (.invokevirtual 138, 3) := by decide +kernel
theorem dX9_forget_53 : decode cX9_forget 53 = .ok (.iinc 2 1, 3) := by decide +kernel
theorem dX9_forget_56 : decode cX9_forget 56 = .ok (.iinc 3 (-1), 3) := by decide +kernel
theorem dX9_forget_59 : decode cX9_forget 59 = .ok (.goto (-25), 3) := by decide +kernel
theorem dX9_forget_62 : decode cX9_forget 62 = .ok (.iload_n 2, 1) := by decide +kernel
theorem dX9_forget_63 : decode cX9_forget 63 = .ok (.ireturn, 1) := by decide +kernel
