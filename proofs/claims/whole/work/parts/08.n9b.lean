theorem dX9_part_122 : decode cX9_part 122 = .ok (.iload_n 1, 1) := by decide +kernel
theorem dX9_part_123 : decode cX9_part 123 = .ok (.iconst 1, 1) := by decide +kernel
theorem dX9_part_124 : decode cX9_part 124 = .ok (.iadd, 1) := by decide +kernel
theorem dX9_part_125 : decode cX9_part 125 = .ok (.iastore, 1) := by decide +kernel
theorem dX9_part_126 : decode cX9_part 126 = .ok (.iload 5, 2) := by decide +kernel
theorem dX9_part_128 : decode cX9_part 128 = .ok (.ifCond .ne 7, 3) := by decide +kernel
theorem dX9_part_131 : decode cX9_part 131 = .ok (.iconst 0, 1) := by decide +kernel
theorem dX9_part_132 : decode cX9_part 132 = .ok (.goto 15, 3) := by decide +kernel
theorem dX9_part_135 : decode cX9_part 135 = .ok (.iload 4, 2) := by decide +kernel
theorem dX9_part_137 : decode cX9_part 137 = .ok (.ifCond .eq 8, 3) := by decide +kernel
theorem dX9_part_140 : decode cX9_part 140 = .ok (.bipush 6, 2) := by decide +kernel
theorem dX9_part_142 : decode cX9_part 142 = .ok (.goto 5, 3) := by decide +kernel
theorem dX9_part_145 : decode cX9_part 145 = .ok (.bipush 7, 2) := by decide +kernel
theorem dX9_part_147 : decode cX9_part 147 = .ok (.istore 7, 2) := by decide +kernel
theorem dX9_part_149 : decode cX9_part 149 = .ok (.iload_n 2, 1) := by decide +kernel
theorem dX9_part_150 : decode cX9_part 150 = .ok (.istore 8, 2) := by decide +kernel
theorem dX9_part_152 : decode cX9_part 152 = .ok (.iload 8, 2) := by decide +kernel
theorem dX9_part_154 : decode cX9_part 154 = .ok (.iload_n 2, 1) := by decide +kernel
theorem dX9_part_155 : decode cX9_part 155 = .ok (.iload_n 3, 1) := by decide +kernel
theorem dX9_part_156 : decode cX9_part 156 = .ok (.iadd, 1) := by decide +kernel
theorem dX9_part_157 : decode cX9_part 157 = .ok (.if_icmp .ge 112, 3) := by decide +kernel
theorem dX9_part_160 : decode cX9_part 160 = .ok (.iload 4, 2) := by decide +kernel
theorem dX9_part_162 : decode cX9_part 162 = .ok (.ifCond .eq 54, 3) := by decide +kernel
theorem dX9_part_165 : decode cX9_part 165 = .ok (.aload_n 0, 1) := by decide +kernel
theorem dX9_part_166 : decode cX9_part 166 = .ok (.getfield 23, 3) := by decide +kernel
theorem dX9_part_169 : decode cX9_part 169 = .ok (.iload 6, 2) := by decide +kernel
theorem dX9_part_171 : decode cX9_part 171 = .ok (.iconst 2, 1) := by decide +kernel
theorem dX9_part_172 : decode cX9_part 172 = .ok (.iadd, 1) := by decide +kernel
theorem dX9_part_173 : decode cX9_part 173 = .ok (.iload 7, 2) := by decide +kernel
theorem dX9_part_175 : decode cX9_part 175 = .ok (.iadd, 1) := by decide +kernel
theorem dX9_part_176 : decode cX9_part 176 = .ok (.aload_n 0, 1) := by decide +kernel
theorem dX9_part_177 : decode cX9_part 177 = .ok (.getfield 16, 3) := by decide +kernel
theorem dX9_part_180 : decode cX9_part 180 = .ok (.iload 8, 2) := by decide +kernel
theorem dX9_part_182 : decode cX9_part 182 = .ok (.iaload, 1) := by decide +kernel
theorem dX9_part_183 : decode cX9_part 183 = .ok (.bipush 8, 2) := by decide +kernel
theorem dX9_part_185 : decode cX9_part 185 = .ok (.ishr, 1) := by decide +kernel
theorem dX9_part_186 : decode cX9_part 186 = .ok (.iastore, 1) := by decide +kernel
theorem dX9_part_187 : decode cX9_part 187 = .ok (.aload_n 0, 1) := by decide +kernel
theorem dX9_part_188 : decode cX9_part 188 = .ok (.getfield 23, 3) := by decide +kernel
theorem dX9_part_191 : decode cX9_part 191 = .ok (.iload 6, 2) := by decide +kernel
theorem dX9_part_193 : decode cX9_part 193 = .ok (.iconst 3, 1) := by decide +kernel
theorem dX9_part_194 : decode cX9_part 194 = .ok (.iadd, 1) := by decide +kernel
theorem dX9_part_195 : decode cX9_part 195 = .ok (.iload 7, 2) := by decide +kernel
theorem dX9_part_197 : decode cX9_part 197 = .ok (.iadd, 1) := by decide +kernel
theorem dX9_part_198 : decode cX9_part 198 = .ok (.aload_n 0, 1) := by decide +kernel
theorem dX9_part_199 : decode cX9_part 199 = .ok (.getfield 16, 3) := by decide +kernel
theorem dX9_part_202 : decode cX9_part 202 = .ok (.iload 8, 2) := by decide +kernel
theorem dX9_part_204 : decode cX9_part 204 = .ok (.iaload, 1) := by decide +kernel
theorem dX9_part_205 : decode cX9_part 205 = .ok (.sipush 255, 3) := by decide +kernel
theorem dX9_part_208 : decode cX9_part 208 = .ok (.iand, 1) := by decide +kernel
theorem dX9_part_209 : decode cX9_part 209 = .ok (.iastore, 1) := by decide +kernel
theorem dX9_part_210 : decode cX9_part 210 = .ok (.iinc 7 2, 3) := by decide +kernel
theorem dX9_part_213 : decode cX9_part 213 = .ok (.goto 50, 3) := by decide +kernel
theorem dX9_part_216 : decode cX9_part 216 = .ok (.aload_n 0, 1) := by decide +kernel
theorem dX9_part_217 : decode cX9_part 217 = .ok (.aload_n 0, 1) := by decide +kernel
theorem dX9_part_218 : decode cX9_part 218 = .ok (.getfield 16, 3) := by decide +kernel
theorem dX9_part_221 : decode cX9_part 221 = .ok (.iload 8, 2) := by decide +kernel
theorem dX9_part_223 : decode cX9_part 223 = .ok (.iaload, 1) := by decide +kernel
theorem dX9_part_224 : decode cX9_part 224 = .ok (.invokevirtual 76, 3) := by decide +kernel
theorem dX9_part_227 : decode cX9_part 227 = .ok (.istore 9, 2) := by decide +kernel
theorem dX9_part_229 : decode cX9_part 229 = .ok (.iload 9, 2) := by decide +kernel
theorem dX9_part_231 : decode cX9_part 231 = .ok (.bipush 127, 2) := by decide +kernel
theorem dX9_part_233 : decode cX9_part 233 = .ok (.if_icmp .le 15, 3) := by decide +kernel
theorem dX9_part_236 : decode cX9_part 236 = .ok (.aload_n 0, 1) := by decide +kernel
theorem dX9_part_237 : decode cX9_part 237 = .ok (.iload_n 1, 1) := by decide +kernel
theorem dX9_part_238 : decode cX9_part 238 = .ok (.iload 7, 2) := by decide +kernel
theorem dX9_part_240 : decode cX9_part 240 = .ok (.bipush 27, 2) := by decide +kernel
theorem dX9_part_242 : decode cX9_part 242 = .ok (.invokevirtual 116, 3) := by decide +kernel
theorem dX9_part_245 : decode cX9_part 245 = .ok (.iinc 7 1, 3) := by decide +kernel
theorem dX9_part_248 : decode cX9_part 248 = .ok (.aload_n 0, 1) := by decide +kernel
theorem dX9_part_249 : decode cX9_part 249 = .ok (.iload_n 1, 1) := by decide +kernel
theorem dX9_part_250 : decode cX9_part 250 = .ok (.iload 7, 2) := by decide +kernel
theorem dX9_part_252 : decode cX9_part 252 = .ok (.iload 9, 2) := by decide +kernel
theorem dX9_part_254 : decode cX9_part 254 = .ok (.bipush 127, 2) := by decide +kernel
theorem dX9_part_256 : decode cX9_part 256 = .ok (.iand, 1) := by decide +kernel
theorem dX9_part_257 : decode cX9_part 257 = .ok (.invokevirtual 116, 3) := by decide +kernel
theorem dX9_part_260 : decode cX9_part 260 = .ok (.iinc 7 1, 3) := by decide +kernel
theorem dX9_part_263 : decode cX9_part 263 = .ok (.iinc 8 1, 3) := by decide +kernel
theorem dX9_part_266 : decode cX9_part 266 = .ok (.goto (-114), 3) := by decide +kernel
theorem dX9_part_269 : decode cX9_part 269 = .ok (.aload_n 0, 1) := by decide +kernel
theorem dX9_part_270 : decode cX9_part 270 = .ok (.getfield 23, 3) := by decide +kernel
theorem dX9_part_273 : decode cX9_part 273 = .ok (.iload 6, 2) := by decide +kernel
theorem dX9_part_275 : decode cX9_part 275 = .ok (.iconst 1, 1) := by decide +kernel
theorem dX9_part_276 : decode cX9_part 276 = .ok (.iadd, 1) := by decide +kernel
theorem dX9_part_277 : decode cX9_part 277 = .ok (.iload 7, 2) := by decide +kernel
theorem dX9_part_279 : decode cX9_part 279 = .ok (.iastore, 1) := by decide +kernel
theorem dX9_part_280 : decode cX9_part 280 = .ok (.aload_n 0, 1) := by decide +kernel
theorem dX9_part_281 : decode cX9_part 281 = .ok (.getfield 19, 3) := by decide +kernel
theorem dX9_part_284 : decode cX9_part 284 = .ok (.iload_n 1, 1) := by decide +kernel
theorem dX9_part_285 : decode cX9_part 285 = .ok (.iconst 2, 1) := by decide +kernel
theorem dX9_part_286 : decode cX9_part 286 = .ok (.iload 4, 2) := by decide +kernel
theorem dX9_part_288 : decode cX9_part 288 = .ok (.ifCond .eq 8, 3) := by decide +kernel
theorem dX9_part_291 : decode cX9_part 291 = .ok (.iload 7, 2) := by decide +kernel
theorem dX9_part_293 : decode cX9_part 293 = .ok (.goto 14, 3) := by decide +kernel
theorem dX9_part_296 : decode cX9_part 296 = .ok (.bipush 7, 2) := by decide +kernel
theorem dX9_part_298 : decode cX9_part 298 = .ok (.iload 7, 2) := by decide +kernel
theorem dX9_part_300 : decode cX9_part 300 = .ok (.imul, 1) := by decide +kernel
theorem dX9_part_301 : decode cX9_part 301 = .ok (.bipush 7, 2) := by decide +kernel
theorem dX9_part_303 : decode cX9_part 303 = .ok (.iadd, 1) := by decide +kernel
theorem dX9_part_304 : decode cX9_part 304 = .ok (.bipush 8, 2) := by decide +kernel
theorem dX9_part_306 : decode cX9_part 306 = .ok (.idiv, 1) := by decide +kernel
theorem dX9_part_307 : decode cX9_part 307 = .ok (.iadd, 1) := by decide +kernel
theorem dX9_part_308 : decode cX9_part 308 = .ok (.iastore, 1) := by decide +kernel
theorem dX9_part_309 : decode cX9_part 309 = .ok (.return_, 1) := by decide +kernel
set_option maxRecDepth 20000 in
theorem ggX9_make_X9_sevens : GoodIn wsX9_make wsX9_sevens := goodIn_r _ [8, 2, 9, 10, 11, 12, 7, 13, 14, 15, 49, 50, 51, 52, 53, 54, 55, 56, 57, 58, 59, 60, 61, 62, 63, 64, 65, 66, 67, 68, 69, 70, 71, 72, 73, 74, 75] rfl (by decide +kernel)
set_option maxRecDepth 20000 in
theorem gX9_make_X9_sevens : GoodIn wsX9_make (wsV RX9 94 RX9 yX9_sevens wsX9_sevens) := goodIn_app (goodIn_of _ (by decide +kernel)) ggX9_make_X9_sevens
set_option maxRecDepth 20000 in
theorem ggX9_make_X9_partsOf : GoodIn wsX9_make wsX9_partsOf := goodIn_r _ [19, 2, 20, 21, 22, 7, 23, 9, 24, 25, 26, 27, 28, 29, 30, 31, 32, 33, 10, 11, 12, 13, 14, 15, 49, 50, 51, 52, 53, 54, 55, 56, 57, 58, 59, 60, 61, 62, 63, 64, 65, 66, 67, 68, 69, 70, 71, 72, 73, 74, 75] rfl (by decide +kernel)
set_option maxRecDepth 20000 in
theorem gX9_make_X9_partsOf : GoodIn wsX9_make (wsV RX9 98 RX9 yX9_partsOf wsX9_partsOf) := goodIn_app (goodIn_of _ (by decide +kernel)) ggX9_make_X9_partsOf
set_option maxRecDepth 20000 in
theorem ggX9_make_X9_refuses : GoodIn wsX9_make wsX9_refuses := goodIn_r _ [37, 38, 49, 50, 51, 52, 53, 54, 55, 56, 57, 58, 59, 60, 61, 62, 63, 64, 65, 66, 67, 68, 69, 70, 71, 72, 73, 74, 75] rfl (by decide +kernel)
set_option maxRecDepth 20000 in
theorem gX9_make_X9_refuses : GoodIn wsX9_make (wsV RX9 72 RX9 yX9_refuses wsX9_refuses) := goodIn_app (goodIn_of _ (by decide +kernel)) ggX9_make_X9_refuses
set_option maxRecDepth 20000 in
theorem ggX9_make_X9_part : GoodIn wsX9_make wsX9_part := goodIn_r _ [42, 43, 3, 9, 44, 10, 11, 12, 7, 13, 14, 15, 45, 46, 47, 48, 49, 50, 51, 52, 53, 54, 55, 56, 57, 58, 59, 60, 61, 62, 63, 64, 65, 66, 67, 68, 69, 70, 71, 72, 73, 74, 75] rfl (by decide +kernel)
set_option maxRecDepth 20000 in
theorem gX9_make_X9_part : GoodIn wsX9_make (wsV RX9 120 RX9 yX9_part wsX9_part) := goodIn_app (goodIn_of _ (by decide +kernel)) ggX9_make_X9_part
set_option maxRecDepth 20000 in
theorem ggX9_make_X9_fitting : GoodIn wsX9_make wsX9_fitting := goodIn_r _ [23, 2, 9, 24, 25, 7, 26, 27, 28, 29, 30, 31, 32, 33, 10, 11, 12, 13, 14, 15, 49, 50, 51, 52, 53, 54, 55, 56, 57, 58, 59, 60, 61, 62, 63, 64, 65, 66, 67, 68, 69, 70, 71, 72, 73, 74, 75] rfl (by decide +kernel)
set_option maxRecDepth 20000 in
theorem gX9_make_X9_fitting : GoodIn wsX9_make (wsV RX9 90 RX9 yX9_fitting wsX9_fitting) := goodIn_app (goodIn_of _ (by decide +kernel)) ggX9_make_X9_fitting
theorem dX9_make_0 : decode cX9_make 0 = .ok (.aload_n 0, 1) := by decide +kernel
theorem dX9_make_1 : decode cX9_make 1 = .ok (.invokevirtual 94, 3) := by decide +kernel
theorem dX9_make_4 : decode cX9_make 4 = .ok (.istore_n 1, 1) := by decide +kernel
theorem dX9_make_5 : decode cX9_make 5 = .ok (.aload_n 0, 1) := by decide +kernel
theorem dX9_make_6 : decode cX9_make 6 = .ok (.iload_n 1, 1) := by decide +kernel
theorem dX9_make_7 : decode cX9_make 7 = .ok (.invokevirtual 98, 3) := by decide +kernel
theorem dX9_make_10 : decode cX9_make 10 = .ok (.istore_n 2, 1) := by decide +kernel
theorem dX9_make_11 : decode cX9_make 11 = .ok (.aload_n 0, 1) := by decide +kernel
theorem dX9_make_12 : decode cX9_make 12 = .ok (.iload_n 2, 1) := by decide +kernel
theorem dX9_make_13 : decode cX9_make 13 = .ok (.sipush 255, 3) := by decide +kernel
theorem dX9_make_16 : decode cX9_make 16 = .ok (.if_icmp .le 7, 3) := by decide +kernel
theorem dX9_make_19 : decode cX9_make 19 = .ok (.iconst 1, 1) := by decide +kernel
theorem dX9_make_20 : decode cX9_make 20 = .ok (.goto 4, 3) := by decide +kernel
theorem dX9_make_23 : decode cX9_make 23 = .ok (.iconst 0, 1) := by decide +kernel
theorem dX9_make_24 : decode cX9_make 24 = .ok (.invokevirtual 72, 3) := by decide +kernel
theorem dX9_make_27 : decode cX9_make 27 = .ok (.ifCond .eq 5, 3) := by decide +kernel
theorem dX9_make_30 : decode cX9_make 30 = .ok (.iconst 0, 1) := by decide +kernel
theorem dX9_make_31 : decode cX9_make 31 = .ok (.ireturn, 1) := by decide +kernel
theorem dX9_make_32 : decode cX9_make 32 = .ok (.iload_n 1, 1) := by decide +kernel
theorem dX9_make_33 : decode cX9_make 33 = .ok (.iconst (-1), 1) := by decide +kernel
theorem dX9_make_34 : decode cX9_make 34 = .ok (.if_icmp .ne 7, 3) := by decide +kernel
theorem dX9_make_37 : decode cX9_make 37 = .ok (.iconst 1, 1) := by decide +kernel
theorem dX9_make_38 : decode cX9_make 38 = .ok (.goto 4, 3) := by decide +kernel
theorem dX9_make_41 : decode cX9_make 41 = .ok (.iconst 0, 1) := by decide +kernel
theorem dX9_make_42 : decode cX9_make 42 = .ok (.istore_n 3, 1) := by decide +kernel
theorem dX9_make_43 : decode cX9_make 43 = .ok (.aload_n 0, 1) := by decide +kernel
theorem dX9_make_44 : decode cX9_make 44 = .ok (.iload_n 2, 1) := by decide +kernel
theorem dX9_make_45 : decode cX9_make 45 = .ok (.putfield 104, 3) := by decide +kernel
theorem dX9_make_48 : decode cX9_make 48 = .ok (.iload_n 3, 1) := by decide +kernel
theorem dX9_make_49 : decode cX9_make 49 = .ok (.ifCond .eq 15, 3) := by decide +kernel
theorem dX9_make_52 : decode cX9_make 52 = .ok (.aload_n 0, 1) := by decide +kernel
theorem dX9_make_53 : decode cX9_make 53 = .ok (.getfield 69, 3) := by decide +kernel
theorem dX9_make_56 : decode cX9_make 56 = .ok (.bipush 70, 2) := by decide +kernel
theorem dX9_make_58 : decode cX9_make 58 = .ok (.if_icmp .gt 27, 3) := by decide +kernel
theorem dX9_make_61 : decode cX9_make 61 = .ok (.goto 10, 3) := by decide +kernel
theorem dX9_make_64 : decode cX9_make 64 = .ok (.iload_n 1, 1) := by decide +kernel
theorem dX9_make_65 : decode cX9_make 65 = .ok (.sipush 160, 3) := by decide +kernel
theorem dX9_make_68 : decode cX9_make 68 = .ok (.if_icmp .gt 17, 3) := by decide +kernel
theorem dX9_make_71 : decode cX9_make 71 = .ok (.aload_n 0, 1) := by decide +kernel
theorem dX9_make_72 : decode cX9_make 72 = .ok (.iconst 0, 1) := by decide +kernel
theorem dX9_make_73 : decode cX9_make 73 = .ok (.iconst 0, 1) := by decide +kernel
theorem dX9_make_74 : decode cX9_make 74 = .ok (.aload_n 0, 1) := by decide +kernel
theorem dX9_make_75 : decode cX9_make 75 = .ok (.getfield 69, 3) := by decide +kernel
theorem dX9_make_78 : decode cX9_make 78 = .ok (.iload_n 3, 1) := by decide +kernel
theorem dX9_make_79 : decode cX9_make 79 = .ok (.iconst 0, 1) := by decide +kernel
theorem dX9_make_80 : decode cX9_make 80 = .ok (.invokevirtual 120, 3) := by decide +kernel
theorem dX9_make_83 : decode cX9_make 83 = .ok (.iconst 1, 1) := by decide +kernel
theorem dX9_make_84 : decode cX9_make 84 = .ok (.ireturn, 1) := by decide +kernel
theorem dX9_make_85 : decode cX9_make 85 = .ok (.iconst 0, 1) := by decide +kernel
theorem dX9_make_86 : decode cX9_make 86 = .ok (.istore 4, 2) := by decide +kernel
theorem dX9_make_88 : decode cX9_make 88 = .ok (.iconst 0, 1) := by decide +kernel
theorem dX9_make_89 : decode cX9_make 89 = .ok (.istore 5, 2) := by decide +kernel
theorem dX9_make_91 : decode cX9_make 91 = .ok (.iload 5, 2) := by decide +kernel
theorem dX9_make_93 : decode cX9_make 93 = .ok (.iload_n 2, 1) := by decide +kernel
theorem dX9_make_94 : decode cX9_make 94 = .ok (.if_icmp .ge 37, 3) := by decide +kernel
theorem dX9_make_97 : decode cX9_make 97 = .ok (.aload_n 0, 1) := by decide +kernel
theorem dX9_make_98 : decode cX9_make 98 = .ok (.iload 4, 2) := by decide +kernel
theorem dX9_make_100 : decode cX9_make 100 = .ok (.iload_n 3, 1) := by decide +kernel
theorem dX9_make_101 : decode cX9_make 101 = .ok (.invokevirtual 90, 3) := by decide +kernel
theorem dX9_make_104 : decode cX9_make 104 = .ok (.istore 6, 2) := by decide +kernel
theorem dX9_make_106 : decode cX9_make 106 = .ok (.aload_n 0, 1) := by decide +kernel
theorem dX9_make_107 : decode cX9_make 107 = .ok (.iload 5, 2) := by decide +kernel
theorem dX9_make_109 : decode cX9_make 109 = .ok (.iload 4, 2) := by decide +kernel
theorem dX9_make_111 : decode cX9_make 111 = .ok (.iload 6, 2) := by decide +kernel
theorem dX9_make_113 : decode cX9_make 113 = .ok (.iload_n 3, 1) := by decide +kernel
theorem dX9_make_114 : decode cX9_make 114 = .ok (.iload_n 2, 1) := by decide +kernel
theorem dX9_make_115 : decode cX9_make 115 = .ok (.invokevirtual 120, 3) := by decide +kernel
theorem dX9_make_118 : decode cX9_make 118 = .ok (.iload 4, 2) := by decide +kernel
theorem dX9_make_120 : decode cX9_make 120 = .ok (.iload 6, 2) := by decide +kernel
theorem dX9_make_122 : decode cX9_make 122 = .ok (.iadd, 1) := by decide +kernel
theorem dX9_make_123 : decode cX9_make 123 = .ok (.istore 4, 2) := by decide +kernel
theorem dX9_make_125 : decode cX9_make 125 = .ok (.iinc 5 1, 3) := by decide +kernel
theorem dX9_make_128 : decode cX9_make 128 = .ok (.goto (-37), 3) := by decide +kernel
theorem dX9_make_131 : decode cX9_make 131 = .ok (.aload_n 0, 1) := by decide +kernel
theorem dX9_make_132 : decode cX9_make 132 = .ok (.aload_n 0, 1) := by decide +kernel
theorem dX9_make_133 : decode cX9_make 133 = .ok (.getfield 101, 3) := by decide +kernel
theorem dX9_make_136 : decode cX9_make 136 = .ok (.iconst 1, 1) := by decide +kernel
theorem dX9_make_137 : decode cX9_make 137 = .ok (.iadd, 1) := by decide +kernel
theorem dX9_make_138 : decode cX9_make 138 = .ok (.sipush 255, 3) := by decide +kernel
theorem dX9_make_141 : decode cX9_make 141 = .ok (.iand, 1) := by decide +kernel
theorem dX9_make_142 : decode cX9_make 142 = .ok (.putfield 101, 3) := by decide +kernel
theorem dX9_make_145 : decode cX9_make 145 = .ok (.iload_n 2, 1) := by decide +kernel
theorem dX9_make_146 : decode cX9_make 146 = .ok (.ireturn, 1) := by decide +kernel
set_option maxRecDepth 20000 in
theorem ggX9_length_X9_refuses : GoodIn wsX9_length wsX9_refuses := goodIn_r _ [7, 8, 9, 10, 11, 12, 13, 14, 15, 16, 17, 18, 19, 20, 21, 22, 23, 24, 25, 26, 27, 28, 29, 30, 31, 32, 33, 34, 35] rfl (by decide +kernel)
set_option maxRecDepth 20000 in
theorem gX9_length_X9_refuses : GoodIn wsX9_length (wsV RX9 72 RX9 yX9_refuses wsX9_refuses) := goodIn_app (goodIn_of _ (by decide +kernel)) ggX9_length_X9_refuses
theorem dX9_length_0 : decode cX9_length 0 = .ok (.aload_n 0, 1) := by decide +kernel
theorem dX9_length_1 : decode cX9_length 1 = .ok (.iload_n 1, 1) := by decide +kernel
theorem dX9_length_2 : decode cX9_length 2 = .ok (.ifCond .lt 11, 3) := by decide +kernel
theorem dX9_length_5 : decode cX9_length 5 = .ok (.iload_n 1, 1) := by decide +kernel
theorem dX9_length_6 : decode cX9_length 6 = .ok (.aload_n 0, 1) := by decide +kernel
theorem dX9_length_7 : decode cX9_length 7 = .ok (.getfield 104, 3) := by decide +kernel
theorem dX9_length_10 : decode cX9_length 10 = .ok (.if_icmp .lt 7, 3) := by decide +kernel
theorem dX9_length_13 : decode cX9_length 13 = .ok (.iconst 1, 1) := by decide +kernel
theorem dX9_length_14 : decode cX9_length 14 = .ok (.goto 4, 3) := by decide +kernel
theorem dX9_length_17 : decode cX9_length 17 = .ok (.iconst 0, 1) := by decide +kernel
theorem dX9_length_18 : decode cX9_length 18 = .ok (.invokevirtual 72, 3) := by decide +kernel
theorem dX9_length_21 : decode cX9_length 21 = .ok (.ifCond .eq 7, 3) := by decide +kernel
theorem dX9_length_24 : decode cX9_length 24 = .ok (.iconst 0, 1) := by decide +kernel
theorem dX9_length_25 : decode cX9_length 25 = .ok (.goto 9, 3) := by decide +kernel
theorem dX9_length_28 : decode cX9_length 28 = .ok (.aload_n 0, 1) := by decide +kernel
theorem dX9_length_29 : decode cX9_length 29 = .ok (.getfield 19, 3) := by decide +kernel
theorem dX9_length_32 : decode cX9_length 32 = .ok (.iload_n 1, 1) := by decide +kernel
theorem dX9_length_33 : decode cX9_length 33 = .ok (.iaload, 1) := by decide +kernel
theorem dX9_length_34 : decode cX9_length 34 = .ok (.ireturn, 1) := by decide +kernel
set_option maxRecDepth 20000 in
theorem ggX9_byteOf_X9_refuses : GoodIn wsX9_byteOf wsX9_refuses := goodIn_r _ [8, 9, 10, 11, 12, 13, 14, 15, 16, 17, 18, 19, 20, 21, 22, 23, 24, 25, 26, 27, 28, 29, 30, 31, 32, 33, 34, 35, 36] rfl (by decide +kernel)
set_option maxRecDepth 20000 in
theorem gX9_byteOf_X9_refuses : GoodIn wsX9_byteOf (wsV RX9 72 RX9 yX9_refuses wsX9_refuses) := goodIn_app (goodIn_of _ (by decide +kernel)) ggX9_byteOf_X9_refuses
theorem dX9_byteOf_0 : decode cX9_byteOf 0 = .ok (.aload_n 0, 1) := by decide +kernel
theorem dX9_byteOf_1 : decode cX9_byteOf 1 = .ok (.iload_n 1, 1) := by decide +kernel
theorem dX9_byteOf_2 : decode cX9_byteOf 2 = .ok (.ifCond .lt 11, 3) := by decide +kernel
theorem dX9_byteOf_5 : decode cX9_byteOf 5 = .ok (.iload_n 1, 1) := by decide +kernel
theorem dX9_byteOf_6 : decode cX9_byteOf 6 = .ok (.aload_n 0, 1) := by decide +kernel
theorem dX9_byteOf_7 : decode cX9_byteOf 7 = .ok (.getfield 104, 3) := by decide +kernel
theorem dX9_byteOf_10 : decode cX9_byteOf 10 = .ok (.if_icmp .lt 7, 3) := by decide +kernel
theorem dX9_byteOf_13 : decode cX9_byteOf 13 = .ok (.iconst 1, 1) := by decide +kernel
theorem dX9_byteOf_14 : decode cX9_byteOf 14 = .ok (.goto 4, 3) := by decide +kernel
theorem dX9_byteOf_17 : decode cX9_byteOf 17 = .ok (.iconst 0, 1) := by decide +kernel
theorem dX9_byteOf_18 : decode cX9_byteOf 18 = .ok (.invokevirtual 72, 3) := by decide +kernel
theorem dX9_byteOf_21 : decode cX9_byteOf 21 = .ok (.ifCond .eq 5, 3) := by decide +kernel
theorem dX9_byteOf_24 : decode cX9_byteOf 24 = .ok (.iconst 0, 1) := by decide +kernel
theorem dX9_byteOf_25 : decode cX9_byteOf 25 = .ok (.ireturn, 1) := by decide +kernel
theorem dX9_byteOf_26 : decode cX9_byteOf 26 = .ok (.iload_n 2, 1) := by decide +kernel
theorem dX9_byteOf_27 : decode cX9_byteOf 27 = .ok (.ifCond .lt 28, 3) := by decide +kernel
theorem dX9_byteOf_30 : decode cX9_byteOf 30 = .ok (.iload_n 2, 1) := by decide +kernel
theorem dX9_byteOf_31 : decode cX9_byteOf 31 = .ok (.aload_n 0, 1) := by decide +kernel
theorem dX9_byteOf_32 : decode cX9_byteOf 32 = .ok (.getfield 19, 3) := by decide +kernel
theorem dX9_byteOf_35 : decode cX9_byteOf 35 = .ok (.iload_n 1, 1) := by decide +kernel
theorem dX9_byteOf_36 : decode cX9_byteOf 36 = .ok (.iaload, 1) := by decide +kernel
theorem dX9_byteOf_37 : decode cX9_byteOf 37 = .ok (.if_icmp .ge 18, 3) := by decide +kernel
theorem dX9_byteOf_40 : decode cX9_byteOf 40 = .ok (.aload_n 0, 1) := by decide +kernel
theorem dX9_byteOf_41 : decode cX9_byteOf 41 = .ok (.getfield 23, 3) := by decide +kernel
theorem dX9_byteOf_44 : decode cX9_byteOf 44 = .ok (.sipush 142, 3) := by decide +kernel
theorem dX9_byteOf_47 : decode cX9_byteOf 47 = .ok (.iload_n 1, 1) := by decide +kernel
theorem dX9_byteOf_48 : decode cX9_byteOf 48 = .ok (.imul, 1) := by decide +kernel
theorem dX9_byteOf_49 : decode cX9_byteOf 49 = .ok (.iload_n 2, 1) := by decide +kernel
theorem dX9_byteOf_50 : decode cX9_byteOf 50 = .ok (.iadd, 1) := by decide +kernel
theorem dX9_byteOf_51 : decode cX9_byteOf 51 = .ok (.iaload, 1) := by decide +kernel
theorem dX9_byteOf_52 : decode cX9_byteOf 52 = .ok (.goto 4, 3) := by decide +kernel
theorem dX9_byteOf_55 : decode cX9_byteOf 55 = .ok (.iconst (-1), 1) := by decide +kernel
theorem dX9_byteOf_56 : decode cX9_byteOf 56 = .ok (.ireturn, 1) := by decide +kernel
set_option maxRecDepth 20000 in
theorem ggX9_alter_X9_refuses : GoodIn wsX9_alter wsX9_refuses := goodIn_r _ [8, 9, 10, 11, 12, 13, 14, 15, 16, 17, 18, 19, 20, 21, 22, 23, 24, 25, 26, 27, 28, 29, 30, 31, 32, 33, 34, 35, 36] rfl (by decide +kernel)
set_option maxRecDepth 20000 in
theorem gX9_alter_X9_refuses : GoodIn wsX9_alter (wsV RX9 72 RX9 yX9_refuses wsX9_refuses) := goodIn_app (goodIn_of _ (by decide +kernel)) ggX9_alter_X9_refuses
theorem dX9_alter_0 : decode cX9_alter 0 = .ok (.iload_n 1, 1) := by decide +kernel
theorem dX9_alter_1 : decode cX9_alter 1 = .ok (.ifCond .lt 30, 3) := by decide +kernel
theorem dX9_alter_4 : decode cX9_alter 4 = .ok (.iload_n 1, 1) := by decide +kernel
theorem dX9_alter_5 : decode cX9_alter 5 = .ok (.aload_n 0, 1) := by decide +kernel
theorem dX9_alter_6 : decode cX9_alter 6 = .ok (.getfield 104, 3) := by decide +kernel
theorem dX9_alter_9 : decode cX9_alter 9 = .ok (.if_icmp .ge 22, 3) := by decide +kernel
theorem dX9_alter_12 : decode cX9_alter 12 = .ok (.iload_n 2, 1) := by decide +kernel
theorem dX9_alter_13 : decode cX9_alter 13 = .ok (.ifCond .lt 18, 3) := by decide +kernel
theorem dX9_alter_16 : decode cX9_alter 16 = .ok (.iload_n 3, 1) := by decide +kernel
theorem dX9_alter_17 : decode cX9_alter 17 = .ok (.ifCond .lt 14, 3) := by decide +kernel
theorem dX9_alter_20 : decode cX9_alter 20 = .ok (.iload_n 3, 1) := by decide +kernel
theorem dX9_alter_21 : decode cX9_alter 21 = .ok (.sipush 255, 3) := by decide +kernel
theorem dX9_alter_24 : decode cX9_alter 24 = .ok (.if_icmp .gt 7, 3) := by decide +kernel
theorem dX9_alter_27 : decode cX9_alter 27 = .ok (.iconst 1, 1) := by decide +kernel
theorem dX9_alter_28 : decode cX9_alter 28 = .ok (.goto 4, 3) := by decide +kernel
theorem dX9_alter_31 : decode cX9_alter 31 = .ok (.iconst 0, 1) := by decide +kernel
theorem dX9_alter_32 : decode cX9_alter 32 = .ok (.istore 4, 2) := by decide +kernel
theorem dX9_alter_34 : decode cX9_alter 34 = .ok (.aload_n 0, 1) := by decide +kernel
theorem dX9_alter_35 : decode cX9_alter 35 = .ok (.iload 4, 2) := by decide +kernel
theorem dX9_alter_37 : decode cX9_alter 37 = .ok (.ifCond .eq 13, 3) := by decide +kernel
theorem dX9_alter_40 : decode cX9_alter 40 = .ok (.iload_n 2, 1) := by decide +kernel
theorem dX9_alter_41 : decode cX9_alter 41 = .ok (.aload_n 0, 1) := by decide +kernel
theorem dX9_alter_42 : decode cX9_alter 42 = .ok (.getfield 19, 3) := by decide +kernel
theorem dX9_alter_45 : decode cX9_alter 45 = .ok (.iload_n 1, 1) := by decide +kernel
theorem dX9_alter_46 : decode cX9_alter 46 = .ok (.iaload, 1) := by decide +kernel
theorem dX9_alter_47 : decode cX9_alter 47 = .ok (.if_icmp .lt 7, 3) := by decide +kernel
theorem dX9_alter_50 : decode cX9_alter 50 = .ok (.iconst 1, 1) := by decide +kernel
theorem dX9_alter_51 : decode cX9_alter 51 = .ok (.goto 4, 3) := by decide +kernel
theorem dX9_alter_54 : decode cX9_alter 54 = .ok (.iconst 0, 1) := by decide +kernel
theorem dX9_alter_55 : decode cX9_alter 55 = .ok (.invokevirtual 72, 3) := by decide +kernel
theorem dX9_alter_58 : decode cX9_alter 58 = .ok (.ifCond .eq 5, 3) := by decide +kernel
theorem dX9_alter_61 : decode cX9_alter 61 = .ok (.iconst 0, 1) := by decide +kernel
theorem dX9_alter_62 : decode cX9_alter 62 = .ok (.ireturn, 1) := by decide +kernel
theorem dX9_alter_63 : decode cX9_alter 63 = .ok (.aload_n 0, 1) := by decide +kernel
theorem dX9_alter_64 : decode cX9_alter 64 = .ok (.getfield 23, 3) := by decide +kernel
theorem dX9_alter_67 : decode cX9_alter 67 = .ok (.sipush 142, 3) := by decide +kernel
theorem dX9_alter_70 : decode cX9_alter 70 = .ok (.iload_n 1, 1) := by decide +kernel
theorem dX9_alter_71 : decode cX9_alter 71 = .ok (.imul, 1) := by decide +kernel
theorem dX9_alter_72 : decode cX9_alter 72 = .ok (.iload_n 2, 1) := by decide +kernel
theorem dX9_alter_73 : decode cX9_alter 73 = .ok (.iadd, 1) := by decide +kernel
theorem dX9_alter_74 : decode cX9_alter 74 = .ok (.iaload, 1) := by decide +kernel
theorem dX9_alter_75 : decode cX9_alter 75 = .ok (.istore 5, 2) := by decide +kernel
theorem dX9_alter_77 : decode cX9_alter 77 = .ok (.aload_n 0, 1) := by decide +kernel
theorem dX9_alter_78 : decode cX9_alter 78 = .ok (.getfield 23, 3) := by decide +kernel
theorem dX9_alter_81 : decode cX9_alter 81 = .ok (.sipush 142, 3) := by decide +kernel
theorem dX9_alter_84 : decode cX9_alter 84 = .ok (.iload_n 1, 1) := by decide +kernel
theorem dX9_alter_85 : decode cX9_alter 85 = .ok (.imul, 1) := by decide +kernel
theorem dX9_alter_86 : decode cX9_alter 86 = .ok (.iload_n 2, 1) := by decide +kernel
theorem dX9_alter_87 : decode cX9_alter 87 = .ok (.iadd, 1) := by decide +kernel
theorem dX9_alter_88 : decode cX9_alter 88 = .ok (.iload_n 3, 1) := by decide +kernel
theorem dX9_alter_89 : decode cX9_alter 89 = .ok (.iastore, 1) := by decide +kernel
theorem dX9_alter_90 : decode cX9_alter 90 = .ok (.iload 5, 2) := by decide +kernel
theorem dX9_alter_92 : decode cX9_alter 92 = .ok (.ireturn, 1) := by decide +kernel
theorem dX9_bit_0 : decode cX9_bit 0 = .ok (.aload_n 0, 1) := by decide +kernel
theorem dX9_bit_1 : decode cX9_bit 1 = .ok (.getfield 58, 3) := by decide +kernel
theorem dX9_bit_4 : decode cX9_bit 4 = .ok (.iconst 2, 1) := by decide +kernel
theorem dX9_bit_5 : decode cX9_bit 5 = .ok (.iload_n 1, 1) := by decide +kernel
theorem dX9_bit_6 : decode cX9_bit 6 = .ok (.bipush 8, 2) := by decide +kernel
theorem dX9_bit_8 : decode cX9_bit 8 = .ok (.idiv, 1) := by decide +kernel
theorem dX9_bit_9 : decode cX9_bit 9 = .ok (.iadd, 1) := by decide +kernel
theorem dX9_bit_10 : decode cX9_bit 10 = .ok (.iaload, 1) := by decide +kernel
theorem dX9_bit_11 : decode cX9_bit 11 = .ok (.iload_n 1, 1) := by decide +kernel
theorem dX9_bit_12 : decode cX9_bit 12 = .ok (.bipush 8, 2) := by decide +kernel
theorem dX9_bit_14 : decode cX9_bit 14 = .ok (.irem, 1) := by decide +kernel
theorem dX9_bit_15 : decode cX9_bit 15 = .ok (.ishr, 1) := by decide +kernel
theorem dX9_bit_16 : decode cX9_bit 16 = .ok (.iconst 1, 1) := by decide +kernel
theorem dX9_bit_17 : decode cX9_bit 17 = .ok (.iand, 1) := by decide +kernel
theorem dX9_bit_18 : decode cX9_bit 18 = .ok (.ireturn, 1) := by decide +kernel
set_option maxRecDepth 20000 in
theorem ggX9_seven_X9_bit : GoodIn wsX9_seven wsX9_bit := goodIn_r _ [5, 6, 7, 8, 9, 10, 11, 12, 13, 14, 15, 16, 17, 18, 19, 20, 21, 22, 23, 24, 25, 26, 27, 28, 29, 30, 31, 32, 33] rfl (by decide +kernel)
set_option maxRecDepth 20000 in
theorem gX9_seven_X9_bit : GoodIn wsX9_seven (wsV RX9 123 RX9 yX9_bit wsX9_bit) := goodIn_app (goodIn_of _ (by decide +kernel)) ggX9_seven_X9_bit
theorem dX9_seven_0 : decode cX9_seven 0 = .ok (.iconst 0, 1) := by decide +kernel
theorem dX9_seven_1 : decode cX9_seven 1 = .ok (.istore_n 2, 1) := by decide +kernel
theorem dX9_seven_2 : decode cX9_seven 2 = .ok (.iconst 0, 1) := by decide +kernel
theorem dX9_seven_3 : decode cX9_seven 3 = .ok (.istore_n 3, 1) := by decide +kernel
theorem dX9_seven_4 : decode cX9_seven 4 = .ok (.iload_n 3, 1) := by decide +kernel
theorem dX9_seven_5 : decode cX9_seven 5 = .ok (.bipush 7, 2) := by decide +kernel
theorem dX9_seven_7 : decode cX9_seven 7 = .ok (.if_icmp .ge 24, 3) := by decide +kernel
theorem dX9_seven_10 : decode cX9_seven 10 = .ok (.iload_n 2, 1) := by decide +kernel
theorem dX9_seven_11 : decode cX9_seven 11 = .ok (.aload_n 0, 1) := by decide +kernel
theorem dX9_seven_12 : decode cX9_seven 12 = .ok (.bipush 7, 2) := by decide +kernel
theorem dX9_seven_14 : decode cX9_seven 14 = .ok (.iload_n 1, 1) := by decide +kernel
theorem dX9_seven_15 : decode cX9_seven 15 = .ok (.imul, 1) := by decide +kernel
theorem dX9_seven_16 : decode cX9_seven 16 = .ok (.iload_n 3, 1) := by decide +kernel
theorem dX9_seven_17 : decode cX9_seven 17 = .ok (.iadd, 1) := by decide +kernel
theorem dX9_seven_18 : decode cX9_seven 18 = .ok (.invokevirtual 123, 3) := by decide +kernel
theorem dX9_seven_21 : decode cX9_seven 21 = .ok (.iload_n 3, 1) := by decide +kernel
theorem dX9_seven_22 : decode cX9_seven 22 = .ok (.ishl, 1) := by decide +kernel
theorem dX9_seven_23 : decode cX9_seven 23 = .ok (.iadd, 1) := by decide +kernel
theorem dX9_seven_24 : decode cX9_seven 24 = .ok (.istore_n 2, 1) := by decide +kernel
theorem dX9_seven_25 : decode cX9_seven 25 = .ok (.iinc 3 1, 3) := by decide +kernel
theorem dX9_seven_28 : decode cX9_seven 28 = .ok (.goto (-24), 3) := by decide +kernel
theorem dX9_seven_31 : decode cX9_seven 31 = .ok (.iload_n 2, 1) := by decide +kernel
theorem dX9_seven_32 : decode cX9_seven 32 = .ok (.ireturn, 1) := by decide +kernel
set_option maxRecDepth 20000 in
theorem ggX9_fault_X9_bit : GoodIn wsX9_fault wsX9_bit := goodIn_r _ [10, 2, 20, 21, 22, 23, 24, 25, 26, 27, 28, 29, 30, 31, 32, 33, 34, 35, 36, 37, 38, 39, 40, 41, 42, 43, 44, 45, 46] rfl (by decide +kernel)
set_option maxRecDepth 20000 in
theorem gX9_fault_X9_bit : GoodIn wsX9_fault (wsV RX9 123 RX9 yX9_bit wsX9_bit) := goodIn_app (goodIn_of _ (by decide +kernel)) ggX9_fault_X9_bit
set_option maxRecDepth 20000 in
theorem ggX9_fault_X9_seven : GoodIn wsX9_fault wsX9_seven := goodIn_r _ [14, 6, 7, 8, 9, 10, 2, 20, 21, 22, 23, 24, 25, 26, 27, 28, 29, 30, 31, 32, 33, 34, 35, 36, 37, 38, 39, 40, 41, 42, 43, 44, 45, 46] rfl (by decide +kernel)
set_option maxRecDepth 20000 in
theorem gX9_fault_X9_seven : GoodIn wsX9_fault (wsV RX9 132 RX9 yX9_seven wsX9_seven) := goodIn_app (goodIn_of _ (by decide +kernel)) ggX9_fault_X9_seven
set_option maxRecDepth 20000 in
theorem ggX9_fault_X9_alone : GoodIn wsX9_fault wsX9_alone := goodIn_r _ [18, 19, 20, 21, 22, 23, 24, 25, 26, 27, 28, 29, 30, 31, 32, 33, 34, 35, 36, 37, 38, 39, 40, 41, 42, 43, 44, 45, 46] rfl (by decide +kernel)
set_option maxRecDepth 20000 in
theorem gX9_fault_X9_alone : GoodIn wsX9_fault (wsV RX9 135 RX9 yX9_alone wsX9_alone) := goodIn_app (goodIn_of _ (by decide +kernel)) ggX9_fault_X9_alone
theorem dX9_fault_0 : decode cX9_fault 0 = .ok (.aload_n 0, 1) := by decide +kernel
theorem dX9_fault_1 : decode cX9_fault 1 = .ok (.getfield 126, 3) := by decide +kernel
theorem dX9_fault_4 : decode cX9_fault 4 = .ok (.iconst 2, 1) := by decide +kernel
theorem dX9_fault_5 : decode cX9_fault 5 = .ok (.if_icmp .ge 5, 3) := by decide +kernel
theorem dX9_fault_8 : decode cX9_fault 8 = .ok (.iconst 1, 1) := by decide +kernel
theorem dX9_fault_9 : decode cX9_fault 9 = .ok (.ireturn, 1) := by decide +kernel
theorem dX9_fault_10 : decode cX9_fault 10 = .ok (.aload_n 0, 1) := by decide +kernel
theorem dX9_fault_11 : decode cX9_fault 11 = .ok (.getfield 58, 3) := by decide +kernel
theorem dX9_fault_14 : decode cX9_fault 14 = .ok (.iconst 0, 1) := by decide +kernel
theorem dX9_fault_15 : decode cX9_fault 15 = .ok (.iaload, 1) := by decide +kernel
theorem dX9_fault_16 : decode cX9_fault 16 = .ok (.istore_n 1, 1) := by decide +kernel
theorem dX9_fault_17 : decode cX9_fault 17 = .ok (.iload_n 1, 1) := by decide +kernel
theorem dX9_fault_18 : decode cX9_fault 18 = .ok (.ifCond .eq 20, 3) := by decide +kernel
theorem dX9_fault_21 : decode cX9_fault 21 = .ok (.iload_n 1, 1) := by decide +kernel
theorem dX9_fault_22 : decode cX9_fault 22 = .ok (.iconst 1, 1) := by decide +kernel
theorem dX9_fault_23 : decode cX9_fault 23 = .ok (.if_icmp .eq 15, 3) := by decide +kernel
theorem dX9_fault_26 : decode cX9_fault 26 = .ok (.iload_n 1, 1) := by decide +kernel
theorem dX9_fault_27 : decode cX9_fault 27 = .ok (.iconst 4, 1) := by decide +kernel
theorem dX9_fault_28 : decode cX9_fault 28 = .ok (.if_icmp .eq 10, 3) := by decide +kernel
theorem dX9_fault_31 : decode cX9_fault 31 = .ok (.iload_n 1, 1) := by decide +kernel
theorem dX9_fault_32 : decode cX9_fault 32 = .ok (.iconst 5, 1) := by decide +kernel
theorem dX9_fault_33 : decode cX9_fault 33 = .ok (.if_icmp .eq 5, 3) := by decide +kernel
theorem dX9_fault_36 : decode cX9_fault 36 = .ok (.iconst 2, 1) := by decide +kernel
theorem dX9_fault_37 : decode cX9_fault 37 = .ok (.ireturn, 1) := by decide +kernel
theorem dX9_fault_38 : decode cX9_fault 38 = .ok (.iload_n 1, 1) := by decide +kernel
theorem dX9_fault_39 : decode cX9_fault 39 = .ok (.iconst 3, 1) := by decide +kernel
theorem dX9_fault_40 : decode cX9_fault 40 = .ok (.if_icmp .le 7, 3) := by decide +kernel
theorem dX9_fault_43 : decode cX9_fault 43 = .ok (.iconst 1, 1) := by decide +kernel
theorem dX9_fault_44 : decode cX9_fault 44 = .ok (.goto 4, 3) := by decide +kernel
theorem dX9_fault_47 : decode cX9_fault 47 = .ok (.iconst 0, 1) := by decide +kernel
theorem dX9_fault_48 : decode cX9_fault 48 = .ok (.istore_n 2, 1) := by decide +kernel
theorem dX9_fault_49 : decode cX9_fault 49 = .ok (.iload_n 1, 1) := by decide +kernel
theorem dX9_fault_50 : decode cX9_fault 50 = .ok (.iconst 1, 1) := by decide +kernel
theorem dX9_fault_51 : decode cX9_fault 51 = .ok (.iand, 1) := by decide +kernel
theorem dX9_fault_52 : decode cX9_fault 52 = .ok (.iconst 1, 1) := by decide +kernel
theorem dX9_fault_53 : decode cX9_fault 53 = .ok (.if_icmp .ne 7, 3) := by decide +kernel
theorem dX9_fault_56 : decode cX9_fault 56 = .ok (.iconst 1, 1) := by decide +kernel
theorem dX9_fault_57 : decode cX9_fault 57 = .ok (.goto 4, 3) := by decide +kernel
theorem dX9_fault_60 : decode cX9_fault 60 = .ok (.iconst 0, 1) := by decide +kernel
theorem dX9_fault_61 : decode cX9_fault 61 = .ok (.istore_n 3, 1) := by decide +kernel
theorem dX9_fault_62 : decode cX9_fault 62 = .ok (.aload_n 0, 1) := by decide +kernel
theorem dX9_fault_63 : decode cX9_fault 63 = .ok (.getfield 58, 3) := by decide +kernel
theorem dX9_fault_66 : decode cX9_fault 66 = .ok (.iconst 1, 1) := by decide +kernel
theorem dX9_fault_67 : decode cX9_fault 67 = .ok (.iaload, 1) := by decide +kernel
theorem dX9_fault_68 : decode cX9_fault 68 = .ok (.istore 4, 2) := by decide +kernel
theorem dX9_fault_70 : decode cX9_fault 70 = .ok (.iload_n 2, 1) := by decide +kernel
theorem dX9_fault_71 : decode cX9_fault 71 = .ok (.ifCond .eq 8, 3) := by decide +kernel
theorem dX9_fault_74 : decode cX9_fault 74 = .ok (.iload 4, 2) := by decide +kernel
theorem dX9_fault_76 : decode cX9_fault 76 = .ok (.goto 14, 3) := by decide +kernel
theorem dX9_fault_79 : decode cX9_fault 79 = .ok (.bipush 7, 2) := by decide +kernel
theorem dX9_fault_81 : decode cX9_fault 81 = .ok (.iload 4, 2) := by decide +kernel
theorem dX9_fault_83 : decode cX9_fault 83 = .ok (.imul, 1) := by decide +kernel
theorem dX9_fault_84 : decode cX9_fault 84 = .ok (.bipush 7, 2) := by decide +kernel
theorem dX9_fault_86 : decode cX9_fault 86 = .ok (.iadd, 1) := by decide +kernel
theorem dX9_fault_87 : decode cX9_fault 87 = .ok (.bipush 8, 2) := by decide +kernel
theorem dX9_fault_89 : decode cX9_fault 89 = .ok (.idiv, 1) := by decide +kernel
theorem dX9_fault_90 : decode cX9_fault 90 = .ok (.istore 5, 2) := by decide +kernel
theorem dX9_fault_92 : decode cX9_fault 92 = .ok (.iload 4, 2) := by decide +kernel
theorem dX9_fault_94 : decode cX9_fault 94 = .ok (.iload_n 2, 1) := by decide +kernel
theorem dX9_fault_95 : decode cX9_fault 95 = .ok (.ifCond .eq 9, 3) := by decide +kernel
theorem dX9_fault_98 : decode cX9_fault 98 = .ok (.sipush 140, 3) := by decide +kernel
theorem dX9_fault_101 : decode cX9_fault 101 = .ok (.goto 6, 3) := by decide +kernel
theorem dX9_fault_104 : decode cX9_fault 104 = .ok (.sipush 160, 3) := by decide +kernel
theorem dX9_fault_107 : decode cX9_fault 107 = .ok (.if_icmp .gt 14, 3) := by decide +kernel
theorem dX9_fault_110 : decode cX9_fault 110 = .ok (.aload_n 0, 1) := by decide +kernel
theorem dX9_fault_111 : decode cX9_fault 111 = .ok (.getfield 126, 3) := by decide +kernel
theorem dX9_fault_114 : decode cX9_fault 114 = .ok (.iconst 2, 1) := by decide +kernel
theorem dX9_fault_115 : decode cX9_fault 115 = .ok (.isub, 1) := by decide +kernel
theorem dX9_fault_116 : decode cX9_fault 116 = .ok (.iload 5, 2) := by decide +kernel
theorem dX9_fault_118 : decode cX9_fault 118 = .ok (.if_icmp .eq 5, 3) := by decide +kernel
theorem dX9_fault_121 : decode cX9_fault 121 = .ok (.iconst 3, 1) := by decide +kernel
theorem dX9_fault_122 : decode cX9_fault 122 = .ok (.ireturn, 1) := by decide +kernel
theorem dX9_fault_123 : decode cX9_fault 123 = .ok (.iload_n 3, 1) := by decide +kernel
theorem dX9_fault_124 : decode cX9_fault 124 = .ok (.ifCond .eq 87, 3) := by decide +kernel
theorem dX9_fault_127 : decode cX9_fault 127 = .ok (.iload 4, 2) := by decide +kernel
theorem dX9_fault_129 : decode cX9_fault 129 = .ok (.iload_n 2, 1) := by decide +kernel
theorem dX9_fault_130 : decode cX9_fault 130 = .ok (.ifCond .eq 8, 3) := by decide +kernel
theorem dX9_fault_133 : decode cX9_fault 133 = .ok (.bipush 6, 2) := by decide +kernel
theorem dX9_fault_135 : decode cX9_fault 135 = .ok (.goto 5, 3) := by decide +kernel
theorem dX9_fault_138 : decode cX9_fault 138 = .ok (.bipush 7, 2) := by decide +kernel
theorem dX9_fault_140 : decode cX9_fault 140 = .ok (.if_icmp .lt 69, 3) := by decide +kernel
theorem dX9_fault_143 : decode cX9_fault 143 = .ok (.aload_n 0, 1) := by decide +kernel
theorem dX9_fault_144 : decode cX9_fault 144 = .ok (.getfield 58, 3) := by decide +kernel
theorem dX9_fault_147 : decode cX9_fault 147 = .ok (.iconst 2, 1) := by decide +kernel
theorem dX9_fault_148 : decode cX9_fault 148 = .ok (.iaload, 1) := by decide +kernel
theorem dX9_fault_149 : decode cX9_fault 149 = .ok (.iconst 5, 1) := by decide +kernel
theorem dX9_fault_150 : decode cX9_fault 150 = .ok (.if_icmp .ne 59, 3) := by decide +kernel
theorem dX9_fault_153 : decode cX9_fault 153 = .ok (.aload_n 0, 1) := by decide +kernel
theorem dX9_fault_154 : decode cX9_fault 154 = .ok (.getfield 58, 3) := by decide +kernel
theorem dX9_fault_157 : decode cX9_fault 157 = .ok (.iconst 3, 1) := by decide +kernel
theorem dX9_fault_158 : decode cX9_fault 158 = .ok (.iaload, 1) := by decide +kernel
theorem dX9_fault_159 : decode cX9_fault 159 = .ok (.ifCond .ne 50, 3) := by decide +kernel
theorem dX9_fault_162 : decode cX9_fault 162 = .ok (.aload_n 0, 1) := by decide +kernel
theorem dX9_fault_163 : decode cX9_fault 163 = .ok (.getfield 58, 3) := by decide +kernel
theorem dX9_fault_166 : decode cX9_fault 166 = .ok (.iconst 4, 1) := by decide +kernel
theorem dX9_fault_167 : decode cX9_fault 167 = .ok (.iaload, 1) := by decide +kernel
theorem dX9_fault_168 : decode cX9_fault 168 = .ok (.iconst 3, 1) := by decide +kernel
theorem dX9_fault_169 : decode cX9_fault 169 = .ok (.if_icmp .ne 40, 3) := by decide +kernel
theorem dX9_fault_172 : decode cX9_fault 172 = .ok (.aload_n 0, 1) := by decide +kernel
theorem dX9_fault_173 : decode cX9_fault 173 = .ok (.getfield 58, 3) := by decide +kernel
theorem dX9_fault_176 : decode cX9_fault 176 = .ok (.bipush 6, 2) := by decide +kernel
theorem dX9_fault_178 : decode cX9_fault 178 = .ok (.iaload, 1) := by decide +kernel
theorem dX9_fault_179 : decode cX9_fault 179 = .ok (.ifCond .eq 30, 3) := by decide +kernel
theorem dX9_fault_182 : decode cX9_fault 182 = .ok (.aload_n 0, 1) := by decide +kernel
theorem dX9_fault_183 : decode cX9_fault 183 = .ok (.getfield 58, 3) := by decide +kernel
theorem dX9_fault_186 : decode cX9_fault 186 = .ok (.bipush 7, 2) := by decide +kernel
theorem dX9_fault_188 : decode cX9_fault 188 = .ok (.iaload, 1) := by decide +kernel
theorem dX9_fault_189 : decode cX9_fault 189 = .ok (.ifCond .eq 20, 3) := by decide +kernel
theorem dX9_fault_192 : decode cX9_fault 192 = .ok (.aload_n 0, 1) := by decide +kernel
theorem dX9_fault_193 : decode cX9_fault 193 = .ok (.getfield 58, 3) := by decide +kernel
theorem dX9_fault_196 : decode cX9_fault 196 = .ok (.bipush 7, 2) := by decide +kernel
theorem dX9_fault_198 : decode cX9_fault 198 = .ok (.iaload, 1) := by decide +kernel
theorem dX9_fault_199 : decode cX9_fault 199 = .ok (.aload_n 0, 1) := by decide +kernel
theorem dX9_fault_200 : decode cX9_fault 200 = .ok (.getfield 58, 3) := by decide +kernel
theorem dX9_fault_203 : decode cX9_fault 203 = .ok (.bipush 6, 2) := by decide +kernel
theorem dX9_fault_205 : decode cX9_fault 205 = .ok (.iaload, 1) := by decide +kernel
theorem dX9_fault_206 : decode cX9_fault 206 = .ok (.if_icmp .le 5, 3) := by decide +kernel
theorem dX9_fault_209 : decode cX9_fault 209 = .ok (.iconst 4, 1) := by decide +kernel
theorem dX9_fault_210 : decode cX9_fault 210 = .ok (.ireturn, 1) := by decide +kernel
theorem dX9_fault_211 : decode cX9_fault 211 = .ok (.iload_n 3, 1) := by decide +kernel
theorem dX9_fault_212 : decode cX9_fault 212 = .ok (.ifCond .eq 17, 3) := by decide +kernel
theorem dX9_fault_215 : decode cX9_fault 215 = .ok (.iload_n 2, 1) := by decide +kernel
theorem dX9_fault_216 : decode cX9_fault 216 = .ok (.ifCond .eq 8, 3) := by decide +kernel
theorem dX9_fault_219 : decode cX9_fault 219 = .ok (.bipush 6, 2) := by decide +kernel
theorem dX9_fault_221 : decode cX9_fault 221 = .ok (.goto 9, 3) := by decide +kernel
theorem dX9_fault_224 : decode cX9_fault 224 = .ok (.bipush 7, 2) := by decide +kernel
theorem dX9_fault_226 : decode cX9_fault 226 = .ok (.goto 4, 3) := by decide +kernel
theorem dX9_fault_229 : decode cX9_fault 229 = .ok (.iconst 0, 1) := by decide +kernel
theorem dX9_fault_230 : decode cX9_fault 230 = .ok (.istore 6, 2) := by decide +kernel
theorem dX9_fault_232 : decode cX9_fault 232 = .ok (.iload_n 2, 1) := by decide +kernel
theorem dX9_fault_233 : decode cX9_fault 233 = .ok (.ifCond .eq 16, 3) := by decide +kernel
theorem dX9_fault_236 : decode cX9_fault 236 = .ok (.iload 4, 2) := by decide +kernel
theorem dX9_fault_238 : decode cX9_fault 238 = .ok (.iload 6, 2) := by decide +kernel
theorem dX9_fault_240 : decode cX9_fault 240 = .ok (.isub, 1) := by decide +kernel
theorem dX9_fault_241 : decode cX9_fault 241 = .ok (.iconst 2, 1) := by decide +kernel
theorem dX9_fault_242 : decode cX9_fault 242 = .ok (.irem, 1) := by decide +kernel
theorem dX9_fault_243 : decode cX9_fault 243 = .ok (.iconst 1, 1) := by decide +kernel
theorem dX9_fault_244 : decode cX9_fault 244 = .ok (.if_icmp .ne 5, 3) := by decide +kernel
theorem dX9_fault_247 : decode cX9_fault 247 = .ok (.iconst 5, 1) := by decide +kernel
theorem dX9_fault_248 : decode cX9_fault 248 = .ok (.ireturn, 1) := by decide +kernel
theorem dX9_fault_249 : decode cX9_fault 249 = .ok (.iload_n 2, 1) := by decide +kernel
theorem dX9_fault_250 : decode cX9_fault 250 = .ok (.ifCond .ne 21, 3) := by decide +kernel
theorem dX9_fault_253 : decode cX9_fault 253 = .ok (.iload_n 3, 1) := by decide +kernel
theorem dX9_fault_254 : decode cX9_fault 254 = .ok (.ifCond .eq 17, 3) := by decide +kernel
theorem dX9_fault_257 : decode cX9_fault 257 = .ok (.aload_n 0, 1) := by decide +kernel
theorem dX9_fault_258 : decode cX9_fault 258 = .ok (.bipush 48, 2) := by decide +kernel
theorem dX9_fault_260 : decode cX9_fault 260 = .ok (.invokevirtual 123, 3) := by decide +kernel
theorem dX9_fault_263 : decode cX9_fault 263 = .ok (.iconst 1, 1) := by decide +kernel
theorem dX9_fault_264 : decode cX9_fault 264 = .ok (.if_icmp .ne 7, 3) := by decide +kernel
theorem dX9_fault_267 : decode cX9_fault 267 = .ok (.iconst 1, 1) := by decide +kernel
theorem dX9_fault_268 : decode cX9_fault 268 = .ok (.goto 4, 3) := by decide +kernel
theorem dX9_fault_271 : decode cX9_fault 271 = .ok (.iconst 0, 1) := by decide +kernel
theorem dX9_fault_272 : decode cX9_fault 272 = .ok (.istore 7, 2) := by decide +kernel
theorem dX9_fault_274 : decode cX9_fault 274 = .ok (.bipush 7, 2) := by decide +kernel
theorem dX9_fault_276 : decode cX9_fault 276 = .ok (.iload 4, 2) := by decide +kernel
theorem dX9_fault_278 : decode cX9_fault 278 = .ok (.imul, 1) := by decide +kernel
theorem dX9_fault_279 : decode cX9_fault 279 = .ok (.istore 8, 2) := by decide +kernel
theorem dX9_fault_281 : decode cX9_fault 281 = .ok (.iload 8, 2) := by decide +kernel
theorem dX9_fault_283 : decode cX9_fault 283 = .ok (.bipush 8, 2) := by decide +kernel
theorem dX9_fault_285 : decode cX9_fault 285 = .ok (.iload 5, 2) := by decide +kernel
theorem dX9_fault_287 : decode cX9_fault 287 = .ok (.imul, 1) := by decide +kernel
theorem dX9_fault_288 : decode cX9_fault 288 = .ok (.if_icmp .ge 35, 3) := by decide +kernel
theorem dX9_fault_291 : decode cX9_fault 291 = .ok (.iload_n 2, 1) := by decide +kernel
theorem dX9_fault_292 : decode cX9_fault 292 = .ok (.ifCond .ne 31, 3) := by decide +kernel
theorem dX9_fault_295 : decode cX9_fault 295 = .ok (.iload 7, 2) := by decide +kernel
theorem dX9_fault_297 : decode cX9_fault 297 = .ok (.ifCond .ne 13, 3) := by decide +kernel
theorem dX9_fault_300 : decode cX9_fault 300 = .ok (.aload_n 0, 1) := by decide +kernel
theorem dX9_fault_301 : decode cX9_fault 301 = .ok (.iload 8, 2) := by decide +kernel
theorem dX9_fault_303 : decode cX9_fault 303 = .ok (.invokevirtual 123, 3) := by decide +kernel
theorem dX9_fault_306 : decode cX9_fault 306 = .ok (.iconst 1, 1) := by decide +kernel
theorem dX9_fault_307 : decode cX9_fault 307 = .ok (.if_icmp .ne 7, 3) := by decide +kernel
theorem dX9_fault_310 : decode cX9_fault 310 = .ok (.iconst 1, 1) := by decide +kernel
theorem dX9_fault_311 : decode cX9_fault 311 = .ok (.goto 4, 3) := by decide +kernel
theorem dX9_fault_314 : decode cX9_fault 314 = .ok (.iconst 0, 1) := by decide +kernel
theorem dX9_fault_315 : decode cX9_fault 315 = .ok (.istore 7, 2) := by decide +kernel
theorem dX9_fault_317 : decode cX9_fault 317 = .ok (.iinc 8 1, 3) := by decide +kernel
theorem dX9_fault_320 : decode cX9_fault 320 = .ok (.goto (-39), 3) := by decide +kernel
theorem dX9_fault_323 : decode cX9_fault 323 = .ok (.iload 7, 2) := by decide +kernel
theorem dX9_fault_325 : decode cX9_fault 325 = .ok (.ifCond .eq 6, 3) := by decide +kernel
theorem dX9_fault_328 : decode cX9_fault 328 = .ok (.bipush 6, 2) := by decide +kernel
theorem dX9_fault_330 : decode cX9_fault 330 = .ok (.ireturn, 1) := by decide +kernel
theorem dX9_fault_331 : decode cX9_fault 331 = .ok (.aload_n 0, 1) := by decide +kernel
theorem dX9_fault_332 : decode cX9_fault 332 = .ok (.iconst 0, 1) := by decide +kernel
theorem dX9_fault_333 : decode cX9_fault 333 = .ok (.putfield 129, 3) := by decide +kernel
theorem dX9_fault_336 : decode cX9_fault 336 = .ok (.iload 6, 2) := by decide +kernel
theorem dX9_fault_338 : decode cX9_fault 338 = .ok (.istore 8, 2) := by decide +kernel
theorem dX9_fault_340 : decode cX9_fault 340 = .ok (.iload 8, 2) := by decide +kernel
theorem dX9_fault_342 : decode cX9_fault 342 = .ok (.iload 4, 2) := by decide +kernel
theorem dX9_fault_344 : decode cX9_fault 344 = .ok (.if_icmp .ge 161, 3) := by decide +kernel
theorem dX9_fault_347 : decode cX9_fault 347 = .ok (.iload_n 2, 1) := by decide +kernel
theorem dX9_fault_348 : decode cX9_fault 348 = .ok (.ifCond .eq 29, 3) := by decide +kernel
theorem dX9_fault_351 : decode cX9_fault 351 = .ok (.sipush 256, 3) := by decide +kernel
theorem dX9_fault_354 : decode cX9_fault 354 = .ok (.aload_n 0, 1) := by decide +kernel
theorem dX9_fault_355 : decode cX9_fault 355 = .ok (.getfield 58, 3) := by decide +kernel
theorem dX9_fault_358 : decode cX9_fault 358 = .ok (.iconst 2, 1) := by decide +kernel
theorem dX9_fault_359 : decode cX9_fault 359 = .ok (.iload 8, 2) := by decide +kernel
theorem dX9_fault_361 : decode cX9_fault 361 = .ok (.iadd, 1) := by decide +kernel
theorem dX9_fault_362 : decode cX9_fault 362 = .ok (.iaload, 1) := by decide +kernel
theorem dX9_fault_363 : decode cX9_fault 363 = .ok (.imul, 1) := by decide +kernel
theorem dX9_fault_364 : decode cX9_fault 364 = .ok (.aload_n 0, 1) := by decide +kernel
theorem dX9_fault_365 : decode cX9_fault 365 = .ok (.getfield 58, 3) := by decide +kernel
theorem dX9_fault_368 : decode cX9_fault 368 = .ok (.iconst 3, 1) := by decide +kernel
theorem dX9_fault_369 : decode cX9_fault 369 = .ok (.iload 8, 2) := by decide +kernel
theorem dX9_fault_371 : decode cX9_fault 371 = .ok (.iadd, 1) := by decide +kernel
theorem dX9_fault_372 : decode cX9_fault 372 = .ok (.iaload, 1) := by decide +kernel
theorem dX9_fault_373 : decode cX9_fault 373 = .ok (.iadd, 1) := by decide +kernel
theorem dX9_fault_374 : decode cX9_fault 374 = .ok (.goto 9, 3) := by decide +kernel
theorem dX9_fault_377 : decode cX9_fault 377 = .ok (.aload_n 0, 1) := by decide +kernel
theorem dX9_fault_378 : decode cX9_fault 378 = .ok (.iload 8, 2) := by decide +kernel
theorem dX9_fault_380 : decode cX9_fault 380 = .ok (.invokevirtual 132, 3) := by decide +kernel
theorem dX9_fault_383 : decode cX9_fault 383 = .ok (.istore 9, 2) := by decide +kernel
theorem dX9_fault_385 : decode cX9_fault 385 = .ok (.iload_n 2, 1) := by decide +kernel
theorem dX9_fault_386 : decode cX9_fault 386 = .ok (.ifCond .ne 69, 3) := by decide +kernel
theorem dX9_fault_389 : decode cX9_fault 389 = .ok (.iload 9, 2) := by decide +kernel
theorem dX9_fault_391 : decode cX9_fault 391 = .ok (.bipush 27, 2) := by decide +kernel
theorem dX9_fault_393 : decode cX9_fault 393 = .ok (.if_icmp .ne 62, 3) := by decide +kernel
theorem dX9_fault_396 : decode cX9_fault 396 = .ok (.iinc 8 1, 3) := by decide +kernel
theorem dX9_fault_399 : decode cX9_fault 399 = .ok (.iload 8, 2) := by decide +kernel
theorem dX9_fault_401 : decode cX9_fault 401 = .ok (.iload 4, 2) := by decide +kernel
theorem dX9_fault_403 : decode cX9_fault 403 = .ok (.if_icmp .ne 8, 3) := by decide +kernel
theorem dX9_fault_406 : decode cX9_fault 406 = .ok (.bipush 32, 2) := by decide +kernel
theorem dX9_fault_408 : decode cX9_fault 408 = .ok (.goto 42, 3) := by decide +kernel
theorem dX9_fault_411 : decode cX9_fault 411 = .ok (.aload_n 0, 1) := by decide +kernel
theorem dX9_fault_412 : decode cX9_fault 412 = .ok (.getfield 13, 3) := by decide +kernel
theorem dX9_fault_415 : decode cX9_fault 415 = .ok (.aload_n 0, 1) := by decide +kernel
theorem dX9_fault_416 : decode cX9_fault 416 = .ok (.iload 8, 2) := by decide +kernel
theorem dX9_fault_418 : decode cX9_fault 418 = .ok (.invokevirtual 132, 3) := by decide +kernel
theorem dX9_fault_421 : decode cX9_fault 421 = .ok (.iaload, 1) := by decide +kernel
theorem dX9_fault_422 : decode cX9_fault 422 = .ok (.iconst (-1), 1) := by decide +kernel
theorem dX9_fault_423 : decode cX9_fault 423 = .ok (.if_icmp .eq 17, 3) := by decide +kernel
theorem dX9_fault_426 : decode cX9_fault 426 = .ok (.aload_n 0, 1) := by decide +kernel
theorem dX9_fault_427 : decode cX9_fault 427 = .ok (.getfield 13, 3) := by decide +kernel
theorem dX9_fault_430 : decode cX9_fault 430 = .ok (.aload_n 0, 1) := by decide +kernel
theorem dX9_fault_431 : decode cX9_fault 431 = .ok (.iload 8, 2) := by decide +kernel
theorem dX9_fault_433 : decode cX9_fault 433 = .ok (.invokevirtual 132, 3) := by decide +kernel
theorem dX9_fault_436 : decode cX9_fault 436 = .ok (.iaload, 1) := by decide +kernel
theorem dX9_fault_437 : decode cX9_fault 437 = .ok (.goto 13, 3) := by decide +kernel
theorem dX9_fault_440 : decode cX9_fault 440 = .ok (.aload_n 0, 1) := by decide +kernel
theorem dX9_fault_441 : decode cX9_fault 441 = .ok (.aload_n 0, 1) := by decide +kernel
theorem dX9_fault_442 : decode cX9_fault 442 = .ok (.iload 8, 2) := by decide +kernel
theorem dX9_fault_444 : decode cX9_fault 444 = .ok (.invokevirtual 132, 3) := by decide +kernel
theorem dX9_fault_447 : decode cX9_fault 447 = .ok (.invokevirtual 135, 3) := by decide +kernel
theorem dX9_fault_450 : decode cX9_fault 450 = .ok (.istore 9, 2) := by decide +kernel
theorem dX9_fault_452 : decode cX9_fault 452 = .ok (.goto 15, 3) := by decide +kernel
theorem dX9_fault_455 : decode cX9_fault 455 = .ok (.iload_n 2, 1) := by decide +kernel
theorem dX9_fault_456 : decode cX9_fault 456 = .ok (.ifCond .ne 11, 3) := by decide +kernel
theorem dX9_fault_459 : decode cX9_fault 459 = .ok (.aload_n 0, 1) := by decide +kernel
theorem dX9_fault_460 : decode cX9_fault 460 = .ok (.iload 9, 2) := by decide +kernel
theorem dX9_fault_462 : decode cX9_fault 462 = .ok (.invokevirtual 135, 3) := by decide +kernel
theorem dX9_fault_465 : decode cX9_fault 465 = .ok (.istore 9, 2) := by decide +kernel
theorem dX9_fault_467 : decode cX9_fault 467 = .ok (.aload_n 0, 1) := by decide +kernel
theorem dX9_fault_468 : decode cX9_fault 468 = .ok (.getfield 61, 3) := by decide +kernel
theorem dX9_fault_471 : decode cX9_fault 471 = .ok (.aload_n 0, 1) := by decide +kernel
theorem dX9_fault_472 : decode cX9_fault 472 = .ok (.getfield 129, 3) := by decide +kernel
theorem dX9_fault_475 : decode cX9_fault 475 = .ok (.iload 9, 2) := by decide +kernel
theorem dX9_fault_477 : decode cX9_fault 477 = .ok (.iastore, 1) := by decide +kernel
theorem dX9_fault_478 : decode cX9_fault 478 = .ok (.aload_n 0, 1) := by decide +kernel
theorem dX9_fault_479 : decode cX9_fault 479 = .ok (.dup, 1) := by decide +kernel
theorem dX9_fault_480 : decode cX9_fault 480 = .ok (.getfield 129, 3) := by decide +kernel
theorem dX9_fault_483 : decode cX9_fault 483 = .ok (.iconst 1, 1) := by decide +kernel
theorem dX9_fault_484 : decode cX9_fault 484 = .ok (.iadd, 1) := by decide +kernel
theorem dX9_fault_485 : decode cX9_fault 485 = .ok (.putfield 129, 3) := by decide +kernel
theorem dX9_fault_488 : decode cX9_fault 488 = .ok (.iload 8, 2) := by decide +kernel
theorem dX9_fault_490 : decode cX9_fault 490 = .ok (.iload_n 2, 1) := by decide +kernel
theorem dX9_fault_491 : decode cX9_fault 491 = .ok (.ifCond .eq 7, 3) := by decide +kernel
theorem dX9_fault_494 : decode cX9_fault 494 = .ok (.iconst 2, 1) := by decide +kernel
theorem dX9_fault_495 : decode cX9_fault 495 = .ok (.goto 4, 3) := by decide +kernel
theorem dX9_fault_498 : decode cX9_fault 498 = .ok (.iconst 1, 1) := by decide +kernel
theorem dX9_fault_499 : decode cX9_fault 499 = .ok (.iadd, 1) := by decide +kernel
theorem dX9_fault_500 : decode cX9_fault 500 = .ok (.istore 8, 2) := by decide +kernel
theorem dX9_fault_502 : decode cX9_fault 502 = .ok (.goto (-162), 3) := by decide +kernel
theorem dX9_fault_505 : decode cX9_fault 505 = .ok (.iconst 0, 1) := by decide +kernel
theorem dX9_fault_506 : decode cX9_fault 506 = .ok (.ireturn, 1) := by decide +kernel
theorem dX9_alone_0 : decode cX9_alone 0 = .ok (.aload_n 0, 1) := by decide +kernel
theorem dX9_alone_1 : decode cX9_alone 1 = .ok (.getfield 7, 3) := by decide +kernel
theorem dX9_alone_4 : decode cX9_alone 4 = .ok (.iload_n 1, 1) := by decide +kernel
theorem dX9_alone_5 : decode cX9_alone 5 = .ok (.iaload, 1) := by decide +kernel
theorem dX9_alone_6 : decode cX9_alone 6 = .ok (.iconst (-1), 1) := by decide +kernel
theorem dX9_alone_7 : decode cX9_alone 7 = .ok (.if_icmp .ne 8, 3) := by decide +kernel
theorem dX9_alone_10 : decode cX9_alone 10 = .ok (.bipush 63, 2) := by decide +kernel
theorem dX9_alone_12 : decode cX9_alone 12 = .ok (.goto 9, 3) := by decide +kernel
theorem dX9_alone_15 : decode cX9_alone 15 = .ok (.aload_n 0, 1) := by decide +kernel
theorem dX9_alone_16 : decode cX9_alone 16 = .ok (.getfield 7, 3) := by decide +kernel
theorem dX9_alone_19 : decode cX9_alone 19 = .ok (.iload_n 1, 1) := by decide +kernel
theorem dX9_alone_20 : decode cX9_alone 20 = .ok (.iaload, 1) := by decide +kernel
theorem dX9_alone_21 : decode cX9_alone 21 = .ok (.ireturn, 1) := by decide +kernel
theorem dX9_gone_0 : decode cX9_gone 0 = .ok (.aload_n 0, 1) := by decide +kernel
theorem dX9_gone_1 : decode cX9_gone 1 = .ok (.getfield 33, 3) := by decide +kernel
theorem dX9_gone_4 : decode cX9_gone 4 = .ok (.iload_n 1, 1) := by decide +kernel
theorem dX9_gone_5 : decode cX9_gone 5 = .ok (.iaload, 1) := by decide +kernel
theorem dX9_gone_6 : decode cX9_gone 6 = .ok (.istore_n 2, 1) := by decide +kernel
theorem dX9_gone_7 : decode cX9_gone 7 = .ok (.iload_n 1, 1) := by decide +kernel
theorem dX9_gone_8 : decode cX9_gone 8 = .ok (.istore_n 3, 1) := by decide +kernel
theorem dX9_gone_9 : decode cX9_gone 9 = .ok (.iload_n 3, 1) := by decide +kernel
theorem dX9_gone_10 : decode cX9_gone 10 = .ok (.iconst 1, 1) := by decide +kernel
theorem dX9_gone_11 : decode cX9_gone 11 = .ok (.iadd, 1) := by decide +kernel
theorem dX9_gone_12 : decode cX9_gone 12 = .ok (.aload_n 0, 1) := by decide +kernel
theorem dX9_gone_13 : decode cX9_gone 13 = .ok (.getfield 107, 3) := by decide +kernel
theorem dX9_gone_16 : decode cX9_gone 16 = .ok (.if_icmp .ge 93, 3) := by decide +kernel
theorem dX9_gone_19 : decode cX9_gone 19 = .ok (.aload_n 0, 1) := by decide +kernel
theorem dX9_gone_20 : decode cX9_gone 20 = .ok (.getfield 33, 3) := by decide +kernel
theorem dX9_gone_23 : decode cX9_gone 23 = .ok (.iload_n 3, 1) := by decide +kernel
theorem dX9_gone_24 : decode cX9_gone 24 = .ok (.aload_n 0, 1) := by decide +kernel
theorem dX9_gone_25 : decode cX9_gone 25 = .ok (.getfield 33, 3) := by decide +kernel
theorem dX9_gone_28 : decode cX9_gone 28 = .ok (.iload_n 3, 1) := by decide +kernel
theorem dX9_gone_29 : decode cX9_gone 29 = .ok (.iconst 1, 1) := by decide +kernel
theorem dX9_gone_30 : decode cX9_gone 30 = .ok (.iadd, 1) := by decide +kernel
theorem dX9_gone_31 : decode cX9_gone 31 = .ok (.iaload, 1) := by decide +kernel
theorem dX9_gone_32 : decode cX9_gone 32 = .ok (.iastore, 1) := by decide +kernel
theorem dX9_gone_33 : decode cX9_gone 33 = .ok (.aload_n 0, 1) := by decide +kernel
theorem dX9_gone_34 : decode cX9_gone 34 = .ok (.getfield 36, 3) := by decide +kernel
