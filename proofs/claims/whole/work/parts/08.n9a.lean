theorem dX9_init_0 : decode cX9_init 0 = .ok (.aload_n 0, 1) := by decide +kernel
theorem dX9_init_1 : decode cX9_init 1 = .ok (.invokespecial 1, 3) := by decide +kernel
theorem dX9_init_4 : decode cX9_init 4 = .ok (.aload_n 0, 1) := by decide +kernel
theorem dX9_init_5 : decode cX9_init 5 = .ok (.sipush 128, 3) := by decide +kernel
theorem dX9_init_8 : decode cX9_init 8 = .ok (.newarray .int, 2) := by decide +kernel
theorem dX9_init_10 : decode cX9_init 10 = .ok (.putfield 7, 3) := by decide +kernel
theorem dX9_init_13 : decode cX9_init 13 = .ok (.aload_n 0, 1) := by decide +kernel
theorem dX9_init_14 : decode cX9_init 14 = .ok (.sipush 128, 3) := by decide +kernel
theorem dX9_init_17 : decode cX9_init 17 = .ok (.newarray .int, 2) := by decide +kernel
theorem dX9_init_19 : decode cX9_init 19 = .ok (.putfield 13, 3) := by decide +kernel
theorem dX9_init_22 : decode cX9_init 22 = .ok (.aload_n 0, 1) := by decide +kernel
theorem dX9_init_23 : decode cX9_init 23 = .ok (.sipush 3000, 3) := by decide +kernel
theorem dX9_init_26 : decode cX9_init 26 = .ok (.newarray .int, 2) := by decide +kernel
theorem dX9_init_28 : decode cX9_init 28 = .ok (.putfield 16, 3) := by decide +kernel
theorem dX9_init_31 : decode cX9_init 31 = .ok (.aload_n 0, 1) := by decide +kernel
theorem dX9_init_32 : decode cX9_init 32 = .ok (.sipush 255, 3) := by decide +kernel
theorem dX9_init_35 : decode cX9_init 35 = .ok (.newarray .int, 2) := by decide +kernel
theorem dX9_init_37 : decode cX9_init 37 = .ok (.putfield 19, 3) := by decide +kernel
theorem dX9_init_40 : decode cX9_init 40 = .ok (.aload_n 0, 1) := by decide +kernel
theorem dX9_init_41 : decode cX9_init 41 = .ok (.ldc 22, 2) := by decide +kernel
theorem dX9_init_43 : decode cX9_init 43 = .ok (.newarray .int, 2) := by decide +kernel
theorem dX9_init_45 : decode cX9_init 45 = .ok (.putfield 23, 3) := by decide +kernel
theorem dX9_init_48 : decode cX9_init 48 = .ok (.aload_n 0, 1) := by decide +kernel
theorem dX9_init_49 : decode cX9_init 49 = .ok (.sipush 200, 3) := by decide +kernel
theorem dX9_init_52 : decode cX9_init 52 = .ok (.newarray .int, 2) := by decide +kernel
theorem dX9_init_54 : decode cX9_init 54 = .ok (.putfield 26, 3) := by decide +kernel
theorem dX9_init_57 : decode cX9_init 57 = .ok (.aload_n 0, 1) := by decide +kernel
theorem dX9_init_58 : decode cX9_init 58 = .ok (.ldc 29, 2) := by decide +kernel
theorem dX9_init_60 : decode cX9_init 60 = .ok (.newarray .int, 2) := by decide +kernel
theorem dX9_init_62 : decode cX9_init 62 = .ok (.putfield 30, 3) := by decide +kernel
theorem dX9_init_65 : decode cX9_init 65 = .ok (.aload_n 0, 1) := by decide +kernel
theorem dX9_init_66 : decode cX9_init 66 = .ok (.bipush 16, 2) := by decide +kernel
theorem dX9_init_68 : decode cX9_init 68 = .ok (.newarray .int, 2) := by decide +kernel
theorem dX9_init_70 : decode cX9_init 70 = .ok (.putfield 33, 3) := by decide +kernel
theorem dX9_init_73 : decode cX9_init 73 = .ok (.aload_n 0, 1) := by decide +kernel
theorem dX9_init_74 : decode cX9_init 74 = .ok (.bipush 16, 2) := by decide +kernel
theorem dX9_init_76 : decode cX9_init 76 = .ok (.newarray .int, 2) := by decide +kernel
theorem dX9_init_78 : decode cX9_init 78 = .ok (.putfield 36, 3) := by decide +kernel
theorem dX9_init_81 : decode cX9_init 81 = .ok (.aload_n 0, 1) := by decide +kernel
theorem dX9_init_82 : decode cX9_init 82 = .ok (.bipush 16, 2) := by decide +kernel
theorem dX9_init_84 : decode cX9_init 84 = .ok (.newarray .int, 2) := by decide +kernel
theorem dX9_init_86 : decode cX9_init 86 = .ok (.putfield 39, 3) := by decide +kernel
theorem dX9_init_89 : decode cX9_init 89 = .ok (.aload_n 0, 1) := by decide +kernel
theorem dX9_init_90 : decode cX9_init 90 = .ok (.bipush 16, 2) := by decide +kernel
theorem dX9_init_92 : decode cX9_init 92 = .ok (.newarray .int, 2) := by decide +kernel
theorem dX9_init_94 : decode cX9_init 94 = .ok (.putfield 42, 3) := by decide +kernel
theorem dX9_init_97 : decode cX9_init 97 = .ok (.aload_n 0, 1) := by decide +kernel
theorem dX9_init_98 : decode cX9_init 98 = .ok (.bipush 16, 2) := by decide +kernel
theorem dX9_init_100 : decode cX9_init 100 = .ok (.newarray .int, 2) := by decide +kernel
theorem dX9_init_102 : decode cX9_init 102 = .ok (.putfield 45, 3) := by decide +kernel
theorem dX9_init_105 : decode cX9_init 105 = .ok (.aload_n 0, 1) := by decide +kernel
theorem dX9_init_106 : decode cX9_init 106 = .ok (.bipush 16, 2) := by decide +kernel
theorem dX9_init_108 : decode cX9_init 108 = .ok (.newarray .int, 2) := by decide +kernel
theorem dX9_init_110 : decode cX9_init 110 = .ok (.putfield 48, 3) := by decide +kernel
theorem dX9_init_113 : decode cX9_init 113 = .ok (.aload_n 0, 1) := by decide +kernel
theorem dX9_init_114 : decode cX9_init 114 = .ok (.sipush 4080, 3) := by decide +kernel
theorem dX9_init_117 : decode cX9_init 117 = .ok (.newarray .int, 2) := by decide +kernel
theorem dX9_init_119 : decode cX9_init 119 = .ok (.putfield 51, 3) := by decide +kernel
theorem dX9_init_122 : decode cX9_init 122 = .ok (.aload_n 0, 1) := by decide +kernel
theorem dX9_init_123 : decode cX9_init 123 = .ok (.ldc 54, 2) := by decide +kernel
theorem dX9_init_125 : decode cX9_init 125 = .ok (.newarray .int, 2) := by decide +kernel
theorem dX9_init_127 : decode cX9_init 127 = .ok (.putfield 55, 3) := by decide +kernel
theorem dX9_init_130 : decode cX9_init 130 = .ok (.aload_n 0, 1) := by decide +kernel
theorem dX9_init_131 : decode cX9_init 131 = .ok (.sipush 200, 3) := by decide +kernel
theorem dX9_init_134 : decode cX9_init 134 = .ok (.newarray .int, 2) := by decide +kernel
theorem dX9_init_136 : decode cX9_init 136 = .ok (.putfield 58, 3) := by decide +kernel
theorem dX9_init_139 : decode cX9_init 139 = .ok (.aload_n 0, 1) := by decide +kernel
theorem dX9_init_140 : decode cX9_init 140 = .ok (.sipush 200, 3) := by decide +kernel
theorem dX9_init_143 : decode cX9_init 143 = .ok (.newarray .int, 2) := by decide +kernel
theorem dX9_init_145 : decode cX9_init 145 = .ok (.putfield 61, 3) := by decide +kernel
theorem dX9_init_148 : decode cX9_init 148 = .ok (.iconst 0, 1) := by decide +kernel
theorem dX9_init_149 : decode cX9_init 149 = .ok (.istore_n 1, 1) := by decide +kernel
theorem dX9_init_150 : decode cX9_init 150 = .ok (.iload_n 1, 1) := by decide +kernel
theorem dX9_init_151 : decode cX9_init 151 = .ok (.sipush 128, 3) := by decide +kernel
theorem dX9_init_154 : decode cX9_init 154 = .ok (.if_icmp .ge 85, 3) := by decide +kernel
theorem dX9_init_157 : decode cX9_init 157 = .ok (.aload_n 0, 1) := by decide +kernel
theorem dX9_init_158 : decode cX9_init 158 = .ok (.getfield 13, 3) := by decide +kernel
theorem dX9_init_161 : decode cX9_init 161 = .ok (.iload_n 1, 1) := by decide +kernel
theorem dX9_init_162 : decode cX9_init 162 = .ok (.iconst (-1), 1) := by decide +kernel
theorem dX9_init_163 : decode cX9_init 163 = .ok (.iastore, 1) := by decide +kernel
theorem dX9_init_164 : decode cX9_init 164 = .ok (.iload_n 1, 1) := by decide +kernel
theorem dX9_init_165 : decode cX9_init 165 = .ok (.bipush 10, 2) := by decide +kernel
theorem dX9_init_167 : decode cX9_init 167 = .ok (.if_icmp .eq 45, 3) := by decide +kernel
theorem dX9_init_170 : decode cX9_init 170 = .ok (.iload_n 1, 1) := by decide +kernel
theorem dX9_init_171 : decode cX9_init 171 = .ok (.bipush 13, 2) := by decide +kernel
theorem dX9_init_173 : decode cX9_init 173 = .ok (.if_icmp .eq 39, 3) := by decide +kernel
theorem dX9_init_176 : decode cX9_init 176 = .ok (.iload_n 1, 1) := by decide +kernel
theorem dX9_init_177 : decode cX9_init 177 = .ok (.bipush 32, 2) := by decide +kernel
theorem dX9_init_179 : decode cX9_init 179 = .ok (.if_icmp .lt 21, 3) := by decide +kernel
theorem dX9_init_182 : decode cX9_init 182 = .ok (.iload_n 1, 1) := by decide +kernel
theorem dX9_init_183 : decode cX9_init 183 = .ok (.bipush 90, 2) := by decide +kernel
theorem dX9_init_185 : decode cX9_init 185 = .ok (.if_icmp .gt 15, 3) := by decide +kernel
theorem dX9_init_188 : decode cX9_init 188 = .ok (.iload_n 1, 1) := by decide +kernel
theorem dX9_init_189 : decode cX9_init 189 = .ok (.bipush 36, 2) := by decide +kernel
theorem dX9_init_191 : decode cX9_init 191 = .ok (.if_icmp .eq 9, 3) := by decide +kernel
theorem dX9_init_194 : decode cX9_init 194 = .ok (.iload_n 1, 1) := by decide +kernel
theorem dX9_init_195 : decode cX9_init 195 = .ok (.bipush 64, 2) := by decide +kernel
theorem dX9_init_197 : decode cX9_init 197 = .ok (.if_icmp .ne 15, 3) := by decide +kernel
theorem dX9_init_200 : decode cX9_init 200 = .ok (.iload_n 1, 1) := by decide +kernel
theorem dX9_init_201 : decode cX9_init 201 = .ok (.bipush 97, 2) := by decide +kernel
theorem dX9_init_203 : decode cX9_init 203 = .ok (.if_icmp .lt 13, 3) := by decide +kernel
theorem dX9_init_206 : decode cX9_init 206 = .ok (.iload_n 1, 1) := by decide +kernel
theorem dX9_init_207 : decode cX9_init 207 = .ok (.bipush 122, 2) := by decide +kernel
theorem dX9_init_209 : decode cX9_init 209 = .ok (.if_icmp .gt 7, 3) := by decide +kernel
theorem dX9_init_212 : decode cX9_init 212 = .ok (.iconst 1, 1) := by decide +kernel
theorem dX9_init_213 : decode cX9_init 213 = .ok (.goto 4, 3) := by decide +kernel
theorem dX9_init_216 : decode cX9_init 216 = .ok (.iconst 0, 1) := by decide +kernel
theorem dX9_init_217 : decode cX9_init 217 = .ok (.istore_n 2, 1) := by decide +kernel
theorem dX9_init_218 : decode cX9_init 218 = .ok (.aload_n 0, 1) := by decide +kernel
theorem dX9_init_219 : decode cX9_init 219 = .ok (.getfield 7, 3) := by decide +kernel
theorem dX9_init_222 : decode cX9_init 222 = .ok (.iload_n 1, 1) := by decide +kernel
theorem dX9_init_223 : decode cX9_init 223 = .ok (.iload_n 2, 1) := by decide +kernel
theorem dX9_init_224 : decode cX9_init 224 = .ok (.ifCond .eq 7, 3) := by decide +kernel
theorem dX9_init_227 : decode cX9_init 227 = .ok (.iload_n 1, 1) := by decide +kernel
theorem dX9_init_228 : decode cX9_init 228 = .ok (.goto 4, 3) := by decide +kernel
theorem dX9_init_231 : decode cX9_init 231 = .ok (.iconst (-1), 1) := by decide +kernel
theorem dX9_init_232 : decode cX9_init 232 = .ok (.iastore, 1) := by decide +kernel
theorem dX9_init_233 : decode cX9_init 233 = .ok (.iinc 1 1, 3) := by decide +kernel
theorem dX9_init_236 : decode cX9_init 236 = .ok (.goto (-86), 3) := by decide +kernel
theorem dX9_init_239 : decode cX9_init 239 = .ok (.aload_n 0, 1) := by decide +kernel
theorem dX9_init_240 : decode cX9_init 240 = .ok (.getfield 7, 3) := by decide +kernel
theorem dX9_init_243 : decode cX9_init 243 = .ok (.iconst 0, 1) := by decide +kernel
theorem dX9_init_244 : decode cX9_init 244 = .ok (.bipush 64, 2) := by decide +kernel
theorem dX9_init_246 : decode cX9_init 246 = .ok (.iastore, 1) := by decide +kernel
theorem dX9_init_247 : decode cX9_init 247 = .ok (.aload_n 0, 1) := by decide +kernel
theorem dX9_init_248 : decode cX9_init 248 = .ok (.getfield 7, 3) := by decide +kernel
theorem dX9_init_251 : decode cX9_init 251 = .ok (.iconst 1, 1) := by decide +kernel
theorem dX9_init_252 : decode cX9_init 252 = .ok (.sipush 163, 3) := by decide +kernel
theorem dX9_init_255 : decode cX9_init 255 = .ok (.iastore, 1) := by decide +kernel
theorem dX9_init_256 : decode cX9_init 256 = .ok (.aload_n 0, 1) := by decide +kernel
theorem dX9_init_257 : decode cX9_init 257 = .ok (.getfield 7, 3) := by decide +kernel
theorem dX9_init_260 : decode cX9_init 260 = .ok (.iconst 2, 1) := by decide +kernel
theorem dX9_init_261 : decode cX9_init 261 = .ok (.bipush 36, 2) := by decide +kernel
theorem dX9_init_263 : decode cX9_init 263 = .ok (.iastore, 1) := by decide +kernel
theorem dX9_init_264 : decode cX9_init 264 = .ok (.aload_n 0, 1) := by decide +kernel
theorem dX9_init_265 : decode cX9_init 265 = .ok (.getfield 7, 3) := by decide +kernel
theorem dX9_init_268 : decode cX9_init 268 = .ok (.iconst 3, 1) := by decide +kernel
theorem dX9_init_269 : decode cX9_init 269 = .ok (.sipush 165, 3) := by decide +kernel
theorem dX9_init_272 : decode cX9_init 272 = .ok (.iastore, 1) := by decide +kernel
theorem dX9_init_273 : decode cX9_init 273 = .ok (.aload_n 0, 1) := by decide +kernel
theorem dX9_init_274 : decode cX9_init 274 = .ok (.getfield 7, 3) := by decide +kernel
theorem dX9_init_277 : decode cX9_init 277 = .ok (.iconst 4, 1) := by decide +kernel
theorem dX9_init_278 : decode cX9_init 278 = .ok (.sipush 232, 3) := by decide +kernel
theorem dX9_init_281 : decode cX9_init 281 = .ok (.iastore, 1) := by decide +kernel
theorem dX9_init_282 : decode cX9_init 282 = .ok (.aload_n 0, 1) := by decide +kernel
theorem dX9_init_283 : decode cX9_init 283 = .ok (.getfield 7, 3) := by decide +kernel
theorem dX9_init_286 : decode cX9_init 286 = .ok (.iconst 5, 1) := by decide +kernel
theorem dX9_init_287 : decode cX9_init 287 = .ok (.sipush 233, 3) := by decide +kernel
theorem dX9_init_290 : decode cX9_init 290 = .ok (.iastore, 1) := by decide +kernel
theorem dX9_init_291 : decode cX9_init 291 = .ok (.aload_n 0, 1) := by decide +kernel
theorem dX9_init_292 : decode cX9_init 292 = .ok (.getfield 7, 3) := by decide +kernel
theorem dX9_init_295 : decode cX9_init 295 = .ok (.bipush 17, 2) := by decide +kernel
theorem dX9_init_297 : decode cX9_init 297 = .ok (.bipush 95, 2) := by decide +kernel
theorem dX9_init_299 : decode cX9_init 299 = .ok (.iastore, 1) := by decide +kernel
theorem dX9_init_300 : decode cX9_init 300 = .ok (.aload_n 0, 1) := by decide +kernel
theorem dX9_init_301 : decode cX9_init 301 = .ok (.getfield 7, 3) := by decide +kernel
theorem dX9_init_304 : decode cX9_init 304 = .ok (.bipush 95, 2) := by decide +kernel
theorem dX9_init_306 : decode cX9_init 306 = .ok (.sipush 167, 3) := by decide +kernel
theorem dX9_init_309 : decode cX9_init 309 = .ok (.iastore, 1) := by decide +kernel
theorem dX9_init_310 : decode cX9_init 310 = .ok (.aload_n 0, 1) := by decide +kernel
theorem dX9_init_311 : decode cX9_init 311 = .ok (.getfield 7, 3) := by decide +kernel
theorem dX9_init_314 : decode cX9_init 314 = .ok (.bipush 123, 2) := by decide +kernel
theorem dX9_init_316 : decode cX9_init 316 = .ok (.sipush 228, 3) := by decide +kernel
theorem dX9_init_319 : decode cX9_init 319 = .ok (.iastore, 1) := by decide +kernel
theorem dX9_init_320 : decode cX9_init 320 = .ok (.aload_n 0, 1) := by decide +kernel
theorem dX9_init_321 : decode cX9_init 321 = .ok (.getfield 7, 3) := by decide +kernel
theorem dX9_init_324 : decode cX9_init 324 = .ok (.bipush 124, 2) := by decide +kernel
theorem dX9_init_326 : decode cX9_init 326 = .ok (.sipush 246, 3) := by decide +kernel
theorem dX9_init_329 : decode cX9_init 329 = .ok (.iastore, 1) := by decide +kernel
theorem dX9_init_330 : decode cX9_init 330 = .ok (.aload_n 0, 1) := by decide +kernel
theorem dX9_init_331 : decode cX9_init 331 = .ok (.getfield 7, 3) := by decide +kernel
theorem dX9_init_334 : decode cX9_init 334 = .ok (.bipush 126, 2) := by decide +kernel
theorem dX9_init_336 : decode cX9_init 336 = .ok (.sipush 252, 3) := by decide +kernel
theorem dX9_init_339 : decode cX9_init 339 = .ok (.iastore, 1) := by decide +kernel
theorem dX9_init_340 : decode cX9_init 340 = .ok (.aload_n 0, 1) := by decide +kernel
theorem dX9_init_341 : decode cX9_init 341 = .ok (.getfield 13, 3) := by decide +kernel
theorem dX9_init_344 : decode cX9_init 344 = .ok (.bipush 20, 2) := by decide +kernel
theorem dX9_init_346 : decode cX9_init 346 = .ok (.bipush 94, 2) := by decide +kernel
theorem dX9_init_348 : decode cX9_init 348 = .ok (.iastore, 1) := by decide +kernel
theorem dX9_init_349 : decode cX9_init 349 = .ok (.aload_n 0, 1) := by decide +kernel
theorem dX9_init_350 : decode cX9_init 350 = .ok (.getfield 13, 3) := by decide +kernel
theorem dX9_init_353 : decode cX9_init 353 = .ok (.bipush 40, 2) := by decide +kernel
theorem dX9_init_355 : decode cX9_init 355 = .ok (.bipush 123, 2) := by decide +kernel
theorem dX9_init_357 : decode cX9_init 357 = .ok (.iastore, 1) := by decide +kernel
theorem dX9_init_358 : decode cX9_init 358 = .ok (.aload_n 0, 1) := by decide +kernel
theorem dX9_init_359 : decode cX9_init 359 = .ok (.getfield 13, 3) := by decide +kernel
theorem dX9_init_362 : decode cX9_init 362 = .ok (.bipush 41, 2) := by decide +kernel
theorem dX9_init_364 : decode cX9_init 364 = .ok (.bipush 125, 2) := by decide +kernel
theorem dX9_init_366 : decode cX9_init 366 = .ok (.iastore, 1) := by decide +kernel
theorem dX9_init_367 : decode cX9_init 367 = .ok (.aload_n 0, 1) := by decide +kernel
theorem dX9_init_368 : decode cX9_init 368 = .ok (.getfield 13, 3) := by decide +kernel
theorem dX9_init_371 : decode cX9_init 371 = .ok (.bipush 47, 2) := by decide +kernel
theorem dX9_init_373 : decode cX9_init 373 = .ok (.bipush 92, 2) := by decide +kernel
theorem dX9_init_375 : decode cX9_init 375 = .ok (.iastore, 1) := by decide +kernel
theorem dX9_init_376 : decode cX9_init 376 = .ok (.aload_n 0, 1) := by decide +kernel
theorem dX9_init_377 : decode cX9_init 377 = .ok (.getfield 13, 3) := by decide +kernel
theorem dX9_init_380 : decode cX9_init 380 = .ok (.bipush 60, 2) := by decide +kernel
theorem dX9_init_382 : decode cX9_init 382 = .ok (.bipush 91, 2) := by decide +kernel
theorem dX9_init_384 : decode cX9_init 384 = .ok (.iastore, 1) := by decide +kernel
theorem dX9_init_385 : decode cX9_init 385 = .ok (.aload_n 0, 1) := by decide +kernel
theorem dX9_init_386 : decode cX9_init 386 = .ok (.getfield 13, 3) := by decide +kernel
theorem dX9_init_389 : decode cX9_init 389 = .ok (.bipush 61, 2) := by decide +kernel
theorem dX9_init_391 : decode cX9_init 391 = .ok (.bipush 126, 2) := by decide +kernel
theorem dX9_init_393 : decode cX9_init 393 = .ok (.iastore, 1) := by decide +kernel
theorem dX9_init_394 : decode cX9_init 394 = .ok (.aload_n 0, 1) := by decide +kernel
theorem dX9_init_395 : decode cX9_init 395 = .ok (.getfield 13, 3) := by decide +kernel
theorem dX9_init_398 : decode cX9_init 398 = .ok (.bipush 62, 2) := by decide +kernel
theorem dX9_init_400 : decode cX9_init 400 = .ok (.bipush 93, 2) := by decide +kernel
theorem dX9_init_402 : decode cX9_init 402 = .ok (.iastore, 1) := by decide +kernel
theorem dX9_init_403 : decode cX9_init 403 = .ok (.aload_n 0, 1) := by decide +kernel
theorem dX9_init_404 : decode cX9_init 404 = .ok (.getfield 13, 3) := by decide +kernel
theorem dX9_init_407 : decode cX9_init 407 = .ok (.bipush 64, 2) := by decide +kernel
theorem dX9_init_409 : decode cX9_init 409 = .ok (.bipush 124, 2) := by decide +kernel
theorem dX9_init_411 : decode cX9_init 411 = .ok (.iastore, 1) := by decide +kernel
theorem dX9_init_412 : decode cX9_init 412 = .ok (.aload_n 0, 1) := by decide +kernel
theorem dX9_init_413 : decode cX9_init 413 = .ok (.getfield 13, 3) := by decide +kernel
theorem dX9_init_416 : decode cX9_init 416 = .ok (.bipush 101, 2) := by decide +kernel
theorem dX9_init_418 : decode cX9_init 418 = .ok (.sipush 8364, 3) := by decide +kernel
theorem dX9_init_421 : decode cX9_init 421 = .ok (.iastore, 1) := by decide +kernel
theorem dX9_init_422 : decode cX9_init 422 = .ok (.return_, 1) := by decide +kernel
theorem dX9_thrown_0 : decode cX9_thrown 0 = .ok (.aload_n 0, 1) := by decide +kernel
theorem dX9_thrown_1 : decode cX9_thrown 1 = .ok (.getfield 64, 3) := by decide +kernel
theorem dX9_thrown_4 : decode cX9_thrown 4 = .ok (.ireturn, 1) := by decide +kernel
theorem dX9_refuses_0 : decode cX9_refuses 0 = .ok (.aload_n 0, 1) := by decide +kernel
theorem dX9_refuses_1 : decode cX9_refuses 1 = .ok (.iload_n 1, 1) := by decide +kernel
theorem dX9_refuses_2 : decode cX9_refuses 2 = .ok (.putfield 64, 3) := by decide +kernel
theorem dX9_refuses_5 : decode cX9_refuses 5 = .ok (.iload_n 1, 1) := by decide +kernel
theorem dX9_refuses_6 : decode cX9_refuses 6 = .ok (.ifCond .le 7, 3) := by decide +kernel
theorem dX9_refuses_9 : decode cX9_refuses 9 = .ok (.iconst 1, 1) := by decide +kernel
theorem dX9_refuses_10 : decode cX9_refuses 10 = .ok (.goto 4, 3) := by decide +kernel
theorem dX9_refuses_13 : decode cX9_refuses 13 = .ok (.iconst 0, 1) := by decide +kernel
theorem dX9_refuses_14 : decode cX9_refuses 14 = .ok (.ireturn, 1) := by decide +kernel
theorem dX9_sevenOf_0 : decode cX9_sevenOf 0 = .ok (.iconst (-1), 1) := by decide +kernel
theorem dX9_sevenOf_1 : decode cX9_sevenOf 1 = .ok (.istore_n 2, 1) := by decide +kernel
theorem dX9_sevenOf_2 : decode cX9_sevenOf 2 = .ok (.iconst 0, 1) := by decide +kernel
theorem dX9_sevenOf_3 : decode cX9_sevenOf 3 = .ok (.istore_n 3, 1) := by decide +kernel
theorem dX9_sevenOf_4 : decode cX9_sevenOf 4 = .ok (.iload_n 3, 1) := by decide +kernel
theorem dX9_sevenOf_5 : decode cX9_sevenOf 5 = .ok (.sipush 128, 3) := by decide +kernel
theorem dX9_sevenOf_8 : decode cX9_sevenOf 8 = .ok (.if_icmp .ge 43, 3) := by decide +kernel
theorem dX9_sevenOf_11 : decode cX9_sevenOf 11 = .ok (.aload_n 0, 1) := by decide +kernel
theorem dX9_sevenOf_12 : decode cX9_sevenOf 12 = .ok (.getfield 7, 3) := by decide +kernel
theorem dX9_sevenOf_15 : decode cX9_sevenOf 15 = .ok (.iload_n 3, 1) := by decide +kernel
theorem dX9_sevenOf_16 : decode cX9_sevenOf 16 = .ok (.iaload, 1) := by decide +kernel
theorem dX9_sevenOf_17 : decode cX9_sevenOf 17 = .ok (.iload_n 1, 1) := by decide +kernel
theorem dX9_sevenOf_18 : decode cX9_sevenOf 18 = .ok (.if_icmp .ne 7, 3) := by decide +kernel
theorem dX9_sevenOf_21 : decode cX9_sevenOf 21 = .ok (.iload_n 3, 1) := by decide +kernel
theorem dX9_sevenOf_22 : decode cX9_sevenOf 22 = .ok (.goto 22, 3) := by decide +kernel
theorem dX9_sevenOf_25 : decode cX9_sevenOf 25 = .ok (.aload_n 0, 1) := by decide +kernel
theorem dX9_sevenOf_26 : decode cX9_sevenOf 26 = .ok (.getfield 13, 3) := by decide +kernel
theorem dX9_sevenOf_29 : decode cX9_sevenOf 29 = .ok (.iload_n 3, 1) := by decide +kernel
theorem dX9_sevenOf_30 : decode cX9_sevenOf 30 = .ok (.iaload, 1) := by decide +kernel
theorem dX9_sevenOf_31 : decode cX9_sevenOf 31 = .ok (.iload_n 1, 1) := by decide +kernel
theorem dX9_sevenOf_32 : decode cX9_sevenOf 32 = .ok (.if_icmp .ne 11, 3) := by decide +kernel
theorem dX9_sevenOf_35 : decode cX9_sevenOf 35 = .ok (.sipush 128, 3) := by decide +kernel
theorem dX9_sevenOf_38 : decode cX9_sevenOf 38 = .ok (.iload_n 3, 1) := by decide +kernel
theorem dX9_sevenOf_39 : decode cX9_sevenOf 39 = .ok (.iadd, 1) := by decide +kernel
theorem dX9_sevenOf_40 : decode cX9_sevenOf 40 = .ok (.goto 4, 3) := by decide +kernel
theorem dX9_sevenOf_43 : decode cX9_sevenOf 43 = .ok (.iload_n 2, 1) := by decide +kernel
theorem dX9_sevenOf_44 : decode cX9_sevenOf 44 = .ok (.istore_n 2, 1) := by decide +kernel
theorem dX9_sevenOf_45 : decode cX9_sevenOf 45 = .ok (.iinc 3 1, 3) := by decide +kernel
theorem dX9_sevenOf_48 : decode cX9_sevenOf 48 = .ok (.goto (-44), 3) := by decide +kernel
theorem dX9_sevenOf_51 : decode cX9_sevenOf 51 = .ok (.iload_n 2, 1) := by decide +kernel
theorem dX9_sevenOf_52 : decode cX9_sevenOf 52 = .ok (.ireturn, 1) := by decide +kernel
set_option maxRecDepth 20000 in
theorem ggX9_put_X9_refuses : GoodIn wsX9_put wsX9_refuses := goodIn_r _ [8, 9, 10, 11, 12, 13, 14, 15, 16, 17, 18, 19, 20, 21, 22, 23, 24, 25, 26, 27, 28, 29, 30, 31, 32, 33, 34, 35, 36] rfl (by decide +kernel)
set_option maxRecDepth 20000 in
theorem gX9_put_X9_refuses : GoodIn wsX9_put (wsV RX9 72 RX9 yX9_refuses wsX9_refuses) := goodIn_app (goodIn_of _ (by decide +kernel)) ggX9_put_X9_refuses
theorem dX9_put_0 : decode cX9_put 0 = .ok (.aload_n 0, 1) := by decide +kernel
theorem dX9_put_1 : decode cX9_put 1 = .ok (.iload_n 1, 1) := by decide +kernel
theorem dX9_put_2 : decode cX9_put 2 = .ok (.ifCond .lt 9, 3) := by decide +kernel
theorem dX9_put_5 : decode cX9_put 5 = .ok (.iload_n 1, 1) := by decide +kernel
theorem dX9_put_6 : decode cX9_put 6 = .ok (.ldc 68, 2) := by decide +kernel
theorem dX9_put_8 : decode cX9_put 8 = .ok (.if_icmp .le 7, 3) := by decide +kernel
theorem dX9_put_11 : decode cX9_put 11 = .ok (.iconst 1, 1) := by decide +kernel
theorem dX9_put_12 : decode cX9_put 12 = .ok (.goto 18, 3) := by decide +kernel
theorem dX9_put_15 : decode cX9_put 15 = .ok (.aload_n 0, 1) := by decide +kernel
theorem dX9_put_16 : decode cX9_put 16 = .ok (.getfield 69, 3) := by decide +kernel
theorem dX9_put_19 : decode cX9_put 19 = .ok (.sipush 3000, 3) := by decide +kernel
theorem dX9_put_22 : decode cX9_put 22 = .ok (.if_icmp .ne 7, 3) := by decide +kernel
theorem dX9_put_25 : decode cX9_put 25 = .ok (.iconst 2, 1) := by decide +kernel
theorem dX9_put_26 : decode cX9_put 26 = .ok (.goto 4, 3) := by decide +kernel
theorem dX9_put_29 : decode cX9_put 29 = .ok (.iconst 0, 1) := by decide +kernel
theorem dX9_put_30 : decode cX9_put 30 = .ok (.invokevirtual 72, 3) := by decide +kernel
theorem dX9_put_33 : decode cX9_put 33 = .ok (.ifCond .eq 5, 3) := by decide +kernel
theorem dX9_put_36 : decode cX9_put 36 = .ok (.iconst 0, 1) := by decide +kernel
theorem dX9_put_37 : decode cX9_put 37 = .ok (.ireturn, 1) := by decide +kernel
theorem dX9_put_38 : decode cX9_put 38 = .ok (.aload_n 0, 1) := by decide +kernel
theorem dX9_put_39 : decode cX9_put 39 = .ok (.getfield 16, 3) := by decide +kernel
theorem dX9_put_42 : decode cX9_put 42 = .ok (.aload_n 0, 1) := by decide +kernel
theorem dX9_put_43 : decode cX9_put 43 = .ok (.getfield 69, 3) := by decide +kernel
theorem dX9_put_46 : decode cX9_put 46 = .ok (.iload_n 1, 1) := by decide +kernel
theorem dX9_put_47 : decode cX9_put 47 = .ok (.iastore, 1) := by decide +kernel
theorem dX9_put_48 : decode cX9_put 48 = .ok (.aload_n 0, 1) := by decide +kernel
theorem dX9_put_49 : decode cX9_put 49 = .ok (.dup, 1) := by decide +kernel
theorem dX9_put_50 : decode cX9_put 50 = .ok (.getfield 69, 3) := by decide +kernel
theorem dX9_put_53 : decode cX9_put 53 = .ok (.iconst 1, 1) := by decide +kernel
theorem dX9_put_54 : decode cX9_put 54 = .ok (.iadd, 1) := by decide +kernel
theorem dX9_put_55 : decode cX9_put 55 = .ok (.putfield 69, 3) := by decide +kernel
theorem dX9_put_58 : decode cX9_put 58 = .ok (.aload_n 0, 1) := by decide +kernel
theorem dX9_put_59 : decode cX9_put 59 = .ok (.getfield 69, 3) := by decide +kernel
theorem dX9_put_62 : decode cX9_put 62 = .ok (.ireturn, 1) := by decide +kernel
theorem dX9_clear_0 : decode cX9_clear 0 = .ok (.aload_n 0, 1) := by decide +kernel
theorem dX9_clear_1 : decode cX9_clear 1 = .ok (.iconst 0, 1) := by decide +kernel
theorem dX9_clear_2 : decode cX9_clear 2 = .ok (.putfield 64, 3) := by decide +kernel
theorem dX9_clear_5 : decode cX9_clear 5 = .ok (.aload_n 0, 1) := by decide +kernel
theorem dX9_clear_6 : decode cX9_clear 6 = .ok (.getfield 69, 3) := by decide +kernel
theorem dX9_clear_9 : decode cX9_clear 9 = .ok (.istore_n 1, 1) := by decide +kernel
theorem dX9_clear_10 : decode cX9_clear 10 = .ok (.aload_n 0, 1) := by decide +kernel
theorem dX9_clear_11 : decode cX9_clear 11 = .ok (.iconst 0, 1) := by decide +kernel
theorem dX9_clear_12 : decode cX9_clear 12 = .ok (.putfield 69, 3) := by decide +kernel
theorem dX9_clear_15 : decode cX9_clear 15 = .ok (.iload_n 1, 1) := by decide +kernel
theorem dX9_clear_16 : decode cX9_clear 16 = .ok (.ireturn, 1) := by decide +kernel
set_option maxRecDepth 20000 in
theorem ggX9_sevens_X9_sevenOf : GoodIn wsX9_sevens wsX9_sevenOf := goodIn_r _ [7, 8, 9, 10, 11, 12, 13, 14, 15, 16, 17, 18, 19, 20, 21, 22, 23, 24, 25, 26, 27, 28, 29, 30, 31, 32, 33, 34, 35, 36] rfl (by decide +kernel)
set_option maxRecDepth 20000 in
theorem gX9_sevens_X9_sevenOf : GoodIn wsX9_sevens (wsV RX9 76 RX9 yX9_sevenOf wsX9_sevenOf) := goodIn_app (goodIn_of _ (by decide +kernel)) ggX9_sevens_X9_sevenOf
theorem dX9_sevens_0 : decode cX9_sevens 0 = .ok (.iconst 0, 1) := by decide +kernel
theorem dX9_sevens_1 : decode cX9_sevens 1 = .ok (.istore_n 1, 1) := by decide +kernel
theorem dX9_sevens_2 : decode cX9_sevens 2 = .ok (.iconst 0, 1) := by decide +kernel
theorem dX9_sevens_3 : decode cX9_sevens 3 = .ok (.istore_n 2, 1) := by decide +kernel
theorem dX9_sevens_4 : decode cX9_sevens 4 = .ok (.iload_n 2, 1) := by decide +kernel
theorem dX9_sevens_5 : decode cX9_sevens 5 = .ok (.aload_n 0, 1) := by decide +kernel
theorem dX9_sevens_6 : decode cX9_sevens 6 = .ok (.getfield 69, 3) := by decide +kernel
theorem dX9_sevens_9 : decode cX9_sevens 9 = .ok (.if_icmp .ge 41, 3) := by decide +kernel
theorem dX9_sevens_12 : decode cX9_sevens 12 = .ok (.aload_n 0, 1) := by decide +kernel
theorem dX9_sevens_13 : decode cX9_sevens 13 = .ok (.aload_n 0, 1) := by decide +kernel
theorem dX9_sevens_14 : decode cX9_sevens 14 = .ok (.getfield 16, 3) := by decide +kernel
theorem dX9_sevens_17 : decode cX9_sevens 17 = .ok (.iload_n 2, 1) := by decide +kernel
theorem dX9_sevens_18 : decode cX9_sevens 18 = .ok (.iaload, 1) := by decide +kernel
theorem dX9_sevens_19 : decode cX9_sevens 19 = .ok (.invokevirtual 76, 3) := by decide +kernel
theorem dX9_sevens_22 : decode cX9_sevens 22 = .ok (.istore_n 3, 1) := by decide +kernel
theorem dX9_sevens_23 : decode cX9_sevens 23 = .ok (.iload_n 3, 1) := by decide +kernel
theorem dX9_sevens_24 : decode cX9_sevens 24 = .ok (.iconst (-1), 1) := by decide +kernel
theorem dX9_sevens_25 : decode cX9_sevens 25 = .ok (.if_icmp .ne 5, 3) := by decide +kernel
theorem dX9_sevens_28 : decode cX9_sevens 28 = .ok (.iconst (-1), 1) := by decide +kernel
theorem dX9_sevens_29 : decode cX9_sevens 29 = .ok (.ireturn, 1) := by decide +kernel
theorem dX9_sevens_30 : decode cX9_sevens 30 = .ok (.iload_n 1, 1) := by decide +kernel
theorem dX9_sevens_31 : decode cX9_sevens 31 = .ok (.iload_n 3, 1) := by decide +kernel
theorem dX9_sevens_32 : decode cX9_sevens 32 = .ok (.bipush 127, 2) := by decide +kernel
theorem dX9_sevens_34 : decode cX9_sevens 34 = .ok (.if_icmp .le 7, 3) := by decide +kernel
theorem dX9_sevens_37 : decode cX9_sevens 37 = .ok (.iconst 2, 1) := by decide +kernel
theorem dX9_sevens_38 : decode cX9_sevens 38 = .ok (.goto 4, 3) := by decide +kernel
theorem dX9_sevens_41 : decode cX9_sevens 41 = .ok (.iconst 1, 1) := by decide +kernel
theorem dX9_sevens_42 : decode cX9_sevens 42 = .ok (.iadd, 1) := by decide +kernel
theorem dX9_sevens_43 : decode cX9_sevens 43 = .ok (.istore_n 1, 1) := by decide +kernel
theorem dX9_sevens_44 : decode cX9_sevens 44 = .ok (.iinc 2 1, 3) := by decide +kernel
theorem dX9_sevens_47 : decode cX9_sevens 47 = .ok (.goto (-43), 3) := by decide +kernel
theorem dX9_sevens_50 : decode cX9_sevens 50 = .ok (.iload_n 1, 1) := by decide +kernel
theorem dX9_sevens_51 : decode cX9_sevens 51 = .ok (.ireturn, 1) := by decide +kernel
theorem dX9_isFirst_0 : decode cX9_isFirst 0 = .ok (.iload_n 0, 1) := by decide +kernel
theorem dX9_isFirst_1 : decode cX9_isFirst 1 = .ok (.ldc 80, 2) := by decide +kernel
theorem dX9_isFirst_3 : decode cX9_isFirst 3 = .ok (.if_icmp .lt 13, 3) := by decide +kernel
theorem dX9_isFirst_6 : decode cX9_isFirst 6 = .ok (.iload_n 0, 1) := by decide +kernel
theorem dX9_isFirst_7 : decode cX9_isFirst 7 = .ok (.ldc 81, 2) := by decide +kernel
theorem dX9_isFirst_9 : decode cX9_isFirst 9 = .ok (.if_icmp .gt 7, 3) := by decide +kernel
theorem dX9_isFirst_12 : decode cX9_isFirst 12 = .ok (.iconst 1, 1) := by decide +kernel
theorem dX9_isFirst_13 : decode cX9_isFirst 13 = .ok (.goto 4, 3) := by decide +kernel
theorem dX9_isFirst_16 : decode cX9_isFirst 16 = .ok (.iconst 0, 1) := by decide +kernel
theorem dX9_isFirst_17 : decode cX9_isFirst 17 = .ok (.ireturn, 1) := by decide +kernel
theorem dX9_isSecond_0 : decode cX9_isSecond 0 = .ok (.iload_n 0, 1) := by decide +kernel
theorem dX9_isSecond_1 : decode cX9_isSecond 1 = .ok (.ldc 82, 2) := by decide +kernel
theorem dX9_isSecond_3 : decode cX9_isSecond 3 = .ok (.if_icmp .lt 13, 3) := by decide +kernel
theorem dX9_isSecond_6 : decode cX9_isSecond 6 = .ok (.iload_n 0, 1) := by decide +kernel
theorem dX9_isSecond_7 : decode cX9_isSecond 7 = .ok (.ldc 83, 2) := by decide +kernel
theorem dX9_isSecond_9 : decode cX9_isSecond 9 = .ok (.if_icmp .gt 7, 3) := by decide +kernel
theorem dX9_isSecond_12 : decode cX9_isSecond 12 = .ok (.iconst 1, 1) := by decide +kernel
theorem dX9_isSecond_13 : decode cX9_isSecond 13 = .ok (.goto 4, 3) := by decide +kernel
theorem dX9_isSecond_16 : decode cX9_isSecond 16 = .ok (.iconst 0, 1) := by decide +kernel
theorem dX9_isSecond_17 : decode cX9_isSecond 17 = .ok (.ireturn, 1) := by decide +kernel
set_option maxRecDepth 20000 in
theorem ggX9_fitting_X9_isFirst : GoodIn wsX9_fitting wsX9_isFirst := goodIn_r _ [6, 7, 8] rfl (by decide +kernel)
set_option maxRecDepth 20000 in
theorem gX9_fitting_X9_isFirst : GoodIn wsX9_fitting (va_wsS RX9 84 yX9_isFirst wsX9_isFirst) := goodIn_app (goodIn_of _ (by decide +kernel)) ggX9_fitting_X9_isFirst
set_option maxRecDepth 20000 in
theorem ggX9_fitting_X9_isSecond : GoodIn wsX9_fitting wsX9_isSecond := goodIn_r _ [11, 12, 13] rfl (by decide +kernel)
set_option maxRecDepth 20000 in
theorem gX9_fitting_X9_isSecond : GoodIn wsX9_fitting (va_wsS RX9 87 yX9_isSecond wsX9_isSecond) := goodIn_app (goodIn_of _ (by decide +kernel)) ggX9_fitting_X9_isSecond
set_option maxRecDepth 20000 in
theorem ggX9_fitting_X9_sevenOf : GoodIn wsX9_fitting wsX9_sevenOf := goodIn_r _ [17, 18, 19, 20, 21, 22, 23, 24, 25, 26, 27, 28, 29, 30, 31, 32, 33, 34, 35, 36, 37, 38, 39, 40, 41, 42, 43, 44, 45, 46] rfl (by decide +kernel)
set_option maxRecDepth 20000 in
theorem gX9_fitting_X9_sevenOf : GoodIn wsX9_fitting (wsV RX9 76 RX9 yX9_sevenOf wsX9_sevenOf) := goodIn_app (goodIn_of _ (by decide +kernel)) ggX9_fitting_X9_sevenOf
theorem dX9_fitting_0 : decode cX9_fitting 0 = .ok (.iload_n 2, 1) := by decide +kernel
theorem dX9_fitting_1 : decode cX9_fitting 1 = .ok (.ifCond .eq 8, 3) := by decide +kernel
theorem dX9_fitting_4 : decode cX9_fitting 4 = .ok (.bipush 67, 2) := by decide +kernel
theorem dX9_fitting_6 : decode cX9_fitting 6 = .ok (.goto 6, 3) := by decide +kernel
theorem dX9_fitting_9 : decode cX9_fitting 9 = .ok (.sipush 153, 3) := by decide +kernel
theorem dX9_fitting_12 : decode cX9_fitting 12 = .ok (.istore_n 3, 1) := by decide +kernel
theorem dX9_fitting_13 : decode cX9_fitting 13 = .ok (.iload_n 1, 1) := by decide +kernel
theorem dX9_fitting_14 : decode cX9_fitting 14 = .ok (.istore 4, 2) := by decide +kernel
theorem dX9_fitting_16 : decode cX9_fitting 16 = .ok (.iload 4, 2) := by decide +kernel
theorem dX9_fitting_18 : decode cX9_fitting 18 = .ok (.aload_n 0, 1) := by decide +kernel
theorem dX9_fitting_19 : decode cX9_fitting 19 = .ok (.getfield 69, 3) := by decide +kernel
theorem dX9_fitting_22 : decode cX9_fitting 22 = .ok (.if_icmp .ge 127, 3) := by decide +kernel
theorem dX9_fitting_25 : decode cX9_fitting 25 = .ok (.iload_n 2, 1) := by decide +kernel
theorem dX9_fitting_26 : decode cX9_fitting 26 = .ok (.ifCond .eq 46, 3) := by decide +kernel
theorem dX9_fitting_29 : decode cX9_fitting 29 = .ok (.aload_n 0, 1) := by decide +kernel
theorem dX9_fitting_30 : decode cX9_fitting 30 = .ok (.getfield 16, 3) := by decide +kernel
theorem dX9_fitting_33 : decode cX9_fitting 33 = .ok (.iload 4, 2) := by decide +kernel
theorem dX9_fitting_35 : decode cX9_fitting 35 = .ok (.iaload, 1) := by decide +kernel
theorem dX9_fitting_36 : decode cX9_fitting 36 = .ok (.invokestatic 84, 3) := by decide +kernel
theorem dX9_fitting_39 : decode cX9_fitting 39 = .ok (.ifCond .eq 33, 3) := by decide +kernel
theorem dX9_fitting_42 : decode cX9_fitting 42 = .ok (.iload 4, 2) := by decide +kernel
theorem dX9_fitting_44 : decode cX9_fitting 44 = .ok (.iconst 1, 1) := by decide +kernel
theorem dX9_fitting_45 : decode cX9_fitting 45 = .ok (.iadd, 1) := by decide +kernel
theorem dX9_fitting_46 : decode cX9_fitting 46 = .ok (.aload_n 0, 1) := by decide +kernel
theorem dX9_fitting_47 : decode cX9_fitting 47 = .ok (.getfield 69, 3) := by decide +kernel
theorem dX9_fitting_50 : decode cX9_fitting 50 = .ok (.if_icmp .ge 22, 3) := by decide +kernel
theorem dX9_fitting_53 : decode cX9_fitting 53 = .ok (.aload_n 0, 1) := by decide +kernel
theorem dX9_fitting_54 : decode cX9_fitting 54 = .ok (.getfield 16, 3) := by decide +kernel
theorem dX9_fitting_57 : decode cX9_fitting 57 = .ok (.iload 4, 2) := by decide +kernel
theorem dX9_fitting_59 : decode cX9_fitting 59 = .ok (.iconst 1, 1) := by decide +kernel
theorem dX9_fitting_60 : decode cX9_fitting 60 = .ok (.iadd, 1) := by decide +kernel
theorem dX9_fitting_61 : decode cX9_fitting 61 = .ok (.iaload, 1) := by decide +kernel
theorem dX9_fitting_62 : decode cX9_fitting 62 = .ok (.invokestatic 87, 3) := by decide +kernel
theorem dX9_fitting_65 : decode cX9_fitting 65 = .ok (.ifCond .eq 7, 3) := by decide +kernel
theorem dX9_fitting_68 : decode cX9_fitting 68 = .ok (.iconst 1, 1) := by decide +kernel
theorem dX9_fitting_69 : decode cX9_fitting 69 = .ok (.goto 4, 3) := by decide +kernel
theorem dX9_fitting_72 : decode cX9_fitting 72 = .ok (.iconst 0, 1) := by decide +kernel
theorem dX9_fitting_73 : decode cX9_fitting 73 = .ok (.istore 5, 2) := by decide +kernel
theorem dX9_fitting_75 : decode cX9_fitting 75 = .ok (.iload_n 2, 1) := by decide +kernel
theorem dX9_fitting_76 : decode cX9_fitting 76 = .ok (.ifCond .eq 16, 3) := by decide +kernel
theorem dX9_fitting_79 : decode cX9_fitting 79 = .ok (.iload 5, 2) := by decide +kernel
theorem dX9_fitting_81 : decode cX9_fitting 81 = .ok (.ifCond .eq 7, 3) := by decide +kernel
theorem dX9_fitting_84 : decode cX9_fitting 84 = .ok (.iconst 2, 1) := by decide +kernel
theorem dX9_fitting_85 : decode cX9_fitting 85 = .ok (.goto 28, 3) := by decide +kernel
theorem dX9_fitting_88 : decode cX9_fitting 88 = .ok (.iconst 1, 1) := by decide +kernel
theorem dX9_fitting_89 : decode cX9_fitting 89 = .ok (.goto 24, 3) := by decide +kernel
theorem dX9_fitting_92 : decode cX9_fitting 92 = .ok (.aload_n 0, 1) := by decide +kernel
theorem dX9_fitting_93 : decode cX9_fitting 93 = .ok (.aload_n 0, 1) := by decide +kernel
theorem dX9_fitting_94 : decode cX9_fitting 94 = .ok (.getfield 16, 3) := by decide +kernel
theorem dX9_fitting_97 : decode cX9_fitting 97 = .ok (.iload 4, 2) := by decide +kernel
theorem dX9_fitting_99 : decode cX9_fitting 99 = .ok (.iaload, 1) := by decide +kernel
theorem dX9_fitting_100 : decode cX9_fitting 100 = .ok (.invokevirtual 76, 3) := by decide +kernel
theorem dX9_fitting_103 : decode cX9_fitting 103 = .ok (.bipush 127, 2) := by decide +kernel
theorem dX9_fitting_105 : decode cX9_fitting 105 = .ok (.if_icmp .le 7, 3) := by decide +kernel
theorem dX9_fitting_108 : decode cX9_fitting 108 = .ok (.iconst 2, 1) := by decide +kernel
theorem dX9_fitting_109 : decode cX9_fitting 109 = .ok (.goto 4, 3) := by decide +kernel
theorem dX9_fitting_112 : decode cX9_fitting 112 = .ok (.iconst 1, 1) := by decide +kernel
theorem dX9_fitting_113 : decode cX9_fitting 113 = .ok (.istore 6, 2) := by decide +kernel
theorem dX9_fitting_115 : decode cX9_fitting 115 = .ok (.iload 6, 2) := by decide +kernel
theorem dX9_fitting_117 : decode cX9_fitting 117 = .ok (.iload_n 3, 1) := by decide +kernel
theorem dX9_fitting_118 : decode cX9_fitting 118 = .ok (.if_icmp .le 8, 3) := by decide +kernel
theorem dX9_fitting_121 : decode cX9_fitting 121 = .ok (.iload 4, 2) := by decide +kernel
theorem dX9_fitting_123 : decode cX9_fitting 123 = .ok (.iload_n 1, 1) := by decide +kernel
theorem dX9_fitting_124 : decode cX9_fitting 124 = .ok (.isub, 1) := by decide +kernel
theorem dX9_fitting_125 : decode cX9_fitting 125 = .ok (.ireturn, 1) := by decide +kernel
theorem dX9_fitting_126 : decode cX9_fitting 126 = .ok (.iload_n 3, 1) := by decide +kernel
theorem dX9_fitting_127 : decode cX9_fitting 127 = .ok (.iload 6, 2) := by decide +kernel
theorem dX9_fitting_129 : decode cX9_fitting 129 = .ok (.isub, 1) := by decide +kernel
theorem dX9_fitting_130 : decode cX9_fitting 130 = .ok (.istore_n 3, 1) := by decide +kernel
theorem dX9_fitting_131 : decode cX9_fitting 131 = .ok (.iload 4, 2) := by decide +kernel
theorem dX9_fitting_133 : decode cX9_fitting 133 = .ok (.iload 5, 2) := by decide +kernel
theorem dX9_fitting_135 : decode cX9_fitting 135 = .ok (.ifCond .eq 7, 3) := by decide +kernel
theorem dX9_fitting_138 : decode cX9_fitting 138 = .ok (.iconst 2, 1) := by decide +kernel
theorem dX9_fitting_139 : decode cX9_fitting 139 = .ok (.goto 4, 3) := by decide +kernel
theorem dX9_fitting_142 : decode cX9_fitting 142 = .ok (.iconst 1, 1) := by decide +kernel
theorem dX9_fitting_143 : decode cX9_fitting 143 = .ok (.iadd, 1) := by decide +kernel
theorem dX9_fitting_144 : decode cX9_fitting 144 = .ok (.istore 4, 2) := by decide +kernel
theorem dX9_fitting_146 : decode cX9_fitting 146 = .ok (.goto (-130), 3) := by decide +kernel
theorem dX9_fitting_149 : decode cX9_fitting 149 = .ok (.iload 4, 2) := by decide +kernel
theorem dX9_fitting_151 : decode cX9_fitting 151 = .ok (.iload_n 1, 1) := by decide +kernel
theorem dX9_fitting_152 : decode cX9_fitting 152 = .ok (.isub, 1) := by decide +kernel
theorem dX9_fitting_153 : decode cX9_fitting 153 = .ok (.ireturn, 1) := by decide +kernel
set_option maxRecDepth 20000 in
theorem ggX9_partsOf_X9_fitting : GoodIn wsX9_partsOf wsX9_fitting := goodIn_r _ [6, 1, 7, 8, 9, 5, 10, 11, 12, 13, 14, 15, 16, 17, 18, 19, 20, 21, 22, 23, 24, 25, 26, 27, 28, 29, 30, 31, 32, 33, 34, 35, 36, 37, 38, 39, 40, 41, 42, 43, 44, 45, 46, 47, 48, 49, 50] rfl (by decide +kernel)
set_option maxRecDepth 20000 in
theorem gX9_partsOf_X9_fitting : GoodIn wsX9_partsOf (wsV RX9 90 RX9 yX9_fitting wsX9_fitting) := goodIn_app (goodIn_of _ (by decide +kernel)) ggX9_partsOf_X9_fitting
theorem dX9_partsOf_0 : decode cX9_partsOf 0 = .ok (.iload_n 1, 1) := by decide +kernel
theorem dX9_partsOf_1 : decode cX9_partsOf 1 = .ok (.iconst (-1), 1) := by decide +kernel
theorem dX9_partsOf_2 : decode cX9_partsOf 2 = .ok (.if_icmp .ne 7, 3) := by decide +kernel
theorem dX9_partsOf_5 : decode cX9_partsOf 5 = .ok (.iconst 1, 1) := by decide +kernel
theorem dX9_partsOf_6 : decode cX9_partsOf 6 = .ok (.goto 4, 3) := by decide +kernel
theorem dX9_partsOf_9 : decode cX9_partsOf 9 = .ok (.iconst 0, 1) := by decide +kernel
theorem dX9_partsOf_10 : decode cX9_partsOf 10 = .ok (.istore_n 2, 1) := by decide +kernel
theorem dX9_partsOf_11 : decode cX9_partsOf 11 = .ok (.iload_n 2, 1) := by decide +kernel
theorem dX9_partsOf_12 : decode cX9_partsOf 12 = .ok (.ifCond .eq 15, 3) := by decide +kernel
theorem dX9_partsOf_15 : decode cX9_partsOf 15 = .ok (.aload_n 0, 1) := by decide +kernel
theorem dX9_partsOf_16 : decode cX9_partsOf 16 = .ok (.getfield 69, 3) := by decide +kernel
theorem dX9_partsOf_19 : decode cX9_partsOf 19 = .ok (.bipush 70, 2) := by decide +kernel
theorem dX9_partsOf_21 : decode cX9_partsOf 21 = .ok (.if_icmp .gt 15, 3) := by decide +kernel
theorem dX9_partsOf_24 : decode cX9_partsOf 24 = .ok (.goto 10, 3) := by decide +kernel
theorem dX9_partsOf_27 : decode cX9_partsOf 27 = .ok (.iload_n 1, 1) := by decide +kernel
theorem dX9_partsOf_28 : decode cX9_partsOf 28 = .ok (.sipush 160, 3) := by decide +kernel
theorem dX9_partsOf_31 : decode cX9_partsOf 31 = .ok (.if_icmp .gt 5, 3) := by decide +kernel
theorem dX9_partsOf_34 : decode cX9_partsOf 34 = .ok (.iconst 1, 1) := by decide +kernel
theorem dX9_partsOf_35 : decode cX9_partsOf 35 = .ok (.ireturn, 1) := by decide +kernel
theorem dX9_partsOf_36 : decode cX9_partsOf 36 = .ok (.iconst 0, 1) := by decide +kernel
theorem dX9_partsOf_37 : decode cX9_partsOf 37 = .ok (.istore_n 3, 1) := by decide +kernel
theorem dX9_partsOf_38 : decode cX9_partsOf 38 = .ok (.iconst 0, 1) := by decide +kernel
theorem dX9_partsOf_39 : decode cX9_partsOf 39 = .ok (.istore 4, 2) := by decide +kernel
theorem dX9_partsOf_41 : decode cX9_partsOf 41 = .ok (.iload 4, 2) := by decide +kernel
theorem dX9_partsOf_43 : decode cX9_partsOf 43 = .ok (.aload_n 0, 1) := by decide +kernel
theorem dX9_partsOf_44 : decode cX9_partsOf 44 = .ok (.getfield 69, 3) := by decide +kernel
theorem dX9_partsOf_47 : decode cX9_partsOf 47 = .ok (.if_icmp .ge 28, 3) := by decide +kernel
theorem dX9_partsOf_50 : decode cX9_partsOf 50 = .ok (.iload_n 3, 1) := by decide +kernel
theorem dX9_partsOf_51 : decode cX9_partsOf 51 = .ok (.sipush 255, 3) := by decide +kernel
theorem dX9_partsOf_54 : decode cX9_partsOf 54 = .ok (.if_icmp .gt 21, 3) := by decide +kernel
theorem dX9_partsOf_57 : decode cX9_partsOf 57 = .ok (.iload 4, 2) := by decide +kernel
theorem dX9_partsOf_59 : decode cX9_partsOf 59 = .ok (.aload_n 0, 1) := by decide +kernel
theorem dX9_partsOf_60 : decode cX9_partsOf 60 = .ok (.iload 4, 2) := by decide +kernel
theorem dX9_partsOf_62 : decode cX9_partsOf 62 = .ok (.iload_n 2, 1) := by decide +kernel
theorem dX9_partsOf_63 : decode cX9_partsOf 63 = .ok (.invokevirtual 90, 3) := by decide +kernel
theorem dX9_partsOf_66 : decode cX9_partsOf 66 = .ok (.iadd, 1) := by decide +kernel
theorem dX9_partsOf_67 : decode cX9_partsOf 67 = .ok (.istore 4, 2) := by decide +kernel
theorem dX9_partsOf_69 : decode cX9_partsOf 69 = .ok (.iinc 3 1, 3) := by decide +kernel
theorem dX9_partsOf_72 : decode cX9_partsOf 72 = .ok (.goto (-31), 3) := by decide +kernel
theorem dX9_partsOf_75 : decode cX9_partsOf 75 = .ok (.iload_n 3, 1) := by decide +kernel
theorem dX9_partsOf_76 : decode cX9_partsOf 76 = .ok (.ireturn, 1) := by decide +kernel
set_option maxRecDepth 20000 in
theorem ggX9_about_X9_refuses : GoodIn wsX9_about wsX9_refuses := goodIn_r _ [11, 12, 42, 43, 44, 45, 46, 47, 48, 49, 50, 51, 52, 53, 54, 55, 56, 57, 58, 59, 60, 61, 62, 63, 64, 65, 66, 67, 68] rfl (by decide +kernel)
set_option maxRecDepth 20000 in
theorem gX9_about_X9_refuses : GoodIn wsX9_about (wsV RX9 72 RX9 yX9_refuses wsX9_refuses) := goodIn_app (goodIn_of _ (by decide +kernel)) ggX9_about_X9_refuses
set_option maxRecDepth 20000 in
theorem ggX9_about_X9_sevens : GoodIn wsX9_about wsX9_sevens := goodIn_r _ [16, 1, 17, 18, 19, 20, 10, 21, 22, 23, 42, 43, 44, 45, 46, 47, 48, 49, 50, 51, 52, 53, 54, 55, 56, 57, 58, 59, 60, 61, 62, 63, 64, 65, 66, 67, 68] rfl (by decide +kernel)
set_option maxRecDepth 20000 in
theorem gX9_about_X9_sevens : GoodIn wsX9_about (wsV RX9 94 RX9 yX9_sevens wsX9_sevens) := goodIn_app (goodIn_of _ (by decide +kernel)) ggX9_about_X9_sevens
set_option maxRecDepth 20000 in
theorem ggX9_about_X9_partsOf : GoodIn wsX9_about wsX9_partsOf := goodIn_r _ [27, 1, 28, 29, 30, 10, 31, 17, 32, 33, 34, 35, 36, 37, 38, 39, 40, 41, 18, 19, 20, 21, 22, 23, 42, 43, 44, 45, 46, 47, 48, 49, 50, 51, 52, 53, 54, 55, 56, 57, 58, 59, 60, 61, 62, 63, 64, 65, 66, 67, 68] rfl (by decide +kernel)
set_option maxRecDepth 20000 in
theorem gX9_about_X9_partsOf : GoodIn wsX9_about (wsV RX9 98 RX9 yX9_partsOf wsX9_partsOf) := goodIn_app (goodIn_of _ (by decide +kernel)) ggX9_about_X9_partsOf
theorem dX9_about_0 : decode cX9_about 0 = .ok (.aload_n 0, 1) := by decide +kernel
theorem dX9_about_1 : decode cX9_about 1 = .ok (.iload_n 1, 1) := by decide +kernel
theorem dX9_about_2 : decode cX9_about 2 = .ok (.ifCond .lt 9, 3) := by decide +kernel
theorem dX9_about_5 : decode cX9_about 5 = .ok (.iload_n 1, 1) := by decide +kernel
theorem dX9_about_6 : decode cX9_about 6 = .ok (.bipush 7, 2) := by decide +kernel
theorem dX9_about_8 : decode cX9_about 8 = .ok (.if_icmp .le 7, 3) := by decide +kernel
theorem dX9_about_11 : decode cX9_about 11 = .ok (.iconst 1, 1) := by decide +kernel
theorem dX9_about_12 : decode cX9_about 12 = .ok (.goto 4, 3) := by decide +kernel
theorem dX9_about_15 : decode cX9_about 15 = .ok (.iconst 0, 1) := by decide +kernel
theorem dX9_about_16 : decode cX9_about 16 = .ok (.invokevirtual 72, 3) := by decide +kernel
theorem dX9_about_19 : decode cX9_about 19 = .ok (.ifCond .eq 5, 3) := by decide +kernel
theorem dX9_about_22 : decode cX9_about 22 = .ok (.iconst 0, 1) := by decide +kernel
theorem dX9_about_23 : decode cX9_about 23 = .ok (.ireturn, 1) := by decide +kernel
theorem dX9_about_24 : decode cX9_about 24 = .ok (.iload_n 1, 1) := by decide +kernel
theorem dX9_about_25 : decode cX9_about 25 = .ok (.iconst 1, 1) := by decide +kernel
theorem dX9_about_26 : decode cX9_about 26 = .ok (.if_icmp .ne 14, 3) := by decide +kernel
theorem dX9_about_29 : decode cX9_about 29 = .ok (.aload_n 0, 1) := by decide +kernel
theorem dX9_about_30 : decode cX9_about 30 = .ok (.aload_n 0, 1) := by decide +kernel
theorem dX9_about_31 : decode cX9_about 31 = .ok (.invokevirtual 94, 3) := by decide +kernel
theorem dX9_about_34 : decode cX9_about 34 = .ok (.invokevirtual 98, 3) := by decide +kernel
theorem dX9_about_37 : decode cX9_about 37 = .ok (.goto 4, 3) := by decide +kernel
theorem dX9_about_40 : decode cX9_about 40 = .ok (.iconst 0, 1) := by decide +kernel
theorem dX9_about_41 : decode cX9_about 41 = .ok (.istore_n 2, 1) := by decide +kernel
theorem dX9_about_42 : decode cX9_about 42 = .ok (.iload_n 1, 1) := by decide +kernel
theorem dX9_about_43 : decode cX9_about 43 = .ok (.tableswitch 84 0 6 #[41, 46, 59, 64, 69, 74, 79], 41) := by decide +kernel
theorem dX9_about_84 : decode cX9_about 84 = .ok (.aload_n 0, 1) := by decide +kernel
theorem dX9_about_85 : decode cX9_about 85 = .ok (.invokevirtual 94, 3) := by decide +kernel
theorem dX9_about_88 : decode cX9_about 88 = .ok (.ireturn, 1) := by decide +kernel
theorem dX9_about_89 : decode cX9_about 89 = .ok (.iload_n 2, 1) := by decide +kernel
theorem dX9_about_90 : decode cX9_about 90 = .ok (.sipush 255, 3) := by decide +kernel
theorem dX9_about_93 : decode cX9_about 93 = .ok (.if_icmp .le 7, 3) := by decide +kernel
theorem dX9_about_96 : decode cX9_about 96 = .ok (.iconst 0, 1) := by decide +kernel
theorem dX9_about_97 : decode cX9_about 97 = .ok (.goto 4, 3) := by decide +kernel
theorem dX9_about_100 : decode cX9_about 100 = .ok (.iload_n 2, 1) := by decide +kernel
theorem dX9_about_101 : decode cX9_about 101 = .ok (.ireturn, 1) := by decide +kernel
theorem dX9_about_102 : decode cX9_about 102 = .ok (.aload_n 0, 1) := by decide +kernel
theorem dX9_about_103 : decode cX9_about 103 = .ok (.getfield 69, 3) := by decide +kernel
theorem dX9_about_106 : decode cX9_about 106 = .ok (.ireturn, 1) := by decide +kernel
theorem dX9_about_107 : decode cX9_about 107 = .ok (.aload_n 0, 1) := by decide +kernel
theorem dX9_about_108 : decode cX9_about 108 = .ok (.getfield 101, 3) := by decide +kernel
theorem dX9_about_111 : decode cX9_about 111 = .ok (.ireturn, 1) := by decide +kernel
theorem dX9_about_112 : decode cX9_about 112 = .ok (.aload_n 0, 1) := by decide +kernel
theorem dX9_about_113 : decode cX9_about 113 = .ok (.getfield 104, 3) := by decide +kernel
theorem dX9_about_116 : decode cX9_about 116 = .ok (.ireturn, 1) := by decide +kernel
theorem dX9_about_117 : decode cX9_about 117 = .ok (.aload_n 0, 1) := by decide +kernel
theorem dX9_about_118 : decode cX9_about 118 = .ok (.getfield 107, 3) := by decide +kernel
theorem dX9_about_121 : decode cX9_about 121 = .ok (.ireturn, 1) := by decide +kernel
theorem dX9_about_122 : decode cX9_about 122 = .ok (.aload_n 0, 1) := by decide +kernel
theorem dX9_about_123 : decode cX9_about 123 = .ok (.getfield 110, 3) := by decide +kernel
theorem dX9_about_126 : decode cX9_about 126 = .ok (.ireturn, 1) := by decide +kernel
theorem dX9_about_127 : decode cX9_about 127 = .ok (.aload_n 0, 1) := by decide +kernel
theorem dX9_about_128 : decode cX9_about 128 = .ok (.getfield 113, 3) := by decide +kernel
theorem dX9_about_131 : decode cX9_about 131 = .ok (.ireturn, 1) := by decide +kernel
theorem dX9_puts_0 : decode cX9_puts 0 = .ok (.iconst 0, 1) := by decide +kernel
theorem dX9_puts_1 : decode cX9_puts 1 = .ok (.istore 4, 2) := by decide +kernel
theorem dX9_puts_3 : decode cX9_puts 3 = .ok (.iload 4, 2) := by decide +kernel
theorem dX9_puts_5 : decode cX9_puts 5 = .ok (.bipush 7, 2) := by decide +kernel
theorem dX9_puts_7 : decode cX9_puts 7 = .ok (.if_icmp .ge 51, 3) := by decide +kernel
theorem dX9_puts_10 : decode cX9_puts 10 = .ok (.bipush 7, 2) := by decide +kernel
theorem dX9_puts_12 : decode cX9_puts 12 = .ok (.iload_n 2, 1) := by decide +kernel
theorem dX9_puts_13 : decode cX9_puts 13 = .ok (.imul, 1) := by decide +kernel
theorem dX9_puts_14 : decode cX9_puts 14 = .ok (.iload 4, 2) := by decide +kernel
theorem dX9_puts_16 : decode cX9_puts 16 = .ok (.iadd, 1) := by decide +kernel
theorem dX9_puts_17 : decode cX9_puts 17 = .ok (.istore 5, 2) := by decide +kernel
theorem dX9_puts_19 : decode cX9_puts 19 = .ok (.aload_n 0, 1) := by decide +kernel
theorem dX9_puts_20 : decode cX9_puts 20 = .ok (.getfield 23, 3) := by decide +kernel
theorem dX9_puts_23 : decode cX9_puts 23 = .ok (.sipush 142, 3) := by decide +kernel
theorem dX9_puts_26 : decode cX9_puts 26 = .ok (.iload_n 1, 1) := by decide +kernel
theorem dX9_puts_27 : decode cX9_puts 27 = .ok (.imul, 1) := by decide +kernel
theorem dX9_puts_28 : decode cX9_puts 28 = .ok (.iconst 2, 1) := by decide +kernel
theorem dX9_puts_29 : decode cX9_puts 29 = .ok (.iadd, 1) := by decide +kernel
theorem dX9_puts_30 : decode cX9_puts 30 = .ok (.iload 5, 2) := by decide +kernel
theorem dX9_puts_32 : decode cX9_puts 32 = .ok (.bipush 8, 2) := by decide +kernel
theorem dX9_puts_34 : decode cX9_puts 34 = .ok (.idiv, 1) := by decide +kernel
theorem dX9_puts_35 : decode cX9_puts 35 = .ok (.iadd, 1) := by decide +kernel
theorem dX9_puts_36 : decode cX9_puts 36 = .ok (.dup2, 1) := by decide +kernel
theorem dX9_puts_37 : decode cX9_puts 37 = .ok (.iaload, 1) := by decide +kernel
theorem dX9_puts_38 : decode cX9_puts 38 = .ok (.iload_n 3, 1) := by decide +kernel
theorem dX9_puts_39 : decode cX9_puts 39 = .ok (.iload 4, 2) := by decide +kernel
theorem dX9_puts_41 : decode cX9_puts 41 = .ok (.ishr, 1) := by decide +kernel
theorem dX9_puts_42 : decode cX9_puts 42 = .ok (.iconst 1, 1) := by decide +kernel
theorem dX9_puts_43 : decode cX9_puts 43 = .ok (.iand, 1) := by decide +kernel
theorem dX9_puts_44 : decode cX9_puts 44 = .ok (.iload 5, 2) := by decide +kernel
theorem dX9_puts_46 : decode cX9_puts 46 = .ok (.bipush 8, 2) := by decide +kernel
theorem dX9_puts_48 : decode cX9_puts 48 = .ok (.irem, 1) := by decide +kernel
theorem dX9_puts_49 : decode cX9_puts 49 = .ok (.ishl, 1) := by decide +kernel
theorem dX9_puts_50 : decode cX9_puts 50 = .ok (.ior, 1) := by decide +kernel
theorem dX9_puts_51 : decode cX9_puts 51 = .ok (.iastore, 1) := by decide +kernel
theorem dX9_puts_52 : decode cX9_puts 52 = .ok (.iinc 4 1, 3) := by decide +kernel
theorem dX9_puts_55 : decode cX9_puts 55 = .ok (.goto (-52), 3) := by decide +kernel
theorem dX9_puts_58 : decode cX9_puts 58 = .ok (.return_, 1) := by decide +kernel
set_option maxRecDepth 20000 in
theorem ggX9_part_X9_sevenOf : GoodIn wsX9_part wsX9_sevenOf := goodIn_r _ [9, 10, 11, 16, 17, 18, 19, 20, 21, 22, 23, 24, 25, 26, 27, 28, 29, 30, 31, 32, 33, 34, 35, 36, 37, 38, 39, 40, 41, 42] rfl (by decide +kernel)
set_option maxRecDepth 20000 in
theorem gX9_part_X9_sevenOf : GoodIn wsX9_part (wsV RX9 76 RX9 yX9_sevenOf wsX9_sevenOf) := goodIn_app (goodIn_of _ (by decide +kernel)) ggX9_part_X9_sevenOf
set_option maxRecDepth 20000 in
theorem ggX9_part_X9_puts : GoodIn wsX9_part wsX9_puts := goodIn_r _ [15, 1, 16, 17, 18, 19, 20, 21, 22, 23, 24, 25, 26, 27, 28, 29, 30, 31, 32, 33, 34, 35, 36, 37, 38, 39, 40, 41, 42] rfl (by decide +kernel)
set_option maxRecDepth 20000 in
theorem gX9_part_X9_puts : GoodIn wsX9_part (wsV RX9 116 RX9 yX9_puts wsX9_puts) := goodIn_app (goodIn_of _ (by decide +kernel)) ggX9_part_X9_puts
theorem dX9_part_0 : decode cX9_part 0 = .ok (.sipush 142, 3) := by decide +kernel
theorem dX9_part_3 : decode cX9_part 3 = .ok (.iload_n 1, 1) := by decide +kernel
theorem dX9_part_4 : decode cX9_part 4 = .ok (.imul, 1) := by decide +kernel
theorem dX9_part_5 : decode cX9_part 5 = .ok (.istore 6, 2) := by decide +kernel
theorem dX9_part_7 : decode cX9_part 7 = .ok (.iconst 0, 1) := by decide +kernel
theorem dX9_part_8 : decode cX9_part 8 = .ok (.istore 7, 2) := by decide +kernel
theorem dX9_part_10 : decode cX9_part 10 = .ok (.iload 7, 2) := by decide +kernel
theorem dX9_part_12 : decode cX9_part 12 = .ok (.sipush 142, 3) := by decide +kernel
theorem dX9_part_15 : decode cX9_part 15 = .ok (.if_icmp .ge 20, 3) := by decide +kernel
theorem dX9_part_18 : decode cX9_part 18 = .ok (.aload_n 0, 1) := by decide +kernel
theorem dX9_part_19 : decode cX9_part 19 = .ok (.getfield 23, 3) := by decide +kernel
theorem dX9_part_22 : decode cX9_part 22 = .ok (.iload 6, 2) := by decide +kernel
theorem dX9_part_24 : decode cX9_part 24 = .ok (.iload 7, 2) := by decide +kernel
theorem dX9_part_26 : decode cX9_part 26 = .ok (.iadd, 1) := by decide +kernel
theorem dX9_part_27 : decode cX9_part 27 = .ok (.iconst 0, 1) := by decide +kernel
theorem dX9_part_28 : decode cX9_part 28 = .ok (.iastore, 1) := by decide +kernel
theorem dX9_part_29 : decode cX9_part 29 = .ok (.iinc 7 1, 3) := by decide +kernel
theorem dX9_part_32 : decode cX9_part 32 = .ok (.goto (-22), 3) := by decide +kernel
theorem dX9_part_35 : decode cX9_part 35 = .ok (.aload_n 0, 1) := by decide +kernel
theorem dX9_part_36 : decode cX9_part 36 = .ok (.getfield 23, 3) := by decide +kernel
theorem dX9_part_39 : decode cX9_part 39 = .ok (.iload 6, 2) := by decide +kernel
theorem dX9_part_41 : decode cX9_part 41 = .ok (.iload 5, 2) := by decide +kernel
theorem dX9_part_43 : decode cX9_part 43 = .ok (.ifCond .le 7, 3) := by decide +kernel
theorem dX9_part_46 : decode cX9_part 46 = .ok (.iconst 1, 1) := by decide +kernel
theorem dX9_part_47 : decode cX9_part 47 = .ok (.goto 4, 3) := by decide +kernel
theorem dX9_part_50 : decode cX9_part 50 = .ok (.iconst 0, 1) := by decide +kernel
theorem dX9_part_51 : decode cX9_part 51 = .ok (.iload 4, 2) := by decide +kernel
theorem dX9_part_53 : decode cX9_part 53 = .ok (.ifCond .eq 7, 3) := by decide +kernel
theorem dX9_part_56 : decode cX9_part 56 = .ok (.iconst 4, 1) := by decide +kernel
theorem dX9_part_57 : decode cX9_part 57 = .ok (.goto 4, 3) := by decide +kernel
theorem dX9_part_60 : decode cX9_part 60 = .ok (.iconst 0, 1) := by decide +kernel
theorem dX9_part_61 : decode cX9_part 61 = .ok (.iadd, 1) := by decide +kernel
theorem dX9_part_62 : decode cX9_part 62 = .ok (.iastore, 1) := by decide +kernel
theorem dX9_part_63 : decode cX9_part 63 = .ok (.iload 5, 2) := by decide +kernel
theorem dX9_part_65 : decode cX9_part 65 = .ok (.ifCond .le 61, 3) := by decide +kernel
theorem dX9_part_68 : decode cX9_part 68 = .ok (.aload_n 0, 1) := by decide +kernel
theorem dX9_part_69 : decode cX9_part 69 = .ok (.getfield 23, 3) := by decide +kernel
theorem dX9_part_72 : decode cX9_part 72 = .ok (.iload 6, 2) := by decide +kernel
theorem dX9_part_74 : decode cX9_part 74 = .ok (.iconst 2, 1) := by decide +kernel
theorem dX9_part_75 : decode cX9_part 75 = .ok (.iadd, 1) := by decide +kernel
theorem dX9_part_76 : decode cX9_part 76 = .ok (.iconst 5, 1) := by decide +kernel
theorem dX9_part_77 : decode cX9_part 77 = .ok (.iastore, 1) := by decide +kernel
theorem dX9_part_78 : decode cX9_part 78 = .ok (.aload_n 0, 1) := by decide +kernel
theorem dX9_part_79 : decode cX9_part 79 = .ok (.getfield 23, 3) := by decide +kernel
theorem dX9_part_82 : decode cX9_part 82 = .ok (.iload 6, 2) := by decide +kernel
theorem dX9_part_84 : decode cX9_part 84 = .ok (.iconst 4, 1) := by decide +kernel
theorem dX9_part_85 : decode cX9_part 85 = .ok (.iadd, 1) := by decide +kernel
theorem dX9_part_86 : decode cX9_part 86 = .ok (.iconst 3, 1) := by decide +kernel
theorem dX9_part_87 : decode cX9_part 87 = .ok (.iastore, 1) := by decide +kernel
theorem dX9_part_88 : decode cX9_part 88 = .ok (.aload_n 0, 1) := by decide +kernel
theorem dX9_part_89 : decode cX9_part 89 = .ok (.getfield 23, 3) := by decide +kernel
theorem dX9_part_92 : decode cX9_part 92 = .ok (.iload 6, 2) := by decide +kernel
theorem dX9_part_94 : decode cX9_part 94 = .ok (.iconst 5, 1) := by decide +kernel
theorem dX9_part_95 : decode cX9_part 95 = .ok (.iadd, 1) := by decide +kernel
theorem dX9_part_96 : decode cX9_part 96 = .ok (.aload_n 0, 1) := by decide +kernel
theorem dX9_part_97 : decode cX9_part 97 = .ok (.getfield 101, 3) := by decide +kernel
theorem dX9_part_100 : decode cX9_part 100 = .ok (.iastore, 1) := by decide +kernel
theorem dX9_part_101 : decode cX9_part 101 = .ok (.aload_n 0, 1) := by decide +kernel
theorem dX9_part_102 : decode cX9_part 102 = .ok (.getfield 23, 3) := by decide +kernel
theorem dX9_part_105 : decode cX9_part 105 = .ok (.iload 6, 2) := by decide +kernel
theorem dX9_part_107 : decode cX9_part 107 = .ok (.bipush 6, 2) := by decide +kernel
theorem dX9_part_109 : decode cX9_part 109 = .ok (.iadd, 1) := by decide +kernel
theorem dX9_part_110 : decode cX9_part 110 = .ok (.iload 5, 2) := by decide +kernel
theorem dX9_part_112 : decode cX9_part 112 = .ok (.iastore, 1) := by decide +kernel
theorem dX9_part_113 : decode cX9_part 113 = .ok (.aload_n 0, 1) := by decide +kernel
theorem dX9_part_114 : decode cX9_part 114 = .ok (.getfield 23, 3) := by decide +kernel
theorem dX9_part_117 : decode cX9_part 117 = .ok (.iload 6, 2) := by decide +kernel
theorem dX9_part_119 : decode cX9_part 119 = .ok (.bipush 7, 2) := by decide +kernel
theorem dX9_part_121 : decode cX9_part 121 = .ok (.iadd, 1) := by decide +kernel
