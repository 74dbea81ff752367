theorem dX6_close_206 : decode cX6_close 206 = .ok (.invokevirtual 132, 3) := by decide +kernel
theorem dX6_close_209 : decode cX6_close 209 = .ok (.iastore, 1) := by decide +kernel
theorem dX6_close_210 : decode cX6_close 210 = .ok (.aload_n 0, 1) := by decide +kernel
theorem dX6_close_211 : decode cX6_close 211 = .ok (.getfield 7, 3) := by decide +kernel
theorem dX6_close_214 : decode cX6_close 214 = .ok (.iload_n 1, 1) := by decide +kernel
theorem dX6_close_215 : decode cX6_close 215 = .ok (.bipush 39, 2) := by decide +kernel
theorem dX6_close_217 : decode cX6_close 217 = .ok (.iconst 2, 1) := by decide +kernel
theorem dX6_close_218 : decode cX6_close 218 = .ok (.iload_n 2, 1) := by decide +kernel
theorem dX6_close_219 : decode cX6_close 219 = .ok (.imul, 1) := by decide +kernel
theorem dX6_close_220 : decode cX6_close 220 = .ok (.iadd, 1) := by decide +kernel
theorem dX6_close_221 : decode cX6_close 221 = .ok (.iconst 1, 1) := by decide +kernel
theorem dX6_close_222 : decode cX6_close 222 = .ok (.iadd, 1) := by decide +kernel
theorem dX6_close_223 : decode cX6_close 223 = .ok (.invokestatic 75, 3) := by decide +kernel
theorem dX6_close_226 : decode cX6_close 226 = .ok (.aload_n 0, 1) := by decide +kernel
theorem dX6_close_227 : decode cX6_close 227 = .ok (.iload_n 2, 1) := by decide +kernel
theorem dX6_close_228 : decode cX6_close 228 = .ok (.iconst 1, 1) := by decide +kernel
theorem dX6_close_229 : decode cX6_close 229 = .ok (.iload_n 3, 1) := by decide +kernel
theorem dX6_close_230 : decode cX6_close 230 = .ok (.iload 4, 2) := by decide +kernel
theorem dX6_close_232 : decode cX6_close 232 = .ok (.invokevirtual 132, 3) := by decide +kernel
theorem dX6_close_235 : decode cX6_close 235 = .ok (.iastore, 1) := by decide +kernel
theorem dX6_close_236 : decode cX6_close 236 = .ok (.aload_n 0, 1) := by decide +kernel
theorem dX6_close_237 : decode cX6_close 237 = .ok (.getfield 7, 3) := by decide +kernel
theorem dX6_close_240 : decode cX6_close 240 = .ok (.iload_n 1, 1) := by decide +kernel
theorem dX6_close_241 : decode cX6_close 241 = .ok (.bipush 55, 2) := by decide +kernel
theorem dX6_close_243 : decode cX6_close 243 = .ok (.iconst 2, 1) := by decide +kernel
theorem dX6_close_244 : decode cX6_close 244 = .ok (.iload_n 2, 1) := by decide +kernel
theorem dX6_close_245 : decode cX6_close 245 = .ok (.imul, 1) := by decide +kernel
theorem dX6_close_246 : decode cX6_close 246 = .ok (.iadd, 1) := by decide +kernel
theorem dX6_close_247 : decode cX6_close 247 = .ok (.invokestatic 75, 3) := by decide +kernel
theorem dX6_close_250 : decode cX6_close 250 = .ok (.iconst 0, 1) := by decide +kernel
theorem dX6_close_251 : decode cX6_close 251 = .ok (.iastore, 1) := by decide +kernel
theorem dX6_close_252 : decode cX6_close 252 = .ok (.aload_n 0, 1) := by decide +kernel
theorem dX6_close_253 : decode cX6_close 253 = .ok (.getfield 7, 3) := by decide +kernel
theorem dX6_close_256 : decode cX6_close 256 = .ok (.iload_n 1, 1) := by decide +kernel
theorem dX6_close_257 : decode cX6_close 257 = .ok (.bipush 55, 2) := by decide +kernel
theorem dX6_close_259 : decode cX6_close 259 = .ok (.iconst 2, 1) := by decide +kernel
theorem dX6_close_260 : decode cX6_close 260 = .ok (.iload_n 2, 1) := by decide +kernel
theorem dX6_close_261 : decode cX6_close 261 = .ok (.imul, 1) := by decide +kernel
theorem dX6_close_262 : decode cX6_close 262 = .ok (.iadd, 1) := by decide +kernel
theorem dX6_close_263 : decode cX6_close 263 = .ok (.iconst 1, 1) := by decide +kernel
theorem dX6_close_264 : decode cX6_close 264 = .ok (.iadd, 1) := by decide +kernel
theorem dX6_close_265 : decode cX6_close 265 = .ok (.invokestatic 75, 3) := by decide +kernel
theorem dX6_close_268 : decode cX6_close 268 = .ok (.iconst 0, 1) := by decide +kernel
theorem dX6_close_269 : decode cX6_close 269 = .ok (.iastore, 1) := by decide +kernel
theorem dX6_close_270 : decode cX6_close 270 = .ok (.aload_n 0, 1) := by decide +kernel
theorem dX6_close_271 : decode cX6_close 271 = .ok (.getfield 7, 3) := by decide +kernel
theorem dX6_close_274 : decode cX6_close 274 = .ok (.bipush 7, 2) := by decide +kernel
theorem dX6_close_276 : decode cX6_close 276 = .ok (.iconst 3, 1) := by decide +kernel
theorem dX6_close_277 : decode cX6_close 277 = .ok (.iload_n 2, 1) := by decide +kernel
theorem dX6_close_278 : decode cX6_close 278 = .ok (.imul, 1) := by decide +kernel
theorem dX6_close_279 : decode cX6_close 279 = .ok (.iadd, 1) := by decide +kernel
theorem dX6_close_280 : decode cX6_close 280 = .ok (.iconst 1, 1) := by decide +kernel
theorem dX6_close_281 : decode cX6_close 281 = .ok (.iadd, 1) := by decide +kernel
theorem dX6_close_282 : decode cX6_close 282 = .ok (.iconst 0, 1) := by decide +kernel
theorem dX6_close_283 : decode cX6_close 283 = .ok (.iastore, 1) := by decide +kernel
theorem dX6_close_284 : decode cX6_close 284 = .ok (.aload_n 0, 1) := by decide +kernel
theorem dX6_close_285 : decode cX6_close 285 = .ok (.getfield 7, 3) := by decide +kernel
theorem dX6_close_288 : decode cX6_close 288 = .ok (.bipush 7, 2) := by decide +kernel
theorem dX6_close_290 : decode cX6_close 290 = .ok (.iconst 3, 1) := by decide +kernel
theorem dX6_close_291 : decode cX6_close 291 = .ok (.iload_n 2, 1) := by decide +kernel
theorem dX6_close_292 : decode cX6_close 292 = .ok (.imul, 1) := by decide +kernel
theorem dX6_close_293 : decode cX6_close 293 = .ok (.iadd, 1) := by decide +kernel
theorem dX6_close_294 : decode cX6_close 294 = .ok (.iconst 2, 1) := by decide +kernel
theorem dX6_close_295 : decode cX6_close 295 = .ok (.iadd, 1) := by decide +kernel
theorem dX6_close_296 : decode cX6_close 296 = .ok (.bipush (-5), 2) := by decide +kernel
theorem dX6_close_298 : decode cX6_close 298 = .ok (.iastore, 1) := by decide +kernel
theorem dX6_close_299 : decode cX6_close 299 = .ok (.iinc 2 1, 3) := by decide +kernel
theorem dX6_close_302 : decode cX6_close 302 = .ok (.goto (-176), 3) := by decide +kernel
theorem dX6_close_305 : decode cX6_close 305 = .ok (.iconst 0, 1) := by decide +kernel
theorem dX6_close_306 : decode cX6_close 306 = .ok (.istore_n 2, 1) := by decide +kernel
theorem dX6_close_307 : decode cX6_close 307 = .ok (.iload_n 2, 1) := by decide +kernel
theorem dX6_close_308 : decode cX6_close 308 = .ok (.aload_n 0, 1) := by decide +kernel
theorem dX6_close_309 : decode cX6_close 309 = .ok (.getfield 7, 3) := by decide +kernel
theorem dX6_close_312 : decode cX6_close 312 = .ok (.iconst 1, 1) := by decide +kernel
theorem dX6_close_313 : decode cX6_close 313 = .ok (.iaload, 1) := by decide +kernel
theorem dX6_close_314 : decode cX6_close 314 = .ok (.if_icmp .ge 21, 3) := by decide +kernel
theorem dX6_close_317 : decode cX6_close 317 = .ok (.aload_n 0, 1) := by decide +kernel
theorem dX6_close_318 : decode cX6_close 318 = .ok (.iload_n 2, 1) := by decide +kernel
theorem dX6_close_319 : decode cX6_close 319 = .ok (.iconst 2, 1) := by decide +kernel
theorem dX6_close_320 : decode cX6_close 320 = .ok (.aload_n 0, 1) := by decide +kernel
theorem dX6_close_321 : decode cX6_close 321 = .ok (.iload_n 2, 1) := by decide +kernel
theorem dX6_close_322 : decode cX6_close 322 = .ok (.iconst 3, 1) := by decide +kernel
theorem dX6_close_323 : decode cX6_close 323 = .ok (.invokevirtual 68, 3) := by decide +kernel
theorem dX6_close_326 : decode cX6_close 326 = .ok (.invokevirtual 118, 3) := by decide +kernel
theorem dX6_close_329 : decode cX6_close 329 = .ok (.iinc 2 1, 3) := by decide +kernel
theorem dX6_close_332 : decode cX6_close 332 = .ok (.goto (-25), 3) := by decide +kernel
theorem dX6_close_335 : decode cX6_close 335 = .ok (.aload_n 0, 1) := by decide +kernel
theorem dX6_close_336 : decode cX6_close 336 = .ok (.getfield 7, 3) := by decide +kernel
theorem dX6_close_339 : decode cX6_close 339 = .ok (.iconst 3, 1) := by decide +kernel
theorem dX6_close_340 : decode cX6_close 340 = .ok (.iconst 0, 1) := by decide +kernel
theorem dX6_close_341 : decode cX6_close 341 = .ok (.iastore, 1) := by decide +kernel
theorem dX6_close_342 : decode cX6_close 342 = .ok (.aload_n 0, 1) := by decide +kernel
theorem dX6_close_343 : decode cX6_close 343 = .ok (.getfield 7, 3) := by decide +kernel
theorem dX6_close_346 : decode cX6_close 346 = .ok (.iconst 2, 1) := by decide +kernel
theorem dX6_close_347 : decode cX6_close 347 = .ok (.dup2, 1) := by decide +kernel
theorem dX6_close_348 : decode cX6_close 348 = .ok (.iaload, 1) := by decide +kernel
theorem dX6_close_349 : decode cX6_close 349 = .ok (.iconst 1, 1) := by decide +kernel
theorem dX6_close_350 : decode cX6_close 350 = .ok (.iadd, 1) := by decide +kernel
theorem dX6_close_351 : decode cX6_close 351 = .ok (.iastore, 1) := by decide +kernel
theorem dX6_close_352 : decode cX6_close 352 = .ok (.iload_n 1, 1) := by decide +kernel
theorem dX6_close_353 : decode cX6_close 353 = .ok (.ireturn, 1) := by decide +kernel
set_option maxRecDepth 20000 in
theorem ggX6_correct_X6_isClosed : GoodIn wsX6_correct wsX6_isClosed := goodIn_r _ [7, 1, 8, 9, 6, 10, 72, 73, 74, 75, 76, 77, 78, 79, 80, 81, 82, 83, 84, 85, 86, 87] (by decide +kernel) (by decide +kernel)
set_option maxRecDepth 20000 in
theorem gX6_correct_X6_isClosed : GoodIn wsX6_correct (wsV RX6 136 RX6 yX6_isClosed wsX6_isClosed) := goodIn_app (goodIn_of _ (by decide +kernel)) ggX6_correct_X6_isClosed
set_option maxRecDepth 20000 in
theorem ggX6_correct_X6_old : GoodIn wsX6_correct wsX6_old := goodIn_r _ [13] (by decide +kernel) (by decide +kernel)
set_option maxRecDepth 20000 in
theorem gX6_correct_X6_old : GoodIn wsX6_correct (va_wsS RX6 75 yX6_old wsX6_old) := goodIn_app (goodIn_of _ (by decide +kernel)) ggX6_correct_X6_old
set_option maxRecDepth 20000 in
theorem ggX6_correct_X6_in : GoodIn wsX6_correct wsX6_in := goodIn_r _ [10] (by decide +kernel) (by decide +kernel)
set_option maxRecDepth 20000 in
theorem gX6_correct_X6_in : GoodIn wsX6_correct (va_wsS RX6 60 yX6_in wsX6_in) := goodIn_app (goodIn_of _ (by decide +kernel)) ggX6_correct_X6_in
set_option maxRecDepth 20000 in
theorem ggX6_correct_X6_records : GoodIn wsX6_correct wsX6_records := goodIn_r _ [17, 18, 19, 1, 20, 21, 6, 22, 72, 73, 74, 75, 76, 77, 78, 79, 80, 81, 82, 83, 84, 85, 86, 87] (by decide +kernel) (by decide +kernel)
set_option maxRecDepth 20000 in
theorem gX6_correct_X6_records : GoodIn wsX6_correct (wsV RX6 57 RX6 yX6_records wsX6_records) := goodIn_app (goodIn_of _ (by decide +kernel)) ggX6_correct_X6_records
set_option maxRecDepth 20000 in
theorem ggX6_correct_X6_laysOld : GoodIn wsX6_correct wsX6_laysOld := goodIn_r _ [26, 27, 1, 11, 12, 6, 13, 28, 29, 30, 31, 32, 33, 34, 35, 36, 37, 38, 39, 40, 41, 42, 43, 44, 45, 46, 47, 48, 49, 50, 51, 52, 53, 54, 55, 56, 57, 72, 73, 74, 75, 76, 77, 78, 79, 80, 81, 82, 83, 84, 85, 86, 87] (by decide +kernel) (by decide +kernel)
set_option maxRecDepth 20000 in
theorem gX6_correct_X6_laysOld : GoodIn wsX6_correct (wsV RX6 140 RX6 yX6_laysOld wsX6_laysOld) := goodIn_app (goodIn_of _ (by decide +kernel)) ggX6_correct_X6_laysOld
set_option maxRecDepth 20000 in
theorem ggX6_correct_X6_tenantOf : GoodIn wsX6_correct wsX6_tenantOf := goodIn_r _ [61, 36, 39, 62, 63, 64, 6, 65, 66, 67, 68, 69, 70, 71, 72, 73, 74, 75, 76, 77, 78, 79, 80, 81, 82, 83, 84, 85, 86, 87] (by decide +kernel) (by decide +kernel)
set_option maxRecDepth 20000 in
theorem gX6_correct_X6_tenantOf : GoodIn wsX6_correct (wsV RX6 132 RX6 yX6_tenantOf wsX6_tenantOf) := goodIn_app (goodIn_of _ (by decide +kernel)) ggX6_correct_X6_tenantOf
theorem dX6_correct_0 : decode cX6_correct 0 = .ok (.aload_n 0, 1) := by decide +kernel
theorem dX6_correct_1 : decode cX6_correct 1 = .ok (.iload_n 1, 1) := by decide +kernel
theorem dX6_correct_2 : decode cX6_correct 2 = .ok (.invokevirtual 136, 3) := by decide +kernel
theorem dX6_correct_5 : decode cX6_correct 5 = .ok (.ifCond .eq 23, 3) := by decide +kernel
theorem dX6_correct_8 : decode cX6_correct 8 = .ok (.iload_n 2, 1) := by decide +kernel
theorem dX6_correct_9 : decode cX6_correct 9 = .ok (.iconst 0, 1) := by decide +kernel
theorem dX6_correct_10 : decode cX6_correct 10 = .ok (.aload_n 0, 1) := by decide +kernel
theorem dX6_correct_11 : decode cX6_correct 11 = .ok (.getfield 7, 3) := by decide +kernel
theorem dX6_correct_14 : decode cX6_correct 14 = .ok (.iload_n 1, 1) := by decide +kernel
theorem dX6_correct_15 : decode cX6_correct 15 = .ok (.iconst 2, 1) := by decide +kernel
theorem dX6_correct_16 : decode cX6_correct 16 = .ok (.invokestatic 75, 3) := by decide +kernel
theorem dX6_correct_19 : decode cX6_correct 19 = .ok (.iaload, 1) := by decide +kernel
theorem dX6_correct_20 : decode cX6_correct 20 = .ok (.iconst 1, 1) := by decide +kernel
theorem dX6_correct_21 : decode cX6_correct 21 = .ok (.isub, 1) := by decide +kernel
theorem dX6_correct_22 : decode cX6_correct 22 = .ok (.invokestatic 60, 3) := by decide +kernel
theorem dX6_correct_25 : decode cX6_correct 25 = .ok (.ifCond .ne 5, 3) := by decide +kernel
theorem dX6_correct_28 : decode cX6_correct 28 = .ok (.iconst (-1), 1) := by decide +kernel
theorem dX6_correct_29 : decode cX6_correct 29 = .ok (.ireturn, 1) := by decide +kernel
theorem dX6_correct_30 : decode cX6_correct 30 = .ok (.iload_n 3, 1) := by decide +kernel
theorem dX6_correct_31 : decode cX6_correct 31 = .ok (.iconst 0, 1) := by decide +kernel
theorem dX6_correct_32 : decode cX6_correct 32 = .ok (.ldc 139, 2) := by decide +kernel
theorem dX6_correct_34 : decode cX6_correct 34 = .ok (.invokestatic 60, 3) := by decide +kernel
theorem dX6_correct_37 : decode cX6_correct 37 = .ok (.ifCond .ne 6, 3) := by decide +kernel
theorem dX6_correct_40 : decode cX6_correct 40 = .ok (.bipush (-2), 2) := by decide +kernel
theorem dX6_correct_42 : decode cX6_correct 42 = .ok (.ireturn, 1) := by decide +kernel
theorem dX6_correct_43 : decode cX6_correct 43 = .ok (.aload_n 0, 1) := by decide +kernel
theorem dX6_correct_44 : decode cX6_correct 44 = .ok (.getfield 7, 3) := by decide +kernel
theorem dX6_correct_47 : decode cX6_correct 47 = .ok (.iload_n 1, 1) := by decide +kernel
theorem dX6_correct_48 : decode cX6_correct 48 = .ok (.iconst 3, 1) := by decide +kernel
theorem dX6_correct_49 : decode cX6_correct 49 = .ok (.iload_n 2, 1) := by decide +kernel
theorem dX6_correct_50 : decode cX6_correct 50 = .ok (.iadd, 1) := by decide +kernel
theorem dX6_correct_51 : decode cX6_correct 51 = .ok (.invokestatic 75, 3) := by decide +kernel
theorem dX6_correct_54 : decode cX6_correct 54 = .ok (.iaload, 1) := by decide +kernel
theorem dX6_correct_55 : decode cX6_correct 55 = .ok (.iload_n 3, 1) := by decide +kernel
theorem dX6_correct_56 : decode cX6_correct 56 = .ok (.if_icmp .ne 6, 3) := by decide +kernel
theorem dX6_correct_59 : decode cX6_correct 59 = .ok (.bipush (-5), 2) := by decide +kernel
theorem dX6_correct_61 : decode cX6_correct 61 = .ok (.ireturn, 1) := by decide +kernel
theorem dX6_correct_62 : decode cX6_correct 62 = .ok (.aload_n 0, 1) := by decide +kernel
theorem dX6_correct_63 : decode cX6_correct 63 = .ok (.invokevirtual 57, 3) := by decide +kernel
theorem dX6_correct_66 : decode cX6_correct 66 = .ok (.aload_n 0, 1) := by decide +kernel
theorem dX6_correct_67 : decode cX6_correct 67 = .ok (.getfield 7, 3) := by decide +kernel
theorem dX6_correct_70 : decode cX6_correct 70 = .ok (.iload_n 1, 1) := by decide +kernel
theorem dX6_correct_71 : decode cX6_correct 71 = .ok (.iconst 3, 1) := by decide +kernel
theorem dX6_correct_72 : decode cX6_correct 72 = .ok (.iload_n 2, 1) := by decide +kernel
theorem dX6_correct_73 : decode cX6_correct 73 = .ok (.iadd, 1) := by decide +kernel
theorem dX6_correct_74 : decode cX6_correct 74 = .ok (.invokestatic 75, 3) := by decide +kernel
theorem dX6_correct_77 : decode cX6_correct 77 = .ok (.iload_n 3, 1) := by decide +kernel
theorem dX6_correct_78 : decode cX6_correct 78 = .ok (.iastore, 1) := by decide +kernel
theorem dX6_correct_79 : decode cX6_correct 79 = .ok (.aload_n 0, 1) := by decide +kernel
theorem dX6_correct_80 : decode cX6_correct 80 = .ok (.getfield 7, 3) := by decide +kernel
theorem dX6_correct_83 : decode cX6_correct 83 = .ok (.bipush 6, 2) := by decide +kernel
theorem dX6_correct_85 : decode cX6_correct 85 = .ok (.dup2, 1) := by decide +kernel
theorem dX6_correct_86 : decode cX6_correct 86 = .ok (.iaload, 1) := by decide +kernel
theorem dX6_correct_87 : decode cX6_correct 87 = .ok (.iconst 1, 1) := by decide +kernel
theorem dX6_correct_88 : decode cX6_correct 88 = .ok (.iadd, 1) := by decide +kernel
theorem dX6_correct_89 : decode cX6_correct 89 = .ok (.iastore, 1) := by decide +kernel
theorem dX6_correct_90 : decode cX6_correct 90 = .ok (.aload_n 0, 1) := by decide +kernel
theorem dX6_correct_91 : decode cX6_correct 91 = .ok (.iload_n 1, 1) := by decide +kernel
theorem dX6_correct_92 : decode cX6_correct 92 = .ok (.invokevirtual 140, 3) := by decide +kernel
theorem dX6_correct_95 : decode cX6_correct 95 = .ok (.iconst 0, 1) := by decide +kernel
theorem dX6_correct_96 : decode cX6_correct 96 = .ok (.istore 4, 2) := by decide +kernel
theorem dX6_correct_98 : decode cX6_correct 98 = .ok (.iconst 0, 1) := by decide +kernel
theorem dX6_correct_99 : decode cX6_correct 99 = .ok (.istore 5, 2) := by decide +kernel
theorem dX6_correct_101 : decode cX6_correct 101 = .ok (.iload 5, 2) := by decide +kernel
theorem dX6_correct_103 : decode cX6_correct 103 = .ok (.iconst 2, 1) := by decide +kernel
theorem dX6_correct_104 : decode cX6_correct 104 = .ok (.aload_n 0, 1) := by decide +kernel
theorem dX6_correct_105 : decode cX6_correct 105 = .ok (.getfield 7, 3) := by decide +kernel
theorem dX6_correct_108 : decode cX6_correct 108 = .ok (.iconst 0, 1) := by decide +kernel
theorem dX6_correct_109 : decode cX6_correct 109 = .ok (.iaload, 1) := by decide +kernel
theorem dX6_correct_110 : decode cX6_correct 110 = .ok (.imul, 1) := by decide +kernel
theorem dX6_correct_111 : decode cX6_correct 111 = .ok (.if_icmp .ge 139, 3) := by decide +kernel
theorem dX6_correct_114 : decode cX6_correct 114 = .ok (.iload 5, 2) := by decide +kernel
theorem dX6_correct_116 : decode cX6_correct 116 = .ok (.iconst 2, 1) := by decide +kernel
theorem dX6_correct_117 : decode cX6_correct 117 = .ok (.idiv, 1) := by decide +kernel
theorem dX6_correct_118 : decode cX6_correct 118 = .ok (.istore 6, 2) := by decide +kernel
theorem dX6_correct_120 : decode cX6_correct 120 = .ok (.aload_n 0, 1) := by decide +kernel
theorem dX6_correct_121 : decode cX6_correct 121 = .ok (.iload 6, 2) := by decide +kernel
theorem dX6_correct_123 : decode cX6_correct 123 = .ok (.iload 5, 2) := by decide +kernel
theorem dX6_correct_125 : decode cX6_correct 125 = .ok (.iconst 2, 1) := by decide +kernel
theorem dX6_correct_126 : decode cX6_correct 126 = .ok (.irem, 1) := by decide +kernel
theorem dX6_correct_127 : decode cX6_correct 127 = .ok (.iconst 1, 1) := by decide +kernel
theorem dX6_correct_128 : decode cX6_correct 128 = .ok (.if_icmp .ne 7, 3) := by decide +kernel
theorem dX6_correct_131 : decode cX6_correct 131 = .ok (.iconst 1, 1) := by decide +kernel
theorem dX6_correct_132 : decode cX6_correct 132 = .ok (.goto 4, 3) := by decide +kernel
theorem dX6_correct_135 : decode cX6_correct 135 = .ok (.iconst 0, 1) := by decide +kernel
theorem dX6_correct_136 : decode cX6_correct 136 = .ok (.aload_n 0, 1) := by decide +kernel
theorem dX6_correct_137 : decode cX6_correct 137 = .ok (.getfield 7, 3) := by decide +kernel
theorem dX6_correct_140 : decode cX6_correct 140 = .ok (.iload_n 1, 1) := by decide +kernel
theorem dX6_correct_141 : decode cX6_correct 141 = .ok (.bipush 23, 2) := by decide +kernel
theorem dX6_correct_143 : decode cX6_correct 143 = .ok (.iconst 2, 1) := by decide +kernel
theorem dX6_correct_144 : decode cX6_correct 144 = .ok (.iload 6, 2) := by decide +kernel
theorem dX6_correct_146 : decode cX6_correct 146 = .ok (.imul, 1) := by decide +kernel
theorem dX6_correct_147 : decode cX6_correct 147 = .ok (.iadd, 1) := by decide +kernel
theorem dX6_correct_148 : decode cX6_correct 148 = .ok (.invokestatic 75, 3) := by decide +kernel
theorem dX6_correct_151 : decode cX6_correct 151 = .ok (.iaload, 1) := by decide +kernel
theorem dX6_correct_152 : decode cX6_correct 152 = .ok (.aload_n 0, 1) := by decide +kernel
theorem dX6_correct_153 : decode cX6_correct 153 = .ok (.getfield 7, 3) := by decide +kernel
theorem dX6_correct_156 : decode cX6_correct 156 = .ok (.iload_n 1, 1) := by decide +kernel
theorem dX6_correct_157 : decode cX6_correct 157 = .ok (.bipush 23, 2) := by decide +kernel
theorem dX6_correct_159 : decode cX6_correct 159 = .ok (.iconst 2, 1) := by decide +kernel
theorem dX6_correct_160 : decode cX6_correct 160 = .ok (.iload 6, 2) := by decide +kernel
theorem dX6_correct_162 : decode cX6_correct 162 = .ok (.imul, 1) := by decide +kernel
theorem dX6_correct_163 : decode cX6_correct 163 = .ok (.iadd, 1) := by decide +kernel
theorem dX6_correct_164 : decode cX6_correct 164 = .ok (.iconst 1, 1) := by decide +kernel
theorem dX6_correct_165 : decode cX6_correct 165 = .ok (.iadd, 1) := by decide +kernel
theorem dX6_correct_166 : decode cX6_correct 166 = .ok (.invokestatic 75, 3) := by decide +kernel
theorem dX6_correct_169 : decode cX6_correct 169 = .ok (.iaload, 1) := by decide +kernel
theorem dX6_correct_170 : decode cX6_correct 170 = .ok (.invokevirtual 132, 3) := by decide +kernel
theorem dX6_correct_173 : decode cX6_correct 173 = .ok (.istore 7, 2) := by decide +kernel
theorem dX6_correct_175 : decode cX6_correct 175 = .ok (.iload 7, 2) := by decide +kernel
theorem dX6_correct_177 : decode cX6_correct 177 = .ok (.aload_n 0, 1) := by decide +kernel
theorem dX6_correct_178 : decode cX6_correct 178 = .ok (.getfield 7, 3) := by decide +kernel
theorem dX6_correct_181 : decode cX6_correct 181 = .ok (.iload_n 1, 1) := by decide +kernel
theorem dX6_correct_182 : decode cX6_correct 182 = .ok (.bipush 39, 2) := by decide +kernel
theorem dX6_correct_184 : decode cX6_correct 184 = .ok (.iload 5, 2) := by decide +kernel
theorem dX6_correct_186 : decode cX6_correct 186 = .ok (.iadd, 1) := by decide +kernel
theorem dX6_correct_187 : decode cX6_correct 187 = .ok (.invokestatic 75, 3) := by decide +kernel
theorem dX6_correct_190 : decode cX6_correct 190 = .ok (.iaload, 1) := by decide +kernel
theorem dX6_correct_191 : decode cX6_correct 191 = .ok (.isub, 1) := by decide +kernel
theorem dX6_correct_192 : decode cX6_correct 192 = .ok (.istore 8, 2) := by decide +kernel
theorem dX6_correct_194 : decode cX6_correct 194 = .ok (.iload 4, 2) := by decide +kernel
theorem dX6_correct_196 : decode cX6_correct 196 = .ok (.iload 8, 2) := by decide +kernel
theorem dX6_correct_198 : decode cX6_correct 198 = .ok (.ifCond .ne 7, 3) := by decide +kernel
theorem dX6_correct_201 : decode cX6_correct 201 = .ok (.iconst 0, 1) := by decide +kernel
theorem dX6_correct_202 : decode cX6_correct 202 = .ok (.goto 4, 3) := by decide +kernel
theorem dX6_correct_205 : decode cX6_correct 205 = .ok (.iconst 1, 1) := by decide +kernel
theorem dX6_correct_206 : decode cX6_correct 206 = .ok (.iadd, 1) := by decide +kernel
theorem dX6_correct_207 : decode cX6_correct 207 = .ok (.istore 4, 2) := by decide +kernel
theorem dX6_correct_209 : decode cX6_correct 209 = .ok (.aload_n 0, 1) := by decide +kernel
theorem dX6_correct_210 : decode cX6_correct 210 = .ok (.getfield 7, 3) := by decide +kernel
theorem dX6_correct_213 : decode cX6_correct 213 = .ok (.iload_n 1, 1) := by decide +kernel
theorem dX6_correct_214 : decode cX6_correct 214 = .ok (.bipush 55, 2) := by decide +kernel
theorem dX6_correct_216 : decode cX6_correct 216 = .ok (.iload 5, 2) := by decide +kernel
theorem dX6_correct_218 : decode cX6_correct 218 = .ok (.iadd, 1) := by decide +kernel
theorem dX6_correct_219 : decode cX6_correct 219 = .ok (.invokestatic 75, 3) := by decide +kernel
theorem dX6_correct_222 : decode cX6_correct 222 = .ok (.dup2, 1) := by decide +kernel
theorem dX6_correct_223 : decode cX6_correct 223 = .ok (.iaload, 1) := by decide +kernel
theorem dX6_correct_224 : decode cX6_correct 224 = .ok (.iload 8, 2) := by decide +kernel
theorem dX6_correct_226 : decode cX6_correct 226 = .ok (.iadd, 1) := by decide +kernel
theorem dX6_correct_227 : decode cX6_correct 227 = .ok (.iastore, 1) := by decide +kernel
theorem dX6_correct_228 : decode cX6_correct 228 = .ok (.aload_n 0, 1) := by decide +kernel
theorem dX6_correct_229 : decode cX6_correct 229 = .ok (.getfield 7, 3) := by decide +kernel
theorem dX6_correct_232 : decode cX6_correct 232 = .ok (.iload_n 1, 1) := by decide +kernel
theorem dX6_correct_233 : decode cX6_correct 233 = .ok (.bipush 39, 2) := by decide +kernel
theorem dX6_correct_235 : decode cX6_correct 235 = .ok (.iload 5, 2) := by decide +kernel
theorem dX6_correct_237 : decode cX6_correct 237 = .ok (.iadd, 1) := by decide +kernel
theorem dX6_correct_238 : decode cX6_correct 238 = .ok (.invokestatic 75, 3) := by decide +kernel
theorem dX6_correct_241 : decode cX6_correct 241 = .ok (.iload 7, 2) := by decide +kernel
theorem dX6_correct_243 : decode cX6_correct 243 = .ok (.iastore, 1) := by decide +kernel
theorem dX6_correct_244 : decode cX6_correct 244 = .ok (.iinc 5 1, 3) := by decide +kernel
theorem dX6_correct_247 : decode cX6_correct 247 = .ok (.goto (-146), 3) := by decide +kernel
theorem dX6_correct_250 : decode cX6_correct 250 = .ok (.iload 4, 2) := by decide +kernel
theorem dX6_correct_252 : decode cX6_correct 252 = .ok (.ireturn, 1) := by decide +kernel
theorem dX6_type_0 : decode cX6_type 0 = .ok (.aload_n 0, 1) := by decide +kernel
theorem dX6_type_1 : decode cX6_type 1 = .ok (.getfield 143, 3) := by decide +kernel
theorem dX6_type_4 : decode cX6_type 4 = .ok (.bipush 60, 2) := by decide +kernel
theorem dX6_type_6 : decode cX6_type 6 = .ok (.if_icmp .ne 6, 3) := by decide +kernel
theorem dX6_type_9 : decode cX6_type 9 = .ok (.bipush (-3), 2) := by decide +kernel
theorem dX6_type_11 : decode cX6_type 11 = .ok (.ireturn, 1) := by decide +kernel
theorem dX6_type_12 : decode cX6_type 12 = .ok (.aload_n 0, 1) := by decide +kernel
theorem dX6_type_13 : decode cX6_type 13 = .ok (.getfield 19, 3) := by decide +kernel
theorem dX6_type_16 : decode cX6_type 16 = .ok (.aload_n 0, 1) := by decide +kernel
theorem dX6_type_17 : decode cX6_type 17 = .ok (.getfield 143, 3) := by decide +kernel
theorem dX6_type_20 : decode cX6_type 20 = .ok (.iload_n 1, 1) := by decide +kernel
theorem dX6_type_21 : decode cX6_type 21 = .ok (.castore, 1) := by decide +kernel
theorem dX6_type_22 : decode cX6_type 22 = .ok (.aload_n 0, 1) := by decide +kernel
theorem dX6_type_23 : decode cX6_type 23 = .ok (.dup, 1) := by decide +kernel
theorem dX6_type_24 : decode cX6_type 24 = .ok (.getfield 143, 3) := by decide +kernel
theorem dX6_type_27 : decode cX6_type 27 = .ok (.iconst 1, 1) := by decide +kernel
theorem dX6_type_28 : decode cX6_type 28 = .ok (.iadd, 1) := by decide +kernel
theorem dX6_type_29 : decode cX6_type 29 = .ok (.putfield 143, 3) := by decide +kernel
theorem dX6_type_32 : decode cX6_type 32 = .ok (.aload_n 0, 1) := by decide +kernel
theorem dX6_type_33 : decode cX6_type 33 = .ok (.getfield 143, 3) := by decide +kernel
theorem dX6_type_36 : decode cX6_type 36 = .ok (.ireturn, 1) := by decide +kernel
theorem dX6_clearText_0 : decode cX6_clearText 0 = .ok (.aload_n 0, 1) := by decide +kernel
theorem dX6_clearText_1 : decode cX6_clearText 1 = .ok (.getfield 143, 3) := by decide +kernel
theorem dX6_clearText_4 : decode cX6_clearText 4 = .ok (.istore_n 1, 1) := by decide +kernel
theorem dX6_clearText_5 : decode cX6_clearText 5 = .ok (.aload_n 0, 1) := by decide +kernel
theorem dX6_clearText_6 : decode cX6_clearText 6 = .ok (.iconst 0, 1) := by decide +kernel
theorem dX6_clearText_7 : decode cX6_clearText 7 = .ok (.putfield 143, 3) := by decide +kernel
theorem dX6_clearText_10 : decode cX6_clearText 10 = .ok (.iload_n 1, 1) := by decide +kernel
theorem dX6_clearText_11 : decode cX6_clearText 11 = .ok (.ireturn, 1) := by decide +kernel
set_option maxRecDepth 20000 in
theorem ggX6_sees_X6_in : GoodIn wsX6_sees wsX6_in := goodIn_r _ [7] (by decide +kernel) (by decide +kernel)
set_option maxRecDepth 20000 in
theorem gX6_sees_X6_in : GoodIn wsX6_sees (va_wsS RX6 60 yX6_in wsX6_in) := goodIn_app (goodIn_of _ (by decide +kernel)) ggX6_sees_X6_in
theorem dX6_sees_0 : decode cX6_sees 0 = .ok (.aload_n 0, 1) := by decide +kernel
theorem dX6_sees_1 : decode cX6_sees 1 = .ok (.getfield 146, 3) := by decide +kernel
theorem dX6_sees_4 : decode cX6_sees 4 = .ok (.aload_n 0, 1) := by decide +kernel
theorem dX6_sees_5 : decode cX6_sees 5 = .ok (.getfield 143, 3) := by decide +kernel
theorem dX6_sees_8 : decode cX6_sees 8 = .ok (.if_icmp .ge 24, 3) := by decide +kernel
theorem dX6_sees_11 : decode cX6_sees 11 = .ok (.aload_n 0, 1) := by decide +kernel
theorem dX6_sees_12 : decode cX6_sees 12 = .ok (.getfield 19, 3) := by decide +kernel
theorem dX6_sees_15 : decode cX6_sees 15 = .ok (.aload_n 0, 1) := by decide +kernel
theorem dX6_sees_16 : decode cX6_sees 16 = .ok (.getfield 146, 3) := by decide +kernel
theorem dX6_sees_19 : decode cX6_sees 19 = .ok (.caload, 1) := by decide +kernel
theorem dX6_sees_20 : decode cX6_sees 20 = .ok (.iload_n 1, 1) := by decide +kernel
theorem dX6_sees_21 : decode cX6_sees 21 = .ok (.iload_n 2, 1) := by decide +kernel
theorem dX6_sees_22 : decode cX6_sees 22 = .ok (.invokestatic 60, 3) := by decide +kernel
theorem dX6_sees_25 : decode cX6_sees 25 = .ok (.ifCond .eq 7, 3) := by decide +kernel
theorem dX6_sees_28 : decode cX6_sees 28 = .ok (.iconst 1, 1) := by decide +kernel
theorem dX6_sees_29 : decode cX6_sees 29 = .ok (.goto 4, 3) := by decide +kernel
theorem dX6_sees_32 : decode cX6_sees 32 = .ok (.iconst 0, 1) := by decide +kernel
theorem dX6_sees_33 : decode cX6_sees 33 = .ok (.ireturn, 1) := by decide +kernel
set_option maxRecDepth 20000 in
theorem ggX6_takes_X6_sees : GoodIn wsX6_takes wsX6_sees := goodIn_r _ [6, 1, 7, 8, 9, 10, 5, 11, 12, 13, 14, 15, 16, 17, 18, 19, 20, 21, 22, 23, 24, 25, 26, 27] (by decide +kernel) (by decide +kernel)
set_option maxRecDepth 20000 in
theorem gX6_takes_X6_sees : GoodIn wsX6_takes (wsV RX6 149 RX6 yX6_sees wsX6_sees) := goodIn_app (goodIn_of _ (by decide +kernel)) ggX6_takes_X6_sees
theorem dX6_takes_0 : decode cX6_takes 0 = .ok (.aload_n 0, 1) := by decide +kernel
theorem dX6_takes_1 : decode cX6_takes 1 = .ok (.iload_n 1, 1) := by decide +kernel
theorem dX6_takes_2 : decode cX6_takes 2 = .ok (.iload_n 1, 1) := by decide +kernel
theorem dX6_takes_3 : decode cX6_takes 3 = .ok (.invokevirtual 149, 3) := by decide +kernel
theorem dX6_takes_6 : decode cX6_takes 6 = .ok (.istore_n 2, 1) := by decide +kernel
theorem dX6_takes_7 : decode cX6_takes 7 = .ok (.aload_n 0, 1) := by decide +kernel
theorem dX6_takes_8 : decode cX6_takes 8 = .ok (.dup, 1) := by decide +kernel
theorem dX6_takes_9 : decode cX6_takes 9 = .ok (.getfield 146, 3) := by decide +kernel
theorem dX6_takes_12 : decode cX6_takes 12 = .ok (.iload_n 2, 1) := by decide +kernel
theorem dX6_takes_13 : decode cX6_takes 13 = .ok (.ifCond .eq 7, 3) := by decide +kernel
theorem dX6_takes_16 : decode cX6_takes 16 = .ok (.iconst 1, 1) := by decide +kernel
theorem dX6_takes_17 : decode cX6_takes 17 = .ok (.goto 4, 3) := by decide +kernel
theorem dX6_takes_20 : decode cX6_takes 20 = .ok (.iconst 0, 1) := by decide +kernel
theorem dX6_takes_21 : decode cX6_takes 21 = .ok (.iadd, 1) := by decide +kernel
theorem dX6_takes_22 : decode cX6_takes 22 = .ok (.putfield 146, 3) := by decide +kernel
theorem dX6_takes_25 : decode cX6_takes 25 = .ok (.iload_n 2, 1) := by decide +kernel
theorem dX6_takes_26 : decode cX6_takes 26 = .ok (.ireturn, 1) := by decide +kernel
set_option maxRecDepth 20000 in
theorem ggX6_number_X6_sees : GoodIn wsX6_number wsX6_sees := goodIn_r _ [7, 2, 8, 1, 9, 10, 6, 11, 12, 13, 14, 15, 16, 17, 18, 19, 20, 21, 22, 23, 24, 25, 26, 27] (by decide +kernel) (by decide +kernel)
set_option maxRecDepth 20000 in
theorem gX6_number_X6_sees : GoodIn wsX6_number (wsV RX6 149 RX6 yX6_sees wsX6_sees) := goodIn_app (goodIn_of _ (by decide +kernel)) ggX6_number_X6_sees
theorem dX6_number_0 : decode cX6_number 0 = .ok (.aload_n 0, 1) := by decide +kernel
theorem dX6_number_1 : decode cX6_number 1 = .ok (.bipush 48, 2) := by decide +kernel
theorem dX6_number_3 : decode cX6_number 3 = .ok (.bipush 57, 2) := by decide +kernel
theorem dX6_number_5 : decode cX6_number 5 = .ok (.invokevirtual 149, 3) := by decide +kernel
theorem dX6_number_8 : decode cX6_number 8 = .ok (.ifCond .ne 6, 3) := by decide +kernel
theorem dX6_number_11 : decode cX6_number 11 = .ok (.bipush (-5), 2) := by decide +kernel
theorem dX6_number_13 : decode cX6_number 13 = .ok (.ireturn, 1) := by decide +kernel
theorem dX6_number_14 : decode cX6_number 14 = .ok (.aload_n 0, 1) := by decide +kernel
theorem dX6_number_15 : decode cX6_number 15 = .ok (.getfield 19, 3) := by decide +kernel
theorem dX6_number_18 : decode cX6_number 18 = .ok (.aload_n 0, 1) := by decide +kernel
theorem dX6_number_19 : decode cX6_number 19 = .ok (.getfield 146, 3) := by decide +kernel
theorem dX6_number_22 : decode cX6_number 22 = .ok (.caload, 1) := by decide +kernel
theorem dX6_number_23 : decode cX6_number 23 = .ok (.bipush 48, 2) := by decide +kernel
theorem dX6_number_25 : decode cX6_number 25 = .ok (.isub, 1) := by decide +kernel
theorem dX6_number_26 : decode cX6_number 26 = .ok (.istore_n 2, 1) := by decide +kernel
theorem dX6_number_27 : decode cX6_number 27 = .ok (.aload_n 0, 1) := by decide +kernel
theorem dX6_number_28 : decode cX6_number 28 = .ok (.dup, 1) := by decide +kernel
theorem dX6_number_29 : decode cX6_number 29 = .ok (.getfield 146, 3) := by decide +kernel
theorem dX6_number_32 : decode cX6_number 32 = .ok (.iconst 1, 1) := by decide +kernel
theorem dX6_number_33 : decode cX6_number 33 = .ok (.iadd, 1) := by decide +kernel
theorem dX6_number_34 : decode cX6_number 34 = .ok (.putfield 146, 3) := by decide +kernel
theorem dX6_number_37 : decode cX6_number 37 = .ok (.iload_n 2, 1) := by decide +kernel
theorem dX6_number_38 : decode cX6_number 38 = .ok (.ifCond .le 66, 3) := by decide +kernel
theorem dX6_number_41 : decode cX6_number 41 = .ok (.aload_n 0, 1) := by decide +kernel
theorem dX6_number_42 : decode cX6_number 42 = .ok (.bipush 48, 2) := by decide +kernel
theorem dX6_number_44 : decode cX6_number 44 = .ok (.bipush 57, 2) := by decide +kernel
theorem dX6_number_46 : decode cX6_number 46 = .ok (.invokevirtual 149, 3) := by decide +kernel
theorem dX6_number_49 : decode cX6_number 49 = .ok (.ifCond .eq 55, 3) := by decide +kernel
theorem dX6_number_52 : decode cX6_number 52 = .ok (.bipush 10, 2) := by decide +kernel
theorem dX6_number_54 : decode cX6_number 54 = .ok (.iload_n 2, 1) := by decide +kernel
theorem dX6_number_55 : decode cX6_number 55 = .ok (.imul, 1) := by decide +kernel
theorem dX6_number_56 : decode cX6_number 56 = .ok (.aload_n 0, 1) := by decide +kernel
theorem dX6_number_57 : decode cX6_number 57 = .ok (.getfield 19, 3) := by decide +kernel
theorem dX6_number_60 : decode cX6_number 60 = .ok (.aload_n 0, 1) := by decide +kernel
theorem dX6_number_61 : decode cX6_number 61 = .ok (.getfield 146, 3) := by decide +kernel
theorem dX6_number_64 : decode cX6_number 64 = .ok (.caload, 1) := by decide +kernel
theorem dX6_number_65 : decode cX6_number 65 = .ok (.iadd, 1) := by decide +kernel
theorem dX6_number_66 : decode cX6_number 66 = .ok (.bipush 48, 2) := by decide +kernel
theorem dX6_number_68 : decode cX6_number 68 = .ok (.isub, 1) := by decide +kernel
theorem dX6_number_69 : decode cX6_number 69 = .ok (.iload_n 1, 1) := by decide +kernel
theorem dX6_number_70 : decode cX6_number 70 = .ok (.if_icmp .gt 34, 3) := by decide +kernel
theorem dX6_number_73 : decode cX6_number 73 = .ok (.bipush 10, 2) := by decide +kernel
theorem dX6_number_75 : decode cX6_number 75 = .ok (.iload_n 2, 1) := by decide +kernel
theorem dX6_number_76 : decode cX6_number 76 = .ok (.imul, 1) := by decide +kernel
theorem dX6_number_77 : decode cX6_number 77 = .ok (.aload_n 0, 1) := by decide +kernel
theorem dX6_number_78 : decode cX6_number 78 = .ok (.getfield 19, 3) := by decide +kernel
theorem dX6_number_81 : decode cX6_number 81 = .ok (.aload_n 0, 1) := by decide +kernel
theorem dX6_number_82 : decode cX6_number 82 = .ok (.getfield 146, 3) := by decide +kernel
theorem dX6_number_85 : decode cX6_number 85 = .ok (.caload, 1) := by decide +kernel
theorem dX6_number_86 : decode cX6_number 86 = .ok (.iadd, 1) := by decide +kernel
theorem dX6_number_87 : decode cX6_number 87 = .ok (.bipush 48, 2) := by decide +kernel
theorem dX6_number_89 : decode cX6_number 89 = .ok (.isub, 1) := by decide +kernel
theorem dX6_number_90 : decode cX6_number 90 = .ok (.istore_n 2, 1) := by decide +kernel
theorem dX6_number_91 : decode cX6_number 91 = .ok (.aload_n 0, 1) := by decide +kernel
theorem dX6_number_92 : decode cX6_number 92 = .ok (.dup, 1) := by decide +kernel
theorem dX6_number_93 : decode cX6_number 93 = .ok (.getfield 146, 3) := by decide +kernel
theorem dX6_number_96 : decode cX6_number 96 = .ok (.iconst 1, 1) := by decide +kernel
theorem dX6_number_97 : decode cX6_number 97 = .ok (.iadd, 1) := by decide +kernel
theorem dX6_number_98 : decode cX6_number 98 = .ok (.putfield 146, 3) := by decide +kernel
theorem dX6_number_101 : decode cX6_number 101 = .ok (.goto (-64), 3) := by decide +kernel
theorem dX6_number_104 : decode cX6_number 104 = .ok (.iload_n 2, 1) := by decide +kernel
theorem dX6_number_105 : decode cX6_number 105 = .ok (.ireturn, 1) := by decide +kernel
set_option maxRecDepth 20000 in
theorem ggX6_readsOne_X6_number : GoodIn wsX6_readsOne wsX6_number := goodIn_r _ [7, 8, 9, 10, 11, 12, 6, 13, 14, 15, 16, 17, 22, 23, 24, 25, 26, 27, 28, 29, 30, 31, 32, 33, 34, 35, 36, 37] (by decide +kernel) (by decide +kernel)
set_option maxRecDepth 20000 in
theorem gX6_readsOne_X6_number : GoodIn wsX6_readsOne (wsV RX6 153 RX6 yX6_number wsX6_number) := goodIn_app (goodIn_of _ (by decide +kernel)) ggX6_readsOne_X6_number
set_option maxRecDepth 20000 in
theorem ggX6_readsOne_X6_takes : GoodIn wsX6_readsOne wsX6_takes := goodIn_r _ [21, 9, 10, 11, 12, 6, 13, 14, 8, 15, 16, 17, 22, 23, 24, 25, 26, 27, 28, 29, 30, 31, 32, 33, 34, 35, 36, 37] (by decide +kernel) (by decide +kernel)
set_option maxRecDepth 20000 in
theorem gX6_readsOne_X6_takes : GoodIn wsX6_readsOne (wsV RX6 156 RX6 yX6_takes wsX6_takes) := goodIn_app (goodIn_of _ (by decide +kernel)) ggX6_readsOne_X6_takes
theorem dX6_readsOne_0 : decode cX6_readsOne 0 = .ok (.aload_n 0, 1) := by decide +kernel
theorem dX6_readsOne_1 : decode cX6_readsOne 1 = .ok (.bipush 19, 2) := by decide +kernel
theorem dX6_readsOne_3 : decode cX6_readsOne 3 = .ok (.invokevirtual 153, 3) := by decide +kernel
theorem dX6_readsOne_6 : decode cX6_readsOne 6 = .ok (.istore_n 1, 1) := by decide +kernel
theorem dX6_readsOne_7 : decode cX6_readsOne 7 = .ok (.iload_n 1, 1) := by decide +kernel
theorem dX6_readsOne_8 : decode cX6_readsOne 8 = .ok (.bipush (-5), 2) := by decide +kernel
theorem dX6_readsOne_10 : decode cX6_readsOne 10 = .ok (.if_icmp .eq 12, 3) := by decide +kernel
theorem dX6_readsOne_13 : decode cX6_readsOne 13 = .ok (.aload_n 0, 1) := by decide +kernel
theorem dX6_readsOne_14 : decode cX6_readsOne 14 = .ok (.bipush 61, 2) := by decide +kernel
theorem dX6_readsOne_16 : decode cX6_readsOne 16 = .ok (.invokevirtual 156, 3) := by decide +kernel
theorem dX6_readsOne_19 : decode cX6_readsOne 19 = .ok (.ifCond .ne 5, 3) := by decide +kernel
theorem dX6_readsOne_22 : decode cX6_readsOne 22 = .ok (.iconst 0, 1) := by decide +kernel
theorem dX6_readsOne_23 : decode cX6_readsOne 23 = .ok (.ireturn, 1) := by decide +kernel
theorem dX6_readsOne_24 : decode cX6_readsOne 24 = .ok (.aload_n 0, 1) := by decide +kernel
theorem dX6_readsOne_25 : decode cX6_readsOne 25 = .ok (.bipush 63, 2) := by decide +kernel
theorem dX6_readsOne_27 : decode cX6_readsOne 27 = .ok (.invokevirtual 156, 3) := by decide +kernel
theorem dX6_readsOne_30 : decode cX6_readsOne 30 = .ok (.istore_n 2, 1) := by decide +kernel
theorem dX6_readsOne_31 : decode cX6_readsOne 31 = .ok (.iload_n 2, 1) := by decide +kernel
theorem dX6_readsOne_32 : decode cX6_readsOne 32 = .ok (.ifCond .eq 8, 3) := by decide +kernel
theorem dX6_readsOne_35 : decode cX6_readsOne 35 = .ok (.bipush (-5), 2) := by decide +kernel
theorem dX6_readsOne_37 : decode cX6_readsOne 37 = .ok (.goto 10, 3) := by decide +kernel
theorem dX6_readsOne_40 : decode cX6_readsOne 40 = .ok (.aload_n 0, 1) := by decide +kernel
theorem dX6_readsOne_41 : decode cX6_readsOne 41 = .ok (.sipush 9999, 3) := by decide +kernel
theorem dX6_readsOne_44 : decode cX6_readsOne 44 = .ok (.invokevirtual 153, 3) := by decide +kernel
theorem dX6_readsOne_47 : decode cX6_readsOne 47 = .ok (.istore_n 3, 1) := by decide +kernel
theorem dX6_readsOne_48 : decode cX6_readsOne 48 = .ok (.iload_n 2, 1) := by decide +kernel
theorem dX6_readsOne_49 : decode cX6_readsOne 49 = .ok (.ifCond .ne 11, 3) := by decide +kernel
theorem dX6_readsOne_52 : decode cX6_readsOne 52 = .ok (.iload_n 3, 1) := by decide +kernel
theorem dX6_readsOne_53 : decode cX6_readsOne 53 = .ok (.bipush (-5), 2) := by decide +kernel
theorem dX6_readsOne_55 : decode cX6_readsOne 55 = .ok (.if_icmp .ne 5, 3) := by decide +kernel
theorem dX6_readsOne_58 : decode cX6_readsOne 58 = .ok (.iconst 0, 1) := by decide +kernel
theorem dX6_readsOne_59 : decode cX6_readsOne 59 = .ok (.ireturn, 1) := by decide +kernel
theorem dX6_readsOne_60 : decode cX6_readsOne 60 = .ok (.aload_n 0, 1) := by decide +kernel
theorem dX6_readsOne_61 : decode cX6_readsOne 61 = .ok (.getfield 42, 3) := by decide +kernel
theorem dX6_readsOne_64 : decode cX6_readsOne 64 = .ok (.iconst 2, 1) := by decide +kernel
theorem dX6_readsOne_65 : decode cX6_readsOne 65 = .ok (.aload_n 0, 1) := by decide +kernel
theorem dX6_readsOne_66 : decode cX6_readsOne 66 = .ok (.getfield 160, 3) := by decide +kernel
theorem dX6_readsOne_69 : decode cX6_readsOne 69 = .ok (.imul, 1) := by decide +kernel
theorem dX6_readsOne_70 : decode cX6_readsOne 70 = .ok (.iload_n 1, 1) := by decide +kernel
theorem dX6_readsOne_71 : decode cX6_readsOne 71 = .ok (.iastore, 1) := by decide +kernel
theorem dX6_readsOne_72 : decode cX6_readsOne 72 = .ok (.aload_n 0, 1) := by decide +kernel
theorem dX6_readsOne_73 : decode cX6_readsOne 73 = .ok (.getfield 42, 3) := by decide +kernel
theorem dX6_readsOne_76 : decode cX6_readsOne 76 = .ok (.iconst 2, 1) := by decide +kernel
theorem dX6_readsOne_77 : decode cX6_readsOne 77 = .ok (.aload_n 0, 1) := by decide +kernel
theorem dX6_readsOne_78 : decode cX6_readsOne 78 = .ok (.getfield 160, 3) := by decide +kernel
theorem dX6_readsOne_81 : decode cX6_readsOne 81 = .ok (.imul, 1) := by decide +kernel
theorem dX6_readsOne_82 : decode cX6_readsOne 82 = .ok (.iconst 1, 1) := by decide +kernel
theorem dX6_readsOne_83 : decode cX6_readsOne 83 = .ok (.iadd, 1) := by decide +kernel
theorem dX6_readsOne_84 : decode cX6_readsOne 84 = .ok (.iload_n 3, 1) := by decide +kernel
theorem dX6_readsOne_85 : decode cX6_readsOne 85 = .ok (.iastore, 1) := by decide +kernel
theorem dX6_readsOne_86 : decode cX6_readsOne 86 = .ok (.aload_n 0, 1) := by decide +kernel
theorem dX6_readsOne_87 : decode cX6_readsOne 87 = .ok (.dup, 1) := by decide +kernel
theorem dX6_readsOne_88 : decode cX6_readsOne 88 = .ok (.getfield 160, 3) := by decide +kernel
theorem dX6_readsOne_91 : decode cX6_readsOne 91 = .ok (.iconst 1, 1) := by decide +kernel
theorem dX6_readsOne_92 : decode cX6_readsOne 92 = .ok (.iadd, 1) := by decide +kernel
theorem dX6_readsOne_93 : decode cX6_readsOne 93 = .ok (.putfield 160, 3) := by decide +kernel
theorem dX6_readsOne_96 : decode cX6_readsOne 96 = .ok (.iconst 1, 1) := by decide +kernel
theorem dX6_readsOne_97 : decode cX6_readsOne 97 = .ok (.ireturn, 1) := by decide +kernel
set_option maxRecDepth 20000 in
theorem ggX6_isText_X6_readsOne : GoodIn wsX6_isText wsX6_readsOne := goodIn_r _ [8, 9, 2, 10, 11, 12, 7, 13, 14, 1, 15, 16, 17, 18, 3, 19, 20, 21, 22, 23, 24, 25, 26, 27, 28, 29, 30, 31, 32, 33, 34, 35, 36, 37, 38, 39, 40, 41] (by decide +kernel) (by decide +kernel)
set_option maxRecDepth 20000 in
theorem gX6_isText_X6_readsOne : GoodIn wsX6_isText (wsV RX6 163 RX6 yX6_readsOne wsX6_readsOne) := goodIn_app (goodIn_of _ (by decide +kernel)) ggX6_isText_X6_readsOne
set_option maxRecDepth 20000 in
theorem ggX6_isText_X6_takes : GoodIn wsX6_isText wsX6_takes := goodIn_r _ [25, 1, 15, 16, 17, 7, 18, 3, 14, 19, 20, 21, 26, 27, 28, 29, 30, 31, 32, 33, 34, 35, 36, 37, 38, 39, 40, 41] (by decide +kernel) (by decide +kernel)
set_option maxRecDepth 20000 in
theorem gX6_isText_X6_takes : GoodIn wsX6_isText (wsV RX6 156 RX6 yX6_takes wsX6_takes) := goodIn_app (goodIn_of _ (by decide +kernel)) ggX6_isText_X6_takes
theorem dX6_isText_0 : decode cX6_isText 0 = .ok (.aload_n 0, 1) := by decide +kernel
theorem dX6_isText_1 : decode cX6_isText 1 = .ok (.iconst 0, 1) := by decide +kernel
theorem dX6_isText_2 : decode cX6_isText 2 = .ok (.putfield 146, 3) := by decide +kernel
theorem dX6_isText_5 : decode cX6_isText 5 = .ok (.aload_n 0, 1) := by decide +kernel
theorem dX6_isText_6 : decode cX6_isText 6 = .ok (.iconst 0, 1) := by decide +kernel
theorem dX6_isText_7 : decode cX6_isText 7 = .ok (.putfield 160, 3) := by decide +kernel
theorem dX6_isText_10 : decode cX6_isText 10 = .ok (.iconst 1, 1) := by decide +kernel
theorem dX6_isText_11 : decode cX6_isText 11 = .ok (.istore_n 1, 1) := by decide +kernel
theorem dX6_isText_12 : decode cX6_isText 12 = .ok (.iload_n 1, 1) := by decide +kernel
theorem dX6_isText_13 : decode cX6_isText 13 = .ok (.ifCond .eq 22, 3) := by decide +kernel
theorem dX6_isText_16 : decode cX6_isText 16 = .ok (.aload_n 0, 1) := by decide +kernel
theorem dX6_isText_17 : decode cX6_isText 17 = .ok (.invokevirtual 163, 3) := by decide +kernel
theorem dX6_isText_20 : decode cX6_isText 20 = .ok (.ifCond .ne 5, 3) := by decide +kernel
theorem dX6_isText_23 : decode cX6_isText 23 = .ok (.iconst 0, 1) := by decide +kernel
theorem dX6_isText_24 : decode cX6_isText 24 = .ok (.ireturn, 1) := by decide +kernel
theorem dX6_isText_25 : decode cX6_isText 25 = .ok (.aload_n 0, 1) := by decide +kernel
theorem dX6_isText_26 : decode cX6_isText 26 = .ok (.bipush 59, 2) := by decide +kernel
theorem dX6_isText_28 : decode cX6_isText 28 = .ok (.invokevirtual 156, 3) := by decide +kernel
theorem dX6_isText_31 : decode cX6_isText 31 = .ok (.istore_n 1, 1) := by decide +kernel
theorem dX6_isText_32 : decode cX6_isText 32 = .ok (.goto (-20), 3) := by decide +kernel
theorem dX6_isText_35 : decode cX6_isText 35 = .ok (.aload_n 0, 1) := by decide +kernel
theorem dX6_isText_36 : decode cX6_isText 36 = .ok (.getfield 146, 3) := by decide +kernel
theorem dX6_isText_39 : decode cX6_isText 39 = .ok (.aload_n 0, 1) := by decide +kernel
theorem dX6_isText_40 : decode cX6_isText 40 = .ok (.getfield 143, 3) := by decide +kernel
theorem dX6_isText_43 : decode cX6_isText 43 = .ok (.if_icmp .ne 7, 3) := by decide +kernel
theorem dX6_isText_46 : decode cX6_isText 46 = .ok (.iconst 1, 1) := by decide +kernel
theorem dX6_isText_47 : decode cX6_isText 47 = .ok (.goto 4, 3) := by decide +kernel
theorem dX6_isText_50 : decode cX6_isText 50 = .ok (.iconst 0, 1) := by decide +kernel
theorem dX6_isText_51 : decode cX6_isText 51 = .ok (.ireturn, 1) := by decide +kernel
set_option maxRecDepth 20000 in
theorem ggX6_refusal_X6_isDevice : GoodIn wsX6_refusal wsX6_isDevice := goodIn_r _ [7, 8, 9, 10, 6, 11, 16, 17, 18, 19, 20, 21, 22, 23, 24, 25, 26, 27, 28, 29, 30, 31] (by decide +kernel) (by decide +kernel)
set_option maxRecDepth 20000 in
theorem gX6_refusal_X6_isDevice : GoodIn wsX6_refusal (wsV RX6 123 RX6 yX6_isDevice wsX6_isDevice) := goodIn_app (goodIn_of _ (by decide +kernel)) ggX6_refusal_X6_isDevice
set_option maxRecDepth 20000 in
theorem ggX6_refusal_X6_of : GoodIn wsX6_refusal wsX6_of := goodIn_r _ [15, 8, 16, 17, 18, 19, 20, 21, 22, 23, 24, 25, 26, 27, 28, 29, 30, 31] (by decide +kernel) (by decide +kernel)
set_option maxRecDepth 20000 in
theorem gX6_refusal_X6_of : GoodIn wsX6_refusal (wsV RX6 68 RX6 yX6_of wsX6_of) := goodIn_app (goodIn_of _ (by decide +kernel)) ggX6_refusal_X6_of
theorem dX6_refusal_0 : decode cX6_refusal 0 = .ok (.iconst 1, 1) := by decide +kernel
theorem dX6_refusal_1 : decode cX6_refusal 1 = .ok (.istore_n 1, 1) := by decide +kernel
theorem dX6_refusal_2 : decode cX6_refusal 2 = .ok (.iconst 1, 1) := by decide +kernel
theorem dX6_refusal_3 : decode cX6_refusal 3 = .ok (.istore_n 2, 1) := by decide +kernel
theorem dX6_refusal_4 : decode cX6_refusal 4 = .ok (.iconst 0, 1) := by decide +kernel
theorem dX6_refusal_5 : decode cX6_refusal 5 = .ok (.istore_n 3, 1) := by decide +kernel
theorem dX6_refusal_6 : decode cX6_refusal 6 = .ok (.iload_n 3, 1) := by decide +kernel
theorem dX6_refusal_7 : decode cX6_refusal 7 = .ok (.aload_n 0, 1) := by decide +kernel
theorem dX6_refusal_8 : decode cX6_refusal 8 = .ok (.getfield 160, 3) := by decide +kernel
theorem dX6_refusal_11 : decode cX6_refusal 11 = .ok (.if_icmp .ge 94, 3) := by decide +kernel
theorem dX6_refusal_14 : decode cX6_refusal 14 = .ok (.aload_n 0, 1) := by decide +kernel
theorem dX6_refusal_15 : decode cX6_refusal 15 = .ok (.aload_n 0, 1) := by decide +kernel
theorem dX6_refusal_16 : decode cX6_refusal 16 = .ok (.getfield 42, 3) := by decide +kernel
theorem dX6_refusal_19 : decode cX6_refusal 19 = .ok (.iconst 2, 1) := by decide +kernel
theorem dX6_refusal_20 : decode cX6_refusal 20 = .ok (.iload_n 3, 1) := by decide +kernel
theorem dX6_refusal_21 : decode cX6_refusal 21 = .ok (.imul, 1) := by decide +kernel
theorem dX6_refusal_22 : decode cX6_refusal 22 = .ok (.iaload, 1) := by decide +kernel
theorem dX6_refusal_23 : decode cX6_refusal 23 = .ok (.invokevirtual 123, 3) := by decide +kernel
theorem dX6_refusal_26 : decode cX6_refusal 26 = .ok (.istore 4, 2) := by decide +kernel
theorem dX6_refusal_28 : decode cX6_refusal 28 = .ok (.iload_n 1, 1) := by decide +kernel
theorem dX6_refusal_29 : decode cX6_refusal 29 = .ok (.ifCond .eq 12, 3) := by decide +kernel
theorem dX6_refusal_32 : decode cX6_refusal 32 = .ok (.iload 4, 2) := by decide +kernel
theorem dX6_refusal_34 : decode cX6_refusal 34 = .ok (.ifCond .eq 7, 3) := by decide +kernel
theorem dX6_refusal_37 : decode cX6_refusal 37 = .ok (.iconst 1, 1) := by decide +kernel
theorem dX6_refusal_38 : decode cX6_refusal 38 = .ok (.goto 4, 3) := by decide +kernel
theorem dX6_refusal_41 : decode cX6_refusal 41 = .ok (.iconst 0, 1) := by decide +kernel
theorem dX6_refusal_42 : decode cX6_refusal 42 = .ok (.istore_n 1, 1) := by decide +kernel
theorem dX6_refusal_43 : decode cX6_refusal 43 = .ok (.iload_n 2, 1) := by decide +kernel
theorem dX6_refusal_44 : decode cX6_refusal 44 = .ok (.ifCond .eq 53, 3) := by decide +kernel
theorem dX6_refusal_47 : decode cX6_refusal 47 = .ok (.iload 4, 2) := by decide +kernel
theorem dX6_refusal_49 : decode cX6_refusal 49 = .ok (.ifCond .eq 44, 3) := by decide +kernel
theorem dX6_refusal_52 : decode cX6_refusal 52 = .ok (.aload_n 0, 1) := by decide +kernel
theorem dX6_refusal_53 : decode cX6_refusal 53 = .ok (.getfield 42, 3) := by decide +kernel
theorem dX6_refusal_56 : decode cX6_refusal 56 = .ok (.iconst 2, 1) := by decide +kernel
theorem dX6_refusal_57 : decode cX6_refusal 57 = .ok (.iload_n 3, 1) := by decide +kernel
theorem dX6_refusal_58 : decode cX6_refusal 58 = .ok (.imul, 1) := by decide +kernel
theorem dX6_refusal_59 : decode cX6_refusal 59 = .ok (.iconst 1, 1) := by decide +kernel
theorem dX6_refusal_60 : decode cX6_refusal 60 = .ok (.iadd, 1) := by decide +kernel
theorem dX6_refusal_61 : decode cX6_refusal 61 = .ok (.iaload, 1) := by decide +kernel
theorem dX6_refusal_62 : decode cX6_refusal 62 = .ok (.bipush (-5), 2) := by decide +kernel
theorem dX6_refusal_64 : decode cX6_refusal 64 = .ok (.if_icmp .eq 29, 3) := by decide +kernel
theorem dX6_refusal_67 : decode cX6_refusal 67 = .ok (.aload_n 0, 1) := by decide +kernel
theorem dX6_refusal_68 : decode cX6_refusal 68 = .ok (.getfield 42, 3) := by decide +kernel
theorem dX6_refusal_71 : decode cX6_refusal 71 = .ok (.iconst 2, 1) := by decide +kernel
theorem dX6_refusal_72 : decode cX6_refusal 72 = .ok (.iload_n 3, 1) := by decide +kernel
theorem dX6_refusal_73 : decode cX6_refusal 73 = .ok (.imul, 1) := by decide +kernel
theorem dX6_refusal_74 : decode cX6_refusal 74 = .ok (.iconst 1, 1) := by decide +kernel
theorem dX6_refusal_75 : decode cX6_refusal 75 = .ok (.iadd, 1) := by decide +kernel
theorem dX6_refusal_76 : decode cX6_refusal 76 = .ok (.iaload, 1) := by decide +kernel
theorem dX6_refusal_77 : decode cX6_refusal 77 = .ok (.aload_n 0, 1) := by decide +kernel
theorem dX6_refusal_78 : decode cX6_refusal 78 = .ok (.aload_n 0, 1) := by decide +kernel
theorem dX6_refusal_79 : decode cX6_refusal 79 = .ok (.getfield 42, 3) := by decide +kernel
theorem dX6_refusal_82 : decode cX6_refusal 82 = .ok (.iconst 2, 1) := by decide +kernel
theorem dX6_refusal_83 : decode cX6_refusal 83 = .ok (.iload_n 3, 1) := by decide +kernel
theorem dX6_refusal_84 : decode cX6_refusal 84 = .ok (.imul, 1) := by decide +kernel
theorem dX6_refusal_85 : decode cX6_refusal 85 = .ok (.iaload, 1) := by decide +kernel
theorem dX6_refusal_86 : decode cX6_refusal 86 = .ok (.iconst 2, 1) := by decide +kernel
theorem dX6_refusal_87 : decode cX6_refusal 87 = .ok (.invokevirtual 68, 3) := by decide +kernel
theorem dX6_refusal_90 : decode cX6_refusal 90 = .ok (.if_icmp .lt 7, 3) := by decide +kernel
theorem dX6_refusal_93 : decode cX6_refusal 93 = .ok (.iconst 1, 1) := by decide +kernel
theorem dX6_refusal_94 : decode cX6_refusal 94 = .ok (.goto 4, 3) := by decide +kernel
theorem dX6_refusal_97 : decode cX6_refusal 97 = .ok (.iconst 0, 1) := by decide +kernel
theorem dX6_refusal_98 : decode cX6_refusal 98 = .ok (.istore_n 2, 1) := by decide +kernel
theorem dX6_refusal_99 : decode cX6_refusal 99 = .ok (.iinc 3 1, 3) := by decide +kernel
theorem dX6_refusal_102 : decode cX6_refusal 102 = .ok (.goto (-96), 3) := by decide +kernel
theorem dX6_refusal_105 : decode cX6_refusal 105 = .ok (.iload_n 1, 1) := by decide +kernel
theorem dX6_refusal_106 : decode cX6_refusal 106 = .ok (.ifCond .ne 7, 3) := by decide +kernel
theorem dX6_refusal_109 : decode cX6_refusal 109 = .ok (.iconst (-1), 1) := by decide +kernel
theorem dX6_refusal_110 : decode cX6_refusal 110 = .ok (.goto 13, 3) := by decide +kernel
theorem dX6_refusal_113 : decode cX6_refusal 113 = .ok (.iload_n 2, 1) := by decide +kernel
theorem dX6_refusal_114 : decode cX6_refusal 114 = .ok (.ifCond .eq 7, 3) := by decide +kernel
theorem dX6_refusal_117 : decode cX6_refusal 117 = .ok (.iconst 0, 1) := by decide +kernel
theorem dX6_refusal_118 : decode cX6_refusal 118 = .ok (.goto 5, 3) := by decide +kernel
theorem dX6_refusal_121 : decode cX6_refusal 121 = .ok (.bipush (-4), 2) := by decide +kernel
theorem dX6_refusal_123 : decode cX6_refusal 123 = .ok (.ireturn, 1) := by decide +kernel
set_option maxRecDepth 20000 in
theorem ggX6_readAll_X6_isText : GoodIn wsX6_readAll wsX6_isText := goodIn_r _ [8, 1, 2, 9, 10, 11, 12, 7, 13, 3, 14, 15, 16, 17, 18, 19, 20, 21, 22, 23, 24, 25, 26, 27, 28, 29, 56, 57, 58, 59, 60, 61, 62, 63, 64, 65, 66, 67, 68, 69, 70, 71] (by decide +kernel) (by decide +kernel)
set_option maxRecDepth 20000 in
theorem gX6_readAll_X6_isText : GoodIn wsX6_readAll (wsV RX6 167 RX6 yX6_isText wsX6_isText) := goodIn_app (goodIn_of _ (by decide +kernel)) ggX6_readAll_X6_isText
set_option maxRecDepth 20000 in
theorem ggX6_readAll_X6_refusal : GoodIn wsX6_readAll wsX6_refusal := goodIn_r _ [33, 2, 3, 34, 35, 36, 7, 37, 38, 23, 24, 25, 39, 40, 41, 42, 56, 57, 58, 59, 60, 61, 62, 63, 64, 65, 66, 67, 68, 69, 70, 71] (by decide +kernel) (by decide +kernel)
set_option maxRecDepth 20000 in
theorem gX6_readAll_X6_refusal : GoodIn wsX6_readAll (wsV RX6 170 RX6 yX6_refusal wsX6_refusal) := goodIn_app (goodIn_of _ (by decide +kernel)) ggX6_readAll_X6_refusal
set_option maxRecDepth 20000 in
theorem ggX6_readAll_X6_records : GoodIn wsX6_readAll wsX6_records := goodIn_r _ [46, 47, 48, 38, 49, 50, 7, 51, 56, 57, 58, 59, 60, 61, 62, 63, 64, 65, 66, 67, 68, 69, 70, 71] (by decide +kernel) (by decide +kernel)
set_option maxRecDepth 20000 in
theorem gX6_readAll_X6_records : GoodIn wsX6_readAll (wsV RX6 57 RX6 yX6_records wsX6_records) := goodIn_app (goodIn_of _ (by decide +kernel)) ggX6_readAll_X6_records
set_option maxRecDepth 20000 in
theorem ggX6_readAll_X6_puts : GoodIn wsX6_readAll wsX6_puts := goodIn_r _ [55, 38, 56, 57, 58, 59, 60, 61, 62, 63, 64, 65, 66, 67, 68, 69, 70, 71] (by decide +kernel) (by decide +kernel)
set_option maxRecDepth 20000 in
theorem gX6_readAll_X6_puts : GoodIn wsX6_readAll (wsV RX6 118 RX6 yX6_puts wsX6_puts) := goodIn_app (goodIn_of _ (by decide +kernel)) ggX6_readAll_X6_puts
set_option maxRecDepth 20000 in
theorem ggX6_readAll_X6_of : GoodIn wsX6_readAll wsX6_of := goodIn_r _ [42, 38, 56, 57, 58, 59, 60, 61, 62, 63, 64, 65, 66, 67, 68, 69, 70, 71] (by decide +kernel) (by decide +kernel)
set_option maxRecDepth 20000 in
theorem gX6_readAll_X6_of : GoodIn wsX6_readAll (wsV RX6 68 RX6 yX6_of wsX6_of) := goodIn_app (goodIn_of _ (by decide +kernel)) ggX6_readAll_X6_of
theorem dX6_readAll_0 : decode cX6_readAll 0 = .ok (.aload_n 0, 1) := by decide +kernel
theorem dX6_readAll_1 : decode cX6_readAll 1 = .ok (.invokevirtual 167, 3) := by decide +kernel
theorem dX6_readAll_4 : decode cX6_readAll 4 = .ok (.ifCond .ne 11, 3) := by decide +kernel
theorem dX6_readAll_7 : decode cX6_readAll 7 = .ok (.bipush (-100), 2) := by decide +kernel
theorem dX6_readAll_9 : decode cX6_readAll 9 = .ok (.aload_n 0, 1) := by decide +kernel
theorem dX6_readAll_10 : decode cX6_readAll 10 = .ok (.getfield 146, 3) := by decide +kernel
theorem dX6_readAll_13 : decode cX6_readAll 13 = .ok (.isub, 1) := by decide +kernel
theorem dX6_readAll_14 : decode cX6_readAll 14 = .ok (.ireturn, 1) := by decide +kernel
theorem dX6_readAll_15 : decode cX6_readAll 15 = .ok (.aload_n 0, 1) := by decide +kernel
theorem dX6_readAll_16 : decode cX6_readAll 16 = .ok (.invokevirtual 170, 3) := by decide +kernel
theorem dX6_readAll_19 : decode cX6_readAll 19 = .ok (.istore_n 1, 1) := by decide +kernel
theorem dX6_readAll_20 : decode cX6_readAll 20 = .ok (.iload_n 1, 1) := by decide +kernel
theorem dX6_readAll_21 : decode cX6_readAll 21 = .ok (.ifCond .ge 5, 3) := by decide +kernel
theorem dX6_readAll_24 : decode cX6_readAll 24 = .ok (.iload_n 1, 1) := by decide +kernel
theorem dX6_readAll_25 : decode cX6_readAll 25 = .ok (.ireturn, 1) := by decide +kernel
theorem dX6_readAll_26 : decode cX6_readAll 26 = .ok (.aload_n 0, 1) := by decide +kernel
theorem dX6_readAll_27 : decode cX6_readAll 27 = .ok (.invokevirtual 57, 3) := by decide +kernel
theorem dX6_readAll_30 : decode cX6_readAll 30 = .ok (.iconst 0, 1) := by decide +kernel
theorem dX6_readAll_31 : decode cX6_readAll 31 = .ok (.istore_n 2, 1) := by decide +kernel
theorem dX6_readAll_32 : decode cX6_readAll 32 = .ok (.iload_n 2, 1) := by decide +kernel
theorem dX6_readAll_33 : decode cX6_readAll 33 = .ok (.aload_n 0, 1) := by decide +kernel
theorem dX6_readAll_34 : decode cX6_readAll 34 = .ok (.getfield 160, 3) := by decide +kernel
theorem dX6_readAll_37 : decode cX6_readAll 37 = .ok (.if_icmp .ge 80, 3) := by decide +kernel
theorem dX6_readAll_40 : decode cX6_readAll 40 = .ok (.aload_n 0, 1) := by decide +kernel
theorem dX6_readAll_41 : decode cX6_readAll 41 = .ok (.getfield 42, 3) := by decide +kernel
theorem dX6_readAll_44 : decode cX6_readAll 44 = .ok (.iconst 2, 1) := by decide +kernel
theorem dX6_readAll_45 : decode cX6_readAll 45 = .ok (.iload_n 2, 1) := by decide +kernel
theorem dX6_readAll_46 : decode cX6_readAll 46 = .ok (.imul, 1) := by decide +kernel
theorem dX6_readAll_47 : decode cX6_readAll 47 = .ok (.iconst 1, 1) := by decide +kernel
theorem dX6_readAll_48 : decode cX6_readAll 48 = .ok (.iadd, 1) := by decide +kernel
theorem dX6_readAll_49 : decode cX6_readAll 49 = .ok (.iaload, 1) := by decide +kernel
theorem dX6_readAll_50 : decode cX6_readAll 50 = .ok (.istore_n 3, 1) := by decide +kernel
theorem dX6_readAll_51 : decode cX6_readAll 51 = .ok (.aload_n 0, 1) := by decide +kernel
theorem dX6_readAll_52 : decode cX6_readAll 52 = .ok (.aload_n 0, 1) := by decide +kernel
theorem dX6_readAll_53 : decode cX6_readAll 53 = .ok (.getfield 42, 3) := by decide +kernel
theorem dX6_readAll_56 : decode cX6_readAll 56 = .ok (.iconst 2, 1) := by decide +kernel
theorem dX6_readAll_57 : decode cX6_readAll 57 = .ok (.iload_n 2, 1) := by decide +kernel
theorem dX6_readAll_58 : decode cX6_readAll 58 = .ok (.imul, 1) := by decide +kernel
theorem dX6_readAll_59 : decode cX6_readAll 59 = .ok (.iaload, 1) := by decide +kernel
theorem dX6_readAll_60 : decode cX6_readAll 60 = .ok (.iconst 4, 1) := by decide +kernel
theorem dX6_readAll_61 : decode cX6_readAll 61 = .ok (.iload_n 3, 1) := by decide +kernel
theorem dX6_readAll_62 : decode cX6_readAll 62 = .ok (.bipush (-5), 2) := by decide +kernel
theorem dX6_readAll_64 : decode cX6_readAll 64 = .ok (.if_icmp .ne 7, 3) := by decide +kernel
theorem dX6_readAll_67 : decode cX6_readAll 67 = .ok (.iconst 1, 1) := by decide +kernel
theorem dX6_readAll_68 : decode cX6_readAll 68 = .ok (.goto 4, 3) := by decide +kernel
theorem dX6_readAll_71 : decode cX6_readAll 71 = .ok (.iconst 0, 1) := by decide +kernel
theorem dX6_readAll_72 : decode cX6_readAll 72 = .ok (.invokevirtual 118, 3) := by decide +kernel
theorem dX6_readAll_75 : decode cX6_readAll 75 = .ok (.aload_n 0, 1) := by decide +kernel
theorem dX6_readAll_76 : decode cX6_readAll 76 = .ok (.aload_n 0, 1) := by decide +kernel
theorem dX6_readAll_77 : decode cX6_readAll 77 = .ok (.getfield 42, 3) := by decide +kernel
theorem dX6_readAll_80 : decode cX6_readAll 80 = .ok (.iconst 2, 1) := by decide +kernel
theorem dX6_readAll_81 : decode cX6_readAll 81 = .ok (.iload_n 2, 1) := by decide +kernel
theorem dX6_readAll_82 : decode cX6_readAll 82 = .ok (.imul, 1) := by decide +kernel
theorem dX6_readAll_83 : decode cX6_readAll 83 = .ok (.iaload, 1) := by decide +kernel
theorem dX6_readAll_84 : decode cX6_readAll 84 = .ok (.iconst 3, 1) := by decide +kernel
theorem dX6_readAll_85 : decode cX6_readAll 85 = .ok (.iload_n 3, 1) := by decide +kernel
theorem dX6_readAll_86 : decode cX6_readAll 86 = .ok (.bipush (-5), 2) := by decide +kernel
theorem dX6_readAll_88 : decode cX6_readAll 88 = .ok (.if_icmp .ne 19, 3) := by decide +kernel
theorem dX6_readAll_91 : decode cX6_readAll 91 = .ok (.aload_n 0, 1) := by decide +kernel
theorem dX6_readAll_92 : decode cX6_readAll 92 = .ok (.aload_n 0, 1) := by decide +kernel
theorem dX6_readAll_93 : decode cX6_readAll 93 = .ok (.getfield 42, 3) := by decide +kernel
theorem dX6_readAll_96 : decode cX6_readAll 96 = .ok (.iconst 2, 1) := by decide +kernel
theorem dX6_readAll_97 : decode cX6_readAll 97 = .ok (.iload_n 2, 1) := by decide +kernel
theorem dX6_readAll_98 : decode cX6_readAll 98 = .ok (.imul, 1) := by decide +kernel
theorem dX6_readAll_99 : decode cX6_readAll 99 = .ok (.iaload, 1) := by decide +kernel
theorem dX6_readAll_100 : decode cX6_readAll 100 = .ok (.iconst 3, 1) := by decide +kernel
theorem dX6_readAll_101 : decode cX6_readAll 101 = .ok (.invokevirtual 68, 3) := by decide +kernel
theorem dX6_readAll_104 : decode cX6_readAll 104 = .ok (.goto 4, 3) := by decide +kernel
theorem dX6_readAll_107 : decode cX6_readAll 107 = .ok (.iload_n 3, 1) := by decide +kernel
theorem dX6_readAll_108 : decode cX6_readAll 108 = .ok (.invokevirtual 118, 3) := by decide +kernel
theorem dX6_readAll_111 : decode cX6_readAll 111 = .ok (.iinc 2 1, 3) := by decide +kernel
theorem dX6_readAll_114 : decode cX6_readAll 114 = .ok (.goto (-82), 3) := by decide +kernel
theorem dX6_readAll_117 : decode cX6_readAll 117 = .ok (.aload_n 0, 1) := by decide +kernel
theorem dX6_readAll_118 : decode cX6_readAll 118 = .ok (.getfield 160, 3) := by decide +kernel
theorem dX6_readAll_121 : decode cX6_readAll 121 = .ok (.ireturn, 1) := by decide +kernel
set_option maxRecDepth 20000 in
theorem ggX6_devicesOf_X6_of : GoodIn wsX6_devicesOf wsX6_of := goodIn_r _ [6, 1, 7, 8, 9, 10, 11, 12, 13, 14, 15, 16, 17, 18, 19, 20, 21, 22] (by decide +kernel) (by decide +kernel)
set_option maxRecDepth 20000 in
theorem gX6_devicesOf_X6_of : GoodIn wsX6_devicesOf (wsV RX6 68 RX6 yX6_of wsX6_of) := goodIn_app (goodIn_of _ (by decide +kernel)) ggX6_devicesOf_X6_of
theorem dX6_devicesOf_0 : decode cX6_devicesOf 0 = .ok (.iconst 0, 1) := by decide +kernel
theorem dX6_devicesOf_1 : decode cX6_devicesOf 1 = .ok (.istore_n 2, 1) := by decide +kernel
theorem dX6_devicesOf_2 : decode cX6_devicesOf 2 = .ok (.iconst 0, 1) := by decide +kernel
theorem dX6_devicesOf_3 : decode cX6_devicesOf 3 = .ok (.istore_n 3, 1) := by decide +kernel
theorem dX6_devicesOf_4 : decode cX6_devicesOf 4 = .ok (.iload_n 3, 1) := by decide +kernel
theorem dX6_devicesOf_5 : decode cX6_devicesOf 5 = .ok (.aload_n 0, 1) := by decide +kernel
theorem dX6_devicesOf_6 : decode cX6_devicesOf 6 = .ok (.getfield 7, 3) := by decide +kernel
theorem dX6_devicesOf_9 : decode cX6_devicesOf 9 = .ok (.iconst 1, 1) := by decide +kernel
theorem dX6_devicesOf_10 : decode cX6_devicesOf 10 = .ok (.iaload, 1) := by decide +kernel
theorem dX6_devicesOf_11 : decode cX6_devicesOf 11 = .ok (.if_icmp .ge 29, 3) := by decide +kernel
theorem dX6_devicesOf_14 : decode cX6_devicesOf 14 = .ok (.iload_n 2, 1) := by decide +kernel
theorem dX6_devicesOf_15 : decode cX6_devicesOf 15 = .ok (.aload_n 0, 1) := by decide +kernel
theorem dX6_devicesOf_16 : decode cX6_devicesOf 16 = .ok (.iload_n 3, 1) := by decide +kernel
theorem dX6_devicesOf_17 : decode cX6_devicesOf 17 = .ok (.iconst 0, 1) := by decide +kernel
theorem dX6_devicesOf_18 : decode cX6_devicesOf 18 = .ok (.invokevirtual 68, 3) := by decide +kernel
theorem dX6_devicesOf_21 : decode cX6_devicesOf 21 = .ok (.iload_n 1, 1) := by decide +kernel
theorem dX6_devicesOf_22 : decode cX6_devicesOf 22 = .ok (.if_icmp .ne 9, 3) := by decide +kernel
theorem dX6_devicesOf_25 : decode cX6_devicesOf 25 = .ok (.iconst 1, 1) := by decide +kernel
theorem dX6_devicesOf_26 : decode cX6_devicesOf 26 = .ok (.iload_n 3, 1) := by decide +kernel
theorem dX6_devicesOf_27 : decode cX6_devicesOf 27 = .ok (.ishl, 1) := by decide +kernel
theorem dX6_devicesOf_28 : decode cX6_devicesOf 28 = .ok (.goto 4, 3) := by decide +kernel
theorem dX6_devicesOf_31 : decode cX6_devicesOf 31 = .ok (.iconst 0, 1) := by decide +kernel
theorem dX6_devicesOf_32 : decode cX6_devicesOf 32 = .ok (.ior, 1) := by decide +kernel
theorem dX6_devicesOf_33 : decode cX6_devicesOf 33 = .ok (.istore_n 2, 1) := by decide +kernel
theorem dX6_devicesOf_34 : decode cX6_devicesOf 34 = .ok (.iinc 3 1, 3) := by decide +kernel
theorem dX6_devicesOf_37 : decode cX6_devicesOf 37 = .ok (.goto (-33), 3) := by decide +kernel
theorem dX6_devicesOf_40 : decode cX6_devicesOf 40 = .ok (.iload_n 2, 1) := by decide +kernel
theorem dX6_devicesOf_41 : decode cX6_devicesOf 41 = .ok (.ireturn, 1) := by decide +kernel
set_option maxRecDepth 20000 in
theorem ggX6_flat_X6_isFlat : GoodIn wsX6_flat wsX6_isFlat := goodIn_r _ [9, 1, 10, 11, 8, 12, 68, 69, 70, 71, 72, 73, 74, 75, 76, 77, 78, 79, 80, 81, 82, 83] (by decide +kernel) (by decide +kernel)
set_option maxRecDepth 20000 in
theorem gX6_flat_X6_isFlat : GoodIn wsX6_flat (wsV RX6 114 RX6 yX6_isFlat wsX6_isFlat) := goodIn_app (goodIn_of _ (by decide +kernel)) ggX6_flat_X6_isFlat
set_option maxRecDepth 20000 in
theorem ggX6_flat_X6_laysOpen : GoodIn wsX6_flat wsX6_laysOpen := goodIn_r _ [16, 1, 17, 18, 19, 8, 20, 2, 21, 22, 23, 24, 25, 26, 27, 28, 29, 30, 31, 32, 33, 34, 35, 36, 37, 38, 39, 40, 41, 42, 43, 3, 44, 45, 4, 46, 47, 48, 49, 50, 51, 52, 53, 54, 55, 56, 57, 58, 59, 60, 61, 62, 63, 68, 69, 70, 71, 72, 73, 74, 75, 76, 77, 78, 79, 80, 81, 82, 83] (by decide +kernel) (by decide +kernel)
set_option maxRecDepth 20000 in
theorem gX6_flat_X6_laysOpen : GoodIn wsX6_flat (wsV RX6 129 RX6 yX6_laysOpen wsX6_laysOpen) := goodIn_app (goodIn_of _ (by decide +kernel)) ggX6_flat_X6_laysOpen
set_option maxRecDepth 20000 in
theorem ggX6_flat_X6_ofFlat : GoodIn wsX6_flat wsX6_ofFlat := goodIn_r _ [53, 1, 68, 69, 70, 71, 72, 73, 74, 75, 76, 77, 78, 79, 80, 81, 82, 83] (by decide +kernel) (by decide +kernel)
set_option maxRecDepth 20000 in
theorem gX6_flat_X6_ofFlat : GoodIn wsX6_flat (wsV RX6 87 RX6 yX6_ofFlat wsX6_ofFlat) := goodIn_app (goodIn_of _ (by decide +kernel)) ggX6_flat_X6_ofFlat
set_option maxRecDepth 20000 in
theorem ggX6_flat_X6_devicesOf : GoodIn wsX6_flat wsX6_devicesOf := goodIn_r _ [67, 1, 21, 22, 23, 8, 24, 68, 69, 70, 71, 72, 73, 74, 75, 76, 77, 78, 79, 80, 81, 82, 83] (by decide +kernel) (by decide +kernel)
set_option maxRecDepth 20000 in
theorem gX6_flat_X6_devicesOf : GoodIn wsX6_flat (wsV RX6 173 RX6 yX6_devicesOf wsX6_devicesOf) := goodIn_app (goodIn_of _ (by decide +kernel)) ggX6_flat_X6_devicesOf
theorem dX6_flat_0 : decode cX6_flat 0 = .ok (.aload_n 0, 1) := by decide +kernel
theorem dX6_flat_1 : decode cX6_flat 1 = .ok (.iload_n 1, 1) := by decide +kernel
theorem dX6_flat_2 : decode cX6_flat 2 = .ok (.invokevirtual 114, 3) := by decide +kernel
theorem dX6_flat_5 : decode cX6_flat 5 = .ok (.ifCond .ne 5, 3) := by decide +kernel
theorem dX6_flat_8 : decode cX6_flat 8 = .ok (.iconst (-1), 1) := by decide +kernel
theorem dX6_flat_9 : decode cX6_flat 9 = .ok (.ireturn, 1) := by decide +kernel
theorem dX6_flat_10 : decode cX6_flat 10 = .ok (.aload_n 0, 1) := by decide +kernel
theorem dX6_flat_11 : decode cX6_flat 11 = .ok (.aload_n 0, 1) := by decide +kernel
theorem dX6_flat_12 : decode cX6_flat 12 = .ok (.getfield 7, 3) := by decide +kernel
theorem dX6_flat_15 : decode cX6_flat 15 = .ok (.iconst 4, 1) := by decide +kernel
theorem dX6_flat_16 : decode cX6_flat 16 = .ok (.iaload, 1) := by decide +kernel
theorem dX6_flat_17 : decode cX6_flat 17 = .ok (.invokevirtual 129, 3) := by decide +kernel
theorem dX6_flat_20 : decode cX6_flat 20 = .ok (.iload_n 2, 1) := by decide +kernel
theorem dX6_flat_21 : decode cX6_flat 21 = .ok (.tableswitch 123 0 7 #[47, 54, 60, 67, 74, 81, 95, 116], 47) := by decide +kernel
theorem dX6_flat_68 : decode cX6_flat 68 = .ok (.aload_n 0, 1) := by decide +kernel
theorem dX6_flat_69 : decode cX6_flat 69 = .ok (.iload_n 1, 1) := by decide +kernel
theorem dX6_flat_70 : decode cX6_flat 70 = .ok (.iconst 0, 1) := by decide +kernel
theorem dX6_flat_71 : decode cX6_flat 71 = .ok (.invokevirtual 87, 3) := by decide +kernel
theorem dX6_flat_74 : decode cX6_flat 74 = .ok (.ireturn, 1) := by decide +kernel
theorem dX6_flat_75 : decode cX6_flat 75 = .ok (.aload_n 0, 1) := by decide +kernel
theorem dX6_flat_76 : decode cX6_flat 76 = .ok (.iload_n 1, 1) := by decide +kernel
theorem dX6_flat_77 : decode cX6_flat 77 = .ok (.invokevirtual 173, 3) := by decide +kernel
theorem dX6_flat_80 : decode cX6_flat 80 = .ok (.ireturn, 1) := by decide +kernel
theorem dX6_flat_81 : decode cX6_flat 81 = .ok (.aload_n 0, 1) := by decide +kernel
theorem dX6_flat_82 : decode cX6_flat 82 = .ok (.getfield 33, 3) := by decide +kernel
theorem dX6_flat_85 : decode cX6_flat 85 = .ok (.iload_n 1, 1) := by decide +kernel
theorem dX6_flat_86 : decode cX6_flat 86 = .ok (.iaload, 1) := by decide +kernel
theorem dX6_flat_87 : decode cX6_flat 87 = .ok (.ireturn, 1) := by decide +kernel
theorem dX6_flat_88 : decode cX6_flat 88 = .ok (.aload_n 0, 1) := by decide +kernel
theorem dX6_flat_89 : decode cX6_flat 89 = .ok (.getfield 36, 3) := by decide +kernel
theorem dX6_flat_92 : decode cX6_flat 92 = .ok (.iload_n 1, 1) := by decide +kernel
theorem dX6_flat_93 : decode cX6_flat 93 = .ok (.iaload, 1) := by decide +kernel
theorem dX6_flat_94 : decode cX6_flat 94 = .ok (.ireturn, 1) := by decide +kernel
theorem dX6_flat_95 : decode cX6_flat 95 = .ok (.aload_n 0, 1) := by decide +kernel
theorem dX6_flat_96 : decode cX6_flat 96 = .ok (.getfield 39, 3) := by decide +kernel
theorem dX6_flat_99 : decode cX6_flat 99 = .ok (.iload_n 1, 1) := by decide +kernel
theorem dX6_flat_100 : decode cX6_flat 100 = .ok (.iaload, 1) := by decide +kernel
theorem dX6_flat_101 : decode cX6_flat 101 = .ok (.ireturn, 1) := by decide +kernel
theorem dX6_flat_102 : decode cX6_flat 102 = .ok (.aload_n 0, 1) := by decide +kernel
theorem dX6_flat_103 : decode cX6_flat 103 = .ok (.getfield 36, 3) := by decide +kernel
theorem dX6_flat_106 : decode cX6_flat 106 = .ok (.iload_n 1, 1) := by decide +kernel
theorem dX6_flat_107 : decode cX6_flat 107 = .ok (.iaload, 1) := by decide +kernel
theorem dX6_flat_108 : decode cX6_flat 108 = .ok (.aload_n 0, 1) := by decide +kernel
theorem dX6_flat_109 : decode cX6_flat 109 = .ok (.getfield 39, 3) := by decide +kernel
theorem dX6_flat_112 : decode cX6_flat 112 = .ok (.iload_n 1, 1) := by decide +kernel
theorem dX6_flat_113 : decode cX6_flat 113 = .ok (.iaload, 1) := by decide +kernel
theorem dX6_flat_114 : decode cX6_flat 114 = .ok (.iadd, 1) := by decide +kernel
theorem dX6_flat_115 : decode cX6_flat 115 = .ok (.ireturn, 1) := by decide +kernel
theorem dX6_flat_116 : decode cX6_flat 116 = .ok (.aload_n 0, 1) := by decide +kernel
theorem dX6_flat_117 : decode cX6_flat 117 = .ok (.iload_n 1, 1) := by decide +kernel
theorem dX6_flat_118 : decode cX6_flat 118 = .ok (.iconst 1, 1) := by decide +kernel
theorem dX6_flat_119 : decode cX6_flat 119 = .ok (.invokevirtual 87, 3) := by decide +kernel
theorem dX6_flat_122 : decode cX6_flat 122 = .ok (.ifCond .ne 8, 3) := by decide +kernel
theorem dX6_flat_125 : decode cX6_flat 125 = .ok (.bipush (-5), 2) := by decide +kernel
theorem dX6_flat_127 : decode cX6_flat 127 = .ok (.goto 9, 3) := by decide +kernel
theorem dX6_flat_130 : decode cX6_flat 130 = .ok (.aload_n 0, 1) := by decide +kernel
theorem dX6_flat_131 : decode cX6_flat 131 = .ok (.iload_n 1, 1) := by decide +kernel
theorem dX6_flat_132 : decode cX6_flat 132 = .ok (.iconst 1, 1) := by decide +kernel
theorem dX6_flat_133 : decode cX6_flat 133 = .ok (.invokevirtual 87, 3) := by decide +kernel
theorem dX6_flat_136 : decode cX6_flat 136 = .ok (.ireturn, 1) := by decide +kernel
theorem dX6_flat_137 : decode cX6_flat 137 = .ok (.aload_n 0, 1) := by decide +kernel
theorem dX6_flat_138 : decode cX6_flat 138 = .ok (.iload_n 1, 1) := by decide +kernel
theorem dX6_flat_139 : decode cX6_flat 139 = .ok (.iconst 2, 1) := by decide +kernel
theorem dX6_flat_140 : decode cX6_flat 140 = .ok (.invokevirtual 87, 3) := by decide +kernel
theorem dX6_flat_143 : decode cX6_flat 143 = .ok (.ireturn, 1) := by decide +kernel
theorem dX6_flat_144 : decode cX6_flat 144 = .ok (.bipush (-2), 2) := by decide +kernel
theorem dX6_flat_146 : decode cX6_flat 146 = .ok (.ireturn, 1) := by decide +kernel
set_option maxRecDepth 20000 in
theorem ggX6_device_X6_isDevice : GoodIn wsX6_device wsX6_isDevice := goodIn_r _ [5, 6, 7, 8, 4, 9, 29, 30, 31, 32, 33, 34, 35, 36, 37, 38, 39, 40, 41, 42, 43, 44] (by decide +kernel) (by decide +kernel)
set_option maxRecDepth 20000 in
theorem gX6_device_X6_isDevice : GoodIn wsX6_device (wsV RX6 123 RX6 yX6_isDevice wsX6_isDevice) := goodIn_app (goodIn_of _ (by decide +kernel)) ggX6_device_X6_isDevice
set_option maxRecDepth 20000 in
theorem ggX6_device_X6_in : GoodIn wsX6_device wsX6_in := goodIn_r _ [9] (by decide +kernel) (by decide +kernel)
set_option maxRecDepth 20000 in
theorem gX6_device_X6_in : GoodIn wsX6_device (va_wsS RX6 60 yX6_in wsX6_in) := goodIn_app (goodIn_of _ (by decide +kernel)) ggX6_device_X6_in
set_option maxRecDepth 20000 in
theorem ggX6_device_X6_unitsNow : GoodIn wsX6_device wsX6_unitsNow := goodIn_r _ [13, 6, 14, 15, 16, 4, 17, 18, 19, 20, 21, 22, 23, 24, 25, 26, 27, 28, 29, 30, 31, 32, 33, 34, 35, 36, 37, 38, 39, 40, 41, 42, 43, 44] (by decide +kernel) (by decide +kernel)
set_option maxRecDepth 20000 in
theorem gX6_device_X6_unitsNow : GoodIn wsX6_device (wsV RX6 97 RX6 yX6_unitsNow wsX6_unitsNow) := goodIn_app (goodIn_of _ (by decide +kernel)) ggX6_device_X6_unitsNow
set_option maxRecDepth 20000 in
theorem ggX6_device_X6_of : GoodIn wsX6_device wsX6_of := goodIn_r _ [17, 6, 29, 30, 31, 32, 33, 34, 35, 36, 37, 38, 39, 40, 41, 42, 43, 44] (by decide +kernel) (by decide +kernel)
set_option maxRecDepth 20000 in
theorem gX6_device_X6_of : GoodIn wsX6_device (wsV RX6 68 RX6 yX6_of wsX6_of) := goodIn_app (goodIn_of _ (by decide +kernel)) ggX6_device_X6_of
theorem dX6_device_0 : decode cX6_device 0 = .ok (.aload_n 0, 1) := by decide +kernel
theorem dX6_device_1 : decode cX6_device 1 = .ok (.iload_n 1, 1) := by decide +kernel
theorem dX6_device_2 : decode cX6_device 2 = .ok (.invokevirtual 123, 3) := by decide +kernel
theorem dX6_device_5 : decode cX6_device 5 = .ok (.ifCond .ne 5, 3) := by decide +kernel
theorem dX6_device_8 : decode cX6_device 8 = .ok (.iconst (-1), 1) := by decide +kernel
theorem dX6_device_9 : decode cX6_device 9 = .ok (.ireturn, 1) := by decide +kernel
theorem dX6_device_10 : decode cX6_device 10 = .ok (.iload_n 2, 1) := by decide +kernel
theorem dX6_device_11 : decode cX6_device 11 = .ok (.iconst 0, 1) := by decide +kernel
theorem dX6_device_12 : decode cX6_device 12 = .ok (.iconst 5, 1) := by decide +kernel
theorem dX6_device_13 : decode cX6_device 13 = .ok (.invokestatic 60, 3) := by decide +kernel
theorem dX6_device_16 : decode cX6_device 16 = .ok (.ifCond .ne 8, 3) := by decide +kernel
theorem dX6_device_19 : decode cX6_device 19 = .ok (.bipush (-2), 2) := by decide +kernel
theorem dX6_device_21 : decode cX6_device 21 = .ok (.goto 22, 3) := by decide +kernel
theorem dX6_device_24 : decode cX6_device 24 = .ok (.iload_n 2, 1) := by decide +kernel
theorem dX6_device_25 : decode cX6_device 25 = .ok (.iconst 5, 1) := by decide +kernel
theorem dX6_device_26 : decode cX6_device 26 = .ok (.if_icmp .ne 11, 3) := by decide +kernel
theorem dX6_device_29 : decode cX6_device 29 = .ok (.aload_n 0, 1) := by decide +kernel
theorem dX6_device_30 : decode cX6_device 30 = .ok (.iload_n 1, 1) := by decide +kernel
theorem dX6_device_31 : decode cX6_device 31 = .ok (.invokevirtual 97, 3) := by decide +kernel
theorem dX6_device_34 : decode cX6_device 34 = .ok (.goto 9, 3) := by decide +kernel
theorem dX6_device_37 : decode cX6_device 37 = .ok (.aload_n 0, 1) := by decide +kernel
theorem dX6_device_38 : decode cX6_device 38 = .ok (.iload_n 1, 1) := by decide +kernel
theorem dX6_device_39 : decode cX6_device 39 = .ok (.iload_n 2, 1) := by decide +kernel
theorem dX6_device_40 : decode cX6_device 40 = .ok (.invokevirtual 68, 3) := by decide +kernel
theorem dX6_device_43 : decode cX6_device 43 = .ok (.ireturn, 1) := by decide +kernel
set_option maxRecDepth 20000 in
theorem ggX6_draft_X6_isFlat : GoodIn wsX6_draft wsX6_isFlat := goodIn_r _ [6, 1, 7, 8, 5, 9, 78, 79, 80, 81, 82, 83, 84, 85, 86, 87, 88, 89, 90, 91, 92, 93] (by decide +kernel) (by decide +kernel)
set_option maxRecDepth 20000 in
theorem gX6_draft_X6_isFlat : GoodIn wsX6_draft (wsV RX6 114 RX6 yX6_isFlat wsX6_isFlat) := goodIn_app (goodIn_of _ (by decide +kernel)) ggX6_draft_X6_isFlat
set_option maxRecDepth 20000 in
theorem ggX6_draft_X6_ofFlat : GoodIn wsX6_draft wsX6_ofFlat := goodIn_r _ [13, 1, 78, 79, 80, 81, 82, 83, 84, 85, 86, 87, 88, 89, 90, 91, 92, 93] (by decide +kernel) (by decide +kernel)
set_option maxRecDepth 20000 in
theorem gX6_draft_X6_ofFlat : GoodIn wsX6_draft (wsV RX6 87 RX6 yX6_ofFlat wsX6_ofFlat) := goodIn_app (goodIn_of _ (by decide +kernel)) ggX6_draft_X6_ofFlat
set_option maxRecDepth 20000 in
theorem ggX6_draft_X6_laysOpen : GoodIn wsX6_draft wsX6_laysOpen := goodIn_r _ [17, 1, 18, 19, 20, 5, 21, 22, 23, 24, 25, 26, 27, 28, 29, 30, 31, 32, 33, 34, 35, 36, 37, 38, 39, 40, 41, 42, 43, 44, 45, 46, 47, 48, 49, 50, 51, 52, 53, 10, 11, 12, 13, 54, 55, 56, 57, 58, 59, 60, 61, 62, 63, 78, 79, 80, 81, 82, 83, 84, 85, 86, 87, 88, 89, 90, 91, 92, 93] (by decide +kernel) (by decide +kernel)
set_option maxRecDepth 20000 in
theorem gX6_draft_X6_laysOpen : GoodIn wsX6_draft (wsV RX6 129 RX6 yX6_laysOpen wsX6_laysOpen) := goodIn_app (goodIn_of _ (by decide +kernel)) ggX6_draft_X6_laysOpen
set_option maxRecDepth 20000 in
theorem ggX6_draft_X6_tenantOf : GoodIn wsX6_draft wsX6_tenantOf := goodIn_r _ [67, 46, 49, 68, 69, 70, 5, 71, 72, 73, 74, 75, 76, 77, 78, 79, 80, 81, 82, 83, 84, 85, 86, 87, 88, 89, 90, 91, 92, 93] (by decide +kernel) (by decide +kernel)
set_option maxRecDepth 20000 in
theorem gX6_draft_X6_tenantOf : GoodIn wsX6_draft (wsV RX6 132 RX6 yX6_tenantOf wsX6_tenantOf) := goodIn_app (goodIn_of _ (by decide +kernel)) ggX6_draft_X6_tenantOf
theorem dX6_draft_0 : decode cX6_draft 0 = .ok (.aload_n 0, 1) := by decide +kernel
theorem dX6_draft_1 : decode cX6_draft 1 = .ok (.iload_n 1, 1) := by decide +kernel
theorem dX6_draft_2 : decode cX6_draft 2 = .ok (.invokevirtual 114, 3) := by decide +kernel
theorem dX6_draft_5 : decode cX6_draft 5 = .ok (.ifCond .eq 16, 3) := by decide +kernel
theorem dX6_draft_8 : decode cX6_draft 8 = .ok (.iload_n 2, 1) := by decide +kernel
theorem dX6_draft_9 : decode cX6_draft 9 = .ok (.ifCond .eq 14, 3) := by decide +kernel
theorem dX6_draft_12 : decode cX6_draft 12 = .ok (.aload_n 0, 1) := by decide +kernel
theorem dX6_draft_13 : decode cX6_draft 13 = .ok (.iload_n 1, 1) := by decide +kernel
theorem dX6_draft_14 : decode cX6_draft 14 = .ok (.iconst 1, 1) := by decide +kernel
theorem dX6_draft_15 : decode cX6_draft 15 = .ok (.invokevirtual 87, 3) := by decide +kernel
theorem dX6_draft_18 : decode cX6_draft 18 = .ok (.ifCond .ne 5, 3) := by decide +kernel
theorem dX6_draft_21 : decode cX6_draft 21 = .ok (.iconst (-1), 1) := by decide +kernel
theorem dX6_draft_22 : decode cX6_draft 22 = .ok (.ireturn, 1) := by decide +kernel
theorem dX6_draft_23 : decode cX6_draft 23 = .ok (.aload_n 0, 1) := by decide +kernel
theorem dX6_draft_24 : decode cX6_draft 24 = .ok (.aload_n 0, 1) := by decide +kernel
theorem dX6_draft_25 : decode cX6_draft 25 = .ok (.getfield 7, 3) := by decide +kernel
theorem dX6_draft_28 : decode cX6_draft 28 = .ok (.iconst 4, 1) := by decide +kernel
theorem dX6_draft_29 : decode cX6_draft 29 = .ok (.iaload, 1) := by decide +kernel
theorem dX6_draft_30 : decode cX6_draft 30 = .ok (.invokevirtual 129, 3) := by decide +kernel
theorem dX6_draft_33 : decode cX6_draft 33 = .ok (.aload_n 0, 1) := by decide +kernel
theorem dX6_draft_34 : decode cX6_draft 34 = .ok (.iload_n 1, 1) := by decide +kernel
theorem dX6_draft_35 : decode cX6_draft 35 = .ok (.iload_n 2, 1) := by decide +kernel
theorem dX6_draft_36 : decode cX6_draft 36 = .ok (.aload_n 0, 1) := by decide +kernel
theorem dX6_draft_37 : decode cX6_draft 37 = .ok (.iload_n 1, 1) := by decide +kernel
theorem dX6_draft_38 : decode cX6_draft 38 = .ok (.iconst 1, 1) := by decide +kernel
theorem dX6_draft_39 : decode cX6_draft 39 = .ok (.invokevirtual 87, 3) := by decide +kernel
theorem dX6_draft_42 : decode cX6_draft 42 = .ok (.aload_n 0, 1) := by decide +kernel
theorem dX6_draft_43 : decode cX6_draft 43 = .ok (.iload_n 1, 1) := by decide +kernel
theorem dX6_draft_44 : decode cX6_draft 44 = .ok (.iconst 2, 1) := by decide +kernel
theorem dX6_draft_45 : decode cX6_draft 45 = .ok (.invokevirtual 87, 3) := by decide +kernel
theorem dX6_draft_48 : decode cX6_draft 48 = .ok (.invokevirtual 132, 3) := by decide +kernel
