theorem dL_texts_182 : decode cL_texts 182 = .ok (.dup, 1) := by decide +kernel
theorem dL_texts_183 : decode cL_texts 183 = .ok (.invokespecial 83, 3) := by decide +kernel
theorem dL_texts_186 : decode cL_texts 186 = .ok (.astore_n 0, 1) := by decide +kernel
theorem dL_texts_187 : decode cL_texts 187 = .ok (.aload_n 0, 1) := by decide +kernel
theorem dL_texts_188 : decode cL_texts 188 = .ok (.bipush 9, 2) := by decide +kernel
theorem dL_texts_190 : decode cL_texts 190 = .ok (.invokevirtual 33, 3) := by decide +kernel
theorem dL_texts_193 : decode cL_texts 193 = .ok (.ifCond .ne 51, 3) := by decide +kernel
theorem dL_texts_196 : decode cL_texts 196 = .ok (.aload_n 0, 1) := by decide +kernel
theorem dL_texts_197 : decode cL_texts 197 = .ok (.iconst 0, 1) := by decide +kernel
theorem dL_texts_198 : decode cL_texts 198 = .ok (.iconst 2, 1) := by decide +kernel
theorem dL_texts_199 : decode cL_texts 199 = .ok (.invokevirtual 38, 3) := by decide +kernel
theorem dL_texts_202 : decode cL_texts 202 = .ok (.ifCond .ne 42, 3) := by decide +kernel
theorem dL_texts_205 : decode cL_texts 205 = .ok (.aload_n 0, 1) := by decide +kernel
theorem dL_texts_206 : decode cL_texts 206 = .ok (.iconst 0, 1) := by decide +kernel
theorem dL_texts_207 : decode cL_texts 207 = .ok (.iconst 3, 1) := by decide +kernel
theorem dL_texts_208 : decode cL_texts 208 = .ok (.invokevirtual 38, 3) := by decide +kernel
theorem dL_texts_211 : decode cL_texts 211 = .ok (.iconst 1, 1) := by decide +kernel
theorem dL_texts_212 : decode cL_texts 212 = .ok (.if_icmp .ne 32, 3) := by decide +kernel
theorem dL_texts_215 : decode cL_texts 215 = .ok (.aload_n 0, 1) := by decide +kernel
theorem dL_texts_216 : decode cL_texts 216 = .ok (.iconst 0, 1) := by decide +kernel
theorem dL_texts_217 : decode cL_texts 217 = .ok (.bipush 50, 2) := by decide +kernel
theorem dL_texts_219 : decode cL_texts 219 = .ok (.invokevirtual 45, 3) := by decide +kernel
theorem dL_texts_222 : decode cL_texts 222 = .ok (.bipush 100, 2) := by decide +kernel
theorem dL_texts_224 : decode cL_texts 224 = .ok (.if_icmp .ne 20, 3) := by decide +kernel
theorem dL_texts_227 : decode cL_texts 227 = .ok (.aload_n 0, 1) := by decide +kernel
theorem dL_texts_228 : decode cL_texts 228 = .ok (.invokevirtual 91, 3) := by decide +kernel
theorem dL_texts_231 : decode cL_texts 231 = .ok (.ifCond .ne 13, 3) := by decide +kernel
theorem dL_texts_234 : decode cL_texts 234 = .ok (.aload_n 0, 1) := by decide +kernel
theorem dL_texts_235 : decode cL_texts 235 = .ok (.bipush 13, 2) := by decide +kernel
theorem dL_texts_237 : decode cL_texts 237 = .ok (.invokevirtual 13, 3) := by decide +kernel
theorem dL_texts_240 : decode cL_texts 240 = .ok (.iconst 4, 1) := by decide +kernel
theorem dL_texts_241 : decode cL_texts 241 = .ok (.if_icmp .eq 5, 3) := by decide +kernel
theorem dL_texts_244 : decode cL_texts 244 = .ok (.iconst 0, 1) := by decide +kernel
theorem dL_texts_245 : decode cL_texts 245 = .ok (.ireturn, 1) := by decide +kernel
theorem dL_texts_246 : decode cL_texts 246 = .ok (.aload_n 0, 1) := by decide +kernel
theorem dL_texts_247 : decode cL_texts 247 = .ok (.ldc2_w 151, 3) := by decide +kernel
theorem dL_texts_250 : decode cL_texts 250 = .ok (.invokestatic 108, 3) := by decide +kernel
theorem dL_texts_253 : decode cL_texts 253 = .ok (.ifCond .eq 57, 3) := by decide +kernel
theorem dL_texts_256 : decode cL_texts 256 = .ok (.aload_n 0, 1) := by decide +kernel
theorem dL_texts_257 : decode cL_texts 257 = .ok (.invokevirtual 112, 3) := by decide +kernel
theorem dL_texts_260 : decode cL_texts 260 = .ok (.iconst (-1), 1) := by decide +kernel
theorem dL_texts_261 : decode cL_texts 261 = .ok (.if_icmp .ne 49, 3) := by decide +kernel
theorem dL_texts_264 : decode cL_texts 264 = .ok (.aload_n 0, 1) := by decide +kernel
theorem dL_texts_265 : decode cL_texts 265 = .ok (.invokevirtual 153, 3) := by decide +kernel
theorem dL_texts_268 : decode cL_texts 268 = .ok (.bipush 8, 2) := by decide +kernel
theorem dL_texts_270 : decode cL_texts 270 = .ok (.if_icmp .ne 40, 3) := by decide +kernel
theorem dL_texts_273 : decode cL_texts 273 = .ok (.aload_n 0, 1) := by decide +kernel
theorem dL_texts_274 : decode cL_texts 274 = .ok (.ldc2_w 156, 3) := by decide +kernel
theorem dL_texts_277 : decode cL_texts 277 = .ok (.invokestatic 108, 3) := by decide +kernel
theorem dL_texts_280 : decode cL_texts 280 = .ok (.ifCond .eq 30, 3) := by decide +kernel
theorem dL_texts_283 : decode cL_texts 283 = .ok (.aload_n 0, 1) := by decide +kernel
theorem dL_texts_284 : decode cL_texts 284 = .ok (.invokevirtual 112, 3) := by decide +kernel
theorem dL_texts_287 : decode cL_texts 287 = .ok (.bipush (-4), 2) := by decide +kernel
theorem dL_texts_289 : decode cL_texts 289 = .ok (.if_icmp .ne 21, 3) := by decide +kernel
theorem dL_texts_292 : decode cL_texts 292 = .ok (.aload_n 0, 1) := by decide +kernel
theorem dL_texts_293 : decode cL_texts 293 = .ok (.invokevirtual 153, 3) := by decide +kernel
theorem dL_texts_296 : decode cL_texts 296 = .ok (.bipush 8, 2) := by decide +kernel
theorem dL_texts_298 : decode cL_texts 298 = .ok (.if_icmp .ne 12, 3) := by decide +kernel
theorem dL_texts_301 : decode cL_texts 301 = .ok (.aload_n 0, 1) := by decide +kernel
theorem dL_texts_302 : decode cL_texts 302 = .ok (.iconst 1, 1) := by decide +kernel
theorem dL_texts_303 : decode cL_texts 303 = .ok (.iconst 4, 1) := by decide +kernel
theorem dL_texts_304 : decode cL_texts 304 = .ok (.invokevirtual 23, 3) := by decide +kernel
theorem dL_texts_307 : decode cL_texts 307 = .ok (.ifCond .eq 5, 3) := by decide +kernel
theorem dL_texts_310 : decode cL_texts 310 = .ok (.iconst 0, 1) := by decide +kernel
theorem dL_texts_311 : decode cL_texts 311 = .ok (.ireturn, 1) := by decide +kernel
theorem dL_texts_312 : decode cL_texts 312 = .ok (.aload_n 0, 1) := by decide +kernel
theorem dL_texts_313 : decode cL_texts 313 = .ok (.ldc2_w 158, 3) := by decide +kernel
theorem dL_texts_316 : decode cL_texts 316 = .ok (.invokestatic 108, 3) := by decide +kernel
theorem dL_texts_319 : decode cL_texts 319 = .ok (.ifCond .eq 90, 3) := by decide +kernel
theorem dL_texts_322 : decode cL_texts 322 = .ok (.aload_n 0, 1) := by decide +kernel
theorem dL_texts_323 : decode cL_texts 323 = .ok (.ldc2_w 160, 3) := by decide +kernel
theorem dL_texts_326 : decode cL_texts 326 = .ok (.invokestatic 108, 3) := by decide +kernel
theorem dL_texts_329 : decode cL_texts 329 = .ok (.ifCond .eq 80, 3) := by decide +kernel
theorem dL_texts_332 : decode cL_texts 332 = .ok (.aload_n 0, 1) := by decide +kernel
theorem dL_texts_333 : decode cL_texts 333 = .ok (.invokevirtual 112, 3) := by decide +kernel
theorem dL_texts_336 : decode cL_texts 336 = .ok (.iconst 3, 1) := by decide +kernel
theorem dL_texts_337 : decode cL_texts 337 = .ok (.if_icmp .ne 72, 3) := by decide +kernel
theorem dL_texts_340 : decode cL_texts 340 = .ok (.aload_n 0, 1) := by decide +kernel
theorem dL_texts_341 : decode cL_texts 341 = .ok (.iconst 1, 1) := by decide +kernel
theorem dL_texts_342 : decode cL_texts 342 = .ok (.iconst 4, 1) := by decide +kernel
theorem dL_texts_343 : decode cL_texts 343 = .ok (.invokevirtual 23, 3) := by decide +kernel
theorem dL_texts_346 : decode cL_texts 346 = .ok (.ifCond .ne 63, 3) := by decide +kernel
theorem dL_texts_349 : decode cL_texts 349 = .ok (.aload_n 0, 1) := by decide +kernel
theorem dL_texts_350 : decode cL_texts 350 = .ok (.iconst 1, 1) := by decide +kernel
theorem dL_texts_351 : decode cL_texts 351 = .ok (.iconst 3, 1) := by decide +kernel
theorem dL_texts_352 : decode cL_texts 352 = .ok (.invokevirtual 23, 3) := by decide +kernel
theorem dL_texts_355 : decode cL_texts 355 = .ok (.iconst 5, 1) := by decide +kernel
theorem dL_texts_356 : decode cL_texts 356 = .ok (.if_icmp .ne 53, 3) := by decide +kernel
theorem dL_texts_359 : decode cL_texts 359 = .ok (.aload_n 0, 1) := by decide +kernel
theorem dL_texts_360 : decode cL_texts 360 = .ok (.iconst 1, 1) := by decide +kernel
theorem dL_texts_361 : decode cL_texts 361 = .ok (.iconst 5, 1) := by decide +kernel
theorem dL_texts_362 : decode cL_texts 362 = .ok (.invokevirtual 23, 3) := by decide +kernel
theorem dL_texts_365 : decode cL_texts 365 = .ok (.bipush 15, 2) := by decide +kernel
theorem dL_texts_367 : decode cL_texts 367 = .ok (.if_icmp .ne 42, 3) := by decide +kernel
theorem dL_texts_370 : decode cL_texts 370 = .ok (.aload_n 0, 1) := by decide +kernel
theorem dL_texts_371 : decode cL_texts 371 = .ok (.iconst 0, 1) := by decide +kernel
theorem dL_texts_372 : decode cL_texts 372 = .ok (.iconst 5, 1) := by decide +kernel
theorem dL_texts_373 : decode cL_texts 373 = .ok (.invokevirtual 23, 3) := by decide +kernel
theorem dL_texts_376 : decode cL_texts 376 = .ok (.bipush 20, 2) := by decide +kernel
theorem dL_texts_378 : decode cL_texts 378 = .ok (.if_icmp .ne 31, 3) := by decide +kernel
theorem dL_texts_381 : decode cL_texts 381 = .ok (.aload_n 0, 1) := by decide +kernel
theorem dL_texts_382 : decode cL_texts 382 = .ok (.invokevirtual 153, 3) := by decide +kernel
theorem dL_texts_385 : decode cL_texts 385 = .ok (.bipush 12, 2) := by decide +kernel
theorem dL_texts_387 : decode cL_texts 387 = .ok (.if_icmp .ne 22, 3) := by decide +kernel
theorem dL_texts_390 : decode cL_texts 390 = .ok (.aload_n 0, 1) := by decide +kernel
theorem dL_texts_391 : decode cL_texts 391 = .ok (.invokevirtual 84, 3) := by decide +kernel
theorem dL_texts_394 : decode cL_texts 394 = .ok (.iconst 3, 1) := by decide +kernel
theorem dL_texts_395 : decode cL_texts 395 = .ok (.if_icmp .ne 14, 3) := by decide +kernel
theorem dL_texts_398 : decode cL_texts 398 = .ok (.aload_n 0, 1) := by decide +kernel
theorem dL_texts_399 : decode cL_texts 399 = .ok (.iconst 0, 1) := by decide +kernel
theorem dL_texts_400 : decode cL_texts 400 = .ok (.iconst 3, 1) := by decide +kernel
theorem dL_texts_401 : decode cL_texts 401 = .ok (.invokevirtual 23, 3) := by decide +kernel
theorem dL_texts_404 : decode cL_texts 404 = .ok (.bipush 50, 2) := by decide +kernel
theorem dL_texts_406 : decode cL_texts 406 = .ok (.if_icmp .eq 5, 3) := by decide +kernel
theorem dL_texts_409 : decode cL_texts 409 = .ok (.iconst 0, 1) := by decide +kernel
theorem dL_texts_410 : decode cL_texts 410 = .ok (.ireturn, 1) := by decide +kernel
theorem dL_texts_411 : decode cL_texts 411 = .ok (.iconst 0, 1) := by decide +kernel
theorem dL_texts_412 : decode cL_texts 412 = .ok (.istore_n 1, 1) := by decide +kernel
theorem dL_texts_413 : decode cL_texts 413 = .ok (.iload_n 1, 1) := by decide +kernel
theorem dL_texts_414 : decode cL_texts 414 = .ok (.bipush 60, 2) := by decide +kernel
theorem dL_texts_416 : decode cL_texts 416 = .ok (.if_icmp .ge 23, 3) := by decide +kernel
theorem dL_texts_419 : decode cL_texts 419 = .ok (.aload_n 0, 1) := by decide +kernel
theorem dL_texts_420 : decode cL_texts 420 = .ok (.bipush 49, 2) := by decide +kernel
theorem dL_texts_422 : decode cL_texts 422 = .ok (.invokevirtual 104, 3) := by decide +kernel
theorem dL_texts_425 : decode cL_texts 425 = .ok (.iload_n 1, 1) := by decide +kernel
theorem dL_texts_426 : decode cL_texts 426 = .ok (.iconst 1, 1) := by decide +kernel
theorem dL_texts_427 : decode cL_texts 427 = .ok (.iadd, 1) := by decide +kernel
theorem dL_texts_428 : decode cL_texts 428 = .ok (.if_icmp .eq 5, 3) := by decide +kernel
theorem dL_texts_431 : decode cL_texts 431 = .ok (.iconst 0, 1) := by decide +kernel
theorem dL_texts_432 : decode cL_texts 432 = .ok (.ireturn, 1) := by decide +kernel
theorem dL_texts_433 : decode cL_texts 433 = .ok (.iinc 1 1, 3) := by decide +kernel
theorem dL_texts_436 : decode cL_texts 436 = .ok (.goto (-23), 3) := by decide +kernel
theorem dL_texts_439 : decode cL_texts 439 = .ok (.aload_n 0, 1) := by decide +kernel
theorem dL_texts_440 : decode cL_texts 440 = .ok (.bipush 49, 2) := by decide +kernel
theorem dL_texts_442 : decode cL_texts 442 = .ok (.invokevirtual 104, 3) := by decide +kernel
theorem dL_texts_445 : decode cL_texts 445 = .ok (.bipush (-3), 2) := by decide +kernel
theorem dL_texts_447 : decode cL_texts 447 = .ok (.if_icmp .ne 25, 3) := by decide +kernel
theorem dL_texts_450 : decode cL_texts 450 = .ok (.aload_n 0, 1) := by decide +kernel
theorem dL_texts_451 : decode cL_texts 451 = .ok (.invokevirtual 112, 3) := by decide +kernel
theorem dL_texts_454 : decode cL_texts 454 = .ok (.bipush (-102), 2) := by decide +kernel
theorem dL_texts_456 : decode cL_texts 456 = .ok (.if_icmp .ne 16, 3) := by decide +kernel
theorem dL_texts_459 : decode cL_texts 459 = .ok (.aload_n 0, 1) := by decide +kernel
theorem dL_texts_460 : decode cL_texts 460 = .ok (.invokevirtual 153, 3) := by decide +kernel
theorem dL_texts_463 : decode cL_texts 463 = .ok (.bipush 60, 2) := by decide +kernel
theorem dL_texts_465 : decode cL_texts 465 = .ok (.if_icmp .ne 7, 3) := by decide +kernel
theorem dL_texts_468 : decode cL_texts 468 = .ok (.iconst 1, 1) := by decide +kernel
theorem dL_texts_469 : decode cL_texts 469 = .ok (.goto 4, 3) := by decide +kernel
theorem dL_texts_472 : decode cL_texts 472 = .ok (.iconst 0, 1) := by decide +kernel
theorem dL_texts_473 : decode cL_texts 473 = .ok (.ireturn, 1) := by decide +kernel
set_option maxRecDepth 20000 in
theorem ggL_law_L_years : GoodIn wsL_law wsL_years := goodIn_app (a := [.code yL_years cL_years 3 (some .boolean)]) (goodIn_r _ [7] rfl (by decide +kernel)) (goodIn_app (goodIn_app (goodIn_app (goodIn_app (goodIn_app (goodIn_app (goodIn_app (goodIn_r wsL_years_r1 [0, 1, 2, 8, 9, 10, 11, 12, 13, 14, 15, 16, 17, 18, 19, 20, 21, 22, 23, 24, 25, 26, 27, 28] (by decide +kernel) (by decide +kernel)) (goodIn_app (goodIn_r wsL_years_r2 [29, 30, 31, 32, 33, 34, 35, 36, 37, 38, 39, 40, 41, 42, 43, 44, 45, 46, 47, 48, 49, 50, 51, 52] (by decide +kernel) (by decide +kernel)) (goodIn_app (goodIn_r wsL_years_r3 [53, 54, 55, 56, 57, 58, 59, 60, 61, 62, 63, 64, 65, 66, 67, 68, 69, 70, 71, 72, 73, 74, 75, 76] (by decide +kernel) (by decide +kernel)) (goodIn_app (goodIn_r wsL_years_r4 [77, 78, 79, 80, 81, 82, 83, 84, 85, 86, 87, 88, 89, 90, 91, 92, 93, 94, 95, 96, 97, 98, 99, 100] (by decide +kernel) (by decide +kernel)) (goodIn_app (goodIn_r wsL_years_r5 [101, 3, 102, 103, 104, 105, 106, 107, 108, 109, 110, 111, 112, 113, 114, 115, 116, 117, 118, 119, 120, 121, 122, 123] (by decide +kernel) (by decide +kernel)) (goodIn_app (goodIn_r wsL_years_r6 [124, 125, 126, 127, 128, 129, 130, 131, 132, 133, 134, 135, 136, 137, 138, 139, 140, 141, 142, 143, 144, 145, 146, 147] (by decide +kernel) (by decide +kernel)) (goodIn_app (goodIn_r wsL_years_r7 [148, 149, 150, 151, 152, 153, 154, 155, 156, 157, 158, 159, 160, 161, 162, 163, 164, 165, 166, 167, 168, 169, 170, 171] (by decide +kernel) (by decide +kernel)) (goodIn_app (goodIn_r wsL_years_r8 [172, 173, 174, 175, 176, 177, 178, 179, 180, 181, 182, 183, 184, 185, 186, 187, 188, 189, 190, 191, 192, 193, 194, 195] (by decide +kernel) (by decide +kernel)) (goodIn_app (goodIn_r wsL_years_r9 [196, 197, 198, 199, 200, 201, 202, 203, 204, 205, 206, 207, 208, 209, 210, 211, 212, 213, 214, 215, 216, 217, 218, 219] (by decide +kernel) (by decide +kernel)) (goodIn_app (goodIn_r wsL_years_r10 [220, 221, 222, 223, 224, 225, 226, 227, 228, 229, 230, 231, 232, 233, 234, 235, 236, 237, 238, 239, 240, 241, 242, 243] (by decide +kernel) (by decide +kernel)) (goodIn_app (goodIn_r wsL_years_r11 [244, 245, 246, 247, 248, 249, 250, 251, 252, 253, 254, 255, 256, 257, 258, 259, 260, 261, 262, 263, 264, 265, 266, 267] (by decide +kernel) (by decide +kernel)) (goodIn_app (goodIn_r wsL_years_r12 [268, 269, 270, 271, 272, 273, 274, 275, 276, 277, 278, 279, 280, 281, 282, 283, 284, 285, 286, 287, 288, 289, 290, 291] (by decide +kernel) (by decide +kernel)) (goodIn_app (goodIn_r wsL_years_r13 [292, 293, 294, 295, 296, 297, 298, 299, 300, 301, 302, 303, 304, 305, 306, 307, 308, 309, 310, 311, 312, 313, 314, 315] (by decide +kernel) (by decide +kernel)) (goodIn_app (goodIn_r wsL_years_r14 [316, 317, 318, 319, 320, 321, 322, 323, 324, 325, 326, 327, 328, 329, 330, 331, 332, 6, 333, 334, 335, 336, 337, 338] (by decide +kernel) (by decide +kernel)) (goodIn_app (goodIn_r wsL_years_r15 [339, 340, 341, 342, 343, 344, 345, 346, 347, 348, 349, 350, 351, 352, 353, 354, 355, 356, 357, 358, 359, 360, 361, 362] rfl (by decide +kernel)) (goodIn_r wsL_years_r16 [363, 364, 365, 366, 367, 368, 369, 370, 371, 372, 373, 374, 375, 376, 377, 378] (by decide +kernel) (by decide +kernel))))))))))))))))) (goodIn_r wsX50 [484, 485, 486, 487, 488, 489] (by decide +kernel) (by decide +kernel))) (goodIn_r wsX20 [490, 491, 492, 493, 494, 495, 496, 497, 498, 499, 500, 501] (by decide +kernel) (by decide +kernel))) (goodIn_r wsX10 [502, 503, 504] (by decide +kernel) (by decide +kernel))) (goodIn_r wsX30 [505, 506, 507, 508, 509, 510, 511] (by decide +kernel) (by decide +kernel))) (goodIn_r wsX00 [512, 513, 514, 515, 516] (by decide +kernel) (by decide +kernel))) (goodIn_r wsX40 [517, 518, 519, 520, 521, 522, 523, 524] (by decide +kernel) (by decide +kernel)))
set_option maxRecDepth 20000 in
theorem gL_law_L_years : GoodIn wsL_law (va_wsS RL 162 yL_years wsL_years) := goodIn_app (goodIn_of _ (by decide +kernel)) ggL_law_L_years
set_option maxRecDepth 20000 in
theorem ggL_law_L_texts : GoodIn wsL_law wsL_texts := goodIn_app (a := [.code yL_texts cL_texts 2 (some .boolean)]) (goodIn_r _ [381] rfl (by decide +kernel)) (goodIn_app (goodIn_app (goodIn_app (goodIn_app (goodIn_app (goodIn_app (goodIn_app (goodIn_r wsL_texts_r1 [382, 383, 384, 385, 386, 387, 388, 389, 390, 391, 392, 393, 394, 395, 396, 397, 0, 1, 2, 398, 399, 400, 401, 402] (by decide +kernel) (by decide +kernel)) (goodIn_app (goodIn_r wsL_texts_r2 [403, 6, 404, 12, 13, 14, 15, 16, 17, 18, 19, 20, 21, 22, 23, 24, 25, 26, 27, 28, 29, 30, 31, 32] (by decide +kernel) (by decide +kernel)) (goodIn_app (goodIn_r wsL_texts_r3 [33, 34, 35, 36, 37, 38, 39, 40, 41, 42, 43, 44, 45, 46, 47, 48, 49, 50, 51, 52, 53, 54, 55, 56] (by decide +kernel) (by decide +kernel)) (goodIn_app (goodIn_r wsL_texts_r4 [57, 58, 59, 60, 61, 62, 63, 64, 65, 66, 67, 68, 69, 70, 71, 72, 73, 74, 75, 76, 77, 78, 79, 80] (by decide +kernel) (by decide +kernel)) (goodIn_app (goodIn_r wsL_texts_r5 [81, 82, 83, 84, 85, 86, 87, 88, 89, 90, 91, 92, 93, 94, 95, 96, 97, 98, 99, 100, 101, 3, 102, 405] (by decide +kernel) (by decide +kernel)) (goodIn_app (goodIn_r wsL_texts_r6 [406, 407, 408, 409, 410, 411, 412, 236, 413, 414, 415, 416, 417, 418, 419, 420, 421, 422, 423, 424, 425, 426, 427, 428] (by decide +kernel) (by decide +kernel)) (goodIn_app (goodIn_r wsL_texts_r7 [429, 430, 431, 432, 433, 434, 435, 436, 437, 438, 439, 440, 441, 442, 443, 444, 445, 446, 447, 448, 449, 450, 451, 452] (by decide +kernel) (by decide +kernel)) (goodIn_app (goodIn_r wsL_texts_r8 [453, 454, 455, 456, 161, 162, 163, 457, 458, 459, 460, 461, 130, 131, 132, 133, 134, 113, 114, 115, 116, 117, 118, 119] (by decide +kernel) (by decide +kernel)) (goodIn_app (goodIn_r wsL_texts_r9 [120, 121, 122, 123, 124, 462, 463, 464, 465, 466, 467, 265, 266, 267, 268, 139, 129, 231, 269, 270, 271, 272, 140, 230] (by decide +kernel) (by decide +kernel)) (goodIn_app (goodIn_r wsL_texts_r10 [273, 274, 275, 276, 277, 278, 299, 300, 301, 302, 303, 304, 305, 306, 146, 147, 148, 149, 150, 151, 152, 153, 154, 155] (by decide +kernel) (by decide +kernel)) (goodIn_app (goodIn_r wsL_texts_r11 [156, 157, 158, 159, 160, 135, 136, 137, 138, 141, 142, 143, 144, 145, 164, 165, 166, 167, 168, 169, 170, 171, 172, 173] (by decide +kernel) (by decide +kernel)) (goodIn_app (goodIn_r wsL_texts_r12 [174, 175, 176, 177, 178, 179, 180, 181, 182, 183, 184, 185, 186, 187, 188, 189, 190, 191, 192, 193, 194, 195, 196, 197] (by decide +kernel) (by decide +kernel)) (goodIn_app (goodIn_r wsL_texts_r13 [198, 199, 200, 201, 202, 203, 204, 205, 206, 207, 208, 209, 210, 211, 212, 213, 214, 215, 216, 217, 218, 219, 220, 221] (by decide +kernel) (by decide +kernel)) (goodIn_app (goodIn_r wsL_texts_r14 [222, 223, 224, 225, 226, 227, 228, 229, 232, 233, 234, 235, 107, 237, 238, 239, 240, 241, 242, 243, 244, 245, 246, 247] (by decide +kernel) (by decide +kernel)) (goodIn_app (goodIn_r wsL_texts_r15 [248, 249, 250, 251, 252, 253, 254, 255, 256, 468, 469, 470, 471, 312, 313, 314, 315, 311, 103, 104, 105, 106, 108, 109] (by decide +kernel) (by decide +kernel)) (goodIn_r wsL_texts_r16 [110, 111, 112] (by decide +kernel) (by decide +kernel))))))))))))))))) (goodIn_r wsX50 [484, 485, 486, 487, 488, 489] (by decide +kernel) (by decide +kernel))) (goodIn_r wsX20 [490, 491, 492, 493, 494, 495, 496, 497, 498, 499, 500, 501] (by decide +kernel) (by decide +kernel))) (goodIn_r wsX10 [502, 503, 504] (by decide +kernel) (by decide +kernel))) (goodIn_r wsX30 [505, 506, 507, 508, 509, 510, 511] (by decide +kernel) (by decide +kernel))) (goodIn_r wsX00 [512, 513, 514, 515, 516] (by decide +kernel) (by decide +kernel))) (goodIn_r wsX40 [517, 518, 519, 520, 521, 522, 523, 524] (by decide +kernel) (by decide +kernel)))
set_option maxRecDepth 20000 in
theorem gL_law_L_texts : GoodIn wsL_law (va_wsS RL 166 yL_texts wsL_texts) := goodIn_app (goodIn_of _ (by decide +kernel)) ggL_law_L_texts
set_option maxRecDepth 20000 in
theorem ggL_law_X5_init : GoodIn wsL_law wsX5_init := goodIn_r _ [14, 15, 16, 17, 18, 19, 20, 21, 22, 23, 24, 25, 26, 27, 28, 29, 30, 31, 32, 33, 34, 35, 36, 37, 38, 39, 40, 41, 42, 43, 44, 45, 46, 47, 48, 49, 50, 51, 52, 53, 54, 55, 56, 57, 58, 59, 60, 61, 62, 63, 64, 65, 66, 67, 68, 69, 70, 71, 72, 73, 74, 75, 76, 77, 78, 79, 80, 81, 82, 83, 84, 85, 86, 87, 88, 89, 90, 91, 92, 93, 94, 95, 96, 97, 98, 99, 100, 101, 3, 102, 490, 491, 492, 493, 494, 495, 496, 497, 498, 499, 500, 501, 484, 485, 486, 487, 488, 489, 502, 503, 504, 505, 506, 507, 508, 509, 510, 511, 512, 513, 514, 515, 516, 517, 518, 519, 520, 521, 522, 523, 524] (by decide +kernel) (by decide +kernel)
set_option maxRecDepth 20000 in
theorem gL_law_X5_init : GoodIn wsL_law (wsX5_init) := ggL_law_X5_init
set_option maxRecDepth 20000 in
theorem ggL_law_X5_addFlat : GoodIn wsL_law wsX5_addFlat := goodIn_r _ [268, 21, 139, 129, 27, 231, 130, 131, 132, 26, 133, 78, 79, 80, 134, 113, 114, 20, 115, 40, 42, 116, 117, 118, 119, 43, 44, 45, 46, 48, 49, 50, 54, 55, 56, 120, 121, 122, 53, 123, 61, 62, 63, 64, 124, 65, 66, 67, 68, 484, 485, 486, 487, 488, 489, 490, 491, 492, 493, 494, 495, 496, 497, 498, 499, 500, 501, 502, 503, 504, 517, 518, 519, 520, 521, 522, 523, 524] (by decide +kernel) (by decide +kernel)
set_option maxRecDepth 20000 in
theorem gL_law_X5_addFlat : GoodIn wsL_law (wsV RL 33 RX5 yX5_addFlat wsX5_addFlat) := goodIn_app (goodIn_of _ (by decide +kernel)) ggL_law_X5_addFlat
set_option maxRecDepth 20000 in
theorem ggL_law_X5_addDevice : GoodIn wsL_law wsX5_addDevice := goodIn_r _ [272, 21, 140, 230, 27, 273, 274, 275, 276, 277, 20, 278, 40, 130, 131, 132, 26, 133, 78, 79, 80, 134, 113, 114, 115, 42, 116, 117, 118, 119, 43, 44, 45, 46, 48, 49, 50, 54, 55, 56, 120, 121, 122, 53, 123, 61, 62, 63, 64, 124, 65, 66, 67, 68, 484, 485, 486, 487, 488, 489, 490, 491, 492, 493, 494, 495, 496, 497, 498, 499, 500, 501, 517, 518, 519, 520, 521, 522, 523, 524, 502, 503, 504] (by decide +kernel) (by decide +kernel)
set_option maxRecDepth 20000 in
theorem gL_law_X5_addDevice : GoodIn wsL_law (wsV RL 38 RX5 yX5_addDevice wsX5_addDevice) := goodIn_app (goodIn_of _ (by decide +kernel)) ggL_law_X5_addDevice
set_option maxRecDepth 20000 in
theorem ggL_law_L_drawn : GoodIn wsL_law wsL_drawn := goodIn_r _ [474, 475] (by decide +kernel) (by decide +kernel)
set_option maxRecDepth 20000 in
theorem gL_law_L_drawn : GoodIn wsL_law (va_wsS RL 169 yL_drawn wsL_drawn) := goodIn_app (goodIn_of _ (by decide +kernel)) ggL_law_L_drawn
set_option maxRecDepth 20000 in
theorem ggL_law_L_part : GoodIn wsL_law wsL_part := goodIn_r _ [478, 479] (by decide +kernel) (by decide +kernel)
set_option maxRecDepth 20000 in
theorem gL_law_L_part : GoodIn wsL_law (va_wsS RL 173 yL_part wsL_part) := goodIn_app (goodIn_of _ (by decide +kernel)) ggL_law_L_part
set_option maxRecDepth 20000 in
theorem ggL_law_L_seen : GoodIn wsL_law wsL_seen := goodIn_r _ [336, 337, 338, 226, 227, 228, 2, 229, 21, 129, 139, 140, 230, 231, 35, 232, 233, 234, 235, 27, 107, 31, 236, 237, 238, 239, 20, 240, 54, 150, 48, 241, 242, 243, 244, 245, 246, 49, 247, 180, 181, 142, 143, 144, 145, 146, 147, 148, 149, 46, 45, 151, 44, 152, 153, 154, 155, 55, 156, 157, 158, 159, 56, 160, 161, 162, 53, 163, 63, 164, 165, 166, 34, 167, 98, 168, 169, 170, 171, 172, 173, 70, 71, 72, 174, 175, 176, 177, 178, 179, 99, 100, 182, 183, 184, 185, 102, 186, 187, 188, 189, 190, 248, 249, 250, 251, 221, 252, 253, 254, 255, 40, 256, 200, 201, 202, 64, 288, 289, 290, 291, 292, 293, 275, 276, 277, 278, 294, 295, 296, 297, 43, 298, 196, 197, 198, 312, 313, 314, 315, 273, 274, 303, 304, 311, 305, 306, 339, 340, 341, 342, 343, 344, 345, 346, 320, 325, 215, 216, 347, 348, 349, 350, 484, 485, 486, 487, 488, 489, 490, 491, 492, 493, 494, 495, 496, 497, 498, 499, 500, 501, 517, 518, 519, 520, 521, 522, 523, 524, 512, 513, 514, 515, 516, 502, 503, 504, 505, 506, 507, 508, 509, 510, 511] (by decide +kernel) (by decide +kernel)
set_option maxRecDepth 20000 in
theorem gL_law_L_seen : GoodIn wsL_law (va_wsS RL 75 yL_seen wsL_seen) := goodIn_app (goodIn_of _ (by decide +kernel)) ggL_law_L_seen
set_option maxRecDepth 20000 in
theorem ggL_law_X5_count : GoodIn wsL_law wsX5_count := goodIn_r _ [229, 21, 129, 139, 140, 230, 231, 35, 232, 233, 234, 235, 27, 107, 31, 236, 237, 238, 239, 20, 240, 54, 150, 48, 241, 242, 243, 244, 245, 246, 49, 247, 180, 2, 181, 142, 143, 144, 145, 146, 147, 148, 149, 46, 45, 151, 44, 152, 153, 154, 155, 55, 156, 157, 158, 159, 56, 160, 161, 162, 53, 163, 63, 164, 165, 166, 34, 167, 98, 168, 169, 170, 171, 172, 173, 70, 71, 72, 174, 175, 176, 177, 178, 179, 99, 100, 182, 183, 184, 185, 102, 186, 187, 188, 189, 190, 248, 249, 250, 251, 221, 252, 253, 254, 255, 40, 256, 200, 201, 202, 64, 484, 485, 486, 487, 488, 489, 490, 491, 492, 493, 494, 495, 496, 497, 498, 499, 500, 501, 517, 518, 519, 520, 521, 522, 523, 524, 512, 513, 514, 515, 516, 502, 503, 504, 505, 506, 507, 508, 509, 510, 511] (by decide +kernel) (by decide +kernel)
set_option maxRecDepth 20000 in
theorem gL_law_X5_count : GoodIn wsL_law (wsV RL 13 RX5 yX5_count wsX5_count) := goodIn_app (goodIn_of _ (by decide +kernel)) ggL_law_X5_count
set_option maxRecDepth 20000 in
theorem ggL_law_X5_read : GoodIn wsL_law wsX5_read := goodIn_r _ [302, 21, 140, 303, 304, 27, 305, 306, 161, 162, 53, 163, 63, 130, 131, 132, 26, 133, 78, 79, 80, 134, 113, 114, 20, 115, 40, 42, 116, 117, 118, 119, 43, 44, 45, 46, 48, 49, 50, 54, 55, 56, 120, 121, 122, 123, 61, 62, 64, 124, 65, 66, 67, 68, 146, 147, 148, 149, 150, 151, 152, 153, 154, 155, 156, 157, 158, 159, 160, 484, 485, 486, 487, 488, 489, 490, 491, 492, 493, 494, 495, 496, 497, 498, 499, 500, 501, 517, 518, 519, 520, 521, 522, 523, 524, 502, 503, 504] (by decide +kernel) (by decide +kernel)
set_option maxRecDepth 20000 in
theorem gL_law_X5_read : GoodIn wsL_law (wsV RL 45 RX5 yX5_read wsX5_read) := goodIn_app (goodIn_of _ (by decide +kernel)) ggL_law_X5_read
set_option maxRecDepth 20000 in
theorem ggL_law_X5_mark : GoodIn wsL_law wsX5_mark := goodIn_r _ [310, 21, 140, 311, 27, 306, 161, 162, 53, 163, 63, 130, 131, 132, 26, 133, 78, 79, 80, 134, 113, 114, 20, 115, 40, 42, 116, 117, 118, 119, 43, 44, 45, 46, 48, 49, 50, 54, 55, 56, 120, 121, 122, 123, 61, 62, 64, 124, 65, 66, 67, 68, 237, 238, 239, 240, 150, 484, 485, 486, 487, 488, 489, 490, 491, 492, 493, 494, 495, 496, 497, 498, 499, 500, 501, 517, 518, 519, 520, 521, 522, 523, 524, 502, 503, 504] (by decide +kernel) (by decide +kernel)
set_option maxRecDepth 20000 in
theorem gL_law_X5_mark : GoodIn wsL_law (wsV RL 48 RX5 yX5_mark wsX5_mark) := goodIn_app (goodIn_of _ (by decide +kernel)) ggL_law_X5_mark
set_option maxRecDepth 20000 in
theorem ggL_law_X5_set : GoodIn wsL_law wsX5_set := goodIn_r _ [282, 283, 21, 27, 241, 242, 243, 20, 244, 54, 245, 246, 49, 130, 131, 132, 26, 133, 78, 79, 80, 134, 113, 114, 115, 40, 42, 116, 117, 118, 119, 43, 44, 45, 46, 48, 50, 55, 56, 120, 121, 122, 53, 123, 61, 62, 63, 64, 124, 65, 66, 67, 68, 284, 285, 286, 287, 484, 485, 486, 487, 488, 489, 490, 491, 492, 493, 494, 495, 496, 497, 498, 499, 500, 501, 517, 518, 519, 520, 521, 522, 523, 524, 502, 503, 504] (by decide +kernel) (by decide +kernel)
set_option maxRecDepth 20000 in
theorem gL_law_X5_set : GoodIn wsL_law (wsV RL 41 RX5 yX5_set wsX5_set) := goodIn_app (goodIn_of _ (by decide +kernel)) ggL_law_X5_set
set_option maxRecDepth 20000 in
theorem ggL_law_X5_move : GoodIn wsL_law wsX5_move := goodIn_r _ [329, 21, 140, 27, 292, 275, 276, 277, 20, 278, 40, 320, 200, 201, 53, 202, 64, 130, 131, 132, 26, 133, 78, 79, 80, 134, 113, 114, 115, 42, 116, 117, 118, 119, 43, 44, 45, 46, 48, 49, 50, 54, 55, 56, 120, 121, 122, 123, 61, 62, 63, 124, 65, 66, 67, 68, 330, 212, 2, 213, 214, 484, 485, 486, 487, 488, 489, 490, 491, 492, 493, 494, 495, 496, 497, 498, 499, 500, 501, 517, 518, 519, 520, 521, 522, 523, 524, 502, 503, 504] (by decide +kernel) (by decide +kernel)
set_option maxRecDepth 20000 in
theorem gL_law_X5_move : GoodIn wsL_law (wsV RL 52 RX5 yX5_move wsX5_move) := goodIn_app (goodIn_of _ (by decide +kernel)) ggL_law_X5_move
set_option maxRecDepth 20000 in
theorem ggL_law_X5_between : GoodIn wsL_law wsX5_between := goodIn_r _ [319, 21, 140, 293, 27, 275, 276, 277, 20, 278, 40, 320, 200, 201, 53, 202, 64, 130, 131, 132, 26, 133, 78, 79, 80, 134, 113, 114, 115, 42, 116, 117, 118, 119, 43, 44, 45, 46, 48, 49, 50, 54, 55, 56, 120, 121, 122, 123, 61, 62, 63, 124, 65, 66, 67, 68, 484, 485, 486, 487, 488, 489, 490, 491, 492, 493, 494, 495, 496, 497, 498, 499, 500, 501, 517, 518, 519, 520, 521, 522, 523, 524, 502, 503, 504] (by decide +kernel) (by decide +kernel)
set_option maxRecDepth 20000 in
theorem gL_law_X5_between : GoodIn wsL_law (wsV RL 55 RX5 yX5_between wsX5_between) := goodIn_app (goodIn_of _ (by decide +kernel)) ggL_law_X5_between
set_option maxRecDepth 20000 in
theorem ggL_law_X5_close : GoodIn wsL_law wsX5_close := goodIn_r _ [138, 21, 129, 139, 27, 35, 140, 141, 130, 131, 132, 26, 133, 78, 79, 80, 134, 113, 114, 20, 115, 40, 42, 116, 117, 118, 119, 43, 44, 45, 46, 48, 49, 50, 54, 55, 56, 120, 121, 122, 53, 123, 61, 62, 63, 64, 124, 65, 66, 67, 68, 142, 143, 144, 2, 145, 146, 147, 148, 149, 150, 151, 152, 153, 154, 155, 156, 157, 158, 159, 160, 161, 162, 163, 164, 165, 166, 34, 167, 98, 168, 169, 170, 171, 172, 173, 70, 71, 72, 174, 175, 176, 177, 178, 179, 99, 100, 180, 181, 182, 183, 184, 185, 102, 186, 187, 188, 189, 190, 191, 192, 193, 194, 101, 195, 196, 197, 198, 199, 200, 201, 202, 203, 204, 205, 206, 207, 208, 209, 210, 211, 212, 213, 214, 215, 216, 217, 218, 219, 220, 221, 222, 223, 224, 225, 69, 484, 485, 486, 487, 488, 489, 490, 491, 492, 493, 494, 495, 496, 497, 498, 499, 500, 501, 512, 513, 514, 515, 516, 502, 503, 504, 517, 518, 519, 520, 521, 522, 523, 524] (by decide +kernel) (by decide +kernel)
set_option maxRecDepth 20000 in
theorem gL_law_X5_close : GoodIn wsL_law (wsV RL 91 RX5 yX5_close wsX5_close) := goodIn_app (goodIn_of _ (by decide +kernel)) ggL_law_X5_close
set_option maxRecDepth 20000 in
theorem ggL_law_X5_correct : GoodIn wsL_law wsX5_correct := goodIn_r _ [359, 21, 360, 305, 27, 235, 35, 141, 346, 157, 158, 20, 159, 55, 56, 306, 161, 162, 53, 163, 63, 130, 131, 132, 26, 133, 78, 79, 80, 134, 113, 114, 115, 40, 42, 116, 117, 118, 119, 43, 44, 45, 46, 48, 49, 50, 54, 120, 121, 122, 123, 61, 62, 64, 124, 65, 66, 67, 68, 164, 165, 166, 34, 167, 98, 168, 169, 170, 171, 172, 173, 70, 71, 72, 174, 175, 176, 177, 178, 179, 99, 100, 180, 2, 181, 182, 183, 184, 185, 102, 186, 187, 188, 189, 190, 191, 192, 193, 194, 101, 195, 196, 197, 198, 199, 200, 201, 202, 203, 204, 205, 206, 207, 208, 209, 210, 211, 212, 213, 214, 215, 216, 361, 362, 363, 364, 484, 485, 486, 487, 488, 489, 517, 518, 519, 520, 521, 522, 523, 524, 490, 491, 492, 493, 494, 495, 496, 497, 498, 499, 500, 501, 512, 513, 514, 515, 516, 502, 503, 504] (by decide +kernel) (by decide +kernel)
set_option maxRecDepth 20000 in
theorem gL_law_X5_correct : GoodIn wsL_law (wsV RL 58 RX5 yX5_correct wsX5_correct) := goodIn_app (goodIn_of _ (by decide +kernel)) ggL_law_X5_correct
set_option maxRecDepth 20000 in
theorem ggL_law_X5_keep : GoodIn wsL_law wsX5_keep := goodIn_r _ [483, 22, 21, 23, 129, 112, 113, 114, 20, 115, 40, 42, 116, 117, 118, 119, 43, 44, 45, 46, 48, 49, 50, 54, 55, 56, 120, 121, 122, 53, 123, 61, 62, 63, 64, 124, 65, 66, 67, 68, 484, 485, 486, 487, 488, 489, 490, 491, 492, 493, 494, 495, 496, 497, 498, 499, 500, 501, 517, 518, 519, 520, 521, 522, 523, 524] (by decide +kernel) (by decide +kernel)
set_option maxRecDepth 20000 in
theorem gL_law_X5_keep : GoodIn wsL_law (wsV RL 176 RX5 yX5_keep wsX5_keep) := goodIn_app (goodIn_of _ (by decide +kernel)) ggL_law_X5_keep
set_option maxRecDepth 20000 in
theorem ggL_law_L_refused : GoodIn wsL_law wsL_refused := goodIn_app (a := [.code yL_refused cL_refused 4 (some .boolean)]) (goodIn_r _ [333] (by decide +kernel) (by decide +kernel)) (goodIn_app (goodIn_app (goodIn_app (goodIn_app (goodIn_app (goodIn_app (goodIn_app (goodIn_r wsL_refused_r1 [334, 335, 6, 336, 337, 338, 226, 227, 228, 2, 229, 21, 129, 139, 140, 230, 231, 35, 232, 233, 234, 235, 27, 107] (by decide +kernel) (by decide +kernel)) (goodIn_app (goodIn_r wsL_refused_r2 [31, 236, 237, 238, 239, 20, 240, 54, 150, 48, 241, 242, 243, 244, 245, 246, 49, 247, 180, 181, 142, 143, 144, 145] (by decide +kernel) (by decide +kernel)) (goodIn_app (goodIn_r wsL_refused_r3 [146, 147, 148, 149, 46, 45, 151, 44, 152, 153, 154, 155, 55, 156, 157, 158, 159, 56, 160, 161, 162, 53, 163, 63] (by decide +kernel) (by decide +kernel)) (goodIn_app (goodIn_r wsL_refused_r4 [164, 165, 166, 34, 167, 98, 168, 169, 170, 171, 172, 173, 70, 71, 72, 174, 175, 176, 177, 178, 179, 99, 100, 182] (by decide +kernel) (by decide +kernel)) (goodIn_app (goodIn_r wsL_refused_r5 [183, 184, 185, 102, 186, 187, 188, 189, 190, 248, 249, 250, 251, 221, 252, 253, 254, 255, 40, 256, 200, 201, 202, 64] (by decide +kernel) (by decide +kernel)) (goodIn_app (goodIn_r wsL_refused_r6 [288, 289, 290, 291, 292, 293, 275, 276, 277, 278, 294, 295, 296, 297, 43, 298, 196, 197, 198, 312, 313, 314, 315, 273] (by decide +kernel) (by decide +kernel)) (goodIn_app (goodIn_r wsL_refused_r7 [274, 303, 304, 311, 305, 306, 339, 340, 341, 342, 343, 344, 345, 346, 320, 325, 215, 216, 347, 348, 349, 350, 351, 352] (by decide +kernel) (by decide +kernel)) (goodIn_app (goodIn_r wsL_refused_r8 [353, 354, 355, 265, 266, 267, 268, 130, 131, 132, 26, 133, 78, 79, 80, 134, 113, 114, 115, 42, 116, 117, 118, 119] rfl (by decide +kernel)) (goodIn_app (goodIn_r wsL_refused_r9 [50, 120, 121, 122, 123, 61, 62, 124, 65, 66, 67, 68, 269, 270, 271, 272, 279, 280, 281, 282, 283, 284, 285, 286] (by decide +kernel) (by decide +kernel)) (goodIn_app (goodIn_r wsL_refused_r10 [287, 299, 300, 301, 302, 307, 308, 309, 310, 326, 327, 328, 329, 330, 212, 213, 214, 316, 317, 318, 319, 356, 357, 358] (by decide +kernel) (by decide +kernel)) (goodIn_app (goodIn_r wsL_refused_r11 [359, 360, 141, 191, 192, 193, 194, 101, 195, 199, 203, 204, 205, 206, 207, 208, 209, 210, 211, 361, 362, 363, 364, 321] (by decide +kernel) (by decide +kernel)) (goodIn_app (goodIn_r wsL_refused_r12 [322, 323, 324, 257, 258, 259, 260, 261, 262, 263, 264, 365, 366, 367, 368, 369, 370, 371, 372, 373, 374, 375, 376, 377] (by decide +kernel) (by decide +kernel)) (goodIn_r wsL_refused_r13 [378] (by decide +kernel) (by decide +kernel)))))))))))))) (goodIn_r wsX50 [484, 485, 486, 487, 488, 489] (by decide +kernel) (by decide +kernel))) (goodIn_r wsX20 [490, 491, 492, 493, 494, 495, 496, 497, 498, 499, 500, 501] (by decide +kernel) (by decide +kernel))) (goodIn_r wsX40 [517, 518, 519, 520, 521, 522, 523, 524] (by decide +kernel) (by decide +kernel))) (goodIn_r wsX00 [512, 513, 514, 515, 516] (by decide +kernel) (by decide +kernel))) (goodIn_r wsX10 [502, 503, 504] (by decide +kernel) (by decide +kernel))) (goodIn_r wsX30 [505, 506, 507, 508, 509, 510, 511] (by decide +kernel) (by decide +kernel)))
set_option maxRecDepth 20000 in
theorem gL_law_L_refused : GoodIn wsL_law (va_wsS RL 94 yL_refused wsL_refused) := goodIn_app (goodIn_of _ (by decide +kernel)) ggL_law_L_refused
set_option maxRecDepth 20000 in
theorem ggL_law_X5_undo : GoodIn wsL_law wsX5_undo := goodIn_r _ [106, 27, 21, 107, 108, 109, 110, 26, 111, 80, 78, 79, 112, 113, 114, 20, 115, 40, 42, 116, 117, 118, 119, 43, 44, 45, 46, 48, 49, 50, 54, 55, 56, 120, 121, 122, 53, 123, 61, 62, 63, 64, 124, 65, 66, 67, 68, 484, 485, 486, 487, 488, 489, 502, 503, 504, 490, 491, 492, 493, 494, 495, 496, 497, 498, 499, 500, 501, 517, 518, 519, 520, 521, 522, 523, 524] (by decide +kernel) (by decide +kernel)
set_option maxRecDepth 20000 in
theorem gL_law_X5_undo : GoodIn wsL_law (wsV RL 84 RX5 yX5_undo wsX5_undo) := goodIn_app (goodIn_of _ (by decide +kernel)) ggL_law_X5_undo
set_option maxRecDepth 20000 in
theorem ggL_law_X5_restore : GoodIn wsL_law wsX5_restore := goodIn_r _ [128, 23, 27, 21, 22, 129, 130, 131, 132, 26, 133, 78, 79, 80, 134, 113, 114, 20, 115, 40, 42, 116, 117, 118, 119, 43, 44, 45, 46, 48, 49, 50, 54, 55, 56, 120, 121, 122, 53, 123, 61, 62, 63, 64, 124, 65, 66, 67, 68, 112, 484, 485, 486, 487, 488, 489, 490, 491, 492, 493, 494, 495, 496, 497, 498, 499, 500, 501, 502, 503, 504, 517, 518, 519, 520, 521, 522, 523, 524] (by decide +kernel) (by decide +kernel)
set_option maxRecDepth 20000 in
theorem gL_law_X5_restore : GoodIn wsL_law (wsV RL 88 RX5 yX5_restore wsX5_restore) := goodIn_app (goodIn_of _ (by decide +kernel)) ggL_law_X5_restore
theorem dL_law_0 : decode cL_law 0 = .ok (.invokestatic 162, 3) := by decide +kernel
theorem dL_law_3 : decode cL_law 3 = .ok (.ifCond .eq 9, 3) := by decide +kernel
theorem dL_law_6 : decode cL_law 6 = .ok (.invokestatic 166, 3) := by decide +kernel
theorem dL_law_9 : decode cL_law 9 = .ok (.ifCond .ne 5, 3) := by decide +kernel
theorem dL_law_12 : decode cL_law 12 = .ok (.iconst 0, 1) := by decide +kernel
theorem dL_law_13 : decode cL_law 13 = .ok (.ireturn, 1) := by decide +kernel
theorem dL_law_14 : decode cL_law 14 = .ok (.new 14, 3) := by decide +kernel
theorem dL_law_17 : decode cL_law 17 = .ok (.dup, 1) := by decide +kernel
theorem dL_law_18 : decode cL_law 18 = .ok (.invokespecial 83, 3) := by decide +kernel
theorem dL_law_21 : decode cL_law 21 = .ok (.astore_n 1, 1) := by decide +kernel
theorem dL_law_22 : decode cL_law 22 = .ok (.bipush 64, 2) := by decide +kernel
theorem dL_law_24 : decode cL_law 24 = .ok (.newarray .long, 2) := by decide +kernel
theorem dL_law_26 : decode cL_law 26 = .ok (.astore_n 2, 1) := by decide +kernel
theorem dL_law_27 : decode cL_law 27 = .ok (.iconst 0, 1) := by decide +kernel
theorem dL_law_28 : decode cL_law 28 = .ok (.istore_n 3, 1) := by decide +kernel
theorem dL_law_29 : decode cL_law 29 = .ok (.aload_n 1, 1) := by decide +kernel
theorem dL_law_30 : decode cL_law 30 = .ok (.bipush 60, 2) := by decide +kernel
theorem dL_law_32 : decode cL_law 32 = .ok (.invokevirtual 33, 3) := by decide +kernel
theorem dL_law_35 : decode cL_law 35 = .ok (.ifCond .ne 12, 3) := by decide +kernel
theorem dL_law_38 : decode cL_law 38 = .ok (.aload_n 1, 1) := by decide +kernel
theorem dL_law_39 : decode cL_law 39 = .ok (.iconst 0, 1) := by decide +kernel
theorem dL_law_40 : decode cL_law 40 = .ok (.iconst 2, 1) := by decide +kernel
theorem dL_law_41 : decode cL_law 41 = .ok (.invokevirtual 38, 3) := by decide +kernel
theorem dL_law_44 : decode cL_law 44 = .ok (.ifCond .eq 5, 3) := by decide +kernel
theorem dL_law_47 : decode cL_law 47 = .ok (.iconst 0, 1) := by decide +kernel
theorem dL_law_48 : decode cL_law 48 = .ok (.ireturn, 1) := by decide +kernel
theorem dL_law_49 : decode cL_law 49 = .ok (.iconst 0, 1) := by decide +kernel
theorem dL_law_50 : decode cL_law 50 = .ok (.istore 4, 2) := by decide +kernel
theorem dL_law_52 : decode cL_law 52 = .ok (.iload 4, 2) := by decide +kernel
theorem dL_law_54 : decode cL_law 54 = .ok (.bipush 30, 2) := by decide +kernel
theorem dL_law_56 : decode cL_law 56 = .ok (.if_icmp .ge 369, 3) := by decide +kernel
theorem dL_law_59 : decode cL_law 59 = .ok (.aload_n 0, 1) := by decide +kernel
theorem dL_law_60 : decode cL_law 60 = .ok (.iload 4, 2) := by decide +kernel
theorem dL_law_62 : decode cL_law 62 = .ok (.invokestatic 169, 3) := by decide +kernel
theorem dL_law_65 : decode cL_law 65 = .ok (.istore 5, 2) := by decide +kernel
theorem dL_law_67 : decode cL_law 67 = .ok (.iload 4, 2) := by decide +kernel
theorem dL_law_69 : decode cL_law 69 = .ok (.iconst 3, 1) := by decide +kernel
theorem dL_law_70 : decode cL_law 70 = .ok (.if_icmp .ge 7, 3) := by decide +kernel
theorem dL_law_73 : decode cL_law 73 = .ok (.iconst 0, 1) := by decide +kernel
theorem dL_law_74 : decode cL_law 74 = .ok (.goto 21, 3) := by decide +kernel
theorem dL_law_77 : decode cL_law 77 = .ok (.iload 4, 2) := by decide +kernel
theorem dL_law_79 : decode cL_law 79 = .ok (.bipush 7, 2) := by decide +kernel
theorem dL_law_81 : decode cL_law 81 = .ok (.if_icmp .ge 7, 3) := by decide +kernel
theorem dL_law_84 : decode cL_law 84 = .ok (.iconst 1, 1) := by decide +kernel
theorem dL_law_85 : decode cL_law 85 = .ok (.goto 10, 3) := by decide +kernel
theorem dL_law_88 : decode cL_law 88 = .ok (.iload 5, 2) := by decide +kernel
theorem dL_law_90 : decode cL_law 90 = .ok (.bipush 10, 2) := by decide +kernel
theorem dL_law_92 : decode cL_law 92 = .ok (.invokestatic 173, 3) := by decide +kernel
theorem dL_law_95 : decode cL_law 95 = .ok (.istore 6, 2) := by decide +kernel
theorem dL_law_97 : decode cL_law 97 = .ok (.aload_n 2, 1) := by decide +kernel
theorem dL_law_98 : decode cL_law 98 = .ok (.iload_n 3, 1) := by decide +kernel
theorem dL_law_99 : decode cL_law 99 = .ok (.aload_n 1, 1) := by decide +kernel
theorem dL_law_100 : decode cL_law 100 = .ok (.invokestatic 75, 3) := by decide +kernel
theorem dL_law_103 : decode cL_law 103 = .ok (.lastore, 1) := by decide +kernel
theorem dL_law_104 : decode cL_law 104 = .ok (.aload_n 1, 1) := by decide +kernel
theorem dL_law_105 : decode cL_law 105 = .ok (.bipush 13, 2) := by decide +kernel
theorem dL_law_107 : decode cL_law 107 = .ok (.invokevirtual 13, 3) := by decide +kernel
theorem dL_law_110 : decode cL_law 110 = .ok (.istore 7, 2) := by decide +kernel
theorem dL_law_112 : decode cL_law 112 = .ok (.iload 5, 2) := by decide +kernel
theorem dL_law_114 : decode cL_law 114 = .ok (.iconst 4, 1) := by decide +kernel
theorem dL_law_115 : decode cL_law 115 = .ok (.ishr, 1) := by decide +kernel
theorem dL_law_116 : decode cL_law 116 = .ok (.bipush 6, 2) := by decide +kernel
theorem dL_law_118 : decode cL_law 118 = .ok (.invokestatic 173, 3) := by decide +kernel
theorem dL_law_121 : decode cL_law 121 = .ok (.istore 8, 2) := by decide +kernel
theorem dL_law_123 : decode cL_law 123 = .ok (.iload 5, 2) := by decide +kernel
theorem dL_law_125 : decode cL_law 125 = .ok (.iconst 4, 1) := by decide +kernel
theorem dL_law_126 : decode cL_law 126 = .ok (.ishr, 1) := by decide +kernel
theorem dL_law_127 : decode cL_law 127 = .ok (.iconst 4, 1) := by decide +kernel
theorem dL_law_128 : decode cL_law 128 = .ok (.invokestatic 173, 3) := by decide +kernel
theorem dL_law_131 : decode cL_law 131 = .ok (.istore 9, 2) := by decide +kernel
theorem dL_law_133 : decode cL_law 133 = .ok (.iload 6, 2) := by decide +kernel
theorem dL_law_135 : decode cL_law 135 = .ok (.ifCond .ne 22, 3) := by decide +kernel
theorem dL_law_138 : decode cL_law 138 = .ok (.aload_n 1, 1) := by decide +kernel
theorem dL_law_139 : decode cL_law 139 = .ok (.iconst 1, 1) := by decide +kernel
theorem dL_law_140 : decode cL_law 140 = .ok (.iload 5, 2) := by decide +kernel
theorem dL_law_142 : decode cL_law 142 = .ok (.iconst 4, 1) := by decide +kernel
theorem dL_law_143 : decode cL_law 143 = .ok (.ishr, 1) := by decide +kernel
theorem dL_law_144 : decode cL_law 144 = .ok (.sipush 200, 3) := by decide +kernel
theorem dL_law_147 : decode cL_law 147 = .ok (.invokestatic 173, 3) := by decide +kernel
theorem dL_law_150 : decode cL_law 150 = .ok (.iadd, 1) := by decide +kernel
theorem dL_law_151 : decode cL_law 151 = .ok (.invokevirtual 33, 3) := by decide +kernel
theorem dL_law_154 : decode cL_law 154 = .ok (.goto 221, 3) := by decide +kernel
theorem dL_law_157 : decode cL_law 157 = .ok (.iload 6, 2) := by decide +kernel
theorem dL_law_159 : decode cL_law 159 = .ok (.iconst 1, 1) := by decide +kernel
theorem dL_law_160 : decode cL_law 160 = .ok (.if_icmp .ne 24, 3) := by decide +kernel
theorem dL_law_163 : decode cL_law 163 = .ok (.aload_n 1, 1) := by decide +kernel
theorem dL_law_164 : decode cL_law 164 = .ok (.iload 9, 2) := by decide +kernel
theorem dL_law_166 : decode cL_law 166 = .ok (.iconst 1, 1) := by decide +kernel
theorem dL_law_167 : decode cL_law 167 = .ok (.iload 5, 2) := by decide +kernel
theorem dL_law_169 : decode cL_law 169 = .ok (.bipush 7, 2) := by decide +kernel
theorem dL_law_171 : decode cL_law 171 = .ok (.ishr, 1) := by decide +kernel
theorem dL_law_172 : decode cL_law 172 = .ok (.bipush 20, 2) := by decide +kernel
theorem dL_law_174 : decode cL_law 174 = .ok (.invokestatic 173, 3) := by decide +kernel
theorem dL_law_177 : decode cL_law 177 = .ok (.iadd, 1) := by decide +kernel
theorem dL_law_178 : decode cL_law 178 = .ok (.invokevirtual 38, 3) := by decide +kernel
theorem dL_law_181 : decode cL_law 181 = .ok (.goto 194, 3) := by decide +kernel
theorem dL_law_184 : decode cL_law 184 = .ok (.iload 6, 2) := by decide +kernel
theorem dL_law_186 : decode cL_law 186 = .ok (.iconst 4, 1) := by decide +kernel
theorem dL_law_187 : decode cL_law 187 = .ok (.if_icmp .ge 23, 3) := by decide +kernel
theorem dL_law_190 : decode cL_law 190 = .ok (.aload_n 1, 1) := by decide +kernel
theorem dL_law_191 : decode cL_law 191 = .ok (.iload 8, 2) := by decide +kernel
theorem dL_law_193 : decode cL_law 193 = .ok (.iload 5, 2) := by decide +kernel
theorem dL_law_195 : decode cL_law 195 = .ok (.bipush 7, 2) := by decide +kernel
theorem dL_law_197 : decode cL_law 197 = .ok (.ishr, 1) := by decide +kernel
theorem dL_law_198 : decode cL_law 198 = .ok (.sipush 9000, 3) := by decide +kernel
theorem dL_law_201 : decode cL_law 201 = .ok (.invokestatic 173, 3) := by decide +kernel
theorem dL_law_204 : decode cL_law 204 = .ok (.invokevirtual 45, 3) := by decide +kernel
theorem dL_law_207 : decode cL_law 207 = .ok (.goto 168, 3) := by decide +kernel
theorem dL_law_210 : decode cL_law 210 = .ok (.iload 6, 2) := by decide +kernel
theorem dL_law_212 : decode cL_law 212 = .ok (.iconst 4, 1) := by decide +kernel
theorem dL_law_213 : decode cL_law 213 = .ok (.if_icmp .ne 29, 3) := by decide +kernel
theorem dL_law_216 : decode cL_law 216 = .ok (.aload_n 1, 1) := by decide +kernel
theorem dL_law_217 : decode cL_law 217 = .ok (.iload 8, 2) := by decide +kernel
theorem dL_law_219 : decode cL_law 219 = .ok (.iload 5, 2) := by decide +kernel
theorem dL_law_221 : decode cL_law 221 = .ok (.bipush 7, 2) := by decide +kernel
theorem dL_law_223 : decode cL_law 223 = .ok (.ishr, 1) := by decide +kernel
theorem dL_law_224 : decode cL_law 224 = .ok (.iconst 2, 1) := by decide +kernel
theorem dL_law_225 : decode cL_law 225 = .ok (.invokestatic 173, 3) := by decide +kernel
theorem dL_law_228 : decode cL_law 228 = .ok (.ifCond .ne 7, 3) := by decide +kernel
theorem dL_law_231 : decode cL_law 231 = .ok (.iconst 1, 1) := by decide +kernel
theorem dL_law_232 : decode cL_law 232 = .ok (.goto 4, 3) := by decide +kernel
theorem dL_law_235 : decode cL_law 235 = .ok (.iconst 0, 1) := by decide +kernel
theorem dL_law_236 : decode cL_law 236 = .ok (.invokevirtual 48, 3) := by decide +kernel
theorem dL_law_239 : decode cL_law 239 = .ok (.goto 136, 3) := by decide +kernel
theorem dL_law_242 : decode cL_law 242 = .ok (.iload 6, 2) := by decide +kernel
theorem dL_law_244 : decode cL_law 244 = .ok (.iconst 5, 1) := by decide +kernel
theorem dL_law_245 : decode cL_law 245 = .ok (.if_icmp .ne 29, 3) := by decide +kernel
theorem dL_law_248 : decode cL_law 248 = .ok (.aload_n 1, 1) := by decide +kernel
theorem dL_law_249 : decode cL_law 249 = .ok (.iload 5, 2) := by decide +kernel
theorem dL_law_251 : decode cL_law 251 = .ok (.bipush 7, 2) := by decide +kernel
theorem dL_law_253 : decode cL_law 253 = .ok (.ishr, 1) := by decide +kernel
theorem dL_law_254 : decode cL_law 254 = .ok (.iconst 3, 1) := by decide +kernel
theorem dL_law_255 : decode cL_law 255 = .ok (.invokestatic 173, 3) := by decide +kernel
theorem dL_law_258 : decode cL_law 258 = .ok (.iload 5, 2) := by decide +kernel
theorem dL_law_260 : decode cL_law 260 = .ok (.bipush 9, 2) := by decide +kernel
theorem dL_law_262 : decode cL_law 262 = .ok (.ishr, 1) := by decide +kernel
theorem dL_law_263 : decode cL_law 263 = .ok (.bipush 90, 2) := by decide +kernel
theorem dL_law_265 : decode cL_law 265 = .ok (.invokestatic 173, 3) := by decide +kernel
theorem dL_law_268 : decode cL_law 268 = .ok (.invokevirtual 41, 3) := by decide +kernel
theorem dL_law_271 : decode cL_law 271 = .ok (.goto 104, 3) := by decide +kernel
theorem dL_law_274 : decode cL_law 274 = .ok (.iload 6, 2) := by decide +kernel
theorem dL_law_276 : decode cL_law 276 = .ok (.bipush 6, 2) := by decide +kernel
theorem dL_law_278 : decode cL_law 278 = .ok (.if_icmp .ne 24, 3) := by decide +kernel
theorem dL_law_281 : decode cL_law 281 = .ok (.aload_n 1, 1) := by decide +kernel
theorem dL_law_282 : decode cL_law 282 = .ok (.iload 9, 2) := by decide +kernel
theorem dL_law_284 : decode cL_law 284 = .ok (.iconst 1, 1) := by decide +kernel
theorem dL_law_285 : decode cL_law 285 = .ok (.iload 5, 2) := by decide +kernel
theorem dL_law_287 : decode cL_law 287 = .ok (.bipush 7, 2) := by decide +kernel
theorem dL_law_289 : decode cL_law 289 = .ok (.ishr, 1) := by decide +kernel
theorem dL_law_290 : decode cL_law 290 = .ok (.bipush 11, 2) := by decide +kernel
theorem dL_law_292 : decode cL_law 292 = .ok (.invokestatic 173, 3) := by decide +kernel
theorem dL_law_295 : decode cL_law 295 = .ok (.iadd, 1) := by decide +kernel
theorem dL_law_296 : decode cL_law 296 = .ok (.invokevirtual 52, 3) := by decide +kernel
theorem dL_law_299 : decode cL_law 299 = .ok (.goto 76, 3) := by decide +kernel
theorem dL_law_302 : decode cL_law 302 = .ok (.iload 6, 2) := by decide +kernel
theorem dL_law_304 : decode cL_law 304 = .ok (.bipush 7, 2) := by decide +kernel
theorem dL_law_306 : decode cL_law 306 = .ok (.if_icmp .ne 23, 3) := by decide +kernel
theorem dL_law_309 : decode cL_law 309 = .ok (.aload_n 1, 1) := by decide +kernel
theorem dL_law_310 : decode cL_law 310 = .ok (.iload 9, 2) := by decide +kernel
theorem dL_law_312 : decode cL_law 312 = .ok (.iload 5, 2) := by decide +kernel
theorem dL_law_314 : decode cL_law 314 = .ok (.bipush 7, 2) := by decide +kernel
theorem dL_law_316 : decode cL_law 316 = .ok (.ishr, 1) := by decide +kernel
theorem dL_law_317 : decode cL_law 317 = .ok (.sipush 1001, 3) := by decide +kernel
theorem dL_law_320 : decode cL_law 320 = .ok (.invokestatic 173, 3) := by decide +kernel
theorem dL_law_323 : decode cL_law 323 = .ok (.invokevirtual 55, 3) := by decide +kernel
theorem dL_law_326 : decode cL_law 326 = .ok (.goto 49, 3) := by decide +kernel
theorem dL_law_329 : decode cL_law 329 = .ok (.iload 6, 2) := by decide +kernel
theorem dL_law_331 : decode cL_law 331 = .ok (.bipush 8, 2) := by decide +kernel
theorem dL_law_333 : decode cL_law 333 = .ok (.if_icmp .ne 10, 3) := by decide +kernel
theorem dL_law_336 : decode cL_law 336 = .ok (.aload_n 1, 1) := by decide +kernel
theorem dL_law_337 : decode cL_law 337 = .ok (.invokevirtual 91, 3) := by decide +kernel
theorem dL_law_340 : decode cL_law 340 = .ok (.goto 35, 3) := by decide +kernel
theorem dL_law_343 : decode cL_law 343 = .ok (.aload_n 1, 1) := by decide +kernel
theorem dL_law_344 : decode cL_law 344 = .ok (.iload 5, 2) := by decide +kernel
theorem dL_law_346 : decode cL_law 346 = .ok (.iconst 4, 1) := by decide +kernel
theorem dL_law_347 : decode cL_law 347 = .ok (.ishr, 1) := by decide +kernel
theorem dL_law_348 : decode cL_law 348 = .ok (.iconst 3, 1) := by decide +kernel
theorem dL_law_349 : decode cL_law 349 = .ok (.invokestatic 173, 3) := by decide +kernel
theorem dL_law_352 : decode cL_law 352 = .ok (.iload 5, 2) := by decide +kernel
theorem dL_law_354 : decode cL_law 354 = .ok (.bipush 6, 2) := by decide +kernel
theorem dL_law_356 : decode cL_law 356 = .ok (.ishr, 1) := by decide +kernel
theorem dL_law_357 : decode cL_law 357 = .ok (.iconst 4, 1) := by decide +kernel
theorem dL_law_358 : decode cL_law 358 = .ok (.invokestatic 173, 3) := by decide +kernel
theorem dL_law_361 : decode cL_law 361 = .ok (.iload 5, 2) := by decide +kernel
theorem dL_law_363 : decode cL_law 363 = .ok (.bipush 8, 2) := by decide +kernel
theorem dL_law_365 : decode cL_law 365 = .ok (.ishr, 1) := by decide +kernel
theorem dL_law_366 : decode cL_law 366 = .ok (.sipush 9000, 3) := by decide +kernel
theorem dL_law_369 : decode cL_law 369 = .ok (.invokestatic 173, 3) := by decide +kernel
theorem dL_law_372 : decode cL_law 372 = .ok (.invokevirtual 58, 3) := by decide +kernel
theorem dL_law_375 : decode cL_law 375 = .ok (.istore 10, 2) := by decide +kernel
theorem dL_law_377 : decode cL_law 377 = .ok (.iload 10, 2) := by decide +kernel
theorem dL_law_379 : decode cL_law 379 = .ok (.ifCond .ge 27, 3) := by decide +kernel
theorem dL_law_382 : decode cL_law 382 = .ok (.aload_n 1, 1) := by decide +kernel
theorem dL_law_383 : decode cL_law 383 = .ok (.bipush 13, 2) := by decide +kernel
theorem dL_law_385 : decode cL_law 385 = .ok (.invokevirtual 13, 3) := by decide +kernel
theorem dL_law_388 : decode cL_law 388 = .ok (.iload 7, 2) := by decide +kernel
theorem dL_law_390 : decode cL_law 390 = .ok (.if_icmp .ne 14, 3) := by decide +kernel
theorem dL_law_393 : decode cL_law 393 = .ok (.aload_n 1, 1) := by decide +kernel
theorem dL_law_394 : decode cL_law 394 = .ok (.invokestatic 75, 3) := by decide +kernel
theorem dL_law_397 : decode cL_law 397 = .ok (.aload_n 2, 1) := by decide +kernel
theorem dL_law_398 : decode cL_law 398 = .ok (.iload_n 3, 1) := by decide +kernel
theorem dL_law_399 : decode cL_law 399 = .ok (.laload, 1) := by decide +kernel
theorem dL_law_400 : decode cL_law 400 = .ok (.lcmp, 1) := by decide +kernel
theorem dL_law_401 : decode cL_law 401 = .ok (.ifCond .eq 5, 3) := by decide +kernel
theorem dL_law_404 : decode cL_law 404 = .ok (.iconst 0, 1) := by decide +kernel
theorem dL_law_405 : decode cL_law 405 = .ok (.ireturn, 1) := by decide +kernel
theorem dL_law_406 : decode cL_law 406 = .ok (.iload_n 3, 1) := by decide +kernel
theorem dL_law_407 : decode cL_law 407 = .ok (.iload 10, 2) := by decide +kernel
theorem dL_law_409 : decode cL_law 409 = .ok (.ifCond .ge 7, 3) := by decide +kernel
theorem dL_law_412 : decode cL_law 412 = .ok (.iconst 0, 1) := by decide +kernel
theorem dL_law_413 : decode cL_law 413 = .ok (.goto 4, 3) := by decide +kernel
theorem dL_law_416 : decode cL_law 416 = .ok (.iconst 1, 1) := by decide +kernel
theorem dL_law_417 : decode cL_law 417 = .ok (.iadd, 1) := by decide +kernel
theorem dL_law_418 : decode cL_law 418 = .ok (.istore_n 3, 1) := by decide +kernel
theorem dL_law_419 : decode cL_law 419 = .ok (.iinc 4 1, 3) := by decide +kernel
theorem dL_law_422 : decode cL_law 422 = .ok (.goto (-370), 3) := by decide +kernel
theorem dL_law_425 : decode cL_law 425 = .ok (.aload_n 2, 1) := by decide +kernel
theorem dL_law_426 : decode cL_law 426 = .ok (.iload_n 3, 1) := by decide +kernel
theorem dL_law_427 : decode cL_law 427 = .ok (.aload_n 1, 1) := by decide +kernel
theorem dL_law_428 : decode cL_law 428 = .ok (.invokestatic 75, 3) := by decide +kernel
theorem dL_law_431 : decode cL_law 431 = .ok (.lastore, 1) := by decide +kernel
theorem dL_law_432 : decode cL_law 432 = .ok (.aload_n 1, 1) := by decide +kernel
theorem dL_law_433 : decode cL_law 433 = .ok (.iconst 0, 1) := by decide +kernel
theorem dL_law_434 : decode cL_law 434 = .ok (.invokevirtual 13, 3) := by decide +kernel
theorem dL_law_437 : decode cL_law 437 = .ok (.istore 4, 2) := by decide +kernel
theorem dL_law_439 : decode cL_law 439 = .ok (.aload_n 1, 1) := by decide +kernel
theorem dL_law_440 : decode cL_law 440 = .ok (.invokevirtual 176, 3) := by decide +kernel
theorem dL_law_443 : decode cL_law 443 = .ok (.iload 4, 2) := by decide +kernel
theorem dL_law_445 : decode cL_law 445 = .ok (.if_icmp .ne 58, 3) := by decide +kernel
theorem dL_law_448 : decode cL_law 448 = .ok (.aload_n 1, 1) := by decide +kernel
theorem dL_law_449 : decode cL_law 449 = .ok (.iconst 0, 1) := by decide +kernel
theorem dL_law_450 : decode cL_law 450 = .ok (.aload_n 1, 1) := by decide +kernel
theorem dL_law_451 : decode cL_law 451 = .ok (.iconst 4, 1) := by decide +kernel
theorem dL_law_452 : decode cL_law 452 = .ok (.invokevirtual 13, 3) := by decide +kernel
theorem dL_law_455 : decode cL_law 455 = .ok (.iconst 1, 1) := by decide +kernel
theorem dL_law_456 : decode cL_law 456 = .ok (.iadd, 1) := by decide +kernel
theorem dL_law_457 : decode cL_law 457 = .ok (.invokevirtual 41, 3) := by decide +kernel
theorem dL_law_460 : decode cL_law 460 = .ok (.ifCond .lt 43, 3) := by decide +kernel
theorem dL_law_463 : decode cL_law 463 = .ok (.aload_n 1, 1) := by decide +kernel
theorem dL_law_464 : decode cL_law 464 = .ok (.iconst 1, 1) := by decide +kernel
theorem dL_law_465 : decode cL_law 465 = .ok (.aload_n 1, 1) := by decide +kernel
theorem dL_law_466 : decode cL_law 466 = .ok (.iconst 5, 1) := by decide +kernel
theorem dL_law_467 : decode cL_law 467 = .ok (.invokevirtual 13, 3) := by decide +kernel
theorem dL_law_470 : decode cL_law 470 = .ok (.iconst 1, 1) := by decide +kernel
theorem dL_law_471 : decode cL_law 471 = .ok (.iadd, 1) := by decide +kernel
theorem dL_law_472 : decode cL_law 472 = .ok (.bipush 101, 2) := by decide +kernel
theorem dL_law_474 : decode cL_law 474 = .ok (.irem, 1) := by decide +kernel
theorem dL_law_475 : decode cL_law 475 = .ok (.invokevirtual 41, 3) := by decide +kernel
theorem dL_law_478 : decode cL_law 478 = .ok (.ifCond .lt 25, 3) := by decide +kernel
theorem dL_law_481 : decode cL_law 481 = .ok (.aload_n 1, 1) := by decide +kernel
theorem dL_law_482 : decode cL_law 482 = .ok (.invokestatic 94, 3) := by decide +kernel
theorem dL_law_485 : decode cL_law 485 = .ok (.ifCond .eq 18, 3) := by decide +kernel
theorem dL_law_488 : decode cL_law 488 = .ok (.aload_n 1, 1) := by decide +kernel
theorem dL_law_489 : decode cL_law 489 = .ok (.invokevirtual 84, 3) := by decide +kernel
theorem dL_law_492 : decode cL_law 492 = .ok (.iconst 1, 1) := by decide +kernel
theorem dL_law_493 : decode cL_law 493 = .ok (.if_icmp .lt 10, 3) := by decide +kernel
theorem dL_law_496 : decode cL_law 496 = .ok (.aload_n 1, 1) := by decide +kernel
theorem dL_law_497 : decode cL_law 497 = .ok (.invokevirtual 84, 3) := by decide +kernel
theorem dL_law_500 : decode cL_law 500 = .ok (.ifCond .ge 5, 3) := by decide +kernel
theorem dL_law_503 : decode cL_law 503 = .ok (.iconst 0, 1) := by decide +kernel
theorem dL_law_504 : decode cL_law 504 = .ok (.ireturn, 1) := by decide +kernel
theorem dL_law_505 : decode cL_law 505 = .ok (.iconst 0, 1) := by decide +kernel
theorem dL_law_506 : decode cL_law 506 = .ok (.istore 5, 2) := by decide +kernel
theorem dL_law_508 : decode cL_law 508 = .ok (.aload_n 1, 1) := by decide +kernel
theorem dL_law_509 : decode cL_law 509 = .ok (.bipush 13, 2) := by decide +kernel
theorem dL_law_511 : decode cL_law 511 = .ok (.invokevirtual 13, 3) := by decide +kernel
theorem dL_law_514 : decode cL_law 514 = .ok (.ifCond .le 44, 3) := by decide +kernel
theorem dL_law_517 : decode cL_law 517 = .ok (.iload 5, 2) := by decide +kernel
theorem dL_law_519 : decode cL_law 519 = .ok (.iload_n 3, 1) := by decide +kernel
theorem dL_law_520 : decode cL_law 520 = .ok (.if_icmp .ge 38, 3) := by decide +kernel
theorem dL_law_523 : decode cL_law 523 = .ok (.iload 5, 2) := by decide +kernel
theorem dL_law_525 : decode cL_law 525 = .ok (.iconst 4, 1) := by decide +kernel
theorem dL_law_526 : decode cL_law 526 = .ok (.if_icmp .gt 24, 3) := by decide +kernel
theorem dL_law_529 : decode cL_law 529 = .ok (.aload_n 1, 1) := by decide +kernel
theorem dL_law_530 : decode cL_law 530 = .ok (.invokestatic 75, 3) := by decide +kernel
theorem dL_law_533 : decode cL_law 533 = .ok (.aload_n 2, 1) := by decide +kernel
theorem dL_law_534 : decode cL_law 534 = .ok (.iload_n 3, 1) := by decide +kernel
theorem dL_law_535 : decode cL_law 535 = .ok (.iload 5, 2) := by decide +kernel
theorem dL_law_537 : decode cL_law 537 = .ok (.isub, 1) := by decide +kernel
theorem dL_law_538 : decode cL_law 538 = .ok (.laload, 1) := by decide +kernel
theorem dL_law_539 : decode cL_law 539 = .ok (.lcmp, 1) := by decide +kernel
theorem dL_law_540 : decode cL_law 540 = .ok (.ifCond .ne 10, 3) := by decide +kernel
theorem dL_law_543 : decode cL_law 543 = .ok (.aload_n 1, 1) := by decide +kernel
theorem dL_law_544 : decode cL_law 544 = .ok (.invokevirtual 84, 3) := by decide +kernel
theorem dL_law_547 : decode cL_law 547 = .ok (.ifCond .ge 5, 3) := by decide +kernel
theorem dL_law_550 : decode cL_law 550 = .ok (.iconst 0, 1) := by decide +kernel
theorem dL_law_551 : decode cL_law 551 = .ok (.ireturn, 1) := by decide +kernel
theorem dL_law_552 : decode cL_law 552 = .ok (.iinc 5 1, 3) := by decide +kernel
theorem dL_law_555 : decode cL_law 555 = .ok (.goto (-47), 3) := by decide +kernel
theorem dL_law_558 : decode cL_law 558 = .ok (.aload_n 1, 1) := by decide +kernel
theorem dL_law_559 : decode cL_law 559 = .ok (.bipush 13, 2) := by decide +kernel
theorem dL_law_561 : decode cL_law 561 = .ok (.invokevirtual 13, 3) := by decide +kernel
theorem dL_law_564 : decode cL_law 564 = .ok (.ifCond .gt 42, 3) := by decide +kernel
theorem dL_law_567 : decode cL_law 567 = .ok (.aload_n 1, 1) := by decide +kernel
theorem dL_law_568 : decode cL_law 568 = .ok (.invokevirtual 84, 3) := by decide +kernel
theorem dL_law_571 : decode cL_law 571 = .ok (.bipush (-5), 2) := by decide +kernel
theorem dL_law_573 : decode cL_law 573 = .ok (.if_icmp .ne 37, 3) := by decide +kernel
theorem dL_law_576 : decode cL_law 576 = .ok (.aload_n 1, 1) := by decide +kernel
theorem dL_law_577 : decode cL_law 577 = .ok (.invokevirtual 88, 3) := by decide +kernel
theorem dL_law_580 : decode cL_law 580 = .ok (.iload 4, 2) := by decide +kernel
theorem dL_law_582 : decode cL_law 582 = .ok (.if_icmp .ne 28, 3) := by decide +kernel
theorem dL_law_585 : decode cL_law 585 = .ok (.aload_n 1, 1) := by decide +kernel
theorem dL_law_586 : decode cL_law 586 = .ok (.invokestatic 75, 3) := by decide +kernel
theorem dL_law_589 : decode cL_law 589 = .ok (.aload_n 2, 1) := by decide +kernel
theorem dL_law_590 : decode cL_law 590 = .ok (.iload_n 3, 1) := by decide +kernel
theorem dL_law_591 : decode cL_law 591 = .ok (.laload, 1) := by decide +kernel
theorem dL_law_592 : decode cL_law 592 = .ok (.lcmp, 1) := by decide +kernel
theorem dL_law_593 : decode cL_law 593 = .ok (.ifCond .ne 17, 3) := by decide +kernel
theorem dL_law_596 : decode cL_law 596 = .ok (.aload_n 1, 1) := by decide +kernel
theorem dL_law_597 : decode cL_law 597 = .ok (.bipush 13, 2) := by decide +kernel
theorem dL_law_599 : decode cL_law 599 = .ok (.invokevirtual 13, 3) := by decide +kernel
theorem dL_law_602 : decode cL_law 602 = .ok (.iconst 1, 1) := by decide +kernel
theorem dL_law_603 : decode cL_law 603 = .ok (.if_icmp .ne 7, 3) := by decide +kernel
theorem dL_law_606 : decode cL_law 606 = .ok (.iconst 1, 1) := by decide +kernel
theorem dL_law_607 : decode cL_law 607 = .ok (.goto 4, 3) := by decide +kernel
theorem dL_law_610 : decode cL_law 610 = .ok (.iconst 0, 1) := by decide +kernel
theorem dL_law_611 : decode cL_law 611 = .ok (.ireturn, 1) := by decide +kernel
abbrev vwCl : List vw_C := [(RX0, TX0, 5), (RX1, TX1, 3), (RX2, TX2, 12), (RX3, TX3, 7), (RX4, TX4, 8), (RX5, TX5, 6)]
