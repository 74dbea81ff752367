theorem hw_app {a b big : List Cond} (ha : ∀ w ∈ a, w ∈ big) (hb : ∀ w ∈ b, w ∈ big) : ∀ w ∈ a ++ b, w ∈ big := fun w h => (List.mem_append.mp h).elim (ha w) (hb w)
theorem hw_pl {ws big : List Cond} (ps : List Nat) (hp : ws = ps.filterMap (fun i => big[i]?)) : ∀ w ∈ ws, w ∈ big := by
  intro w hw
  rw [hp] at hw
  obtain ⟨i, -, hi⟩ := List.mem_filterMap.mp hw
  exact List.mem_of_getElem? hi
set_option maxRecDepth 100000 in
theorem hw_wsL_law_r1 : ∀ w ∈ wsL_law_r1, w ∈ lw_tbl := hw_pl [21, 22, 13, 221, 498, 499, 12, 500, 501, 502, 503, 504, 23, 24, 25, 26, 27, 28, 29, 30, 14, 222, 223, 224] rfl
set_option maxRecDepth 100000 in
theorem hw_wsL_law_r2 : ∀ w ∈ wsL_law_r2, w ∈ lw_tbl := hw_pl [143, 144, 17, 225, 163, 164, 18, 226, 195, 196, 19, 227, 31, 32, 33, 34, 89, 86, 92, 95, 98, 100, 103, 87] (by decide +kernel)
set_option maxRecDepth 100000 in
theorem hw_wsL_law_r3 : ∀ w ∈ wsL_law_r3, w ∈ lw_tbl := hw_pl [106, 109, 110, 35, 36, 15, 112, 115, 117, 37, 38, 39, 40, 44, 48, 51, 55, 58, 60, 64, 67, 41, 42, 16] (by decide +kernel)
set_option maxRecDepth 100000 in
theorem hw_wsL_law_r4 : ∀ w ∈ wsL_law_r4, w ∈ lw_tbl := hw_pl [43, 145, 146, 147, 148, 149, 152, 153, 154, 151, 165, 166, 167, 168, 194, 169, 170, 172, 174, 175, 177, 178, 197, 198] (by decide +kernel)
set_option maxRecDepth 100000 in
theorem hw_wsL_law_r5 : ∀ w ∈ wsL_law_r5, w ∈ lw_tbl := hw_pl [199, 200, 201, 203, 205, 207, 209, 397, 398, 399, 400, 155, 401, 402, 403, 404, 405, 250, 251, 252, 253, 255, 254, 20] (by decide +kernel)
set_option maxRecDepth 100000 in
theorem hw_wsL_law_r6 : ∀ w ∈ wsL_law_r6, w ∈ lw_tbl := hw_pl [256, 257, 258, 259, 260, 410, 411, 412, 413, 116, 245, 246, 247, 248, 249, 329, 330, 331, 332, 90, 113, 208, 333, 335] (by decide +kernel)
set_option maxRecDepth 100000 in
theorem hw_wsL_law_r7 : ∀ w ∈ wsL_law_r7, w ∈ lw_tbl := hw_pl [1, 336, 291, 292, 293, 294, 54, 63, 295, 297, 0, 298, 299, 300, 301, 302, 303, 288, 289, 290, 337, 338, 339, 340] (by decide +kernel)
set_option maxRecDepth 100000 in
theorem hw_wsL_law_r8 : ∀ w ∈ wsL_law_r8, w ∈ lw_tbl := hw_pl [52, 96, 61, 45, 49, 341, 342, 343, 344, 345, 91, 94, 347, 348, 349, 351, 2, 352, 353, 355, 3, 356, 357, 358] (by decide +kernel)
set_option maxRecDepth 100000 in
theorem hw_wsL_law_r9 : ∀ w ∈ wsL_law_r9, w ∈ lw_tbl := hw_pl [359, 360, 361, 362, 363, 364, 365, 366, 317, 318, 319, 367, 369, 4, 370, 56, 371, 372, 373, 374, 321, 322, 323, 377] (by decide +kernel)
set_option maxRecDepth 100000 in
theorem hw_wsL_law_r10 : ∀ w ∈ wsL_law_r10, w ∈ lw_tbl := hw_pl [378, 379, 380, 381, 382, 65, 383, 384, 385, 386, 414, 415, 416, 417, 53, 93, 202, 204, 206, 111, 171, 308, 309, 310] (by decide +kernel)
set_option maxRecDepth 100000 in
theorem hw_wsL_law_r11 : ∀ w ∈ wsL_law_r11, w ∈ lw_tbl := hw_pl [311, 275, 276, 277, 278, 46, 50, 418, 419, 420, 421, 422, 424, 425, 426, 427, 428, 476, 477, 478, 479, 480, 481, 482] (by decide +kernel)
set_option maxRecDepth 100000 in
theorem hw_wsL_law_r12 : ∀ w ∈ wsL_law_r12, w ∈ lw_tbl := hw_pl [483, 241, 242, 243, 244, 261, 262, 263, 264, 97, 99, 265, 266, 267, 268, 269, 270, 271, 272, 273, 279, 280, 281, 282] (by decide +kernel)
set_option maxRecDepth 100000 in
theorem hw_wsL_law_r13 : ∀ w ∈ wsL_law_r13, w ∈ lw_tbl := hw_pl [442, 443, 444, 445, 57, 59, 446, 447, 448, 449, 450, 283, 284, 285, 286, 101, 104, 62, 287, 304, 305, 306, 307, 107] (by decide +kernel)
set_option maxRecDepth 100000 in
theorem hw_wsL_law_r14 : ∀ w ∈ wsL_law_r14, w ∈ lw_tbl := hw_pl [451, 452, 453, 454, 325, 326, 327, 328, 316, 472, 473, 474, 475, 459, 312, 313, 314, 315, 320, 465, 466, 467, 437, 438] (by decide +kernel)
set_option maxRecDepth 100000 in
theorem hw_wsL_law_r15 : ∀ w ∈ wsL_law_r15, w ∈ lw_tbl := hw_pl [439, 440, 441, 455, 456, 457, 458, 460, 68, 66, 391, 461, 462, 463, 464, 468, 469, 470, 471, 497, 387, 388, 389, 390] rfl
set_option maxRecDepth 100000 in
theorem hw_wsL_law_r16 : ∀ w ∈ wsL_law_r16, w ∈ lw_tbl := hw_pl [392, 393, 394, 395, 396, 484, 485, 486, 487, 488, 490, 5, 491, 47, 492, 493, 494, 495, 496, 505, 506, 507, 568, 569] (by decide +kernel)
set_option maxRecDepth 100000 in
theorem hw_wsL_law_r17 : ∀ w ∈ wsL_law_r17, w ∈ lw_tbl := hw_pl [570, 571, 572, 573, 574, 575, 576, 577, 578, 579, 580, 581, 582, 583, 584, 589, 590, 591, 508, 509, 510, 511, 512, 513] (by decide +kernel)
set_option maxRecDepth 100000 in
theorem hw_wsL_law_r18 : ∀ w ∈ wsL_law_r18, w ∈ lw_tbl := hw_pl [514, 515, 516, 517, 518, 519, 520, 521, 522, 523, 524, 525, 526, 173, 176, 527, 528, 529, 530, 531, 533, 6, 534, 535] (by decide +kernel)
set_option maxRecDepth 100000 in
theorem hw_wsL_law_r19 : ∀ w ∈ wsL_law_r19, w ∈ lw_tbl := hw_pl [537, 7, 538, 539, 541, 8, 542, 543, 545, 9, 546, 547, 549, 10, 550, 551, 553, 11, 554, 555, 556, 557, 558, 114] (by decide +kernel)
set_option maxRecDepth 100000 in
theorem hw_wsL_law_r20 : ∀ w ∈ wsL_law_r20, w ∈ lw_tbl := hw_pl [559, 560, 561, 562, 563, 102, 564, 565, 566, 567, 108, 105, 585, 586, 587, 588, 433, 434, 435, 436, 429, 430, 431, 432] (by decide +kernel)
set_option maxRecDepth 100000 in
theorem hw_wsL_law_r21 : ∀ w ∈ wsL_law_r21, w ∈ lw_tbl := hw_pl [406, 407, 408, 409] (by decide +kernel)
set_option maxRecDepth 100000 in
theorem hw_wsX50 : ∀ w ∈ wsX50, w ∈ lw_tbl := hw_pl [228, 230, 232, 234, 236, 238] (by decide +kernel)
set_option maxRecDepth 100000 in
theorem hw_wsX20 : ∀ w ∈ wsX20, w ∈ lw_tbl := hw_pl [118, 120, 122, 124, 126, 128, 130, 132, 134, 136, 138, 140] (by decide +kernel)
set_option maxRecDepth 100000 in
theorem hw_wsX10 : ∀ w ∈ wsX10, w ∈ lw_tbl := hw_pl [156, 158, 160] (by decide +kernel)
set_option maxRecDepth 100000 in
theorem hw_wsX30 : ∀ w ∈ wsX30, w ∈ lw_tbl := hw_pl [179, 181, 183, 185, 187, 189, 191] (by decide +kernel)
set_option maxRecDepth 100000 in
theorem hw_wsX00 : ∀ w ∈ wsX00, w ∈ lw_tbl := hw_pl [210, 212, 214, 216, 218] (by decide +kernel)
set_option maxRecDepth 100000 in
theorem hw_wsX40 : ∀ w ∈ wsX40, w ∈ lw_tbl := hw_pl [69, 71, 73, 75, 77, 79, 81, 83] (by decide +kernel)
theorem wsL_law_in : ∀ w ∈ wsL_law, w ∈ lw_tbl := (hw_app (hw_app (hw_app (hw_app (hw_app (hw_app (hw_app (hw_app hw_wsL_law_r1 (hw_app hw_wsL_law_r2 (hw_app hw_wsL_law_r3 (hw_app hw_wsL_law_r4 (hw_app hw_wsL_law_r5 (hw_app hw_wsL_law_r6 (hw_app hw_wsL_law_r7 (hw_app hw_wsL_law_r8 (hw_app hw_wsL_law_r9 (hw_app hw_wsL_law_r10 (hw_app hw_wsL_law_r11 (hw_app hw_wsL_law_r12 (hw_app hw_wsL_law_r13 (hw_app hw_wsL_law_r14 (hw_app hw_wsL_law_r15 (hw_app hw_wsL_law_r16 (hw_app hw_wsL_law_r17 (hw_app hw_wsL_law_r18 (hw_app hw_wsL_law_r19 (hw_app hw_wsL_law_r20 hw_wsL_law_r21)))))))))))))))))))) hw_wsX50) hw_wsX20) hw_wsX10) hw_wsX30) hw_wsX00) hw_wsX40) (fun _ h => absurd h List.not_mem_nil))
theorem inlX0 : ∀ w ∈ wsX00, w ∈ wsL_law := fun _ h => List.mem_append_left _ (List.mem_append_left _ (List.mem_append_right _ h))
theorem inX0 : ∀ w ∈ wsX00, w ∈ lw_tbl := fun w h => wsL_law_in w (inlX0 w h)
theorem inlX1 : ∀ w ∈ wsX10, w ∈ wsL_law := fun _ h => List.mem_append_left _ (List.mem_append_left _ (List.mem_append_left _ (List.mem_append_left _ (List.mem_append_right _ h))))
theorem inX1 : ∀ w ∈ wsX10, w ∈ lw_tbl := fun w h => wsL_law_in w (inlX1 w h)
theorem inlX2 : ∀ w ∈ wsX20, w ∈ wsL_law := fun _ h => List.mem_append_left _ (List.mem_append_left _ (List.mem_append_left _ (List.mem_append_left _ (List.mem_append_left _ (List.mem_append_right _ h)))))
theorem inX2 : ∀ w ∈ wsX20, w ∈ lw_tbl := fun w h => wsL_law_in w (inlX2 w h)
theorem inlX3 : ∀ w ∈ wsX30, w ∈ wsL_law := fun _ h => List.mem_append_left _ (List.mem_append_left _ (List.mem_append_left _ (List.mem_append_right _ h)))
theorem inX3 : ∀ w ∈ wsX30, w ∈ lw_tbl := fun w h => wsL_law_in w (inlX3 w h)
theorem inlX4 : ∀ w ∈ wsX40, w ∈ wsL_law := fun _ h => List.mem_append_left _ (List.mem_append_right _ h)
theorem inX4 : ∀ w ∈ wsX40, w ∈ lw_tbl := fun w h => wsL_law_in w (inlX4 w h)
theorem inlX5 : ∀ w ∈ wsX50, w ∈ wsL_law := fun _ h => List.mem_append_left _ (List.mem_append_left _ (List.mem_append_left _ (List.mem_append_left _ (List.mem_append_left _ (List.mem_append_left _ (List.mem_append_right _ h))))))
theorem inX5 : ∀ w ∈ wsX50, w ∈ lw_tbl := fun w h => wsL_law_in w (inlX5 w h)
theorem inX6 : ∀ w ∈ wsX60, w ∈ lw_tbl := by decide +kernel
theorem dX0_init_0 : decode cX0_init 0 = .ok (.aload_n 0, 1) := by decide +kernel
theorem dX0_init_1 : decode cX0_init 1 = .ok (.invokespecial 3, 3) := by decide +kernel
theorem dX0_init_4 : decode cX0_init 4 = .ok (.aload_n 0, 1) := by decide +kernel
theorem dX0_init_5 : decode cX0_init 5 = .ok (.bipush 8, 2) := by decide +kernel
theorem dX0_init_7 : decode cX0_init 7 = .ok (.newarray .int, 2) := by decide +kernel
theorem dX0_init_9 : decode cX0_init 9 = .ok (.putfield 9, 3) := by decide +kernel
theorem dX0_init_12 : decode cX0_init 12 = .ok (.aload_n 0, 1) := by decide +kernel
theorem dX0_init_13 : decode cX0_init 13 = .ok (.bipush 8, 2) := by decide +kernel
theorem dX0_init_15 : decode cX0_init 15 = .ok (.newarray .int, 2) := by decide +kernel
theorem dX0_init_17 : decode cX0_init 17 = .ok (.putfield 15, 3) := by decide +kernel
theorem dX0_init_20 : decode cX0_init 20 = .ok (.aload_n 0, 1) := by decide +kernel
theorem dX0_init_21 : decode cX0_init 21 = .ok (.bipush 8, 2) := by decide +kernel
theorem dX0_init_23 : decode cX0_init 23 = .ok (.newarray .int, 2) := by decide +kernel
theorem dX0_init_25 : decode cX0_init 25 = .ok (.putfield 18, 3) := by decide +kernel
theorem dX0_init_28 : decode cX0_init 28 = .ok (.aload_n 0, 1) := by decide +kernel
theorem dX0_init_29 : decode cX0_init 29 = .ok (.bipush 16, 2) := by decide +kernel
theorem dX0_init_31 : decode cX0_init 31 = .ok (.newarray .int, 2) := by decide +kernel
theorem dX0_init_33 : decode cX0_init 33 = .ok (.putfield 21, 3) := by decide +kernel
theorem dX0_init_36 : decode cX0_init 36 = .ok (.aload_n 0, 1) := by decide +kernel
theorem dX0_init_37 : decode cX0_init 37 = .ok (.bipush 8, 2) := by decide +kernel
theorem dX0_init_39 : decode cX0_init 39 = .ok (.newarray .long, 2) := by decide +kernel
theorem dX0_init_41 : decode cX0_init 41 = .ok (.putfield 24, 3) := by decide +kernel
theorem dX0_init_44 : decode cX0_init 44 = .ok (.return_, 1) := by decide +kernel
set_option maxRecDepth 20000 in
theorem ggX0_drawUp_J7_fill_53178 : GoodIn wsX0_drawUp wsJ7_fill_53178 := goodIn_r _ [10] (by decide +kernel) (by decide +kernel)
set_option maxRecDepth 20000 in
theorem gX0_drawUp_J7_fill_53178 : GoodIn wsX0_drawUp (va_wsS RX0 28 yJ7_fill_53178 wsJ7_fill_53178) := goodIn_app (goodIn_of _ (by decide +kernel)) ggX0_drawUp_J7_fill_53178
set_option maxRecDepth 20000 in
theorem ggX0_drawUp_X0_shareCost : GoodIn wsX0_drawUp wsX0_shareCost := goodIn_r _ [15, 1, 16, 17, 18, 19, 20, 21, 22, 23, 24, 25, 14, 26, 27, 28, 29, 30, 31, 32, 33, 34, 35, 36, 37, 46, 47, 48, 49, 50, 51, 52, 53, 54, 55, 56, 57] (by decide +kernel) (by decide +kernel)
set_option maxRecDepth 20000 in
theorem gX0_drawUp_X0_shareCost : GoodIn wsX0_drawUp (wsV RX0 54 RX0 yX0_shareCost wsX0_shareCost) := goodIn_app (goodIn_of _ (by decide +kernel)) ggX0_drawUp_X0_shareCost
theorem dX0_drawUp_0 : decode cX0_drawUp 0 = .ok (.aload_n 0, 1) := by decide +kernel
theorem dX0_drawUp_1 : decode cX0_drawUp 1 = .ok (.getfield 9, 3) := by decide +kernel
theorem dX0_drawUp_4 : decode cX0_drawUp 4 = .ok (.iconst 0, 1) := by decide +kernel
theorem dX0_drawUp_5 : decode cX0_drawUp 5 = .ok (.invokestatic 28, 3) := by decide +kernel
theorem dX0_drawUp_8 : decode cX0_drawUp 8 = .ok (.iconst 0, 1) := by decide +kernel
theorem dX0_drawUp_9 : decode cX0_drawUp 9 = .ok (.istore_n 3, 1) := by decide +kernel
theorem dX0_drawUp_10 : decode cX0_drawUp 10 = .ok (.iload_n 3, 1) := by decide +kernel
theorem dX0_drawUp_11 : decode cX0_drawUp 11 = .ok (.aload_n 2, 1) := by decide +kernel
theorem dX0_drawUp_12 : decode cX0_drawUp 12 = .ok (.getfield 34, 3) := by decide +kernel
theorem dX0_drawUp_15 : decode cX0_drawUp 15 = .ok (.if_icmp .ge 29, 3) := by decide +kernel
theorem dX0_drawUp_18 : decode cX0_drawUp 18 = .ok (.aload_n 0, 1) := by decide +kernel
theorem dX0_drawUp_19 : decode cX0_drawUp 19 = .ok (.getfield 9, 3) := by decide +kernel
theorem dX0_drawUp_22 : decode cX0_drawUp 22 = .ok (.aload_n 1, 1) := by decide +kernel
theorem dX0_drawUp_23 : decode cX0_drawUp 23 = .ok (.getfield 40, 3) := by decide +kernel
theorem dX0_drawUp_26 : decode cX0_drawUp 26 = .ok (.iload_n 3, 1) := by decide +kernel
theorem dX0_drawUp_27 : decode cX0_drawUp 27 = .ok (.iaload, 1) := by decide +kernel
theorem dX0_drawUp_28 : decode cX0_drawUp 28 = .ok (.dup2, 1) := by decide +kernel
theorem dX0_drawUp_29 : decode cX0_drawUp 29 = .ok (.iaload, 1) := by decide +kernel
theorem dX0_drawUp_30 : decode cX0_drawUp 30 = .ok (.aload_n 2, 1) := by decide +kernel
theorem dX0_drawUp_31 : decode cX0_drawUp 31 = .ok (.getfield 45, 3) := by decide +kernel
theorem dX0_drawUp_34 : decode cX0_drawUp 34 = .ok (.iload_n 3, 1) := by decide +kernel
theorem dX0_drawUp_35 : decode cX0_drawUp 35 = .ok (.iaload, 1) := by decide +kernel
theorem dX0_drawUp_36 : decode cX0_drawUp 36 = .ok (.iadd, 1) := by decide +kernel
theorem dX0_drawUp_37 : decode cX0_drawUp 37 = .ok (.iastore, 1) := by decide +kernel
theorem dX0_drawUp_38 : decode cX0_drawUp 38 = .ok (.iinc 3 1, 3) := by decide +kernel
theorem dX0_drawUp_41 : decode cX0_drawUp 41 = .ok (.goto (-31), 3) := by decide +kernel
theorem dX0_drawUp_44 : decode cX0_drawUp 44 = .ok (.aload_n 0, 1) := by decide +kernel
theorem dX0_drawUp_45 : decode cX0_drawUp 45 = .ok (.aload_n 1, 1) := by decide +kernel
theorem dX0_drawUp_46 : decode cX0_drawUp 46 = .ok (.aload_n 2, 1) := by decide +kernel
theorem dX0_drawUp_47 : decode cX0_drawUp 47 = .ok (.getfield 48, 3) := by decide +kernel
theorem dX0_drawUp_50 : decode cX0_drawUp 50 = .ok (.aload_n 2, 1) := by decide +kernel
theorem dX0_drawUp_51 : decode cX0_drawUp 51 = .ok (.getfield 51, 3) := by decide +kernel
theorem dX0_drawUp_54 : decode cX0_drawUp 54 = .ok (.invokevirtual 54, 3) := by decide +kernel
theorem dX0_drawUp_57 : decode cX0_drawUp 57 = .ok (.return_, 1) := by decide +kernel
set_option maxRecDepth 20000 in
theorem ggX0_shareCost_X5_sumOf : GoodIn wsX0_shareCost wsX5_sumOf := goodIn_r _ [8] (by decide +kernel) (by decide +kernel)
set_option maxRecDepth 20000 in
theorem gX0_shareCost_X5_sumOf_n61 : GoodIn wsX0_shareCost (wsX5_sumOf) := ggX0_shareCost_X5_sumOf
set_option maxRecDepth 20000 in
theorem ggX0_shareCost_X0_shareByParts : GoodIn wsX0_shareCost wsX0_shareByParts := goodIn_r _ [13, 14, 6, 7, 8, 15, 16, 17, 12, 18, 19, 20, 21, 22, 23, 24] (by decide +kernel) (by decide +kernel)
set_option maxRecDepth 20000 in
theorem gX0_shareCost_X0_shareByParts : GoodIn wsX0_shareCost (wsV RX0 68 RX0 yX0_shareByParts wsX0_shareByParts) := goodIn_app (goodIn_of _ (by decide +kernel)) ggX0_shareCost_X0_shareByParts
theorem dX0_shareCost_0 : decode cX0_shareCost 0 = .ok (.iload_n 2, 1) := by decide +kernel
theorem dX0_shareCost_1 : decode cX0_shareCost 1 = .ok (.iload_n 3, 1) := by decide +kernel
theorem dX0_shareCost_2 : decode cX0_shareCost 2 = .ok (.imul, 1) := by decide +kernel
theorem dX0_shareCost_3 : decode cX0_shareCost 3 = .ok (.bipush 100, 2) := by decide +kernel
theorem dX0_shareCost_5 : decode cX0_shareCost 5 = .ok (.idiv, 1) := by decide +kernel
theorem dX0_shareCost_6 : decode cX0_shareCost 6 = .ok (.istore 4, 2) := by decide +kernel
theorem dX0_shareCost_8 : decode cX0_shareCost 8 = .ok (.aload_n 0, 1) := by decide +kernel
theorem dX0_shareCost_9 : decode cX0_shareCost 9 = .ok (.getfield 9, 3) := by decide +kernel
theorem dX0_shareCost_12 : decode cX0_shareCost 12 = .ok (.aload_n 1, 1) := by decide +kernel
theorem dX0_shareCost_13 : decode cX0_shareCost 13 = .ok (.getfield 58, 3) := by decide +kernel
theorem dX0_shareCost_16 : decode cX0_shareCost 16 = .ok (.invokestatic 61, 3) := by decide +kernel
theorem dX0_shareCost_19 : decode cX0_shareCost 19 = .ok (.ifCond .le 7, 3) := by decide +kernel
theorem dX0_shareCost_22 : decode cX0_shareCost 22 = .ok (.iconst 1, 1) := by decide +kernel
theorem dX0_shareCost_23 : decode cX0_shareCost 23 = .ok (.goto 4, 3) := by decide +kernel
theorem dX0_shareCost_26 : decode cX0_shareCost 26 = .ok (.iconst 0, 1) := by decide +kernel
theorem dX0_shareCost_27 : decode cX0_shareCost 27 = .ok (.istore 5, 2) := by decide +kernel
theorem dX0_shareCost_29 : decode cX0_shareCost 29 = .ok (.aload_n 0, 1) := by decide +kernel
theorem dX0_shareCost_30 : decode cX0_shareCost 30 = .ok (.iload 4, 2) := by decide +kernel
theorem dX0_shareCost_32 : decode cX0_shareCost 32 = .ok (.aload_n 1, 1) := by decide +kernel
theorem dX0_shareCost_33 : decode cX0_shareCost 33 = .ok (.getfield 65, 3) := by decide +kernel
theorem dX0_shareCost_36 : decode cX0_shareCost 36 = .ok (.aload_n 1, 1) := by decide +kernel
theorem dX0_shareCost_37 : decode cX0_shareCost 37 = .ok (.getfield 58, 3) := by decide +kernel
theorem dX0_shareCost_40 : decode cX0_shareCost 40 = .ok (.aload_n 0, 1) := by decide +kernel
theorem dX0_shareCost_41 : decode cX0_shareCost 41 = .ok (.getfield 15, 3) := by decide +kernel
theorem dX0_shareCost_44 : decode cX0_shareCost 44 = .ok (.invokevirtual 68, 3) := by decide +kernel
theorem dX0_shareCost_47 : decode cX0_shareCost 47 = .ok (.aload_n 0, 1) := by decide +kernel
theorem dX0_shareCost_48 : decode cX0_shareCost 48 = .ok (.iload_n 2, 1) := by decide +kernel
theorem dX0_shareCost_49 : decode cX0_shareCost 49 = .ok (.iload 4, 2) := by decide +kernel
theorem dX0_shareCost_51 : decode cX0_shareCost 51 = .ok (.isub, 1) := by decide +kernel
theorem dX0_shareCost_52 : decode cX0_shareCost 52 = .ok (.iload 5, 2) := by decide +kernel
theorem dX0_shareCost_54 : decode cX0_shareCost 54 = .ok (.ifCond .eq 10, 3) := by decide +kernel
theorem dX0_shareCost_57 : decode cX0_shareCost 57 = .ok (.aload_n 0, 1) := by decide +kernel
theorem dX0_shareCost_58 : decode cX0_shareCost 58 = .ok (.getfield 9, 3) := by decide +kernel
theorem dX0_shareCost_61 : decode cX0_shareCost 61 = .ok (.goto 7, 3) := by decide +kernel
theorem dX0_shareCost_64 : decode cX0_shareCost 64 = .ok (.aload_n 1, 1) := by decide +kernel
theorem dX0_shareCost_65 : decode cX0_shareCost 65 = .ok (.getfield 65, 3) := by decide +kernel
theorem dX0_shareCost_68 : decode cX0_shareCost 68 = .ok (.aload_n 1, 1) := by decide +kernel
theorem dX0_shareCost_69 : decode cX0_shareCost 69 = .ok (.getfield 58, 3) := by decide +kernel
theorem dX0_shareCost_72 : decode cX0_shareCost 72 = .ok (.aload_n 0, 1) := by decide +kernel
theorem dX0_shareCost_73 : decode cX0_shareCost 73 = .ok (.getfield 18, 3) := by decide +kernel
theorem dX0_shareCost_76 : decode cX0_shareCost 76 = .ok (.invokevirtual 68, 3) := by decide +kernel
theorem dX0_shareCost_79 : decode cX0_shareCost 79 = .ok (.return_, 1) := by decide +kernel
set_option maxRecDepth 20000 in
theorem ggX0_shareByParts_X5_sumOf : GoodIn wsX0_shareByParts wsX5_sumOf := goodIn_r _ [4] (by decide +kernel) (by decide +kernel)
set_option maxRecDepth 20000 in
theorem gX0_shareByParts_X5_sumOf_n61 : GoodIn wsX0_shareByParts (wsX5_sumOf) := ggX0_shareByParts_X5_sumOf
set_option maxRecDepth 20000 in
theorem ggX0_shareByParts_X0_giveCoin : GoodIn wsX0_shareByParts wsX0_giveCoin := goodIn_r _ [9, 1, 10, 11, 12, 13, 14, 15] (by decide +kernel) (by decide +kernel)
set_option maxRecDepth 20000 in
theorem gX0_shareByParts_X0_giveCoin : GoodIn wsX0_shareByParts (wsV RX0 72 RX0 yX0_giveCoin wsX0_giveCoin) := goodIn_app (goodIn_of _ (by decide +kernel)) ggX0_shareByParts_X0_giveCoin
theorem dX0_shareByParts_0 : decode cX0_shareByParts 0 = .ok (.aload_n 2, 1) := by decide +kernel
theorem dX0_shareByParts_1 : decode cX0_shareByParts 1 = .ok (.iload_n 3, 1) := by decide +kernel
theorem dX0_shareByParts_2 : decode cX0_shareByParts 2 = .ok (.invokestatic 61, 3) := by decide +kernel
theorem dX0_shareByParts_5 : decode cX0_shareByParts 5 = .ok (.istore 5, 2) := by decide +kernel
theorem dX0_shareByParts_7 : decode cX0_shareByParts 7 = .ok (.iload 5, 2) := by decide +kernel
theorem dX0_shareByParts_9 : decode cX0_shareByParts 9 = .ok (.iconst 1, 1) := by decide +kernel
theorem dX0_shareByParts_10 : decode cX0_shareByParts 10 = .ok (.if_icmp .ge 4, 3) := by decide +kernel
theorem dX0_shareByParts_13 : decode cX0_shareByParts 13 = .ok (.return_, 1) := by decide +kernel
theorem dX0_shareByParts_14 : decode cX0_shareByParts 14 = .ok (.iload_n 1, 1) := by decide +kernel
theorem dX0_shareByParts_15 : decode cX0_shareByParts 15 = .ok (.istore 6, 2) := by decide +kernel
theorem dX0_shareByParts_17 : decode cX0_shareByParts 17 = .ok (.iconst 0, 1) := by decide +kernel
theorem dX0_shareByParts_18 : decode cX0_shareByParts 18 = .ok (.istore 7, 2) := by decide +kernel
theorem dX0_shareByParts_20 : decode cX0_shareByParts 20 = .ok (.iload 7, 2) := by decide +kernel
theorem dX0_shareByParts_22 : decode cX0_shareByParts 22 = .ok (.iload_n 3, 1) := by decide +kernel
theorem dX0_shareByParts_23 : decode cX0_shareByParts 23 = .ok (.if_icmp .ge 54, 3) := by decide +kernel
theorem dX0_shareByParts_26 : decode cX0_shareByParts 26 = .ok (.iload_n 1, 1) := by decide +kernel
theorem dX0_shareByParts_27 : decode cX0_shareByParts 27 = .ok (.i2l, 1) := by decide +kernel
theorem dX0_shareByParts_28 : decode cX0_shareByParts 28 = .ok (.aload_n 2, 1) := by decide +kernel
theorem dX0_shareByParts_29 : decode cX0_shareByParts 29 = .ok (.iload 7, 2) := by decide +kernel
theorem dX0_shareByParts_31 : decode cX0_shareByParts 31 = .ok (.iaload, 1) := by decide +kernel
theorem dX0_shareByParts_32 : decode cX0_shareByParts 32 = .ok (.i2l, 1) := by decide +kernel
theorem dX0_shareByParts_33 : decode cX0_shareByParts 33 = .ok (.lmul, 1) := by decide +kernel
theorem dX0_shareByParts_34 : decode cX0_shareByParts 34 = .ok (.lstore 8, 2) := by decide +kernel
theorem dX0_shareByParts_36 : decode cX0_shareByParts 36 = .ok (.aload 4, 2) := by decide +kernel
theorem dX0_shareByParts_38 : decode cX0_shareByParts 38 = .ok (.iload 7, 2) := by decide +kernel
theorem dX0_shareByParts_40 : decode cX0_shareByParts 40 = .ok (.lload 8, 2) := by decide +kernel
theorem dX0_shareByParts_42 : decode cX0_shareByParts 42 = .ok (.iload 5, 2) := by decide +kernel
theorem dX0_shareByParts_44 : decode cX0_shareByParts 44 = .ok (.i2l, 1) := by decide +kernel
theorem dX0_shareByParts_45 : decode cX0_shareByParts 45 = .ok (.ldiv, 1) := by decide +kernel
theorem dX0_shareByParts_46 : decode cX0_shareByParts 46 = .ok (.l2i, 1) := by decide +kernel
theorem dX0_shareByParts_47 : decode cX0_shareByParts 47 = .ok (.iastore, 1) := by decide +kernel
theorem dX0_shareByParts_48 : decode cX0_shareByParts 48 = .ok (.aload_n 0, 1) := by decide +kernel
theorem dX0_shareByParts_49 : decode cX0_shareByParts 49 = .ok (.getfield 24, 3) := by decide +kernel
theorem dX0_shareByParts_52 : decode cX0_shareByParts 52 = .ok (.iload 7, 2) := by decide +kernel
theorem dX0_shareByParts_54 : decode cX0_shareByParts 54 = .ok (.lload 8, 2) := by decide +kernel
theorem dX0_shareByParts_56 : decode cX0_shareByParts 56 = .ok (.iload 5, 2) := by decide +kernel
theorem dX0_shareByParts_58 : decode cX0_shareByParts 58 = .ok (.i2l, 1) := by decide +kernel
theorem dX0_shareByParts_59 : decode cX0_shareByParts 59 = .ok (.lrem, 1) := by decide +kernel
theorem dX0_shareByParts_60 : decode cX0_shareByParts 60 = .ok (.lastore, 1) := by decide +kernel
theorem dX0_shareByParts_61 : decode cX0_shareByParts 61 = .ok (.iload 6, 2) := by decide +kernel
theorem dX0_shareByParts_63 : decode cX0_shareByParts 63 = .ok (.aload 4, 2) := by decide +kernel
theorem dX0_shareByParts_65 : decode cX0_shareByParts 65 = .ok (.iload 7, 2) := by decide +kernel
theorem dX0_shareByParts_67 : decode cX0_shareByParts 67 = .ok (.iaload, 1) := by decide +kernel
theorem dX0_shareByParts_68 : decode cX0_shareByParts 68 = .ok (.isub, 1) := by decide +kernel
theorem dX0_shareByParts_69 : decode cX0_shareByParts 69 = .ok (.istore 6, 2) := by decide +kernel
theorem dX0_shareByParts_71 : decode cX0_shareByParts 71 = .ok (.iinc 7 1, 3) := by decide +kernel
theorem dX0_shareByParts_74 : decode cX0_shareByParts 74 = .ok (.goto (-54), 3) := by decide +kernel
theorem dX0_shareByParts_77 : decode cX0_shareByParts 77 = .ok (.iconst 0, 1) := by decide +kernel
theorem dX0_shareByParts_78 : decode cX0_shareByParts 78 = .ok (.istore 7, 2) := by decide +kernel
theorem dX0_shareByParts_80 : decode cX0_shareByParts 80 = .ok (.iload 7, 2) := by decide +kernel
theorem dX0_shareByParts_82 : decode cX0_shareByParts 82 = .ok (.iload 6, 2) := by decide +kernel
theorem dX0_shareByParts_84 : decode cX0_shareByParts 84 = .ok (.if_icmp .ge 16, 3) := by decide +kernel
theorem dX0_shareByParts_87 : decode cX0_shareByParts 87 = .ok (.aload_n 0, 1) := by decide +kernel
theorem dX0_shareByParts_88 : decode cX0_shareByParts 88 = .ok (.aload 4, 2) := by decide +kernel
theorem dX0_shareByParts_90 : decode cX0_shareByParts 90 = .ok (.iload_n 3, 1) := by decide +kernel
theorem dX0_shareByParts_91 : decode cX0_shareByParts 91 = .ok (.invokevirtual 72, 3) := by decide +kernel
theorem dX0_shareByParts_94 : decode cX0_shareByParts 94 = .ok (.iinc 7 1, 3) := by decide +kernel
theorem dX0_shareByParts_97 : decode cX0_shareByParts 97 = .ok (.goto (-17), 3) := by decide +kernel
theorem dX0_shareByParts_100 : decode cX0_shareByParts 100 = .ok (.return_, 1) := by decide +kernel
theorem dX0_giveCoin_0 : decode cX0_giveCoin 0 = .ok (.iconst 0, 1) := by decide +kernel
theorem dX0_giveCoin_1 : decode cX0_giveCoin 1 = .ok (.istore_n 3, 1) := by decide +kernel
theorem dX0_giveCoin_2 : decode cX0_giveCoin 2 = .ok (.iconst 1, 1) := by decide +kernel
theorem dX0_giveCoin_3 : decode cX0_giveCoin 3 = .ok (.istore 4, 2) := by decide +kernel
theorem dX0_giveCoin_5 : decode cX0_giveCoin 5 = .ok (.iload 4, 2) := by decide +kernel
theorem dX0_giveCoin_7 : decode cX0_giveCoin 7 = .ok (.iload_n 2, 1) := by decide +kernel
theorem dX0_giveCoin_8 : decode cX0_giveCoin 8 = .ok (.if_icmp .ge 29, 3) := by decide +kernel
theorem dX0_giveCoin_11 : decode cX0_giveCoin 11 = .ok (.aload_n 0, 1) := by decide +kernel
theorem dX0_giveCoin_12 : decode cX0_giveCoin 12 = .ok (.getfield 24, 3) := by decide +kernel
theorem dX0_giveCoin_15 : decode cX0_giveCoin 15 = .ok (.iload 4, 2) := by decide +kernel
theorem dX0_giveCoin_17 : decode cX0_giveCoin 17 = .ok (.laload, 1) := by decide +kernel
theorem dX0_giveCoin_18 : decode cX0_giveCoin 18 = .ok (.aload_n 0, 1) := by decide +kernel
theorem dX0_giveCoin_19 : decode cX0_giveCoin 19 = .ok (.getfield 24, 3) := by decide +kernel
theorem dX0_giveCoin_22 : decode cX0_giveCoin 22 = .ok (.iload_n 3, 1) := by decide +kernel
theorem dX0_giveCoin_23 : decode cX0_giveCoin 23 = .ok (.laload, 1) := by decide +kernel
theorem dX0_giveCoin_24 : decode cX0_giveCoin 24 = .ok (.lcmp, 1) := by decide +kernel
theorem dX0_giveCoin_25 : decode cX0_giveCoin 25 = .ok (.ifCond .le 6, 3) := by decide +kernel
theorem dX0_giveCoin_28 : decode cX0_giveCoin 28 = .ok (.iload 4, 2) := by decide +kernel
theorem dX0_giveCoin_30 : decode cX0_giveCoin 30 = .ok (.istore_n 3, 1) := by decide +kernel
theorem dX0_giveCoin_31 : decode cX0_giveCoin 31 = .ok (.iinc 4 1, 3) := by decide +kernel
theorem dX0_giveCoin_34 : decode cX0_giveCoin 34 = .ok (.goto (-29), 3) := by decide +kernel
theorem dX0_giveCoin_37 : decode cX0_giveCoin 37 = .ok (.aload_n 1, 1) := by decide +kernel
theorem dX0_giveCoin_38 : decode cX0_giveCoin 38 = .ok (.iload_n 3, 1) := by decide +kernel
theorem dX0_giveCoin_39 : decode cX0_giveCoin 39 = .ok (.dup2, 1) := by decide +kernel
theorem dX0_giveCoin_40 : decode cX0_giveCoin 40 = .ok (.iaload, 1) := by decide +kernel
theorem dX0_giveCoin_41 : decode cX0_giveCoin 41 = .ok (.iconst 1, 1) := by decide +kernel
theorem dX0_giveCoin_42 : decode cX0_giveCoin 42 = .ok (.iadd, 1) := by decide +kernel
theorem dX0_giveCoin_43 : decode cX0_giveCoin 43 = .ok (.iastore, 1) := by decide +kernel
theorem dX0_giveCoin_44 : decode cX0_giveCoin 44 = .ok (.aload_n 0, 1) := by decide +kernel
theorem dX0_giveCoin_45 : decode cX0_giveCoin 45 = .ok (.getfield 24, 3) := by decide +kernel
theorem dX0_giveCoin_48 : decode cX0_giveCoin 48 = .ok (.iload_n 3, 1) := by decide +kernel
theorem dX0_giveCoin_49 : decode cX0_giveCoin 49 = .ok (.ldc2_w 75, 3) := by decide +kernel
theorem dX0_giveCoin_52 : decode cX0_giveCoin 52 = .ok (.lastore, 1) := by decide +kernel
theorem dX0_giveCoin_53 : decode cX0_giveCoin 53 = .ok (.return_, 1) := by decide +kernel
set_option maxRecDepth 20000 in
theorem ggX0_splitByTenants_J7_fill_53178 : GoodIn wsX0_splitByTenants wsJ7_fill_53178 := goodIn_r _ [6] (by decide +kernel) (by decide +kernel)
set_option maxRecDepth 20000 in
theorem gX0_splitByTenants_J7_fill_53178 : GoodIn wsX0_splitByTenants (va_wsS RX0 28 yJ7_fill_53178 wsJ7_fill_53178) := goodIn_app (goodIn_of _ (by decide +kernel)) ggX0_splitByTenants_J7_fill_53178
set_option maxRecDepth 20000 in
theorem ggX0_splitByTenants_X0_billOfFlat : GoodIn wsX0_splitByTenants wsX0_billOfFlat := goodIn_r _ [11, 12, 13, 36, 37, 38, 39, 40] (by decide +kernel) (by decide +kernel)
set_option maxRecDepth 20000 in
theorem gX0_splitByTenants_X0_billOfFlat : GoodIn wsX0_splitByTenants (wsV RX0 77 RX0 yX0_billOfFlat wsX0_billOfFlat) := goodIn_app (goodIn_of _ (by decide +kernel)) ggX0_splitByTenants_X0_billOfFlat
set_option maxRecDepth 20000 in
theorem ggX0_splitByTenants_X4_hasMove : GoodIn wsX0_splitByTenants wsX4_hasMove := goodIn_r _ [18, 19, 53, 54, 55, 56, 57, 58, 59, 60] (by decide +kernel) (by decide +kernel)
set_option maxRecDepth 20000 in
theorem gX0_splitByTenants_X4_hasMove : GoodIn wsX0_splitByTenants (wsV RX0 81 RX4 yX4_hasMove wsX4_hasMove) := goodIn_app (goodIn_of _ (by decide +kernel)) ggX0_splitByTenants_X4_hasMove
set_option maxRecDepth 20000 in
theorem ggX0_splitByTenants_X0_billOfFirst : GoodIn wsX0_splitByTenants wsX0_billOfFirst := goodIn_r _ [23, 12, 24, 13, 25, 26, 27, 17, 28, 29, 19, 30, 31, 32, 33, 36, 37, 38, 39, 40, 53, 54, 55, 56, 57, 58, 59, 60] (by decide +kernel) (by decide +kernel)
set_option maxRecDepth 20000 in
theorem gX0_splitByTenants_X0_billOfFirst : GoodIn wsX0_splitByTenants (wsV RX0 85 RX0 yX0_billOfFirst wsX0_billOfFirst) := goodIn_app (goodIn_of _ (by decide +kernel)) ggX0_splitByTenants_X0_billOfFirst
set_option maxRecDepth 20000 in
theorem ggX0_splitByTenants_X5_tenantOf : GoodIn wsX0_splitByTenants wsX5_tenantOf := goodIn_r _ [35] (by decide +kernel) (by decide +kernel)
set_option maxRecDepth 20000 in
theorem gX0_splitByTenants_X5_tenantOf_n89 : GoodIn wsX0_splitByTenants (wsX5_tenantOf) := ggX0_splitByTenants_X5_tenantOf
theorem dX0_splitByTenants_0 : decode cX0_splitByTenants 0 = .ok (.aload_n 0, 1) := by decide +kernel
theorem dX0_splitByTenants_1 : decode cX0_splitByTenants 1 = .ok (.getfield 21, 3) := by decide +kernel
theorem dX0_splitByTenants_4 : decode cX0_splitByTenants 4 = .ok (.iconst 0, 1) := by decide +kernel
theorem dX0_splitByTenants_5 : decode cX0_splitByTenants 5 = .ok (.invokestatic 28, 3) := by decide +kernel
theorem dX0_splitByTenants_8 : decode cX0_splitByTenants 8 = .ok (.iconst 0, 1) := by decide +kernel
theorem dX0_splitByTenants_9 : decode cX0_splitByTenants 9 = .ok (.istore_n 3, 1) := by decide +kernel
theorem dX0_splitByTenants_10 : decode cX0_splitByTenants 10 = .ok (.iload_n 3, 1) := by decide +kernel
theorem dX0_splitByTenants_11 : decode cX0_splitByTenants 11 = .ok (.aload_n 1, 1) := by decide +kernel
theorem dX0_splitByTenants_12 : decode cX0_splitByTenants 12 = .ok (.getfield 58, 3) := by decide +kernel
theorem dX0_splitByTenants_15 : decode cX0_splitByTenants 15 = .ok (.if_icmp .ge 64, 3) := by decide +kernel
theorem dX0_splitByTenants_18 : decode cX0_splitByTenants 18 = .ok (.aload_n 0, 1) := by decide +kernel
theorem dX0_splitByTenants_19 : decode cX0_splitByTenants 19 = .ok (.iload_n 3, 1) := by decide +kernel
theorem dX0_splitByTenants_20 : decode cX0_splitByTenants 20 = .ok (.invokevirtual 77, 3) := by decide +kernel
theorem dX0_splitByTenants_23 : decode cX0_splitByTenants 23 = .ok (.istore 4, 2) := by decide +kernel
theorem dX0_splitByTenants_25 : decode cX0_splitByTenants 25 = .ok (.aload_n 2, 1) := by decide +kernel
theorem dX0_splitByTenants_26 : decode cX0_splitByTenants 26 = .ok (.iload_n 3, 1) := by decide +kernel
theorem dX0_splitByTenants_27 : decode cX0_splitByTenants 27 = .ok (.invokevirtual 81, 3) := by decide +kernel
theorem dX0_splitByTenants_30 : decode cX0_splitByTenants 30 = .ok (.ifCond .eq 12, 3) := by decide +kernel
theorem dX0_splitByTenants_33 : decode cX0_splitByTenants 33 = .ok (.aload_n 0, 1) := by decide +kernel
theorem dX0_splitByTenants_34 : decode cX0_splitByTenants 34 = .ok (.aload_n 2, 1) := by decide +kernel
theorem dX0_splitByTenants_35 : decode cX0_splitByTenants 35 = .ok (.iload_n 3, 1) := by decide +kernel
theorem dX0_splitByTenants_36 : decode cX0_splitByTenants 36 = .ok (.invokevirtual 85, 3) := by decide +kernel
theorem dX0_splitByTenants_39 : decode cX0_splitByTenants 39 = .ok (.goto 5, 3) := by decide +kernel
theorem dX0_splitByTenants_42 : decode cX0_splitByTenants 42 = .ok (.iload 4, 2) := by decide +kernel
theorem dX0_splitByTenants_44 : decode cX0_splitByTenants 44 = .ok (.istore 5, 2) := by decide +kernel
theorem dX0_splitByTenants_46 : decode cX0_splitByTenants 46 = .ok (.aload_n 0, 1) := by decide +kernel
theorem dX0_splitByTenants_47 : decode cX0_splitByTenants 47 = .ok (.getfield 21, 3) := by decide +kernel
theorem dX0_splitByTenants_50 : decode cX0_splitByTenants 50 = .ok (.iload_n 3, 1) := by decide +kernel
theorem dX0_splitByTenants_51 : decode cX0_splitByTenants 51 = .ok (.iconst 0, 1) := by decide +kernel
theorem dX0_splitByTenants_52 : decode cX0_splitByTenants 52 = .ok (.invokestatic 89, 3) := by decide +kernel
theorem dX0_splitByTenants_55 : decode cX0_splitByTenants 55 = .ok (.iload 5, 2) := by decide +kernel
theorem dX0_splitByTenants_57 : decode cX0_splitByTenants 57 = .ok (.iastore, 1) := by decide +kernel
theorem dX0_splitByTenants_58 : decode cX0_splitByTenants 58 = .ok (.aload_n 0, 1) := by decide +kernel
theorem dX0_splitByTenants_59 : decode cX0_splitByTenants 59 = .ok (.getfield 21, 3) := by decide +kernel
theorem dX0_splitByTenants_62 : decode cX0_splitByTenants 62 = .ok (.iload_n 3, 1) := by decide +kernel
theorem dX0_splitByTenants_63 : decode cX0_splitByTenants 63 = .ok (.iconst 1, 1) := by decide +kernel
theorem dX0_splitByTenants_64 : decode cX0_splitByTenants 64 = .ok (.invokestatic 89, 3) := by decide +kernel
theorem dX0_splitByTenants_67 : decode cX0_splitByTenants 67 = .ok (.iload 4, 2) := by decide +kernel
theorem dX0_splitByTenants_69 : decode cX0_splitByTenants 69 = .ok (.iload 5, 2) := by decide +kernel
theorem dX0_splitByTenants_71 : decode cX0_splitByTenants 71 = .ok (.isub, 1) := by decide +kernel
theorem dX0_splitByTenants_72 : decode cX0_splitByTenants 72 = .ok (.iastore, 1) := by decide +kernel
theorem dX0_splitByTenants_73 : decode cX0_splitByTenants 73 = .ok (.iinc 3 1, 3) := by decide +kernel
theorem dX0_splitByTenants_76 : decode cX0_splitByTenants 76 = .ok (.goto (-66), 3) := by decide +kernel
theorem dX0_splitByTenants_79 : decode cX0_splitByTenants 79 = .ok (.return_, 1) := by decide +kernel
set_option maxRecDepth 20000 in
theorem ggX0_billOfFirst_X4_thousandthsOfFirst : GoodIn wsX0_billOfFirst wsX4_thousandthsOfFirst := goodIn_r _ [8, 9, 10, 11, 12, 13, 14, 20, 21, 22, 23, 24, 25, 26, 27] (by decide +kernel) (by decide +kernel)
set_option maxRecDepth 20000 in
theorem gX0_billOfFirst_X4_thousandthsOfFirst : GoodIn wsX0_billOfFirst (wsV RX0 96 RX4 yX4_thousandthsOfFirst wsX4_thousandthsOfFirst) := goodIn_app (goodIn_of _ (by decide +kernel)) ggX0_billOfFirst_X4_thousandthsOfFirst
theorem dX0_billOfFirst_0 : decode cX0_billOfFirst 0 = .ok (.aload_n 0, 1) := by decide +kernel
theorem dX0_billOfFirst_1 : decode cX0_billOfFirst 1 = .ok (.getfield 15, 3) := by decide +kernel
theorem dX0_billOfFirst_4 : decode cX0_billOfFirst 4 = .ok (.iload_n 2, 1) := by decide +kernel
theorem dX0_billOfFirst_5 : decode cX0_billOfFirst 5 = .ok (.iaload, 1) := by decide +kernel
theorem dX0_billOfFirst_6 : decode cX0_billOfFirst 6 = .ok (.aload_n 1, 1) := by decide +kernel
theorem dX0_billOfFirst_7 : decode cX0_billOfFirst 7 = .ok (.getfield 93, 3) := by decide +kernel
theorem dX0_billOfFirst_10 : decode cX0_billOfFirst 10 = .ok (.iload_n 2, 1) := by decide +kernel
theorem dX0_billOfFirst_11 : decode cX0_billOfFirst 11 = .ok (.iaload, 1) := by decide +kernel
theorem dX0_billOfFirst_12 : decode cX0_billOfFirst 12 = .ok (.imul, 1) := by decide +kernel
theorem dX0_billOfFirst_13 : decode cX0_billOfFirst 13 = .ok (.bipush 12, 2) := by decide +kernel
theorem dX0_billOfFirst_15 : decode cX0_billOfFirst 15 = .ok (.idiv, 1) := by decide +kernel
theorem dX0_billOfFirst_16 : decode cX0_billOfFirst 16 = .ok (.istore_n 3, 1) := by decide +kernel
theorem dX0_billOfFirst_17 : decode cX0_billOfFirst 17 = .ok (.aload_n 0, 1) := by decide +kernel
theorem dX0_billOfFirst_18 : decode cX0_billOfFirst 18 = .ok (.getfield 18, 3) := by decide +kernel
theorem dX0_billOfFirst_21 : decode cX0_billOfFirst 21 = .ok (.iload_n 2, 1) := by decide +kernel
theorem dX0_billOfFirst_22 : decode cX0_billOfFirst 22 = .ok (.iaload, 1) := by decide +kernel
theorem dX0_billOfFirst_23 : decode cX0_billOfFirst 23 = .ok (.aload_n 1, 1) := by decide +kernel
theorem dX0_billOfFirst_24 : decode cX0_billOfFirst 24 = .ok (.iload_n 2, 1) := by decide +kernel
theorem dX0_billOfFirst_25 : decode cX0_billOfFirst 25 = .ok (.invokevirtual 96, 3) := by decide +kernel
theorem dX0_billOfFirst_28 : decode cX0_billOfFirst 28 = .ok (.imul, 1) := by decide +kernel
theorem dX0_billOfFirst_29 : decode cX0_billOfFirst 29 = .ok (.sipush 1000, 3) := by decide +kernel
theorem dX0_billOfFirst_32 : decode cX0_billOfFirst 32 = .ok (.idiv, 1) := by decide +kernel
theorem dX0_billOfFirst_33 : decode cX0_billOfFirst 33 = .ok (.istore 4, 2) := by decide +kernel
theorem dX0_billOfFirst_35 : decode cX0_billOfFirst 35 = .ok (.iload_n 3, 1) := by decide +kernel
theorem dX0_billOfFirst_36 : decode cX0_billOfFirst 36 = .ok (.iload 4, 2) := by decide +kernel
theorem dX0_billOfFirst_38 : decode cX0_billOfFirst 38 = .ok (.iadd, 1) := by decide +kernel
theorem dX0_billOfFirst_39 : decode cX0_billOfFirst 39 = .ok (.ireturn, 1) := by decide +kernel
theorem dX0_billOfFlat_0 : decode cX0_billOfFlat 0 = .ok (.aload_n 0, 1) := by decide +kernel
theorem dX0_billOfFlat_1 : decode cX0_billOfFlat 1 = .ok (.getfield 15, 3) := by decide +kernel
theorem dX0_billOfFlat_4 : decode cX0_billOfFlat 4 = .ok (.iload_n 1, 1) := by decide +kernel
theorem dX0_billOfFlat_5 : decode cX0_billOfFlat 5 = .ok (.iaload, 1) := by decide +kernel
theorem dX0_billOfFlat_6 : decode cX0_billOfFlat 6 = .ok (.aload_n 0, 1) := by decide +kernel
theorem dX0_billOfFlat_7 : decode cX0_billOfFlat 7 = .ok (.getfield 18, 3) := by decide +kernel
theorem dX0_billOfFlat_10 : decode cX0_billOfFlat 10 = .ok (.iload_n 1, 1) := by decide +kernel
theorem dX0_billOfFlat_11 : decode cX0_billOfFlat 11 = .ok (.iaload, 1) := by decide +kernel
theorem dX0_billOfFlat_12 : decode cX0_billOfFlat 12 = .ok (.iadd, 1) := by decide +kernel
theorem dX0_billOfFlat_13 : decode cX0_billOfFlat 13 = .ok (.ireturn, 1) := by decide +kernel
theorem dX0_flatsAheadOf_0 : decode cX0_flatsAheadOf 0 = .ok (.iconst 0, 1) := by decide +kernel
theorem dX0_flatsAheadOf_1 : decode cX0_flatsAheadOf 1 = .ok (.istore_n 3, 1) := by decide +kernel
theorem dX0_flatsAheadOf_2 : decode cX0_flatsAheadOf 2 = .ok (.iconst 0, 1) := by decide +kernel
theorem dX0_flatsAheadOf_3 : decode cX0_flatsAheadOf 3 = .ok (.istore 4, 2) := by decide +kernel
theorem dX0_flatsAheadOf_5 : decode cX0_flatsAheadOf 5 = .ok (.iload 4, 2) := by decide +kernel
theorem dX0_flatsAheadOf_7 : decode cX0_flatsAheadOf 7 = .ok (.iload_n 2, 1) := by decide +kernel
theorem dX0_flatsAheadOf_8 : decode cX0_flatsAheadOf 8 = .ok (.if_icmp .ge 62, 3) := by decide +kernel
theorem dX0_flatsAheadOf_11 : decode cX0_flatsAheadOf 11 = .ok (.aload_n 0, 1) := by decide +kernel
theorem dX0_flatsAheadOf_12 : decode cX0_flatsAheadOf 12 = .ok (.getfield 18, 3) := by decide +kernel
theorem dX0_flatsAheadOf_15 : decode cX0_flatsAheadOf 15 = .ok (.iload 4, 2) := by decide +kernel
theorem dX0_flatsAheadOf_17 : decode cX0_flatsAheadOf 17 = .ok (.iaload, 1) := by decide +kernel
theorem dX0_flatsAheadOf_18 : decode cX0_flatsAheadOf 18 = .ok (.aload_n 0, 1) := by decide +kernel
theorem dX0_flatsAheadOf_19 : decode cX0_flatsAheadOf 19 = .ok (.getfield 18, 3) := by decide +kernel
theorem dX0_flatsAheadOf_22 : decode cX0_flatsAheadOf 22 = .ok (.iload_n 1, 1) := by decide +kernel
theorem dX0_flatsAheadOf_23 : decode cX0_flatsAheadOf 23 = .ok (.iaload, 1) := by decide +kernel
theorem dX0_flatsAheadOf_24 : decode cX0_flatsAheadOf 24 = .ok (.if_icmp .ne 13, 3) := by decide +kernel
theorem dX0_flatsAheadOf_27 : decode cX0_flatsAheadOf 27 = .ok (.iload 4, 2) := by decide +kernel
theorem dX0_flatsAheadOf_29 : decode cX0_flatsAheadOf 29 = .ok (.iload_n 1, 1) := by decide +kernel
theorem dX0_flatsAheadOf_30 : decode cX0_flatsAheadOf 30 = .ok (.if_icmp .ge 7, 3) := by decide +kernel
theorem dX0_flatsAheadOf_33 : decode cX0_flatsAheadOf 33 = .ok (.iconst 1, 1) := by decide +kernel
theorem dX0_flatsAheadOf_34 : decode cX0_flatsAheadOf 34 = .ok (.goto 4, 3) := by decide +kernel
theorem dX0_flatsAheadOf_37 : decode cX0_flatsAheadOf 37 = .ok (.iconst 0, 1) := by decide +kernel
theorem dX0_flatsAheadOf_38 : decode cX0_flatsAheadOf 38 = .ok (.istore 5, 2) := by decide +kernel
theorem dX0_flatsAheadOf_40 : decode cX0_flatsAheadOf 40 = .ok (.aload_n 0, 1) := by decide +kernel
theorem dX0_flatsAheadOf_41 : decode cX0_flatsAheadOf 41 = .ok (.getfield 18, 3) := by decide +kernel
theorem dX0_flatsAheadOf_44 : decode cX0_flatsAheadOf 44 = .ok (.iload 4, 2) := by decide +kernel
theorem dX0_flatsAheadOf_46 : decode cX0_flatsAheadOf 46 = .ok (.iaload, 1) := by decide +kernel
theorem dX0_flatsAheadOf_47 : decode cX0_flatsAheadOf 47 = .ok (.aload_n 0, 1) := by decide +kernel
theorem dX0_flatsAheadOf_48 : decode cX0_flatsAheadOf 48 = .ok (.getfield 18, 3) := by decide +kernel
theorem dX0_flatsAheadOf_51 : decode cX0_flatsAheadOf 51 = .ok (.iload_n 1, 1) := by decide +kernel
theorem dX0_flatsAheadOf_52 : decode cX0_flatsAheadOf 52 = .ok (.iaload, 1) := by decide +kernel
theorem dX0_flatsAheadOf_53 : decode cX0_flatsAheadOf 53 = .ok (.if_icmp .gt 8, 3) := by decide +kernel
theorem dX0_flatsAheadOf_56 : decode cX0_flatsAheadOf 56 = .ok (.iload 5, 2) := by decide +kernel
theorem dX0_flatsAheadOf_58 : decode cX0_flatsAheadOf 58 = .ok (.ifCond .eq 6, 3) := by decide +kernel
theorem dX0_flatsAheadOf_61 : decode cX0_flatsAheadOf 61 = .ok (.iinc 3 1, 3) := by decide +kernel
theorem dX0_flatsAheadOf_64 : decode cX0_flatsAheadOf 64 = .ok (.iinc 4 1, 3) := by decide +kernel
theorem dX0_flatsAheadOf_67 : decode cX0_flatsAheadOf 67 = .ok (.goto (-62), 3) := by decide +kernel
theorem dX0_flatsAheadOf_70 : decode cX0_flatsAheadOf 70 = .ok (.iload_n 3, 1) := by decide +kernel
theorem dX0_flatsAheadOf_71 : decode cX0_flatsAheadOf 71 = .ok (.ireturn, 1) := by decide +kernel
set_option maxRecDepth 20000 in
theorem ggX1_init_X2_init : GoodIn wsX1_init wsX2_init := goodIn_r _ [12, 13, 2, 3, 14, 15, 16, 17, 18, 19, 20, 21, 22, 23, 24, 25, 26, 27, 28, 29, 30, 31, 32, 33, 34, 35, 36, 37, 38, 39, 40, 41, 42, 43, 44, 45, 46, 50, 51, 52, 53, 54, 55, 56, 57, 58, 59, 60, 61, 62, 63, 64, 65, 66, 67, 68, 69] (by decide +kernel) (by decide +kernel)
set_option maxRecDepth 20000 in
theorem gX1_init_X2_init : GoodIn wsX1_init (wsX2_init) := ggX1_init_X2_init
theorem dX1_init_0 : decode cX1_init 0 = .ok (.aload_n 0, 1) := by decide +kernel
theorem dX1_init_1 : decode cX1_init 1 = .ok (.invokespecial 3, 3) := by decide +kernel
theorem dX1_init_4 : decode cX1_init 4 = .ok (.aload_n 0, 1) := by decide +kernel
theorem dX1_init_5 : decode cX1_init 5 = .ok (.iconst 4, 1) := by decide +kernel
theorem dX1_init_6 : decode cX1_init 6 = .ok (.anewarray 9, 3) := by decide +kernel
theorem dX1_init_9 : decode cX1_init 9 = .ok (.putfield 11, 3) := by decide +kernel
theorem dX1_init_12 : decode cX1_init 12 = .ok (.iconst 0, 1) := by decide +kernel
theorem dX1_init_13 : decode cX1_init 13 = .ok (.istore_n 1, 1) := by decide +kernel
theorem dX1_init_14 : decode cX1_init 14 = .ok (.iload_n 1, 1) := by decide +kernel
theorem dX1_init_15 : decode cX1_init 15 = .ok (.iconst 4, 1) := by decide +kernel
theorem dX1_init_16 : decode cX1_init 16 = .ok (.if_icmp .ge 22, 3) := by decide +kernel
theorem dX1_init_19 : decode cX1_init 19 = .ok (.aload_n 0, 1) := by decide +kernel
theorem dX1_init_20 : decode cX1_init 20 = .ok (.getfield 11, 3) := by decide +kernel
theorem dX1_init_23 : decode cX1_init 23 = .ok (.iload_n 1, 1) := by decide +kernel
theorem dX1_init_24 : decode cX1_init 24 = .ok (.new 9, 3) := by decide +kernel
theorem dX1_init_27 : decode cX1_init 27 = .ok (.dup, 1) := by decide +kernel
theorem dX1_init_28 : decode cX1_init 28 = .ok (.invokespecial 17, 3) := by decide +kernel
theorem dX1_init_31 : decode cX1_init 31 = .ok (.aastore, 1) := by decide +kernel
theorem dX1_init_32 : decode cX1_init 32 = .ok (.iinc 1 1, 3) := by decide +kernel
theorem dX1_init_35 : decode cX1_init 35 = .ok (.goto (-21), 3) := by decide +kernel
theorem dX1_init_38 : decode cX1_init 38 = .ok (.aload_n 0, 1) := by decide +kernel
theorem dX1_init_39 : decode cX1_init 39 = .ok (.iconst 0, 1) := by decide +kernel
theorem dX1_init_40 : decode cX1_init 40 = .ok (.putfield 18, 3) := by decide +kernel
theorem dX1_init_43 : decode cX1_init 43 = .ok (.aload_n 0, 1) := by decide +kernel
theorem dX1_init_44 : decode cX1_init 44 = .ok (.iconst 0, 1) := by decide +kernel
theorem dX1_init_45 : decode cX1_init 45 = .ok (.putfield 22, 3) := by decide +kernel
theorem dX1_init_48 : decode cX1_init 48 = .ok (.return_, 1) := by decide +kernel
set_option maxRecDepth 20000 in
theorem ggX1_remember_X2_copyFrom : GoodIn wsX1_remember wsX2_copyFrom := goodIn_r _ [8, 9, 10, 11, 12, 13, 14, 15, 16, 17, 18, 19, 20, 21, 22, 23, 24, 25, 26, 27, 28, 29, 30, 31, 32, 33, 34, 35, 36, 37, 38, 42, 43, 44, 45, 46, 47, 48, 49, 50, 51, 52, 53, 54, 55, 56, 57, 58, 59, 60, 61] (by decide +kernel) (by decide +kernel)
set_option maxRecDepth 20000 in
theorem gX1_remember_X2_copyFrom : GoodIn wsX1_remember (wsV RX1 25 RX2 yX2_copyFrom wsX2_copyFrom) := goodIn_app (goodIn_of _ (by decide +kernel)) ggX1_remember_X2_copyFrom
theorem dX1_remember_0 : decode cX1_remember 0 = .ok (.aload_n 0, 1) := by decide +kernel
theorem dX1_remember_1 : decode cX1_remember 1 = .ok (.getfield 11, 3) := by decide +kernel
theorem dX1_remember_4 : decode cX1_remember 4 = .ok (.aload_n 0, 1) := by decide +kernel
theorem dX1_remember_5 : decode cX1_remember 5 = .ok (.getfield 18, 3) := by decide +kernel
theorem dX1_remember_8 : decode cX1_remember 8 = .ok (.aload_n 0, 1) := by decide +kernel
theorem dX1_remember_9 : decode cX1_remember 9 = .ok (.getfield 22, 3) := by decide +kernel
theorem dX1_remember_12 : decode cX1_remember 12 = .ok (.iadd, 1) := by decide +kernel
theorem dX1_remember_13 : decode cX1_remember 13 = .ok (.iconst 4, 1) := by decide +kernel
theorem dX1_remember_14 : decode cX1_remember 14 = .ok (.irem, 1) := by decide +kernel
theorem dX1_remember_15 : decode cX1_remember 15 = .ok (.aaload, 1) := by decide +kernel
theorem dX1_remember_16 : decode cX1_remember 16 = .ok (.aload_n 1, 1) := by decide +kernel
theorem dX1_remember_17 : decode cX1_remember 17 = .ok (.invokevirtual 25, 3) := by decide +kernel
theorem dX1_remember_20 : decode cX1_remember 20 = .ok (.aload_n 0, 1) := by decide +kernel
theorem dX1_remember_21 : decode cX1_remember 21 = .ok (.getfield 22, 3) := by decide +kernel
theorem dX1_remember_24 : decode cX1_remember 24 = .ok (.iconst 4, 1) := by decide +kernel
theorem dX1_remember_25 : decode cX1_remember 25 = .ok (.if_icmp .ge 16, 3) := by decide +kernel
theorem dX1_remember_28 : decode cX1_remember 28 = .ok (.aload_n 0, 1) := by decide +kernel
theorem dX1_remember_29 : decode cX1_remember 29 = .ok (.dup, 1) := by decide +kernel
theorem dX1_remember_30 : decode cX1_remember 30 = .ok (.getfield 22, 3) := by decide +kernel
theorem dX1_remember_33 : decode cX1_remember 33 = .ok (.iconst 1, 1) := by decide +kernel
theorem dX1_remember_34 : decode cX1_remember 34 = .ok (.iadd, 1) := by decide +kernel
theorem dX1_remember_35 : decode cX1_remember 35 = .ok (.putfield 22, 3) := by decide +kernel
theorem dX1_remember_38 : decode cX1_remember 38 = .ok (.goto 15, 3) := by decide +kernel
theorem dX1_remember_41 : decode cX1_remember 41 = .ok (.aload_n 0, 1) := by decide +kernel
theorem dX1_remember_42 : decode cX1_remember 42 = .ok (.aload_n 0, 1) := by decide +kernel
theorem dX1_remember_43 : decode cX1_remember 43 = .ok (.getfield 18, 3) := by decide +kernel
theorem dX1_remember_46 : decode cX1_remember 46 = .ok (.iconst 1, 1) := by decide +kernel
theorem dX1_remember_47 : decode cX1_remember 47 = .ok (.iadd, 1) := by decide +kernel
theorem dX1_remember_48 : decode cX1_remember 48 = .ok (.iconst 4, 1) := by decide +kernel
theorem dX1_remember_49 : decode cX1_remember 49 = .ok (.irem, 1) := by decide +kernel
theorem dX1_remember_50 : decode cX1_remember 50 = .ok (.putfield 18, 3) := by decide +kernel
theorem dX1_remember_53 : decode cX1_remember 53 = .ok (.return_, 1) := by decide +kernel
theorem dX1_removeLatest_0 : decode cX1_removeLatest 0 = .ok (.aload_n 0, 1) := by decide +kernel
theorem dX1_removeLatest_1 : decode cX1_removeLatest 1 = .ok (.getfield 22, 3) := by decide +kernel
theorem dX1_removeLatest_4 : decode cX1_removeLatest 4 = .ok (.iconst 1, 1) := by decide +kernel
theorem dX1_removeLatest_5 : decode cX1_removeLatest 5 = .ok (.if_icmp .ge 5, 3) := by decide +kernel
theorem dX1_removeLatest_8 : decode cX1_removeLatest 8 = .ok (.aconst_null, 1) := by decide +kernel
theorem dX1_removeLatest_9 : decode cX1_removeLatest 9 = .ok (.areturn, 1) := by decide +kernel
theorem dX1_removeLatest_10 : decode cX1_removeLatest 10 = .ok (.aload_n 0, 1) := by decide +kernel
theorem dX1_removeLatest_11 : decode cX1_removeLatest 11 = .ok (.dup, 1) := by decide +kernel
theorem dX1_removeLatest_12 : decode cX1_removeLatest 12 = .ok (.getfield 22, 3) := by decide +kernel
theorem dX1_removeLatest_15 : decode cX1_removeLatest 15 = .ok (.iconst 1, 1) := by decide +kernel
theorem dX1_removeLatest_16 : decode cX1_removeLatest 16 = .ok (.isub, 1) := by decide +kernel
theorem dX1_removeLatest_17 : decode cX1_removeLatest 17 = .ok (.putfield 22, 3) := by decide +kernel
theorem dX1_removeLatest_20 : decode cX1_removeLatest 20 = .ok (.aload_n 0, 1) := by decide +kernel
theorem dX1_removeLatest_21 : decode cX1_removeLatest 21 = .ok (.getfield 11, 3) := by decide +kernel
theorem dX1_removeLatest_24 : decode cX1_removeLatest 24 = .ok (.aload_n 0, 1) := by decide +kernel
theorem dX1_removeLatest_25 : decode cX1_removeLatest 25 = .ok (.getfield 18, 3) := by decide +kernel
theorem dX1_removeLatest_28 : decode cX1_removeLatest 28 = .ok (.aload_n 0, 1) := by decide +kernel
theorem dX1_removeLatest_29 : decode cX1_removeLatest 29 = .ok (.getfield 22, 3) := by decide +kernel
theorem dX1_removeLatest_32 : decode cX1_removeLatest 32 = .ok (.iadd, 1) := by decide +kernel
theorem dX1_removeLatest_33 : decode cX1_removeLatest 33 = .ok (.iconst 4, 1) := by decide +kernel
theorem dX1_removeLatest_34 : decode cX1_removeLatest 34 = .ok (.irem, 1) := by decide +kernel
theorem dX1_removeLatest_35 : decode cX1_removeLatest 35 = .ok (.aaload, 1) := by decide +kernel
theorem dX1_removeLatest_36 : decode cX1_removeLatest 36 = .ok (.areturn, 1) := by decide +kernel
set_option maxRecDepth 20000 in
theorem ggX2_init_X4_init : GoodIn wsX2_init wsX4_init := goodIn_r _ [23, 24, 2, 3, 25, 26, 27, 5, 28, 29, 30, 31, 32, 33, 34, 35, 36, 49, 50, 51, 52, 53, 54, 55, 56] (by decide +kernel) (by decide +kernel)
set_option maxRecDepth 20000 in
theorem gX2_init_X4_init : GoodIn wsX2_init (wsX4_init) := ggX2_init_X4_init
theorem dX2_init_0 : decode cX2_init 0 = .ok (.aload_n 0, 1) := by decide +kernel
theorem dX2_init_1 : decode cX2_init 1 = .ok (.invokespecial 3, 3) := by decide +kernel
theorem dX2_init_4 : decode cX2_init 4 = .ok (.aload_n 0, 1) := by decide +kernel
theorem dX2_init_5 : decode cX2_init 5 = .ok (.iconst 0, 1) := by decide +kernel
theorem dX2_init_6 : decode cX2_init 6 = .ok (.putfield 9, 3) := by decide +kernel
theorem dX2_init_9 : decode cX2_init 9 = .ok (.aload_n 0, 1) := by decide +kernel
theorem dX2_init_10 : decode cX2_init 10 = .ok (.bipush 8, 2) := by decide +kernel
theorem dX2_init_12 : decode cX2_init 12 = .ok (.newarray .int, 2) := by decide +kernel
theorem dX2_init_14 : decode cX2_init 14 = .ok (.putfield 15, 3) := by decide +kernel
theorem dX2_init_17 : decode cX2_init 17 = .ok (.aload_n 0, 1) := by decide +kernel
theorem dX2_init_18 : decode cX2_init 18 = .ok (.bipush 20, 2) := by decide +kernel
theorem dX2_init_20 : decode cX2_init 20 = .ok (.newarray .int, 2) := by decide +kernel
theorem dX2_init_22 : decode cX2_init 22 = .ok (.putfield 19, 3) := by decide +kernel
theorem dX2_init_25 : decode cX2_init 25 = .ok (.aload_n 0, 1) := by decide +kernel
theorem dX2_init_26 : decode cX2_init 26 = .ok (.bipush 20, 2) := by decide +kernel
theorem dX2_init_28 : decode cX2_init 28 = .ok (.newarray .int, 2) := by decide +kernel
theorem dX2_init_30 : decode cX2_init 30 = .ok (.putfield 22, 3) := by decide +kernel
theorem dX2_init_33 : decode cX2_init 33 = .ok (.aload_n 0, 1) := by decide +kernel
theorem dX2_init_34 : decode cX2_init 34 = .ok (.bipush 20, 2) := by decide +kernel
theorem dX2_init_36 : decode cX2_init 36 = .ok (.newarray .int, 2) := by decide +kernel
theorem dX2_init_38 : decode cX2_init 38 = .ok (.putfield 25, 3) := by decide +kernel
theorem dX2_init_41 : decode cX2_init 41 = .ok (.aload_n 0, 1) := by decide +kernel
theorem dX2_init_42 : decode cX2_init 42 = .ok (.bipush 20, 2) := by decide +kernel
theorem dX2_init_44 : decode cX2_init 44 = .ok (.newarray .int, 2) := by decide +kernel
theorem dX2_init_46 : decode cX2_init 46 = .ok (.putfield 28, 3) := by decide +kernel
theorem dX2_init_49 : decode cX2_init 49 = .ok (.aload_n 0, 1) := by decide +kernel
theorem dX2_init_50 : decode cX2_init 50 = .ok (.bipush 20, 2) := by decide +kernel
theorem dX2_init_52 : decode cX2_init 52 = .ok (.newarray .boolean, 2) := by decide +kernel
theorem dX2_init_54 : decode cX2_init 54 = .ok (.putfield 31, 3) := by decide +kernel
theorem dX2_init_57 : decode cX2_init 57 = .ok (.aload_n 0, 1) := by decide +kernel
theorem dX2_init_58 : decode cX2_init 58 = .ok (.iconst 0, 1) := by decide +kernel
theorem dX2_init_59 : decode cX2_init 59 = .ok (.putfield 35, 3) := by decide +kernel
theorem dX2_init_62 : decode cX2_init 62 = .ok (.aload_n 0, 1) := by decide +kernel
theorem dX2_init_63 : decode cX2_init 63 = .ok (.iconst 0, 1) := by decide +kernel
theorem dX2_init_64 : decode cX2_init 64 = .ok (.putfield 38, 3) := by decide +kernel
theorem dX2_init_67 : decode cX2_init 67 = .ok (.aload_n 0, 1) := by decide +kernel
theorem dX2_init_68 : decode cX2_init 68 = .ok (.new 41, 3) := by decide +kernel
theorem dX2_init_71 : decode cX2_init 71 = .ok (.dup, 1) := by decide +kernel
theorem dX2_init_72 : decode cX2_init 72 = .ok (.invokespecial 43, 3) := by decide +kernel
theorem dX2_init_75 : decode cX2_init 75 = .ok (.putfield 44, 3) := by decide +kernel
theorem dX2_init_78 : decode cX2_init 78 = .ok (.aload_n 0, 1) := by decide +kernel
theorem dX2_init_79 : decode cX2_init 79 = .ok (.iconst 0, 1) := by decide +kernel
theorem dX2_init_80 : decode cX2_init 80 = .ok (.putfield 48, 3) := by decide +kernel
theorem dX2_init_83 : decode cX2_init 83 = .ok (.aload_n 0, 1) := by decide +kernel
theorem dX2_init_84 : decode cX2_init 84 = .ok (.iconst 4, 1) := by decide +kernel
theorem dX2_init_85 : decode cX2_init 85 = .ok (.anewarray 41, 3) := by decide +kernel
theorem dX2_init_88 : decode cX2_init 88 = .ok (.putfield 51, 3) := by decide +kernel
theorem dX2_init_91 : decode cX2_init 91 = .ok (.iconst 0, 1) := by decide +kernel
theorem dX2_init_92 : decode cX2_init 92 = .ok (.istore_n 1, 1) := by decide +kernel
theorem dX2_init_93 : decode cX2_init 93 = .ok (.iload_n 1, 1) := by decide +kernel
theorem dX2_init_94 : decode cX2_init 94 = .ok (.iconst 4, 1) := by decide +kernel
theorem dX2_init_95 : decode cX2_init 95 = .ok (.if_icmp .ge 22, 3) := by decide +kernel
theorem dX2_init_98 : decode cX2_init 98 = .ok (.aload_n 0, 1) := by decide +kernel
theorem dX2_init_99 : decode cX2_init 99 = .ok (.getfield 51, 3) := by decide +kernel
theorem dX2_init_102 : decode cX2_init 102 = .ok (.iload_n 1, 1) := by decide +kernel
theorem dX2_init_103 : decode cX2_init 103 = .ok (.new 41, 3) := by decide +kernel
theorem dX2_init_106 : decode cX2_init 106 = .ok (.dup, 1) := by decide +kernel
theorem dX2_init_107 : decode cX2_init 107 = .ok (.invokespecial 43, 3) := by decide +kernel
theorem dX2_init_110 : decode cX2_init 110 = .ok (.aastore, 1) := by decide +kernel
theorem dX2_init_111 : decode cX2_init 111 = .ok (.iinc 1 1, 3) := by decide +kernel
theorem dX2_init_114 : decode cX2_init 114 = .ok (.goto (-21), 3) := by decide +kernel
theorem dX2_init_117 : decode cX2_init 117 = .ok (.return_, 1) := by decide +kernel
set_option maxRecDepth 20000 in
theorem ggX2_copyFrom_X4_copyFrom : GoodIn wsX2_copyFrom wsX4_copyFrom := goodIn_r _ [21, 22, 23, 24, 25, 26, 4, 5, 6, 27, 28, 29, 30, 43, 44, 45, 46, 47, 48, 49, 50] (by decide +kernel) (by decide +kernel)
set_option maxRecDepth 20000 in
theorem gX2_copyFrom_X4_copyFrom : GoodIn wsX2_copyFrom (wsV RX2 61 RX4 yX4_copyFrom wsX4_copyFrom) := goodIn_app (goodIn_of _ (by decide +kernel)) ggX2_copyFrom_X4_copyFrom
theorem dX2_copyFrom_0 : decode cX2_copyFrom 0 = .ok (.aload_n 0, 1) := by decide +kernel
theorem dX2_copyFrom_1 : decode cX2_copyFrom 1 = .ok (.aload_n 1, 1) := by decide +kernel
theorem dX2_copyFrom_2 : decode cX2_copyFrom 2 = .ok (.getfield 9, 3) := by decide +kernel
theorem dX2_copyFrom_5 : decode cX2_copyFrom 5 = .ok (.putfield 9, 3) := by decide +kernel
theorem dX2_copyFrom_8 : decode cX2_copyFrom 8 = .ok (.aload_n 1, 1) := by decide +kernel
theorem dX2_copyFrom_9 : decode cX2_copyFrom 9 = .ok (.getfield 15, 3) := by decide +kernel
theorem dX2_copyFrom_12 : decode cX2_copyFrom 12 = .ok (.iconst 0, 1) := by decide +kernel
theorem dX2_copyFrom_13 : decode cX2_copyFrom 13 = .ok (.aload_n 0, 1) := by decide +kernel
theorem dX2_copyFrom_14 : decode cX2_copyFrom 14 = .ok (.getfield 15, 3) := by decide +kernel
theorem dX2_copyFrom_17 : decode cX2_copyFrom 17 = .ok (.iconst 0, 1) := by decide +kernel
theorem dX2_copyFrom_18 : decode cX2_copyFrom 18 = .ok (.bipush 8, 2) := by decide +kernel
theorem dX2_copyFrom_20 : decode cX2_copyFrom 20 = .ok (.invokestatic 55, 3) := by decide +kernel
theorem dX2_copyFrom_23 : decode cX2_copyFrom 23 = .ok (.aload_n 1, 1) := by decide +kernel
theorem dX2_copyFrom_24 : decode cX2_copyFrom 24 = .ok (.getfield 19, 3) := by decide +kernel
theorem dX2_copyFrom_27 : decode cX2_copyFrom 27 = .ok (.iconst 0, 1) := by decide +kernel
theorem dX2_copyFrom_28 : decode cX2_copyFrom 28 = .ok (.aload_n 0, 1) := by decide +kernel
theorem dX2_copyFrom_29 : decode cX2_copyFrom 29 = .ok (.getfield 19, 3) := by decide +kernel
theorem dX2_copyFrom_32 : decode cX2_copyFrom 32 = .ok (.iconst 0, 1) := by decide +kernel
theorem dX2_copyFrom_33 : decode cX2_copyFrom 33 = .ok (.bipush 20, 2) := by decide +kernel
theorem dX2_copyFrom_35 : decode cX2_copyFrom 35 = .ok (.invokestatic 55, 3) := by decide +kernel
theorem dX2_copyFrom_38 : decode cX2_copyFrom 38 = .ok (.aload_n 1, 1) := by decide +kernel
theorem dX2_copyFrom_39 : decode cX2_copyFrom 39 = .ok (.getfield 22, 3) := by decide +kernel
theorem dX2_copyFrom_42 : decode cX2_copyFrom 42 = .ok (.iconst 0, 1) := by decide +kernel
theorem dX2_copyFrom_43 : decode cX2_copyFrom 43 = .ok (.aload_n 0, 1) := by decide +kernel
theorem dX2_copyFrom_44 : decode cX2_copyFrom 44 = .ok (.getfield 22, 3) := by decide +kernel
theorem dX2_copyFrom_47 : decode cX2_copyFrom 47 = .ok (.iconst 0, 1) := by decide +kernel
theorem dX2_copyFrom_48 : decode cX2_copyFrom 48 = .ok (.bipush 20, 2) := by decide +kernel
theorem dX2_copyFrom_50 : decode cX2_copyFrom 50 = .ok (.invokestatic 55, 3) := by decide +kernel
theorem dX2_copyFrom_53 : decode cX2_copyFrom 53 = .ok (.aload_n 1, 1) := by decide +kernel
theorem dX2_copyFrom_54 : decode cX2_copyFrom 54 = .ok (.getfield 25, 3) := by decide +kernel
theorem dX2_copyFrom_57 : decode cX2_copyFrom 57 = .ok (.iconst 0, 1) := by decide +kernel
theorem dX2_copyFrom_58 : decode cX2_copyFrom 58 = .ok (.aload_n 0, 1) := by decide +kernel
theorem dX2_copyFrom_59 : decode cX2_copyFrom 59 = .ok (.getfield 25, 3) := by decide +kernel
theorem dX2_copyFrom_62 : decode cX2_copyFrom 62 = .ok (.iconst 0, 1) := by decide +kernel
theorem dX2_copyFrom_63 : decode cX2_copyFrom 63 = .ok (.bipush 20, 2) := by decide +kernel
theorem dX2_copyFrom_65 : decode cX2_copyFrom 65 = .ok (.invokestatic 55, 3) := by decide +kernel
theorem dX2_copyFrom_68 : decode cX2_copyFrom 68 = .ok (.aload_n 1, 1) := by decide +kernel
theorem dX2_copyFrom_69 : decode cX2_copyFrom 69 = .ok (.getfield 28, 3) := by decide +kernel
theorem dX2_copyFrom_72 : decode cX2_copyFrom 72 = .ok (.iconst 0, 1) := by decide +kernel
theorem dX2_copyFrom_73 : decode cX2_copyFrom 73 = .ok (.aload_n 0, 1) := by decide +kernel
theorem dX2_copyFrom_74 : decode cX2_copyFrom 74 = .ok (.getfield 28, 3) := by decide +kernel
theorem dX2_copyFrom_77 : decode cX2_copyFrom 77 = .ok (.iconst 0, 1) := by decide +kernel
theorem dX2_copyFrom_78 : decode cX2_copyFrom 78 = .ok (.bipush 20, 2) := by decide +kernel
theorem dX2_copyFrom_80 : decode cX2_copyFrom 80 = .ok (.invokestatic 55, 3) := by decide +kernel
theorem dX2_copyFrom_83 : decode cX2_copyFrom 83 = .ok (.iconst 0, 1) := by decide +kernel
theorem dX2_copyFrom_84 : decode cX2_copyFrom 84 = .ok (.istore_n 2, 1) := by decide +kernel
theorem dX2_copyFrom_85 : decode cX2_copyFrom 85 = .ok (.iload_n 2, 1) := by decide +kernel
theorem dX2_copyFrom_86 : decode cX2_copyFrom 86 = .ok (.bipush 20, 2) := by decide +kernel
theorem dX2_copyFrom_88 : decode cX2_copyFrom 88 = .ok (.if_icmp .ge 21, 3) := by decide +kernel
theorem dX2_copyFrom_91 : decode cX2_copyFrom 91 = .ok (.aload_n 0, 1) := by decide +kernel
theorem dX2_copyFrom_92 : decode cX2_copyFrom 92 = .ok (.getfield 31, 3) := by decide +kernel
theorem dX2_copyFrom_95 : decode cX2_copyFrom 95 = .ok (.iload_n 2, 1) := by decide +kernel
theorem dX2_copyFrom_96 : decode cX2_copyFrom 96 = .ok (.aload_n 1, 1) := by decide +kernel
theorem dX2_copyFrom_97 : decode cX2_copyFrom 97 = .ok (.getfield 31, 3) := by decide +kernel
theorem dX2_copyFrom_100 : decode cX2_copyFrom 100 = .ok (.iload_n 2, 1) := by decide +kernel
theorem dX2_copyFrom_101 : decode cX2_copyFrom 101 = .ok (.baload, 1) := by decide +kernel
theorem dX2_copyFrom_102 : decode cX2_copyFrom 102 = .ok (.bastore, 1) := by decide +kernel
theorem dX2_copyFrom_103 : decode cX2_copyFrom 103 = .ok (.iinc 2 1, 3) := by decide +kernel
theorem dX2_copyFrom_106 : decode cX2_copyFrom 106 = .ok (.goto (-21), 3) := by decide +kernel
theorem dX2_copyFrom_109 : decode cX2_copyFrom 109 = .ok (.aload_n 0, 1) := by decide +kernel
theorem dX2_copyFrom_110 : decode cX2_copyFrom 110 = .ok (.aload_n 1, 1) := by decide +kernel
theorem dX2_copyFrom_111 : decode cX2_copyFrom 111 = .ok (.getfield 35, 3) := by decide +kernel
theorem dX2_copyFrom_114 : decode cX2_copyFrom 114 = .ok (.putfield 35, 3) := by decide +kernel
theorem dX2_copyFrom_117 : decode cX2_copyFrom 117 = .ok (.aload_n 0, 1) := by decide +kernel
theorem dX2_copyFrom_118 : decode cX2_copyFrom 118 = .ok (.aload_n 1, 1) := by decide +kernel
theorem dX2_copyFrom_119 : decode cX2_copyFrom 119 = .ok (.getfield 38, 3) := by decide +kernel
theorem dX2_copyFrom_122 : decode cX2_copyFrom 122 = .ok (.putfield 38, 3) := by decide +kernel
theorem dX2_copyFrom_125 : decode cX2_copyFrom 125 = .ok (.aload_n 0, 1) := by decide +kernel
theorem dX2_copyFrom_126 : decode cX2_copyFrom 126 = .ok (.getfield 44, 3) := by decide +kernel
theorem dX2_copyFrom_129 : decode cX2_copyFrom 129 = .ok (.aload_n 1, 1) := by decide +kernel
theorem dX2_copyFrom_130 : decode cX2_copyFrom 130 = .ok (.getfield 44, 3) := by decide +kernel
theorem dX2_copyFrom_133 : decode cX2_copyFrom 133 = .ok (.invokevirtual 61, 3) := by decide +kernel
theorem dX2_copyFrom_136 : decode cX2_copyFrom 136 = .ok (.aload_n 0, 1) := by decide +kernel
theorem dX2_copyFrom_137 : decode cX2_copyFrom 137 = .ok (.aload_n 1, 1) := by decide +kernel
theorem dX2_copyFrom_138 : decode cX2_copyFrom 138 = .ok (.getfield 48, 3) := by decide +kernel
theorem dX2_copyFrom_141 : decode cX2_copyFrom 141 = .ok (.putfield 48, 3) := by decide +kernel
theorem dX2_copyFrom_144 : decode cX2_copyFrom 144 = .ok (.iconst 0, 1) := by decide +kernel
theorem dX2_copyFrom_145 : decode cX2_copyFrom 145 = .ok (.istore_n 2, 1) := by decide +kernel
theorem dX2_copyFrom_146 : decode cX2_copyFrom 146 = .ok (.iload_n 2, 1) := by decide +kernel
theorem dX2_copyFrom_147 : decode cX2_copyFrom 147 = .ok (.iconst 4, 1) := by decide +kernel
theorem dX2_copyFrom_148 : decode cX2_copyFrom 148 = .ok (.if_icmp .ge 24, 3) := by decide +kernel
theorem dX2_copyFrom_151 : decode cX2_copyFrom 151 = .ok (.aload_n 0, 1) := by decide +kernel
theorem dX2_copyFrom_152 : decode cX2_copyFrom 152 = .ok (.getfield 51, 3) := by decide +kernel
theorem dX2_copyFrom_155 : decode cX2_copyFrom 155 = .ok (.iload_n 2, 1) := by decide +kernel
theorem dX2_copyFrom_156 : decode cX2_copyFrom 156 = .ok (.aaload, 1) := by decide +kernel
theorem dX2_copyFrom_157 : decode cX2_copyFrom 157 = .ok (.aload_n 1, 1) := by decide +kernel
theorem dX2_copyFrom_158 : decode cX2_copyFrom 158 = .ok (.getfield 51, 3) := by decide +kernel
theorem dX2_copyFrom_161 : decode cX2_copyFrom 161 = .ok (.iload_n 2, 1) := by decide +kernel
theorem dX2_copyFrom_162 : decode cX2_copyFrom 162 = .ok (.aaload, 1) := by decide +kernel
theorem dX2_copyFrom_163 : decode cX2_copyFrom 163 = .ok (.invokevirtual 61, 3) := by decide +kernel
theorem dX2_copyFrom_166 : decode cX2_copyFrom 166 = .ok (.iinc 2 1, 3) := by decide +kernel
theorem dX2_copyFrom_169 : decode cX2_copyFrom 169 = .ok (.goto (-23), 3) := by decide +kernel
theorem dX2_copyFrom_172 : decode cX2_copyFrom 172 = .ok (.return_, 1) := by decide +kernel
theorem dX2_hasFlat_0 : decode cX2_hasFlat 0 = .ok (.iload_n 1, 1) := by decide +kernel
theorem dX2_hasFlat_1 : decode cX2_hasFlat 1 = .ok (.ifCond .lt 15, 3) := by decide +kernel
theorem dX2_hasFlat_4 : decode cX2_hasFlat 4 = .ok (.iload_n 1, 1) := by decide +kernel
theorem dX2_hasFlat_5 : decode cX2_hasFlat 5 = .ok (.aload_n 0, 1) := by decide +kernel
theorem dX2_hasFlat_6 : decode cX2_hasFlat 6 = .ok (.getfield 9, 3) := by decide +kernel
theorem dX2_hasFlat_9 : decode cX2_hasFlat 9 = .ok (.if_icmp .ge 7, 3) := by decide +kernel
theorem dX2_hasFlat_12 : decode cX2_hasFlat 12 = .ok (.iconst 1, 1) := by decide +kernel
theorem dX2_hasFlat_13 : decode cX2_hasFlat 13 = .ok (.goto 4, 3) := by decide +kernel
theorem dX2_hasFlat_16 : decode cX2_hasFlat 16 = .ok (.iconst 0, 1) := by decide +kernel
theorem dX2_hasFlat_17 : decode cX2_hasFlat 17 = .ok (.ireturn, 1) := by decide +kernel
theorem dX2_closedYear_0 : decode cX2_closedYear 0 = .ok (.iload_n 1, 1) := by decide +kernel
theorem dX2_closedYear_1 : decode cX2_closedYear 1 = .ok (.ifCond .lt 20, 3) := by decide +kernel
theorem dX2_closedYear_4 : decode cX2_closedYear 4 = .ok (.iload_n 1, 1) := by decide +kernel
theorem dX2_closedYear_5 : decode cX2_closedYear 5 = .ok (.aload_n 0, 1) := by decide +kernel
theorem dX2_closedYear_6 : decode cX2_closedYear 6 = .ok (.getfield 48, 3) := by decide +kernel
theorem dX2_closedYear_9 : decode cX2_closedYear 9 = .ok (.if_icmp .ge 12, 3) := by decide +kernel
theorem dX2_closedYear_12 : decode cX2_closedYear 12 = .ok (.aload_n 0, 1) := by decide +kernel
theorem dX2_closedYear_13 : decode cX2_closedYear 13 = .ok (.getfield 51, 3) := by decide +kernel
theorem dX2_closedYear_16 : decode cX2_closedYear 16 = .ok (.iload_n 1, 1) := by decide +kernel
theorem dX2_closedYear_17 : decode cX2_closedYear 17 = .ok (.aaload, 1) := by decide +kernel
theorem dX2_closedYear_18 : decode cX2_closedYear 18 = .ok (.goto 4, 3) := by decide +kernel
theorem dX2_closedYear_21 : decode cX2_closedYear 21 = .ok (.aconst_null, 1) := by decide +kernel
theorem dX2_closedYear_22 : decode cX2_closedYear 22 = .ok (.areturn, 1) := by decide +kernel
theorem dX2_setting_0 : decode cX2_setting 0 = .ok (.iload_n 1, 1) := by decide +kernel
theorem dX2_setting_1 : decode cX2_setting 1 = .ok (.ifCond .ne 11, 3) := by decide +kernel
theorem dX2_setting_4 : decode cX2_setting 4 = .ok (.aload_n 0, 1) := by decide +kernel
theorem dX2_setting_5 : decode cX2_setting 5 = .ok (.getfield 44, 3) := by decide +kernel
theorem dX2_setting_8 : decode cX2_setting 8 = .ok (.getfield 65, 3) := by decide +kernel
theorem dX2_setting_11 : decode cX2_setting 11 = .ok (.ireturn, 1) := by decide +kernel
theorem dX2_setting_12 : decode cX2_setting 12 = .ok (.iload_n 1, 1) := by decide +kernel
theorem dX2_setting_13 : decode cX2_setting 13 = .ok (.iconst 1, 1) := by decide +kernel
theorem dX2_setting_14 : decode cX2_setting 14 = .ok (.if_icmp .ne 13, 3) := by decide +kernel
theorem dX2_setting_17 : decode cX2_setting 17 = .ok (.aload_n 0, 1) := by decide +kernel
theorem dX2_setting_18 : decode cX2_setting 18 = .ok (.getfield 44, 3) := by decide +kernel
theorem dX2_setting_21 : decode cX2_setting 21 = .ok (.getfield 68, 3) := by decide +kernel
theorem dX2_setting_24 : decode cX2_setting 24 = .ok (.goto 7, 3) := by decide +kernel
theorem dX2_setting_27 : decode cX2_setting 27 = .ok (.aload_n 0, 1) := by decide +kernel
theorem dX2_setting_28 : decode cX2_setting 28 = .ok (.getfield 35, 3) := by decide +kernel
theorem dX2_setting_31 : decode cX2_setting 31 = .ok (.ireturn, 1) := by decide +kernel
theorem dX2_putSetting_0 : decode cX2_putSetting 0 = .ok (.iload_n 1, 1) := by decide +kernel
theorem dX2_putSetting_1 : decode cX2_putSetting 1 = .ok (.ifCond .ne 14, 3) := by decide +kernel
theorem dX2_putSetting_4 : decode cX2_putSetting 4 = .ok (.aload_n 0, 1) := by decide +kernel
theorem dX2_putSetting_5 : decode cX2_putSetting 5 = .ok (.getfield 44, 3) := by decide +kernel
theorem dX2_putSetting_8 : decode cX2_putSetting 8 = .ok (.iload_n 2, 1) := by decide +kernel
theorem dX2_putSetting_9 : decode cX2_putSetting 9 = .ok (.putfield 65, 3) := by decide +kernel
theorem dX2_putSetting_12 : decode cX2_putSetting 12 = .ok (.goto 24, 3) := by decide +kernel
theorem dX2_putSetting_15 : decode cX2_putSetting 15 = .ok (.iload_n 1, 1) := by decide +kernel
theorem dX2_putSetting_16 : decode cX2_putSetting 16 = .ok (.iconst 1, 1) := by decide +kernel
theorem dX2_putSetting_17 : decode cX2_putSetting 17 = .ok (.if_icmp .ne 14, 3) := by decide +kernel
theorem dX2_putSetting_20 : decode cX2_putSetting 20 = .ok (.aload_n 0, 1) := by decide +kernel
theorem dX2_putSetting_21 : decode cX2_putSetting 21 = .ok (.getfield 44, 3) := by decide +kernel
theorem dX2_putSetting_24 : decode cX2_putSetting 24 = .ok (.iload_n 2, 1) := by decide +kernel
theorem dX2_putSetting_25 : decode cX2_putSetting 25 = .ok (.putfield 68, 3) := by decide +kernel
theorem dX2_putSetting_28 : decode cX2_putSetting 28 = .ok (.goto 8, 3) := by decide +kernel
theorem dX2_putSetting_31 : decode cX2_putSetting 31 = .ok (.aload_n 0, 1) := by decide +kernel
theorem dX2_putSetting_32 : decode cX2_putSetting 32 = .ok (.iload_n 2, 1) := by decide +kernel
theorem dX2_putSetting_33 : decode cX2_putSetting 33 = .ok (.putfield 35, 3) := by decide +kernel
theorem dX2_putSetting_36 : decode cX2_putSetting 36 = .ok (.return_, 1) := by decide +kernel
theorem dX2_faultyCount_0 : decode cX2_faultyCount 0 = .ok (.iconst 0, 1) := by decide +kernel
theorem dX2_faultyCount_1 : decode cX2_faultyCount 1 = .ok (.istore_n 1, 1) := by decide +kernel
theorem dX2_faultyCount_2 : decode cX2_faultyCount 2 = .ok (.iconst 0, 1) := by decide +kernel
theorem dX2_faultyCount_3 : decode cX2_faultyCount 3 = .ok (.istore_n 2, 1) := by decide +kernel
theorem dX2_faultyCount_4 : decode cX2_faultyCount 4 = .ok (.iload_n 2, 1) := by decide +kernel
theorem dX2_faultyCount_5 : decode cX2_faultyCount 5 = .ok (.aload_n 0, 1) := by decide +kernel
theorem dX2_faultyCount_6 : decode cX2_faultyCount 6 = .ok (.getfield 44, 3) := by decide +kernel
theorem dX2_faultyCount_9 : decode cX2_faultyCount 9 = .ok (.getfield 71, 3) := by decide +kernel
theorem dX2_faultyCount_12 : decode cX2_faultyCount 12 = .ok (.if_icmp .ge 21, 3) := by decide +kernel
theorem dX2_faultyCount_15 : decode cX2_faultyCount 15 = .ok (.aload_n 0, 1) := by decide +kernel
theorem dX2_faultyCount_16 : decode cX2_faultyCount 16 = .ok (.getfield 31, 3) := by decide +kernel
theorem dX2_faultyCount_19 : decode cX2_faultyCount 19 = .ok (.iload_n 2, 1) := by decide +kernel
theorem dX2_faultyCount_20 : decode cX2_faultyCount 20 = .ok (.baload, 1) := by decide +kernel
theorem dX2_faultyCount_21 : decode cX2_faultyCount 21 = .ok (.ifCond .eq 6, 3) := by decide +kernel
theorem dX2_faultyCount_24 : decode cX2_faultyCount 24 = .ok (.iinc 1 1, 3) := by decide +kernel
theorem dX2_faultyCount_27 : decode cX2_faultyCount 27 = .ok (.iinc 2 1, 3) := by decide +kernel
theorem dX2_faultyCount_30 : decode cX2_faultyCount 30 = .ok (.goto (-26), 3) := by decide +kernel
theorem dX2_faultyCount_33 : decode cX2_faultyCount 33 = .ok (.iload_n 1, 1) := by decide +kernel
theorem dX2_faultyCount_34 : decode cX2_faultyCount 34 = .ok (.ireturn, 1) := by decide +kernel
set_option maxRecDepth 20000 in
theorem ggX2_moveCount_X4_hasMove : GoodIn wsX2_moveCount wsX4_hasMove := goodIn_r _ [7, 8, 21, 22, 23, 24, 25, 26, 27, 28] (by decide +kernel) (by decide +kernel)
set_option maxRecDepth 20000 in
theorem gX2_moveCount_X4_hasMove : GoodIn wsX2_moveCount (wsV RX2 74 RX4 yX4_hasMove wsX4_hasMove) := goodIn_app (goodIn_of _ (by decide +kernel)) ggX2_moveCount_X4_hasMove
theorem dX2_moveCount_0 : decode cX2_moveCount 0 = .ok (.iconst 0, 1) := by decide +kernel
theorem dX2_moveCount_1 : decode cX2_moveCount 1 = .ok (.istore_n 1, 1) := by decide +kernel
theorem dX2_moveCount_2 : decode cX2_moveCount 2 = .ok (.iconst 0, 1) := by decide +kernel
theorem dX2_moveCount_3 : decode cX2_moveCount 3 = .ok (.istore_n 2, 1) := by decide +kernel
theorem dX2_moveCount_4 : decode cX2_moveCount 4 = .ok (.iload_n 2, 1) := by decide +kernel
theorem dX2_moveCount_5 : decode cX2_moveCount 5 = .ok (.aload_n 0, 1) := by decide +kernel
theorem dX2_moveCount_6 : decode cX2_moveCount 6 = .ok (.getfield 9, 3) := by decide +kernel
theorem dX2_moveCount_9 : decode cX2_moveCount 9 = .ok (.if_icmp .ge 23, 3) := by decide +kernel
theorem dX2_moveCount_12 : decode cX2_moveCount 12 = .ok (.aload_n 0, 1) := by decide +kernel
theorem dX2_moveCount_13 : decode cX2_moveCount 13 = .ok (.getfield 44, 3) := by decide +kernel
theorem dX2_moveCount_16 : decode cX2_moveCount 16 = .ok (.iload_n 2, 1) := by decide +kernel
theorem dX2_moveCount_17 : decode cX2_moveCount 17 = .ok (.invokevirtual 74, 3) := by decide +kernel
theorem dX2_moveCount_20 : decode cX2_moveCount 20 = .ok (.ifCond .eq 6, 3) := by decide +kernel
theorem dX2_moveCount_23 : decode cX2_moveCount 23 = .ok (.iinc 1 1, 3) := by decide +kernel
theorem dX2_moveCount_26 : decode cX2_moveCount 26 = .ok (.iinc 2 1, 3) := by decide +kernel
theorem dX2_moveCount_29 : decode cX2_moveCount 29 = .ok (.goto (-25), 3) := by decide +kernel
theorem dX2_moveCount_32 : decode cX2_moveCount 32 = .ok (.iload_n 1, 1) := by decide +kernel
theorem dX2_moveCount_33 : decode cX2_moveCount 33 = .ok (.ireturn, 1) := by decide +kernel
theorem dX2_devicesAsBits_0 : decode cX2_devicesAsBits 0 = .ok (.iconst 0, 1) := by decide +kernel
theorem dX2_devicesAsBits_1 : decode cX2_devicesAsBits 1 = .ok (.istore_n 2, 1) := by decide +kernel
theorem dX2_devicesAsBits_2 : decode cX2_devicesAsBits 2 = .ok (.iconst 0, 1) := by decide +kernel
theorem dX2_devicesAsBits_3 : decode cX2_devicesAsBits 3 = .ok (.istore_n 3, 1) := by decide +kernel
theorem dX2_devicesAsBits_4 : decode cX2_devicesAsBits 4 = .ok (.iload_n 3, 1) := by decide +kernel
theorem dX2_devicesAsBits_5 : decode cX2_devicesAsBits 5 = .ok (.aload_n 0, 1) := by decide +kernel
theorem dX2_devicesAsBits_6 : decode cX2_devicesAsBits 6 = .ok (.getfield 44, 3) := by decide +kernel
theorem dX2_devicesAsBits_9 : decode cX2_devicesAsBits 9 = .ok (.getfield 71, 3) := by decide +kernel
theorem dX2_devicesAsBits_12 : decode cX2_devicesAsBits 12 = .ok (.if_icmp .ge 25, 3) := by decide +kernel
theorem dX2_devicesAsBits_15 : decode cX2_devicesAsBits 15 = .ok (.aload_n 0, 1) := by decide +kernel
theorem dX2_devicesAsBits_16 : decode cX2_devicesAsBits 16 = .ok (.getfield 19, 3) := by decide +kernel
theorem dX2_devicesAsBits_19 : decode cX2_devicesAsBits 19 = .ok (.iload_n 3, 1) := by decide +kernel
theorem dX2_devicesAsBits_20 : decode cX2_devicesAsBits 20 = .ok (.iaload, 1) := by decide +kernel
theorem dX2_devicesAsBits_21 : decode cX2_devicesAsBits 21 = .ok (.iload_n 1, 1) := by decide +kernel
theorem dX2_devicesAsBits_22 : decode cX2_devicesAsBits 22 = .ok (.if_icmp .ne 9, 3) := by decide +kernel
theorem dX2_devicesAsBits_25 : decode cX2_devicesAsBits 25 = .ok (.iload_n 2, 1) := by decide +kernel
theorem dX2_devicesAsBits_26 : decode cX2_devicesAsBits 26 = .ok (.iconst 1, 1) := by decide +kernel
theorem dX2_devicesAsBits_27 : decode cX2_devicesAsBits 27 = .ok (.iload_n 3, 1) := by decide +kernel
theorem dX2_devicesAsBits_28 : decode cX2_devicesAsBits 28 = .ok (.ishl, 1) := by decide +kernel
theorem dX2_devicesAsBits_29 : decode cX2_devicesAsBits 29 = .ok (.ior, 1) := by decide +kernel
theorem dX2_devicesAsBits_30 : decode cX2_devicesAsBits 30 = .ok (.istore_n 2, 1) := by decide +kernel
theorem dX2_devicesAsBits_31 : decode cX2_devicesAsBits 31 = .ok (.iinc 3 1, 3) := by decide +kernel
theorem dX2_devicesAsBits_34 : decode cX2_devicesAsBits 34 = .ok (.goto (-30), 3) := by decide +kernel
theorem dX2_devicesAsBits_37 : decode cX2_devicesAsBits 37 = .ok (.iload_n 2, 1) := by decide +kernel
theorem dX2_devicesAsBits_38 : decode cX2_devicesAsBits 38 = .ok (.ireturn, 1) := by decide +kernel
set_option maxRecDepth 20000 in
theorem ggX2_keptBills_X5_sumOf : GoodIn wsX2_keptBills wsX5_sumOf := goodIn_r _ [6] (by decide +kernel) (by decide +kernel)
set_option maxRecDepth 20000 in
theorem gX2_keptBills_X5_sumOf_n81 : GoodIn wsX2_keptBills (wsX5_sumOf) := ggX2_keptBills_X5_sumOf
theorem dX2_keptBills_0 : decode cX2_keptBills 0 = .ok (.iconst 0, 1) := by decide +kernel
theorem dX2_keptBills_1 : decode cX2_keptBills 1 = .ok (.istore_n 1, 1) := by decide +kernel
theorem dX2_keptBills_2 : decode cX2_keptBills 2 = .ok (.iconst 0, 1) := by decide +kernel
theorem dX2_keptBills_3 : decode cX2_keptBills 3 = .ok (.istore_n 2, 1) := by decide +kernel
theorem dX2_keptBills_4 : decode cX2_keptBills 4 = .ok (.iload_n 2, 1) := by decide +kernel
theorem dX2_keptBills_5 : decode cX2_keptBills 5 = .ok (.aload_n 0, 1) := by decide +kernel
theorem dX2_keptBills_6 : decode cX2_keptBills 6 = .ok (.getfield 48, 3) := by decide +kernel
theorem dX2_keptBills_9 : decode cX2_keptBills 9 = .ok (.if_icmp .ge 26, 3) := by decide +kernel
theorem dX2_keptBills_12 : decode cX2_keptBills 12 = .ok (.iload_n 1, 1) := by decide +kernel
theorem dX2_keptBills_13 : decode cX2_keptBills 13 = .ok (.aload_n 0, 1) := by decide +kernel
theorem dX2_keptBills_14 : decode cX2_keptBills 14 = .ok (.getfield 51, 3) := by decide +kernel
theorem dX2_keptBills_17 : decode cX2_keptBills 17 = .ok (.iload_n 2, 1) := by decide +kernel
theorem dX2_keptBills_18 : decode cX2_keptBills 18 = .ok (.aaload, 1) := by decide +kernel
theorem dX2_keptBills_19 : decode cX2_keptBills 19 = .ok (.getfield 78, 3) := by decide +kernel
theorem dX2_keptBills_22 : decode cX2_keptBills 22 = .ok (.bipush 16, 2) := by decide +kernel
theorem dX2_keptBills_24 : decode cX2_keptBills 24 = .ok (.invokestatic 81, 3) := by decide +kernel
theorem dX2_keptBills_27 : decode cX2_keptBills 27 = .ok (.iadd, 1) := by decide +kernel
theorem dX2_keptBills_28 : decode cX2_keptBills 28 = .ok (.istore_n 1, 1) := by decide +kernel
theorem dX2_keptBills_29 : decode cX2_keptBills 29 = .ok (.iinc 2 1, 3) := by decide +kernel
theorem dX2_keptBills_32 : decode cX2_keptBills 32 = .ok (.goto (-28), 3) := by decide +kernel
theorem dX2_keptBills_35 : decode cX2_keptBills 35 = .ok (.iload_n 1, 1) := by decide +kernel
theorem dX2_keptBills_36 : decode cX2_keptBills 36 = .ok (.ireturn, 1) := by decide +kernel
set_option maxRecDepth 20000 in
theorem ggX2_countUnits_X2_estimate : GoodIn wsX2_countUnits wsX2_estimate := goodIn_r _ [12, 13, 14, 6, 7, 15, 16, 17, 11, 18, 19, 20, 21, 22, 23, 24, 25, 26, 27, 28, 29, 30, 31, 32, 33, 34, 35, 36, 37, 38, 39, 40, 41, 42, 43, 44, 45] (by decide +kernel) (by decide +kernel)
set_option maxRecDepth 20000 in
theorem gX2_countUnits_X2_estimate : GoodIn wsX2_countUnits (wsV RX2 88 RX2 yX2_estimate wsX2_estimate) := goodIn_app (goodIn_of _ (by decide +kernel)) ggX2_countUnits_X2_estimate
theorem dX2_countUnits_0 : decode cX2_countUnits 0 = .ok (.iconst 0, 1) := by decide +kernel
theorem dX2_countUnits_1 : decode cX2_countUnits 1 = .ok (.istore_n 1, 1) := by decide +kernel
theorem dX2_countUnits_2 : decode cX2_countUnits 2 = .ok (.iconst 0, 1) := by decide +kernel
theorem dX2_countUnits_3 : decode cX2_countUnits 3 = .ok (.istore_n 2, 1) := by decide +kernel
theorem dX2_countUnits_4 : decode cX2_countUnits 4 = .ok (.iconst 0, 1) := by decide +kernel
theorem dX2_countUnits_5 : decode cX2_countUnits 5 = .ok (.istore_n 3, 1) := by decide +kernel
theorem dX2_countUnits_6 : decode cX2_countUnits 6 = .ok (.iload_n 3, 1) := by decide +kernel
theorem dX2_countUnits_7 : decode cX2_countUnits 7 = .ok (.aload_n 0, 1) := by decide +kernel
theorem dX2_countUnits_8 : decode cX2_countUnits 8 = .ok (.getfield 44, 3) := by decide +kernel
theorem dX2_countUnits_11 : decode cX2_countUnits 11 = .ok (.getfield 71, 3) := by decide +kernel
theorem dX2_countUnits_14 : decode cX2_countUnits 14 = .ok (.if_icmp .ge 72, 3) := by decide +kernel
theorem dX2_countUnits_17 : decode cX2_countUnits 17 = .ok (.aload_n 0, 1) := by decide +kernel
theorem dX2_countUnits_18 : decode cX2_countUnits 18 = .ok (.getfield 31, 3) := by decide +kernel
theorem dX2_countUnits_21 : decode cX2_countUnits 21 = .ok (.iload_n 3, 1) := by decide +kernel
theorem dX2_countUnits_22 : decode cX2_countUnits 22 = .ok (.baload, 1) := by decide +kernel
theorem dX2_countUnits_23 : decode cX2_countUnits 23 = .ok (.ifCond .ne 57, 3) := by decide +kernel
theorem dX2_countUnits_26 : decode cX2_countUnits 26 = .ok (.aload_n 0, 1) := by decide +kernel
theorem dX2_countUnits_27 : decode cX2_countUnits 27 = .ok (.getfield 28, 3) := by decide +kernel
theorem dX2_countUnits_30 : decode cX2_countUnits 30 = .ok (.iload_n 3, 1) := by decide +kernel
theorem dX2_countUnits_31 : decode cX2_countUnits 31 = .ok (.iaload, 1) := by decide +kernel
theorem dX2_countUnits_32 : decode cX2_countUnits 32 = .ok (.aload_n 0, 1) := by decide +kernel
theorem dX2_countUnits_33 : decode cX2_countUnits 33 = .ok (.getfield 25, 3) := by decide +kernel
theorem dX2_countUnits_36 : decode cX2_countUnits 36 = .ok (.iload_n 3, 1) := by decide +kernel
theorem dX2_countUnits_37 : decode cX2_countUnits 37 = .ok (.iaload, 1) := by decide +kernel
theorem dX2_countUnits_38 : decode cX2_countUnits 38 = .ok (.isub, 1) := by decide +kernel
theorem dX2_countUnits_39 : decode cX2_countUnits 39 = .ok (.istore 4, 2) := by decide +kernel
theorem dX2_countUnits_41 : decode cX2_countUnits 41 = .ok (.aload_n 0, 1) := by decide +kernel
theorem dX2_countUnits_42 : decode cX2_countUnits 42 = .ok (.getfield 44, 3) := by decide +kernel
theorem dX2_countUnits_45 : decode cX2_countUnits 45 = .ok (.getfield 85, 3) := by decide +kernel
theorem dX2_countUnits_48 : decode cX2_countUnits 48 = .ok (.iload_n 3, 1) := by decide +kernel
theorem dX2_countUnits_49 : decode cX2_countUnits 49 = .ok (.iload 4, 2) := by decide +kernel
theorem dX2_countUnits_51 : decode cX2_countUnits 51 = .ok (.aload_n 0, 1) := by decide +kernel
theorem dX2_countUnits_52 : decode cX2_countUnits 52 = .ok (.getfield 22, 3) := by decide +kernel
theorem dX2_countUnits_55 : decode cX2_countUnits 55 = .ok (.iload_n 3, 1) := by decide +kernel
theorem dX2_countUnits_56 : decode cX2_countUnits 56 = .ok (.iaload, 1) := by decide +kernel
theorem dX2_countUnits_57 : decode cX2_countUnits 57 = .ok (.imul, 1) := by decide +kernel
theorem dX2_countUnits_58 : decode cX2_countUnits 58 = .ok (.iastore, 1) := by decide +kernel
theorem dX2_countUnits_59 : decode cX2_countUnits 59 = .ok (.iload_n 1, 1) := by decide +kernel
theorem dX2_countUnits_60 : decode cX2_countUnits 60 = .ok (.aload_n 0, 1) := by decide +kernel
theorem dX2_countUnits_61 : decode cX2_countUnits 61 = .ok (.getfield 44, 3) := by decide +kernel
theorem dX2_countUnits_64 : decode cX2_countUnits 64 = .ok (.getfield 85, 3) := by decide +kernel
theorem dX2_countUnits_67 : decode cX2_countUnits 67 = .ok (.iload_n 3, 1) := by decide +kernel
theorem dX2_countUnits_68 : decode cX2_countUnits 68 = .ok (.iaload, 1) := by decide +kernel
theorem dX2_countUnits_69 : decode cX2_countUnits 69 = .ok (.iadd, 1) := by decide +kernel
theorem dX2_countUnits_70 : decode cX2_countUnits 70 = .ok (.istore_n 1, 1) := by decide +kernel
theorem dX2_countUnits_71 : decode cX2_countUnits 71 = .ok (.iload_n 2, 1) := by decide +kernel
theorem dX2_countUnits_72 : decode cX2_countUnits 72 = .ok (.aload_n 0, 1) := by decide +kernel
theorem dX2_countUnits_73 : decode cX2_countUnits 73 = .ok (.getfield 22, 3) := by decide +kernel
theorem dX2_countUnits_76 : decode cX2_countUnits 76 = .ok (.iload_n 3, 1) := by decide +kernel
theorem dX2_countUnits_77 : decode cX2_countUnits 77 = .ok (.iaload, 1) := by decide +kernel
theorem dX2_countUnits_78 : decode cX2_countUnits 78 = .ok (.iadd, 1) := by decide +kernel
theorem dX2_countUnits_79 : decode cX2_countUnits 79 = .ok (.istore_n 2, 1) := by decide +kernel
theorem dX2_countUnits_80 : decode cX2_countUnits 80 = .ok (.iinc 3 1, 3) := by decide +kernel
theorem dX2_countUnits_83 : decode cX2_countUnits 83 = .ok (.goto (-77), 3) := by decide +kernel
theorem dX2_countUnits_86 : decode cX2_countUnits 86 = .ok (.iconst 0, 1) := by decide +kernel
theorem dX2_countUnits_87 : decode cX2_countUnits 87 = .ok (.istore_n 3, 1) := by decide +kernel
theorem dX2_countUnits_88 : decode cX2_countUnits 88 = .ok (.iload_n 3, 1) := by decide +kernel
theorem dX2_countUnits_89 : decode cX2_countUnits 89 = .ok (.aload_n 0, 1) := by decide +kernel
theorem dX2_countUnits_90 : decode cX2_countUnits 90 = .ok (.getfield 44, 3) := by decide +kernel
