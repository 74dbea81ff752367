set_option maxRecDepth 20000 in
theorem ggL_years_X5_addDevice : GoodIn wsL_years wsX5_addDevice := goodIn_r _ [269, 17, 137, 227, 23, 270, 271, 272, 273, 274, 16, 275, 36, 127, 128, 129, 22, 130, 74, 75, 76, 131, 110, 111, 112, 38, 113, 114, 115, 116, 39, 40, 41, 42, 44, 45, 46, 50, 51, 52, 117, 118, 119, 49, 120, 57, 58, 59, 60, 121, 61, 62, 63, 64, 377, 378, 379, 380, 381, 382, 383, 384, 385, 386, 387, 388, 389, 390, 391, 392, 393, 394, 410, 411, 412, 413, 414, 415, 416, 417, 395, 396, 397] (by decide +kernel) (by decide +kernel)
set_option maxRecDepth 20000 in
theorem gL_years_X5_addDevice : GoodIn wsL_years (wsV RL 38 RX5 yX5_addDevice wsX5_addDevice) := goodIn_app (goodIn_of _ (by decide +kernel)) ggL_years_X5_addDevice
set_option maxRecDepth 20000 in
theorem ggL_years_X5_set : GoodIn wsL_years wsX5_set := goodIn_r _ [279, 280, 17, 23, 238, 239, 240, 16, 241, 50, 242, 243, 45, 127, 128, 129, 22, 130, 74, 75, 76, 131, 110, 111, 112, 36, 38, 113, 114, 115, 116, 39, 40, 41, 42, 44, 46, 51, 52, 117, 118, 119, 49, 120, 57, 58, 59, 60, 121, 61, 62, 63, 64, 281, 282, 283, 284, 377, 378, 379, 380, 381, 382, 383, 384, 385, 386, 387, 388, 389, 390, 391, 392, 393, 394, 410, 411, 412, 413, 414, 415, 416, 417, 395, 396, 397] (by decide +kernel) (by decide +kernel)
set_option maxRecDepth 20000 in
theorem gL_years_X5_set : GoodIn wsL_years (wsV RL 41 RX5 yX5_set wsX5_set) := goodIn_app (goodIn_of _ (by decide +kernel)) ggL_years_X5_set
set_option maxRecDepth 20000 in
theorem ggL_years_X5_flat : GoodIn wsL_years wsX5_flat := goodIn_r _ [288, 17, 228, 31, 229, 230, 231, 137, 289, 290, 272, 273, 274, 16, 275, 36, 139, 140, 141, 3, 142, 143, 144, 145, 146, 50, 147, 44, 42, 41, 148, 40, 149, 150, 151, 152, 51, 45, 153, 154, 155, 156, 52, 157, 158, 159, 49, 160, 59, 161, 162, 163, 30, 164, 94, 165, 166, 167, 168, 169, 170, 66, 67, 68, 171, 172, 173, 174, 175, 176, 95, 96, 177, 178, 179, 180, 181, 182, 99, 183, 184, 185, 186, 187, 291, 292, 293, 294, 39, 295, 193, 194, 195, 377, 378, 379, 380, 381, 382, 383, 384, 385, 386, 387, 388, 389, 390, 391, 392, 393, 394, 405, 406, 407, 408, 409, 410, 411, 412, 413, 414, 415, 416, 417] (by decide +kernel) (by decide +kernel)
set_option maxRecDepth 20000 in
theorem gL_years_X5_flat : GoodIn wsL_years (wsV RL 19 RX5 yX5_flat wsX5_flat) := goodIn_app (goodIn_of _ (by decide +kernel)) ggL_years_X5_flat
set_option maxRecDepth 20000 in
theorem ggL_years_X5_read : GoodIn wsL_years wsX5_read := goodIn_r _ [299, 17, 137, 300, 301, 23, 302, 303, 158, 159, 49, 160, 59, 127, 128, 129, 22, 130, 74, 75, 76, 131, 110, 111, 16, 112, 36, 38, 113, 114, 115, 116, 39, 40, 41, 42, 44, 45, 46, 50, 51, 52, 117, 118, 119, 120, 57, 58, 60, 121, 61, 62, 63, 64, 143, 144, 145, 146, 147, 148, 149, 150, 151, 152, 153, 154, 155, 156, 157, 377, 378, 379, 380, 381, 382, 383, 384, 385, 386, 387, 388, 389, 390, 391, 392, 393, 394, 410, 411, 412, 413, 414, 415, 416, 417, 395, 396, 397] (by decide +kernel) (by decide +kernel)
set_option maxRecDepth 20000 in
theorem gL_years_X5_read : GoodIn wsL_years (wsV RL 45 RX5 yX5_read wsX5_read) := goodIn_app (goodIn_of _ (by decide +kernel)) ggL_years_X5_read
set_option maxRecDepth 20000 in
theorem ggL_years_X5_mark : GoodIn wsL_years wsX5_mark := goodIn_r _ [307, 17, 137, 308, 23, 303, 158, 159, 49, 160, 59, 127, 128, 129, 22, 130, 74, 75, 76, 131, 110, 111, 16, 112, 36, 38, 113, 114, 115, 116, 39, 40, 41, 42, 44, 45, 46, 50, 51, 52, 117, 118, 119, 120, 57, 58, 60, 121, 61, 62, 63, 64, 234, 235, 236, 237, 147, 377, 378, 379, 380, 381, 382, 383, 384, 385, 386, 387, 388, 389, 390, 391, 392, 393, 394, 410, 411, 412, 413, 414, 415, 416, 417, 395, 396, 397] (by decide +kernel) (by decide +kernel)
set_option maxRecDepth 20000 in
theorem gL_years_X5_mark : GoodIn wsL_years (wsV RL 48 RX5 yX5_mark wsX5_mark) := goodIn_app (goodIn_of _ (by decide +kernel)) ggL_years_X5_mark
set_option maxRecDepth 20000 in
theorem ggL_years_X5_device : GoodIn wsL_years wsX5_device := goodIn_r _ [312, 17, 137, 270, 271, 300, 301, 308, 302, 303, 158, 159, 49, 160, 59, 143, 144, 145, 16, 146, 50, 147, 44, 42, 41, 148, 40, 149, 150, 151, 152, 51, 45, 153, 154, 155, 156, 52, 157, 377, 378, 379, 380, 381, 382, 383, 384, 385, 386, 387, 388, 389, 390, 391, 392, 393, 394, 410, 411, 412, 413, 414, 415, 416, 417] (by decide +kernel) (by decide +kernel)
set_option maxRecDepth 20000 in
theorem gL_years_X5_device : GoodIn wsL_years (wsV RL 23 RX5 yX5_device wsX5_device) := goodIn_app (goodIn_of _ (by decide +kernel)) ggL_years_X5_device
set_option maxRecDepth 20000 in
theorem ggL_years_X5_between : GoodIn wsL_years wsX5_between := goodIn_r _ [316, 17, 137, 290, 23, 272, 273, 274, 16, 275, 36, 317, 197, 198, 49, 199, 60, 127, 128, 129, 22, 130, 74, 75, 76, 131, 110, 111, 112, 38, 113, 114, 115, 116, 39, 40, 41, 42, 44, 45, 46, 50, 51, 52, 117, 118, 119, 120, 57, 58, 59, 121, 61, 62, 63, 64, 377, 378, 379, 380, 381, 382, 383, 384, 385, 386, 387, 388, 389, 390, 391, 392, 393, 394, 410, 411, 412, 413, 414, 415, 416, 417, 395, 396, 397] (by decide +kernel) (by decide +kernel)
set_option maxRecDepth 20000 in
theorem gL_years_X5_between : GoodIn wsL_years (wsV RL 55 RX5 yX5_between wsX5_between) := goodIn_app (goodIn_of _ (by decide +kernel)) ggL_years_X5_between
set_option maxRecDepth 20000 in
theorem ggL_years_X5_draft : GoodIn wsL_years wsX5_draft := goodIn_r _ [321, 17, 137, 31, 138, 272, 273, 274, 16, 275, 36, 317, 197, 198, 49, 199, 60, 139, 140, 141, 3, 142, 143, 144, 145, 146, 50, 147, 44, 42, 41, 148, 40, 149, 150, 151, 152, 51, 45, 153, 154, 155, 156, 52, 157, 158, 159, 160, 59, 161, 162, 163, 30, 164, 94, 165, 166, 167, 168, 169, 170, 66, 67, 68, 171, 172, 173, 174, 175, 176, 95, 96, 177, 178, 179, 180, 181, 182, 99, 183, 184, 185, 186, 187, 188, 189, 190, 191, 97, 192, 193, 194, 195, 196, 200, 201, 202, 203, 204, 205, 206, 207, 208, 61, 209, 210, 211, 212, 213, 322, 377, 378, 379, 380, 381, 382, 383, 384, 385, 386, 387, 388, 389, 390, 391, 392, 393, 394, 405, 406, 407, 408, 409, 410, 411, 412, 413, 414, 415, 416, 417] (by decide +kernel) (by decide +kernel)
set_option maxRecDepth 20000 in
theorem gL_years_X5_draft : GoodIn wsL_years (wsV RL 62 RX5 yX5_draft wsX5_draft) := goodIn_app (goodIn_of _ (by decide +kernel)) ggL_years_X5_draft
set_option maxRecDepth 20000 in
theorem ggL_years_X5_move : GoodIn wsL_years wsX5_move := goodIn_r _ [326, 17, 137, 23, 289, 272, 273, 274, 16, 275, 36, 317, 197, 198, 49, 199, 60, 127, 128, 129, 22, 130, 74, 75, 76, 131, 110, 111, 112, 38, 113, 114, 115, 116, 39, 40, 41, 42, 44, 45, 46, 50, 51, 52, 117, 118, 119, 120, 57, 58, 59, 121, 61, 62, 63, 64, 327, 209, 3, 210, 211, 377, 378, 379, 380, 381, 382, 383, 384, 385, 386, 387, 388, 389, 390, 391, 392, 393, 394, 410, 411, 412, 413, 414, 415, 416, 417, 395, 396, 397] (by decide +kernel) (by decide +kernel)
set_option maxRecDepth 20000 in
theorem gL_years_X5_move : GoodIn wsL_years (wsV RL 52 RX5 yX5_move wsX5_move) := goodIn_app (goodIn_of _ (by decide +kernel)) ggL_years_X5_move
set_option maxRecDepth 20000 in
theorem ggL_years_L_refused : GoodIn wsL_years wsL_refused := goodIn_app (a := [.code yL_refused cL_refused 4 (some .boolean)]) (goodIn_r _ [331] (by decide +kernel) (by decide +kernel)) (goodIn_app (goodIn_app (goodIn_app (goodIn_app (goodIn_app (goodIn_app (goodIn_app (goodIn_r wsL_refused_r1 [332, 333, 330, 334, 335, 336, 223, 224, 225, 3, 226, 17, 126, 136, 137, 227, 228, 31, 229, 230, 231, 232, 23, 104] (by decide +kernel) (by decide +kernel)) (goodIn_app (goodIn_r wsL_refused_r2 [27, 233, 234, 235, 236, 16, 237, 50, 147, 44, 238, 239, 240, 241, 242, 243, 45, 244, 177, 178, 139, 140, 141, 142] (by decide +kernel) (by decide +kernel)) (goodIn_app (goodIn_r wsL_refused_r3 [143, 144, 145, 146, 42, 41, 148, 40, 149, 150, 151, 152, 51, 153, 154, 155, 156, 52, 157, 158, 159, 49, 160, 59] (by decide +kernel) (by decide +kernel)) (goodIn_app (goodIn_r wsL_refused_r4 [161, 162, 163, 30, 164, 94, 165, 166, 167, 168, 169, 170, 66, 67, 68, 171, 172, 173, 174, 175, 176, 95, 96, 179] (by decide +kernel) (by decide +kernel)) (goodIn_app (goodIn_r wsL_refused_r5 [180, 181, 182, 99, 183, 184, 185, 186, 187, 245, 246, 247, 248, 218, 249, 250, 251, 252, 36, 253, 197, 198, 199, 60] (by decide +kernel) (by decide +kernel)) (goodIn_app (goodIn_r wsL_refused_r6 [285, 286, 287, 288, 289, 290, 272, 273, 274, 275, 291, 292, 293, 294, 39, 295, 193, 194, 195, 309, 310, 311, 312, 270] (by decide +kernel) (by decide +kernel)) (goodIn_app (goodIn_r wsL_refused_r7 [271, 300, 301, 308, 302, 303, 337, 338, 339, 340, 341, 342, 343, 344, 317, 322, 212, 213, 345, 346, 347, 348, 349, 350] (by decide +kernel) (by decide +kernel)) (goodIn_app (goodIn_r wsL_refused_r8 [351, 352, 353, 262, 263, 264, 265, 127, 128, 129, 22, 130, 74, 75, 76, 131, 110, 111, 112, 38, 113, 114, 115, 116] rfl (by decide +kernel)) (goodIn_app (goodIn_r wsL_refused_r9 [46, 117, 118, 119, 120, 57, 58, 121, 61, 62, 63, 64, 266, 267, 268, 269, 276, 277, 278, 279, 280, 281, 282, 283] (by decide +kernel) (by decide +kernel)) (goodIn_app (goodIn_r wsL_refused_r10 [284, 296, 297, 298, 299, 304, 305, 306, 307, 323, 324, 325, 326, 327, 209, 210, 211, 313, 314, 315, 316, 354, 355, 356] (by decide +kernel) (by decide +kernel)) (goodIn_app (goodIn_r wsL_refused_r11 [357, 358, 138, 188, 189, 190, 191, 97, 192, 196, 200, 201, 202, 203, 204, 205, 206, 207, 208, 359, 360, 361, 362, 318] (by decide +kernel) (by decide +kernel)) (goodIn_app (goodIn_r wsL_refused_r12 [319, 320, 321, 254, 255, 256, 257, 258, 259, 260, 261, 363, 364, 365, 366, 367, 368, 369, 370, 371, 372, 373, 374, 375] (by decide +kernel) (by decide +kernel)) (goodIn_r wsL_refused_r13 [376] (by decide +kernel) (by decide +kernel)))))))))))))) (goodIn_r wsX50 [377, 378, 379, 380, 381, 382] (by decide +kernel) (by decide +kernel))) (goodIn_r wsX20 [383, 384, 385, 386, 387, 388, 389, 390, 391, 392, 393, 394] (by decide +kernel) (by decide +kernel))) (goodIn_r wsX40 [410, 411, 412, 413, 414, 415, 416, 417] (by decide +kernel) (by decide +kernel))) (goodIn_r wsX00 [405, 406, 407, 408, 409] (by decide +kernel) (by decide +kernel))) (goodIn_r wsX10 [395, 396, 397] (by decide +kernel) (by decide +kernel))) (goodIn_r wsX30 [398, 399, 400, 401, 402, 403, 404] (by decide +kernel) (by decide +kernel)))
set_option maxRecDepth 20000 in
theorem gL_years_L_refused : GoodIn wsL_years (va_wsS RL 94 yL_refused wsL_refused) := goodIn_app (goodIn_of _ (by decide +kernel)) ggL_years_L_refused
set_option maxRecDepth 20000 in
theorem ggL_years_X5_bill : GoodIn wsL_years wsX5_bill := goodIn_r _ [340, 17, 341, 342, 343, 344, 154, 155, 16, 156, 51, 52, 272, 273, 274, 275, 36, 317, 197, 198, 49, 199, 60, 322, 212, 3, 213, 377, 378, 379, 380, 381, 382, 410, 411, 412, 413, 414, 415, 416, 417, 383, 384, 385, 386, 387, 388, 389, 390, 391, 392, 393, 394] (by decide +kernel) (by decide +kernel)
set_option maxRecDepth 20000 in
theorem gL_years_X5_bill : GoodIn wsL_years (wsV RL 26 RX5 yX5_bill wsX5_bill) := goodIn_app (goodIn_of _ (by decide +kernel)) ggL_years_X5_bill
set_option maxRecDepth 20000 in
theorem ggL_years_X5_units : GoodIn wsL_years wsX5_units := goodIn_r _ [348, 17, 302, 344, 154, 155, 16, 156, 51, 52, 303, 158, 159, 49, 160, 59, 377, 378, 379, 380, 381, 382, 410, 411, 412, 413, 414, 415, 416, 417, 383, 384, 385, 386, 387, 388, 389, 390, 391, 392, 393, 394] (by decide +kernel) (by decide +kernel)
set_option maxRecDepth 20000 in
theorem gL_years_X5_units : GoodIn wsL_years (wsV RL 30 RX5 yX5_units wsX5_units) := goodIn_app (goodIn_of _ (by decide +kernel)) ggL_years_X5_units
set_option maxRecDepth 20000 in
theorem ggL_years_X5_correct : GoodIn wsL_years wsX5_correct := goodIn_r _ [357, 17, 358, 302, 23, 232, 31, 138, 344, 154, 155, 16, 156, 51, 52, 303, 158, 159, 49, 160, 59, 127, 128, 129, 22, 130, 74, 75, 76, 131, 110, 111, 112, 36, 38, 113, 114, 115, 116, 39, 40, 41, 42, 44, 45, 46, 50, 117, 118, 119, 120, 57, 58, 60, 121, 61, 62, 63, 64, 161, 162, 163, 30, 164, 94, 165, 166, 167, 168, 169, 170, 66, 67, 68, 171, 172, 173, 174, 175, 176, 95, 96, 177, 3, 178, 179, 180, 181, 182, 99, 183, 184, 185, 186, 187, 188, 189, 190, 191, 97, 192, 193, 194, 195, 196, 197, 198, 199, 200, 201, 202, 203, 204, 205, 206, 207, 208, 209, 210, 211, 212, 213, 359, 360, 361, 362, 377, 378, 379, 380, 381, 382, 410, 411, 412, 413, 414, 415, 416, 417, 383, 384, 385, 386, 387, 388, 389, 390, 391, 392, 393, 394, 405, 406, 407, 408, 409, 395, 396, 397] (by decide +kernel) (by decide +kernel)
set_option maxRecDepth 20000 in
theorem gL_years_X5_correct : GoodIn wsL_years (wsV RL 58 RX5 yX5_correct wsX5_correct) := goodIn_app (goodIn_of _ (by decide +kernel)) ggL_years_X5_correct
set_option maxRecDepth 20000 in
theorem ggL_years_X5_billIf : GoodIn wsL_years wsX5_billIf := goodIn_r _ [366, 17, 272, 273, 274, 16, 275, 36, 139, 140, 141, 3, 142, 31, 137, 143, 144, 145, 146, 50, 147, 44, 42, 41, 148, 40, 149, 150, 151, 152, 51, 45, 153, 154, 155, 156, 52, 157, 158, 159, 49, 160, 59, 161, 162, 163, 30, 164, 94, 165, 166, 167, 168, 169, 170, 66, 67, 68, 171, 172, 173, 174, 175, 176, 95, 96, 177, 178, 179, 180, 181, 182, 99, 183, 184, 185, 186, 187, 367, 368, 369, 370, 371, 372, 295, 193, 194, 195, 377, 378, 379, 380, 381, 382, 383, 384, 385, 386, 387, 388, 389, 390, 391, 392, 393, 394, 410, 411, 412, 413, 414, 415, 416, 417, 405, 406, 407, 408, 409] (by decide +kernel) (by decide +kernel)
set_option maxRecDepth 20000 in
theorem gL_years_X5_billIf : GoodIn wsL_years (wsV RL 68 RX5 yX5_billIf wsX5_billIf) := goodIn_app (goodIn_of _ (by decide +kernel)) ggL_years_X5_billIf
set_option maxRecDepth 20000 in
theorem ggL_years_X5_bestShare : GoodIn wsL_years wsX5_bestShare := goodIn_r _ [376, 17, 272, 273, 274, 16, 275, 36, 139, 140, 141, 3, 142, 31, 137, 143, 144, 145, 146, 50, 147, 44, 42, 41, 148, 40, 149, 150, 151, 152, 51, 45, 153, 154, 155, 156, 52, 157, 158, 159, 49, 160, 59, 161, 162, 163, 30, 164, 94, 165, 166, 167, 168, 169, 170, 66, 67, 68, 171, 172, 173, 174, 175, 176, 95, 96, 177, 178, 179, 180, 181, 182, 99, 183, 184, 185, 186, 187, 367, 368, 369, 370, 371, 372, 295, 193, 194, 195, 377, 378, 379, 380, 381, 382, 383, 384, 385, 386, 387, 388, 389, 390, 391, 392, 393, 394, 410, 411, 412, 413, 414, 415, 416, 417, 405, 406, 407, 408, 409] (by decide +kernel) (by decide +kernel)
set_option maxRecDepth 20000 in
theorem gL_years_X5_bestShare : GoodIn wsL_years (wsV RL 71 RX5 yX5_bestShare wsX5_bestShare) := goodIn_app (goodIn_of _ (by decide +kernel)) ggL_years_X5_bestShare
theorem dL_years_0 : decode cL_years 0 = .ok (.new 14, 3) := by decide +kernel
theorem dL_years_3 : decode cL_years 3 = .ok (.dup, 1) := by decide +kernel
theorem dL_years_4 : decode cL_years 4 = .ok (.invokespecial 83, 3) := by decide +kernel
theorem dL_years_7 : decode cL_years 7 = .ok (.astore_n 0, 1) := by decide +kernel
theorem dL_years_8 : decode cL_years 8 = .ok (.aload_n 0, 1) := by decide +kernel
theorem dL_years_9 : decode cL_years 9 = .ok (.invokevirtual 84, 3) := by decide +kernel
theorem dL_years_12 : decode cL_years 12 = .ok (.bipush (-5), 2) := by decide +kernel
theorem dL_years_14 : decode cL_years 14 = .ok (.if_icmp .ne 180, 3) := by decide +kernel
theorem dL_years_17 : decode cL_years 17 = .ok (.aload_n 0, 1) := by decide +kernel
theorem dL_years_18 : decode cL_years 18 = .ok (.invokevirtual 88, 3) := by decide +kernel
theorem dL_years_21 : decode cL_years 21 = .ok (.bipush (-5), 2) := by decide +kernel
theorem dL_years_23 : decode cL_years 23 = .ok (.if_icmp .ne 171, 3) := by decide +kernel
theorem dL_years_26 : decode cL_years 26 = .ok (.aload_n 0, 1) := by decide +kernel
theorem dL_years_27 : decode cL_years 27 = .ok (.invokevirtual 91, 3) := by decide +kernel
theorem dL_years_30 : decode cL_years 30 = .ok (.bipush (-4), 2) := by decide +kernel
theorem dL_years_32 : decode cL_years 32 = .ok (.if_icmp .ne 162, 3) := by decide +kernel
theorem dL_years_35 : decode cL_years 35 = .ok (.aload_n 0, 1) := by decide +kernel
theorem dL_years_36 : decode cL_years 36 = .ok (.iconst 5, 1) := by decide +kernel
theorem dL_years_37 : decode cL_years 37 = .ok (.invokevirtual 13, 3) := by decide +kernel
theorem dL_years_40 : decode cL_years 40 = .ok (.bipush 40, 2) := by decide +kernel
theorem dL_years_42 : decode cL_years 42 = .ok (.if_icmp .ne 152, 3) := by decide +kernel
theorem dL_years_45 : decode cL_years 45 = .ok (.aload_n 0, 1) := by decide +kernel
theorem dL_years_46 : decode cL_years 46 = .ok (.bipush 9, 2) := by decide +kernel
theorem dL_years_48 : decode cL_years 48 = .ok (.invokevirtual 13, 3) := by decide +kernel
theorem dL_years_51 : decode cL_years 51 = .ok (.ifCond .ne 143, 3) := by decide +kernel
theorem dL_years_54 : decode cL_years 54 = .ok (.aload_n 0, 1) := by decide +kernel
theorem dL_years_55 : decode cL_years 55 = .ok (.iconst 0, 1) := by decide +kernel
theorem dL_years_56 : decode cL_years 56 = .ok (.invokevirtual 65, 3) := by decide +kernel
theorem dL_years_59 : decode cL_years 59 = .ok (.bipush (-5), 2) := by decide +kernel
theorem dL_years_61 : decode cL_years 61 = .ok (.if_icmp .ne 133, 3) := by decide +kernel
theorem dL_years_64 : decode cL_years 64 = .ok (.aload_n 0, 1) := by decide +kernel
theorem dL_years_65 : decode cL_years 65 = .ok (.bipush 50, 2) := by decide +kernel
theorem dL_years_67 : decode cL_years 67 = .ok (.invokevirtual 33, 3) := by decide +kernel
theorem dL_years_70 : decode cL_years 70 = .ok (.ifCond .ne 124, 3) := by decide +kernel
theorem dL_years_73 : decode cL_years 73 = .ok (.aload_n 0, 1) := by decide +kernel
theorem dL_years_74 : decode cL_years 74 = .ok (.bipush 100, 2) := by decide +kernel
theorem dL_years_76 : decode cL_years 76 = .ok (.invokevirtual 33, 3) := by decide +kernel
theorem dL_years_79 : decode cL_years 79 = .ok (.iconst 1, 1) := by decide +kernel
theorem dL_years_80 : decode cL_years 80 = .ok (.if_icmp .ne 114, 3) := by decide +kernel
theorem dL_years_83 : decode cL_years 83 = .ok (.aload_n 0, 1) := by decide +kernel
theorem dL_years_84 : decode cL_years 84 = .ok (.iconst 0, 1) := by decide +kernel
theorem dL_years_85 : decode cL_years 85 = .ok (.iconst 2, 1) := by decide +kernel
theorem dL_years_86 : decode cL_years 86 = .ok (.invokevirtual 38, 3) := by decide +kernel
theorem dL_years_89 : decode cL_years 89 = .ok (.ifCond .ne 105, 3) := by decide +kernel
theorem dL_years_92 : decode cL_years 92 = .ok (.aload_n 0, 1) := by decide +kernel
theorem dL_years_93 : decode cL_years 93 = .ok (.iconst 1, 1) := by decide +kernel
theorem dL_years_94 : decode cL_years 94 = .ok (.iconst 1, 1) := by decide +kernel
theorem dL_years_95 : decode cL_years 95 = .ok (.invokevirtual 38, 3) := by decide +kernel
theorem dL_years_98 : decode cL_years 98 = .ok (.iconst 1, 1) := by decide +kernel
theorem dL_years_99 : decode cL_years 99 = .ok (.if_icmp .ne 95, 3) := by decide +kernel
theorem dL_years_102 : decode cL_years 102 = .ok (.aload_n 0, 1) := by decide +kernel
theorem dL_years_103 : decode cL_years 103 = .ok (.iconst 1, 1) := by decide +kernel
theorem dL_years_104 : decode cL_years 104 = .ok (.iconst 3, 1) := by decide +kernel
theorem dL_years_105 : decode cL_years 105 = .ok (.invokevirtual 38, 3) := by decide +kernel
theorem dL_years_108 : decode cL_years 108 = .ok (.iconst 2, 1) := by decide +kernel
theorem dL_years_109 : decode cL_years 109 = .ok (.if_icmp .ne 85, 3) := by decide +kernel
theorem dL_years_112 : decode cL_years 112 = .ok (.aload_n 0, 1) := by decide +kernel
theorem dL_years_113 : decode cL_years 113 = .ok (.iconst 0, 1) := by decide +kernel
theorem dL_years_114 : decode cL_years 114 = .ok (.sipush 1000, 3) := by decide +kernel
theorem dL_years_117 : decode cL_years 117 = .ok (.invokevirtual 41, 3) := by decide +kernel
theorem dL_years_120 : decode cL_years 120 = .ok (.ifCond .ne 74, 3) := by decide +kernel
theorem dL_years_123 : decode cL_years 123 = .ok (.aload_n 0, 1) := by decide +kernel
theorem dL_years_124 : decode cL_years 124 = .ok (.iconst 0, 1) := by decide +kernel
theorem dL_years_125 : decode cL_years 125 = .ok (.iconst 3, 1) := by decide +kernel
theorem dL_years_126 : decode cL_years 126 = .ok (.invokevirtual 19, 3) := by decide +kernel
theorem dL_years_129 : decode cL_years 129 = .ok (.sipush 133, 3) := by decide +kernel
theorem dL_years_132 : decode cL_years 132 = .ok (.if_icmp .ne 62, 3) := by decide +kernel
theorem dL_years_135 : decode cL_years 135 = .ok (.aload_n 0, 1) := by decide +kernel
theorem dL_years_136 : decode cL_years 136 = .ok (.iconst 1, 1) := by decide +kernel
theorem dL_years_137 : decode cL_years 137 = .ok (.iconst 3, 1) := by decide +kernel
theorem dL_years_138 : decode cL_years 138 = .ok (.invokevirtual 19, 3) := by decide +kernel
theorem dL_years_141 : decode cL_years 141 = .ok (.sipush 267, 3) := by decide +kernel
theorem dL_years_144 : decode cL_years 144 = .ok (.if_icmp .ne 50, 3) := by decide +kernel
theorem dL_years_147 : decode cL_years 147 = .ok (.aload_n 0, 1) := by decide +kernel
theorem dL_years_148 : decode cL_years 148 = .ok (.iconst 0, 1) := by decide +kernel
theorem dL_years_149 : decode cL_years 149 = .ok (.iconst 4, 1) := by decide +kernel
theorem dL_years_150 : decode cL_years 150 = .ok (.invokevirtual 19, 3) := by decide +kernel
theorem dL_years_153 : decode cL_years 153 = .ok (.sipush 200, 3) := by decide +kernel
theorem dL_years_156 : decode cL_years 156 = .ok (.if_icmp .ne 38, 3) := by decide +kernel
theorem dL_years_159 : decode cL_years 159 = .ok (.aload_n 0, 1) := by decide +kernel
theorem dL_years_160 : decode cL_years 160 = .ok (.iconst 1, 1) := by decide +kernel
theorem dL_years_161 : decode cL_years 161 = .ok (.iconst 5, 1) := by decide +kernel
theorem dL_years_162 : decode cL_years 162 = .ok (.invokevirtual 19, 3) := by decide +kernel
theorem dL_years_165 : decode cL_years 165 = .ok (.sipush 667, 3) := by decide +kernel
theorem dL_years_168 : decode cL_years 168 = .ok (.if_icmp .ne 26, 3) := by decide +kernel
theorem dL_years_171 : decode cL_years 171 = .ok (.aload_n 0, 1) := by decide +kernel
theorem dL_years_172 : decode cL_years 172 = .ok (.iconst 1, 1) := by decide +kernel
theorem dL_years_173 : decode cL_years 173 = .ok (.iconst 1, 1) := by decide +kernel
theorem dL_years_174 : decode cL_years 174 = .ok (.invokevirtual 19, 3) := by decide +kernel
theorem dL_years_177 : decode cL_years 177 = .ok (.bipush 6, 2) := by decide +kernel
theorem dL_years_179 : decode cL_years 179 = .ok (.if_icmp .ne 15, 3) := by decide +kernel
theorem dL_years_182 : decode cL_years 182 = .ok (.aload_n 0, 1) := by decide +kernel
theorem dL_years_183 : decode cL_years 183 = .ok (.bipush 7, 2) := by decide +kernel
theorem dL_years_185 : decode cL_years 185 = .ok (.invokevirtual 13, 3) := by decide +kernel
theorem dL_years_188 : decode cL_years 188 = .ok (.sipush 150, 3) := by decide +kernel
theorem dL_years_191 : decode cL_years 191 = .ok (.if_icmp .eq 5, 3) := by decide +kernel
theorem dL_years_194 : decode cL_years 194 = .ok (.iconst 0, 1) := by decide +kernel
theorem dL_years_195 : decode cL_years 195 = .ok (.ireturn, 1) := by decide +kernel
theorem dL_years_196 : decode cL_years 196 = .ok (.aload_n 0, 1) := by decide +kernel
theorem dL_years_197 : decode cL_years 197 = .ok (.iconst 0, 1) := by decide +kernel
theorem dL_years_198 : decode cL_years 198 = .ok (.bipush 10, 2) := by decide +kernel
theorem dL_years_200 : decode cL_years 200 = .ok (.invokevirtual 45, 3) := by decide +kernel
theorem dL_years_203 : decode cL_years 203 = .ok (.bipush 20, 2) := by decide +kernel
theorem dL_years_205 : decode cL_years 205 = .ok (.if_icmp .ne 304, 3) := by decide +kernel
theorem dL_years_208 : decode cL_years 208 = .ok (.aload_n 0, 1) := by decide +kernel
theorem dL_years_209 : decode cL_years 209 = .ok (.iconst 1, 1) := by decide +kernel
theorem dL_years_210 : decode cL_years 210 = .ok (.bipush 30, 2) := by decide +kernel
theorem dL_years_212 : decode cL_years 212 = .ok (.invokevirtual 45, 3) := by decide +kernel
theorem dL_years_215 : decode cL_years 215 = .ok (.bipush 30, 2) := by decide +kernel
theorem dL_years_217 : decode cL_years 217 = .ok (.if_icmp .ne 292, 3) := by decide +kernel
theorem dL_years_220 : decode cL_years 220 = .ok (.aload_n 0, 1) := by decide +kernel
theorem dL_years_221 : decode cL_years 221 = .ok (.iconst 2, 1) := by decide +kernel
theorem dL_years_222 : decode cL_years 222 = .ok (.bipush 10, 2) := by decide +kernel
theorem dL_years_224 : decode cL_years 224 = .ok (.invokevirtual 45, 3) := by decide +kernel
theorem dL_years_227 : decode cL_years 227 = .ok (.bipush 30, 2) := by decide +kernel
theorem dL_years_229 : decode cL_years 229 = .ok (.if_icmp .ne 280, 3) := by decide +kernel
theorem dL_years_232 : decode cL_years 232 = .ok (.aload_n 0, 1) := by decide +kernel
theorem dL_years_233 : decode cL_years 233 = .ok (.iconst 0, 1) := by decide +kernel
theorem dL_years_234 : decode cL_years 234 = .ok (.iconst 4, 1) := by decide +kernel
theorem dL_years_235 : decode cL_years 235 = .ok (.invokevirtual 19, 3) := by decide +kernel
theorem dL_years_238 : decode cL_years 238 = .ok (.sipush 150, 3) := by decide +kernel
theorem dL_years_241 : decode cL_years 241 = .ok (.if_icmp .ne 268, 3) := by decide +kernel
theorem dL_years_244 : decode cL_years 244 = .ok (.aload_n 0, 1) := by decide +kernel
theorem dL_years_245 : decode cL_years 245 = .ok (.iconst 1, 1) := by decide +kernel
theorem dL_years_246 : decode cL_years 246 = .ok (.iconst 5, 1) := by decide +kernel
theorem dL_years_247 : decode cL_years 247 = .ok (.invokevirtual 19, 3) := by decide +kernel
theorem dL_years_250 : decode cL_years 250 = .ok (.sipush 717, 3) := by decide +kernel
theorem dL_years_253 : decode cL_years 253 = .ok (.if_icmp .ne 256, 3) := by decide +kernel
theorem dL_years_256 : decode cL_years 256 = .ok (.aload_n 0, 1) := by decide +kernel
theorem dL_years_257 : decode cL_years 257 = .ok (.iconst 0, 1) := by decide +kernel
theorem dL_years_258 : decode cL_years 258 = .ok (.invokevirtual 65, 3) := by decide +kernel
theorem dL_years_261 : decode cL_years 261 = .ok (.iconst 1, 1) := by decide +kernel
theorem dL_years_262 : decode cL_years 262 = .ok (.if_icmp .ne 247, 3) := by decide +kernel
theorem dL_years_265 : decode cL_years 265 = .ok (.aload_n 0, 1) := by decide +kernel
theorem dL_years_266 : decode cL_years 266 = .ok (.iconst 1, 1) := by decide +kernel
theorem dL_years_267 : decode cL_years 267 = .ok (.invokevirtual 65, 3) := by decide +kernel
theorem dL_years_270 : decode cL_years 270 = .ok (.ifCond .ne 239, 3) := by decide +kernel
theorem dL_years_273 : decode cL_years 273 = .ok (.aload_n 0, 1) := by decide +kernel
theorem dL_years_274 : decode cL_years 274 = .ok (.iconst 2, 1) := by decide +kernel
theorem dL_years_275 : decode cL_years 275 = .ok (.invokevirtual 65, 3) := by decide +kernel
theorem dL_years_278 : decode cL_years 278 = .ok (.bipush (-5), 2) := by decide +kernel
theorem dL_years_280 : decode cL_years 280 = .ok (.if_icmp .ne 229, 3) := by decide +kernel
theorem dL_years_283 : decode cL_years 283 = .ok (.aload_n 0, 1) := by decide +kernel
theorem dL_years_284 : decode cL_years 284 = .ok (.iconst 2, 1) := by decide +kernel
theorem dL_years_285 : decode cL_years 285 = .ok (.iconst 1, 1) := by decide +kernel
theorem dL_years_286 : decode cL_years 286 = .ok (.invokevirtual 48, 3) := by decide +kernel
theorem dL_years_289 : decode cL_years 289 = .ok (.iconst 1, 1) := by decide +kernel
theorem dL_years_290 : decode cL_years 290 = .ok (.if_icmp .ne 219, 3) := by decide +kernel
theorem dL_years_293 : decode cL_years 293 = .ok (.aload_n 0, 1) := by decide +kernel
theorem dL_years_294 : decode cL_years 294 = .ok (.iconst 2, 1) := by decide +kernel
theorem dL_years_295 : decode cL_years 295 = .ok (.iconst 5, 1) := by decide +kernel
theorem dL_years_296 : decode cL_years 296 = .ok (.invokevirtual 23, 3) := by decide +kernel
theorem dL_years_299 : decode cL_years 299 = .ok (.bipush 50, 2) := by decide +kernel
theorem dL_years_301 : decode cL_years 301 = .ok (.if_icmp .ne 208, 3) := by decide +kernel
theorem dL_years_304 : decode cL_years 304 = .ok (.aload_n 0, 1) := by decide +kernel
theorem dL_years_305 : decode cL_years 305 = .ok (.iconst 1, 1) := by decide +kernel
theorem dL_years_306 : decode cL_years 306 = .ok (.iconst 2, 1) := by decide +kernel
theorem dL_years_307 : decode cL_years 307 = .ok (.invokevirtual 19, 3) := by decide +kernel
theorem dL_years_310 : decode cL_years 310 = .ok (.bipush 80, 2) := by decide +kernel
theorem dL_years_312 : decode cL_years 312 = .ok (.if_icmp .ne 197, 3) := by decide +kernel
theorem dL_years_315 : decode cL_years 315 = .ok (.aload_n 0, 1) := by decide +kernel
theorem dL_years_316 : decode cL_years 316 = .ok (.iconst 0, 1) := by decide +kernel
theorem dL_years_317 : decode cL_years 317 = .ok (.iconst 4, 1) := by decide +kernel
theorem dL_years_318 : decode cL_years 318 = .ok (.invokevirtual 19, 3) := by decide +kernel
theorem dL_years_321 : decode cL_years 321 = .ok (.bipush 120, 2) := by decide +kernel
theorem dL_years_323 : decode cL_years 323 = .ok (.if_icmp .ne 186, 3) := by decide +kernel
theorem dL_years_326 : decode cL_years 326 = .ok (.aload_n 0, 1) := by decide +kernel
theorem dL_years_327 : decode cL_years 327 = .ok (.iconst 1, 1) := by decide +kernel
theorem dL_years_328 : decode cL_years 328 = .ok (.iconst 5, 1) := by decide +kernel
theorem dL_years_329 : decode cL_years 329 = .ok (.invokevirtual 55, 3) := by decide +kernel
theorem dL_years_332 : decode cL_years 332 = .ok (.bipush (-4), 2) := by decide +kernel
theorem dL_years_334 : decode cL_years 334 = .ok (.if_icmp .ne 175, 3) := by decide +kernel
theorem dL_years_337 : decode cL_years 337 = .ok (.aload_n 0, 1) := by decide +kernel
theorem dL_years_338 : decode cL_years 338 = .ok (.iconst 1, 1) := by decide +kernel
theorem dL_years_339 : decode cL_years 339 = .ok (.iconst 1, 1) := by decide +kernel
theorem dL_years_340 : decode cL_years 340 = .ok (.invokevirtual 62, 3) := by decide +kernel
theorem dL_years_343 : decode cL_years 343 = .ok (.iconst (-1), 1) := by decide +kernel
theorem dL_years_344 : decode cL_years 344 = .ok (.if_icmp .ne 165, 3) := by decide +kernel
theorem dL_years_347 : decode cL_years 347 = .ok (.aload_n 0, 1) := by decide +kernel
theorem dL_years_348 : decode cL_years 348 = .ok (.iconst 1, 1) := by decide +kernel
theorem dL_years_349 : decode cL_years 349 = .ok (.iconst 0, 1) := by decide +kernel
theorem dL_years_350 : decode cL_years 350 = .ok (.invokevirtual 62, 3) := by decide +kernel
theorem dL_years_353 : decode cL_years 353 = .ok (.sipush 747, 3) := by decide +kernel
theorem dL_years_356 : decode cL_years 356 = .ok (.if_icmp .ne 153, 3) := by decide +kernel
theorem dL_years_359 : decode cL_years 359 = .ok (.aload_n 0, 1) := by decide +kernel
theorem dL_years_360 : decode cL_years 360 = .ok (.iconst 1, 1) := by decide +kernel
theorem dL_years_361 : decode cL_years 361 = .ok (.bipush 6, 2) := by decide +kernel
theorem dL_years_363 : decode cL_years 363 = .ok (.invokevirtual 52, 3) := by decide +kernel
theorem dL_years_366 : decode cL_years 366 = .ok (.sipush 583, 3) := by decide +kernel
theorem dL_years_369 : decode cL_years 369 = .ok (.if_icmp .ne 140, 3) := by decide +kernel
theorem dL_years_372 : decode cL_years 372 = .ok (.aload_n 0, 1) := by decide +kernel
theorem dL_years_373 : decode cL_years 373 = .ok (.iconst 1, 1) := by decide +kernel
theorem dL_years_374 : decode cL_years 374 = .ok (.bipush 7, 2) := by decide +kernel
theorem dL_years_376 : decode cL_years 376 = .ok (.invokevirtual 52, 3) := by decide +kernel
theorem dL_years_379 : decode cL_years 379 = .ok (.bipush (-4), 2) := by decide +kernel
theorem dL_years_381 : decode cL_years 381 = .ok (.if_icmp .ne 128, 3) := by decide +kernel
theorem dL_years_384 : decode cL_years 384 = .ok (.aload_n 0, 1) := by decide +kernel
theorem dL_years_385 : decode cL_years 385 = .ok (.iconst 1, 1) := by decide +kernel
theorem dL_years_386 : decode cL_years 386 = .ok (.iconst 0, 1) := by decide +kernel
theorem dL_years_387 : decode cL_years 387 = .ok (.invokevirtual 62, 3) := by decide +kernel
theorem dL_years_390 : decode cL_years 390 = .ok (.sipush 412, 3) := by decide +kernel
theorem dL_years_393 : decode cL_years 393 = .ok (.if_icmp .ne 116, 3) := by decide +kernel
theorem dL_years_396 : decode cL_years 396 = .ok (.aload_n 0, 1) := by decide +kernel
theorem dL_years_397 : decode cL_years 397 = .ok (.iconst 1, 1) := by decide +kernel
theorem dL_years_398 : decode cL_years 398 = .ok (.iconst 1, 1) := by decide +kernel
theorem dL_years_399 : decode cL_years 399 = .ok (.invokevirtual 62, 3) := by decide +kernel
theorem dL_years_402 : decode cL_years 402 = .ok (.sipush 335, 3) := by decide +kernel
theorem dL_years_405 : decode cL_years 405 = .ok (.if_icmp .ne 104, 3) := by decide +kernel
theorem dL_years_408 : decode cL_years 408 = .ok (.aload_n 0, 1) := by decide +kernel
theorem dL_years_409 : decode cL_years 409 = .ok (.iconst 1, 1) := by decide +kernel
theorem dL_years_410 : decode cL_years 410 = .ok (.sipush 500, 3) := by decide +kernel
theorem dL_years_413 : decode cL_years 413 = .ok (.invokevirtual 55, 3) := by decide +kernel
theorem dL_years_416 : decode cL_years 416 = .ok (.iconst 1, 1) := by decide +kernel
theorem dL_years_417 : decode cL_years 417 = .ok (.if_icmp .ne 92, 3) := by decide +kernel
theorem dL_years_420 : decode cL_years 420 = .ok (.aload_n 0, 1) := by decide +kernel
theorem dL_years_421 : decode cL_years 421 = .ok (.iconst 1, 1) := by decide +kernel
theorem dL_years_422 : decode cL_years 422 = .ok (.iconst 0, 1) := by decide +kernel
theorem dL_years_423 : decode cL_years 423 = .ok (.invokevirtual 62, 3) := by decide +kernel
theorem dL_years_426 : decode cL_years 426 = .ok (.sipush 373, 3) := by decide +kernel
theorem dL_years_429 : decode cL_years 429 = .ok (.if_icmp .ne 80, 3) := by decide +kernel
theorem dL_years_432 : decode cL_years 432 = .ok (.aload_n 0, 1) := by decide +kernel
theorem dL_years_433 : decode cL_years 433 = .ok (.iconst 1, 1) := by decide +kernel
theorem dL_years_434 : decode cL_years 434 = .ok (.sipush 250, 3) := by decide +kernel
theorem dL_years_437 : decode cL_years 437 = .ok (.invokevirtual 55, 3) := by decide +kernel
theorem dL_years_440 : decode cL_years 440 = .ok (.ifCond .ne 69, 3) := by decide +kernel
theorem dL_years_443 : decode cL_years 443 = .ok (.aload_n 0, 1) := by decide +kernel
theorem dL_years_444 : decode cL_years 444 = .ok (.iconst 1, 1) := by decide +kernel
theorem dL_years_445 : decode cL_years 445 = .ok (.iconst 0, 1) := by decide +kernel
theorem dL_years_446 : decode cL_years 446 = .ok (.invokevirtual 62, 3) := by decide +kernel
theorem dL_years_449 : decode cL_years 449 = .ok (.sipush 253, 3) := by decide +kernel
theorem dL_years_452 : decode cL_years 452 = .ok (.if_icmp .ne 57, 3) := by decide +kernel
theorem dL_years_455 : decode cL_years 455 = .ok (.aload_n 0, 1) := by decide +kernel
theorem dL_years_456 : decode cL_years 456 = .ok (.iconst 1, 1) := by decide +kernel
theorem dL_years_457 : decode cL_years 457 = .ok (.iconst 1, 1) := by decide +kernel
theorem dL_years_458 : decode cL_years 458 = .ok (.invokevirtual 62, 3) := by decide +kernel
theorem dL_years_461 : decode cL_years 461 = .ok (.sipush 494, 3) := by decide +kernel
theorem dL_years_464 : decode cL_years 464 = .ok (.if_icmp .ne 45, 3) := by decide +kernel
theorem dL_years_467 : decode cL_years 467 = .ok (.aload_n 0, 1) := by decide +kernel
theorem dL_years_468 : decode cL_years 468 = .ok (.iconst 1, 1) := by decide +kernel
theorem dL_years_469 : decode cL_years 469 = .ok (.bipush 6, 2) := by decide +kernel
theorem dL_years_471 : decode cL_years 471 = .ok (.invokevirtual 19, 3) := by decide +kernel
theorem dL_years_474 : decode cL_years 474 = .ok (.bipush 6, 2) := by decide +kernel
theorem dL_years_476 : decode cL_years 476 = .ok (.if_icmp .ne 33, 3) := by decide +kernel
theorem dL_years_479 : decode cL_years 479 = .ok (.aload_n 0, 1) := by decide +kernel
theorem dL_years_480 : decode cL_years 480 = .ok (.iconst 1, 1) := by decide +kernel
theorem dL_years_481 : decode cL_years 481 = .ok (.bipush 7, 2) := by decide +kernel
theorem dL_years_483 : decode cL_years 483 = .ok (.invokevirtual 19, 3) := by decide +kernel
theorem dL_years_486 : decode cL_years 486 = .ok (.sipush 250, 3) := by decide +kernel
theorem dL_years_489 : decode cL_years 489 = .ok (.if_icmp .ne 20, 3) := by decide +kernel
theorem dL_years_492 : decode cL_years 492 = .ok (.aload_n 0, 1) := by decide +kernel
theorem dL_years_493 : decode cL_years 493 = .ok (.bipush 12, 2) := by decide +kernel
theorem dL_years_495 : decode cL_years 495 = .ok (.invokevirtual 13, 3) := by decide +kernel
theorem dL_years_498 : decode cL_years 498 = .ok (.iconst 1, 1) := by decide +kernel
theorem dL_years_499 : decode cL_years 499 = .ok (.if_icmp .ne 10, 3) := by decide +kernel
theorem dL_years_502 : decode cL_years 502 = .ok (.aload_n 0, 1) := by decide +kernel
theorem dL_years_503 : decode cL_years 503 = .ok (.invokestatic 94, 3) := by decide +kernel
theorem dL_years_506 : decode cL_years 506 = .ok (.ifCond .ne 5, 3) := by decide +kernel
theorem dL_years_509 : decode cL_years 509 = .ok (.iconst 0, 1) := by decide +kernel
theorem dL_years_510 : decode cL_years 510 = .ok (.ireturn, 1) := by decide +kernel
theorem dL_years_511 : decode cL_years 511 = .ok (.aload_n 0, 1) := by decide +kernel
theorem dL_years_512 : decode cL_years 512 = .ok (.invokevirtual 91, 3) := by decide +kernel
theorem dL_years_515 : decode cL_years 515 = .ok (.ifCond .ne 265, 3) := by decide +kernel
theorem dL_years_518 : decode cL_years 518 = .ok (.aload_n 0, 1) := by decide +kernel
theorem dL_years_519 : decode cL_years 519 = .ok (.iconst 0, 1) := by decide +kernel
theorem dL_years_520 : decode cL_years 520 = .ok (.invokevirtual 13, 3) := by decide +kernel
theorem dL_years_523 : decode cL_years 523 = .ok (.iconst 1, 1) := by decide +kernel
theorem dL_years_524 : decode cL_years 524 = .ok (.if_icmp .ne 256, 3) := by decide +kernel
theorem dL_years_527 : decode cL_years 527 = .ok (.aload_n 0, 1) := by decide +kernel
theorem dL_years_528 : decode cL_years 528 = .ok (.bipush 10, 2) := by decide +kernel
theorem dL_years_530 : decode cL_years 530 = .ok (.invokevirtual 13, 3) := by decide +kernel
theorem dL_years_533 : decode cL_years 533 = .ok (.sipush 1000, 3) := by decide +kernel
theorem dL_years_536 : decode cL_years 536 = .ok (.if_icmp .ne 244, 3) := by decide +kernel
theorem dL_years_539 : decode cL_years 539 = .ok (.aload_n 0, 1) := by decide +kernel
theorem dL_years_540 : decode cL_years 540 = .ok (.iconst 4, 1) := by decide +kernel
theorem dL_years_541 : decode cL_years 541 = .ok (.invokevirtual 13, 3) := by decide +kernel
theorem dL_years_544 : decode cL_years 544 = .ok (.ifCond .ne 236, 3) := by decide +kernel
theorem dL_years_547 : decode cL_years 547 = .ok (.aload_n 0, 1) := by decide +kernel
theorem dL_years_548 : decode cL_years 548 = .ok (.iconst 0, 1) := by decide +kernel
theorem dL_years_549 : decode cL_years 549 = .ok (.iconst 1, 1) := by decide +kernel
theorem dL_years_550 : decode cL_years 550 = .ok (.iconst 0, 1) := by decide +kernel
theorem dL_years_551 : decode cL_years 551 = .ok (.iconst 0, 1) := by decide +kernel
theorem dL_years_552 : decode cL_years 552 = .ok (.invokevirtual 26, 3) := by decide +kernel
theorem dL_years_555 : decode cL_years 555 = .ok (.sipush 253, 3) := by decide +kernel
theorem dL_years_558 : decode cL_years 558 = .ok (.if_icmp .ne 222, 3) := by decide +kernel
theorem dL_years_561 : decode cL_years 561 = .ok (.aload_n 0, 1) := by decide +kernel
theorem dL_years_562 : decode cL_years 562 = .ok (.iconst 0, 1) := by decide +kernel
theorem dL_years_563 : decode cL_years 563 = .ok (.iconst 1, 1) := by decide +kernel
theorem dL_years_564 : decode cL_years 564 = .ok (.iconst 1, 1) := by decide +kernel
theorem dL_years_565 : decode cL_years 565 = .ok (.iconst 0, 1) := by decide +kernel
theorem dL_years_566 : decode cL_years 566 = .ok (.invokevirtual 26, 3) := by decide +kernel
theorem dL_years_569 : decode cL_years 569 = .ok (.sipush 494, 3) := by decide +kernel
theorem dL_years_572 : decode cL_years 572 = .ok (.if_icmp .ne 208, 3) := by decide +kernel
theorem dL_years_575 : decode cL_years 575 = .ok (.aload_n 0, 1) := by decide +kernel
theorem dL_years_576 : decode cL_years 576 = .ok (.iconst 0, 1) := by decide +kernel
theorem dL_years_577 : decode cL_years 577 = .ok (.iconst 0, 1) := by decide +kernel
theorem dL_years_578 : decode cL_years 578 = .ok (.iconst 0, 1) := by decide +kernel
theorem dL_years_579 : decode cL_years 579 = .ok (.iconst 0, 1) := by decide +kernel
theorem dL_years_580 : decode cL_years 580 = .ok (.invokevirtual 26, 3) := by decide +kernel
theorem dL_years_583 : decode cL_years 583 = .ok (.sipush 253, 3) := by decide +kernel
theorem dL_years_586 : decode cL_years 586 = .ok (.if_icmp .ne 194, 3) := by decide +kernel
theorem dL_years_589 : decode cL_years 589 = .ok (.aload_n 0, 1) := by decide +kernel
theorem dL_years_590 : decode cL_years 590 = .ok (.iconst 0, 1) := by decide +kernel
theorem dL_years_591 : decode cL_years 591 = .ok (.iconst 0, 1) := by decide +kernel
theorem dL_years_592 : decode cL_years 592 = .ok (.iconst 1, 1) := by decide +kernel
theorem dL_years_593 : decode cL_years 593 = .ok (.iconst 0, 1) := by decide +kernel
theorem dL_years_594 : decode cL_years 594 = .ok (.invokevirtual 26, 3) := by decide +kernel
theorem dL_years_597 : decode cL_years 597 = .ok (.iconst (-1), 1) := by decide +kernel
theorem dL_years_598 : decode cL_years 598 = .ok (.if_icmp .ne 182, 3) := by decide +kernel
theorem dL_years_601 : decode cL_years 601 = .ok (.aload_n 0, 1) := by decide +kernel
theorem dL_years_602 : decode cL_years 602 = .ok (.iconst 0, 1) := by decide +kernel
theorem dL_years_603 : decode cL_years 603 = .ok (.iconst 0, 1) := by decide +kernel
theorem dL_years_604 : decode cL_years 604 = .ok (.iconst 0, 1) := by decide +kernel
theorem dL_years_605 : decode cL_years 605 = .ok (.iconst 1, 1) := by decide +kernel
theorem dL_years_606 : decode cL_years 606 = .ok (.invokevirtual 26, 3) := by decide +kernel
theorem dL_years_609 : decode cL_years 609 = .ok (.ldc 98, 2) := by decide +kernel
theorem dL_years_611 : decode cL_years 611 = .ok (.if_icmp .ne 169, 3) := by decide +kernel
theorem dL_years_614 : decode cL_years 614 = .ok (.aload_n 0, 1) := by decide +kernel
theorem dL_years_615 : decode cL_years 615 = .ok (.iconst 0, 1) := by decide +kernel
theorem dL_years_616 : decode cL_years 616 = .ok (.iconst 2, 1) := by decide +kernel
theorem dL_years_617 : decode cL_years 617 = .ok (.invokevirtual 30, 3) := by decide +kernel
theorem dL_years_620 : decode cL_years 620 = .ok (.bipush 50, 2) := by decide +kernel
theorem dL_years_622 : decode cL_years 622 = .ok (.if_icmp .ne 158, 3) := by decide +kernel
theorem dL_years_625 : decode cL_years 625 = .ok (.aload_n 0, 1) := by decide +kernel
theorem dL_years_626 : decode cL_years 626 = .ok (.iconst 2, 1) := by decide +kernel
theorem dL_years_627 : decode cL_years 627 = .ok (.iconst 2, 1) := by decide +kernel
theorem dL_years_628 : decode cL_years 628 = .ok (.invokevirtual 23, 3) := by decide +kernel
theorem dL_years_631 : decode cL_years 631 = .ok (.bipush 10, 2) := by decide +kernel
theorem dL_years_633 : decode cL_years 633 = .ok (.if_icmp .ne 147, 3) := by decide +kernel
theorem dL_years_636 : decode cL_years 636 = .ok (.aload_n 0, 1) := by decide +kernel
theorem dL_years_637 : decode cL_years 637 = .ok (.iconst 2, 1) := by decide +kernel
theorem dL_years_638 : decode cL_years 638 = .ok (.iconst 3, 1) := by decide +kernel
theorem dL_years_639 : decode cL_years 639 = .ok (.invokevirtual 23, 3) := by decide +kernel
theorem dL_years_642 : decode cL_years 642 = .ok (.bipush 10, 2) := by decide +kernel
theorem dL_years_644 : decode cL_years 644 = .ok (.if_icmp .ne 136, 3) := by decide +kernel
theorem dL_years_647 : decode cL_years 647 = .ok (.aload_n 0, 1) := by decide +kernel
theorem dL_years_648 : decode cL_years 648 = .ok (.iconst 2, 1) := by decide +kernel
theorem dL_years_649 : decode cL_years 649 = .ok (.iconst 4, 1) := by decide +kernel
theorem dL_years_650 : decode cL_years 650 = .ok (.invokevirtual 23, 3) := by decide +kernel
theorem dL_years_653 : decode cL_years 653 = .ok (.iconst 1, 1) := by decide +kernel
theorem dL_years_654 : decode cL_years 654 = .ok (.if_icmp .ne 126, 3) := by decide +kernel
theorem dL_years_657 : decode cL_years 657 = .ok (.aload_n 0, 1) := by decide +kernel
theorem dL_years_658 : decode cL_years 658 = .ok (.iconst 2, 1) := by decide +kernel
theorem dL_years_659 : decode cL_years 659 = .ok (.iconst 5, 1) := by decide +kernel
theorem dL_years_660 : decode cL_years 660 = .ok (.invokevirtual 23, 3) := by decide +kernel
theorem dL_years_663 : decode cL_years 663 = .ok (.ifCond .ne 117, 3) := by decide +kernel
theorem dL_years_666 : decode cL_years 666 = .ok (.aload_n 0, 1) := by decide +kernel
theorem dL_years_667 : decode cL_years 667 = .ok (.iconst 1, 1) := by decide +kernel
theorem dL_years_668 : decode cL_years 668 = .ok (.bipush 6, 2) := by decide +kernel
theorem dL_years_670 : decode cL_years 670 = .ok (.invokevirtual 19, 3) := by decide +kernel
theorem dL_years_673 : decode cL_years 673 = .ok (.bipush (-5), 2) := by decide +kernel
theorem dL_years_675 : decode cL_years 675 = .ok (.if_icmp .ne 105, 3) := by decide +kernel
theorem dL_years_678 : decode cL_years 678 = .ok (.aload_n 0, 1) := by decide +kernel
theorem dL_years_679 : decode cL_years 679 = .ok (.iconst 1, 1) := by decide +kernel
theorem dL_years_680 : decode cL_years 680 = .ok (.bipush 7, 2) := by decide +kernel
theorem dL_years_682 : decode cL_years 682 = .ok (.invokevirtual 19, 3) := by decide +kernel
theorem dL_years_685 : decode cL_years 685 = .ok (.bipush (-5), 2) := by decide +kernel
theorem dL_years_687 : decode cL_years 687 = .ok (.if_icmp .ne 93, 3) := by decide +kernel
theorem dL_years_690 : decode cL_years 690 = .ok (.aload_n 0, 1) := by decide +kernel
theorem dL_years_691 : decode cL_years 691 = .ok (.bipush 12, 2) := by decide +kernel
theorem dL_years_693 : decode cL_years 693 = .ok (.invokevirtual 13, 3) := by decide +kernel
theorem dL_years_696 : decode cL_years 696 = .ok (.ifCond .ne 84, 3) := by decide +kernel
theorem dL_years_699 : decode cL_years 699 = .ok (.aload_n 0, 1) := by decide +kernel
theorem dL_years_700 : decode cL_years 700 = .ok (.iconst 5, 1) := by decide +kernel
theorem dL_years_701 : decode cL_years 701 = .ok (.invokevirtual 33, 3) := by decide +kernel
theorem dL_years_704 : decode cL_years 704 = .ok (.bipush (-4), 2) := by decide +kernel
theorem dL_years_706 : decode cL_years 706 = .ok (.if_icmp .ne 74, 3) := by decide +kernel
theorem dL_years_709 : decode cL_years 709 = .ok (.aload_n 0, 1) := by decide +kernel
theorem dL_years_710 : decode cL_years 710 = .ok (.iconst 0, 1) := by decide +kernel
theorem dL_years_711 : decode cL_years 711 = .ok (.bipush 9, 2) := by decide +kernel
theorem dL_years_713 : decode cL_years 713 = .ok (.invokevirtual 45, 3) := by decide +kernel
theorem dL_years_716 : decode cL_years 716 = .ok (.bipush (-4), 2) := by decide +kernel
theorem dL_years_718 : decode cL_years 718 = .ok (.if_icmp .ne 62, 3) := by decide +kernel
theorem dL_years_721 : decode cL_years 721 = .ok (.aload_n 0, 1) := by decide +kernel
theorem dL_years_722 : decode cL_years 722 = .ok (.iconst 2, 1) := by decide +kernel
theorem dL_years_723 : decode cL_years 723 = .ok (.iconst 1, 1) := by decide +kernel
theorem dL_years_724 : decode cL_years 724 = .ok (.invokevirtual 41, 3) := by decide +kernel
theorem dL_years_727 : decode cL_years 727 = .ok (.ifCond .ne 53, 3) := by decide +kernel
theorem dL_years_730 : decode cL_years 730 = .ok (.aload_n 0, 1) := by decide +kernel
theorem dL_years_731 : decode cL_years 731 = .ok (.iconst 2, 1) := by decide +kernel
theorem dL_years_732 : decode cL_years 732 = .ok (.iconst 5, 1) := by decide +kernel
theorem dL_years_733 : decode cL_years 733 = .ok (.invokevirtual 23, 3) := by decide +kernel
theorem dL_years_736 : decode cL_years 736 = .ok (.bipush 50, 2) := by decide +kernel
theorem dL_years_738 : decode cL_years 738 = .ok (.if_icmp .ne 42, 3) := by decide +kernel
theorem dL_years_741 : decode cL_years 741 = .ok (.aload_n 0, 1) := by decide +kernel
theorem dL_years_742 : decode cL_years 742 = .ok (.iconst 0, 1) := by decide +kernel
theorem dL_years_743 : decode cL_years 743 = .ok (.iconst 1, 1) := by decide +kernel
theorem dL_years_744 : decode cL_years 744 = .ok (.invokevirtual 38, 3) := by decide +kernel
theorem dL_years_747 : decode cL_years 747 = .ok (.iconst 3, 1) := by decide +kernel
theorem dL_years_748 : decode cL_years 748 = .ok (.if_icmp .ne 32, 3) := by decide +kernel
theorem dL_years_751 : decode cL_years 751 = .ok (.aload_n 0, 1) := by decide +kernel
theorem dL_years_752 : decode cL_years 752 = .ok (.iconst 0, 1) := by decide +kernel
theorem dL_years_753 : decode cL_years 753 = .ok (.iconst 3, 1) := by decide +kernel
theorem dL_years_754 : decode cL_years 754 = .ok (.invokevirtual 30, 3) := by decide +kernel
theorem dL_years_757 : decode cL_years 757 = .ok (.iconst (-1), 1) := by decide +kernel
theorem dL_years_758 : decode cL_years 758 = .ok (.if_icmp .ne 22, 3) := by decide +kernel
theorem dL_years_761 : decode cL_years 761 = .ok (.aload_n 0, 1) := by decide +kernel
theorem dL_years_762 : decode cL_years 762 = .ok (.iconst 3, 1) := by decide +kernel
theorem dL_years_763 : decode cL_years 763 = .ok (.iconst 1, 1) := by decide +kernel
theorem dL_years_764 : decode cL_years 764 = .ok (.invokevirtual 48, 3) := by decide +kernel
theorem dL_years_767 : decode cL_years 767 = .ok (.iconst 2, 1) := by decide +kernel
theorem dL_years_768 : decode cL_years 768 = .ok (.if_icmp .ne 12, 3) := by decide +kernel
theorem dL_years_771 : decode cL_years 771 = .ok (.aload_n 0, 1) := by decide +kernel
theorem dL_years_772 : decode cL_years 772 = .ok (.iconst 3, 1) := by decide +kernel
theorem dL_years_773 : decode cL_years 773 = .ok (.iconst 5, 1) := by decide +kernel
theorem dL_years_774 : decode cL_years 774 = .ok (.invokevirtual 23, 3) := by decide +kernel
theorem dL_years_777 : decode cL_years 777 = .ok (.ifCond .eq 5, 3) := by decide +kernel
theorem dL_years_780 : decode cL_years 780 = .ok (.iconst 0, 1) := by decide +kernel
theorem dL_years_781 : decode cL_years 781 = .ok (.ireturn, 1) := by decide +kernel
theorem dL_years_782 : decode cL_years 782 = .ok (.aload_n 0, 1) := by decide +kernel
theorem dL_years_783 : decode cL_years 783 = .ok (.iconst 0, 1) := by decide +kernel
theorem dL_years_784 : decode cL_years 784 = .ok (.iconst 2, 1) := by decide +kernel
theorem dL_years_785 : decode cL_years 785 = .ok (.bipush 10, 2) := by decide +kernel
theorem dL_years_787 : decode cL_years 787 = .ok (.invokevirtual 58, 3) := by decide +kernel
theorem dL_years_790 : decode cL_years 790 = .ok (.iconst 3, 1) := by decide +kernel
theorem dL_years_791 : decode cL_years 791 = .ok (.if_icmp .ne 210, 3) := by decide +kernel
theorem dL_years_794 : decode cL_years 794 = .ok (.aload_n 0, 1) := by decide +kernel
theorem dL_years_795 : decode cL_years 795 = .ok (.iconst 0, 1) := by decide +kernel
theorem dL_years_796 : decode cL_years 796 = .ok (.iconst 0, 1) := by decide +kernel
theorem dL_years_797 : decode cL_years 797 = .ok (.iconst 0, 1) := by decide +kernel
theorem dL_years_798 : decode cL_years 798 = .ok (.iconst 0, 1) := by decide +kernel
theorem dL_years_799 : decode cL_years 799 = .ok (.invokevirtual 26, 3) := by decide +kernel
theorem dL_years_802 : decode cL_years 802 = .ok (.sipush 333, 3) := by decide +kernel
theorem dL_years_805 : decode cL_years 805 = .ok (.if_icmp .ne 196, 3) := by decide +kernel
theorem dL_years_808 : decode cL_years 808 = .ok (.aload_n 0, 1) := by decide +kernel
theorem dL_years_809 : decode cL_years 809 = .ok (.iconst 0, 1) := by decide +kernel
theorem dL_years_810 : decode cL_years 810 = .ok (.iconst 1, 1) := by decide +kernel
theorem dL_years_811 : decode cL_years 811 = .ok (.iconst 0, 1) := by decide +kernel
theorem dL_years_812 : decode cL_years 812 = .ok (.iconst 0, 1) := by decide +kernel
theorem dL_years_813 : decode cL_years 813 = .ok (.invokevirtual 26, 3) := by decide +kernel
theorem dL_years_816 : decode cL_years 816 = .ok (.sipush 233, 3) := by decide +kernel
theorem dL_years_819 : decode cL_years 819 = .ok (.if_icmp .ne 182, 3) := by decide +kernel
theorem dL_years_822 : decode cL_years 822 = .ok (.aload_n 0, 1) := by decide +kernel
theorem dL_years_823 : decode cL_years 823 = .ok (.iconst 0, 1) := by decide +kernel
theorem dL_years_824 : decode cL_years 824 = .ok (.iconst 1, 1) := by decide +kernel
theorem dL_years_825 : decode cL_years 825 = .ok (.iconst 1, 1) := by decide +kernel
theorem dL_years_826 : decode cL_years 826 = .ok (.iconst 0, 1) := by decide +kernel
theorem dL_years_827 : decode cL_years 827 = .ok (.invokevirtual 26, 3) := by decide +kernel
theorem dL_years_830 : decode cL_years 830 = .ok (.sipush 434, 3) := by decide +kernel
theorem dL_years_833 : decode cL_years 833 = .ok (.if_icmp .ne 168, 3) := by decide +kernel
theorem dL_years_836 : decode cL_years 836 = .ok (.aload_n 0, 1) := by decide +kernel
theorem dL_years_837 : decode cL_years 837 = .ok (.iconst 0, 1) := by decide +kernel
theorem dL_years_838 : decode cL_years 838 = .ok (.iconst 0, 1) := by decide +kernel
theorem dL_years_839 : decode cL_years 839 = .ok (.iconst 0, 1) := by decide +kernel
theorem dL_years_840 : decode cL_years 840 = .ok (.iconst 1, 1) := by decide +kernel
theorem dL_years_841 : decode cL_years 841 = .ok (.invokevirtual 26, 3) := by decide +kernel
theorem dL_years_844 : decode cL_years 844 = .ok (.ldc 99, 2) := by decide +kernel
theorem dL_years_846 : decode cL_years 846 = .ok (.if_icmp .ne 155, 3) := by decide +kernel
theorem dL_years_849 : decode cL_years 849 = .ok (.aload_n 0, 1) := by decide +kernel
theorem dL_years_850 : decode cL_years 850 = .ok (.iconst 0, 1) := by decide +kernel
theorem dL_years_851 : decode cL_years 851 = .ok (.iconst 1, 1) := by decide +kernel
theorem dL_years_852 : decode cL_years 852 = .ok (.iconst 0, 1) := by decide +kernel
theorem dL_years_853 : decode cL_years 853 = .ok (.iconst 1, 1) := by decide +kernel
theorem dL_years_854 : decode cL_years 854 = .ok (.invokevirtual 26, 3) := by decide +kernel
theorem dL_years_857 : decode cL_years 857 = .ok (.ldc 100, 2) := by decide +kernel
theorem dL_years_859 : decode cL_years 859 = .ok (.if_icmp .ne 142, 3) := by decide +kernel
theorem dL_years_862 : decode cL_years 862 = .ok (.aload_n 0, 1) := by decide +kernel
theorem dL_years_863 : decode cL_years 863 = .ok (.iconst 0, 1) := by decide +kernel
theorem dL_years_864 : decode cL_years 864 = .ok (.iconst 1, 1) := by decide +kernel
theorem dL_years_865 : decode cL_years 865 = .ok (.iconst 1, 1) := by decide +kernel
theorem dL_years_866 : decode cL_years 866 = .ok (.iconst 1, 1) := by decide +kernel
theorem dL_years_867 : decode cL_years 867 = .ok (.invokevirtual 26, 3) := by decide +kernel
theorem dL_years_870 : decode cL_years 870 = .ok (.ldc 101, 2) := by decide +kernel
theorem dL_years_872 : decode cL_years 872 = .ok (.if_icmp .ne 129, 3) := by decide +kernel
theorem dL_years_875 : decode cL_years 875 = .ok (.aload_n 0, 1) := by decide +kernel
theorem dL_years_876 : decode cL_years 876 = .ok (.iconst 2, 1) := by decide +kernel
theorem dL_years_877 : decode cL_years 877 = .ok (.iconst 5, 1) := by decide +kernel
theorem dL_years_878 : decode cL_years 878 = .ok (.invokevirtual 23, 3) := by decide +kernel
theorem dL_years_881 : decode cL_years 881 = .ok (.bipush 10, 2) := by decide +kernel
theorem dL_years_883 : decode cL_years 883 = .ok (.if_icmp .ne 118, 3) := by decide +kernel
theorem dL_years_886 : decode cL_years 886 = .ok (.aload_n 0, 1) := by decide +kernel
theorem dL_years_887 : decode cL_years 887 = .ok (.bipush 10, 2) := by decide +kernel
theorem dL_years_889 : decode cL_years 889 = .ok (.invokevirtual 13, 3) := by decide +kernel
theorem dL_years_892 : decode cL_years 892 = .ok (.sipush 1000, 3) := by decide +kernel
theorem dL_years_895 : decode cL_years 895 = .ok (.if_icmp .ne 106, 3) := by decide +kernel
theorem dL_years_898 : decode cL_years 898 = .ok (.aload_n 0, 1) := by decide +kernel
theorem dL_years_899 : decode cL_years 899 = .ok (.bipush 11, 2) := by decide +kernel
theorem dL_years_901 : decode cL_years 901 = .ok (.invokevirtual 13, 3) := by decide +kernel
theorem dL_years_904 : decode cL_years 904 = .ok (.iconst 1, 1) := by decide +kernel
theorem dL_years_905 : decode cL_years 905 = .ok (.if_icmp .ne 96, 3) := by decide +kernel
theorem dL_years_908 : decode cL_years 908 = .ok (.aload_n 0, 1) := by decide +kernel
theorem dL_years_909 : decode cL_years 909 = .ok (.iconst 0, 1) := by decide +kernel
theorem dL_years_910 : decode cL_years 910 = .ok (.sipush 300, 3) := by decide +kernel
theorem dL_years_913 : decode cL_years 913 = .ok (.invokevirtual 41, 3) := by decide +kernel
theorem dL_years_916 : decode cL_years 916 = .ok (.ifCond .ne 85, 3) := by decide +kernel
theorem dL_years_919 : decode cL_years 919 = .ok (.aload_n 0, 1) := by decide +kernel
theorem dL_years_920 : decode cL_years 920 = .ok (.iconst 0, 1) := by decide +kernel
theorem dL_years_921 : decode cL_years 921 = .ok (.iconst 5, 1) := by decide +kernel
theorem dL_years_922 : decode cL_years 922 = .ok (.invokevirtual 19, 3) := by decide +kernel
theorem dL_years_925 : decode cL_years 925 = .ok (.bipush 40, 2) := by decide +kernel
theorem dL_years_927 : decode cL_years 927 = .ok (.if_icmp .ne 74, 3) := by decide +kernel
theorem dL_years_930 : decode cL_years 930 = .ok (.aload_n 0, 1) := by decide +kernel
theorem dL_years_931 : decode cL_years 931 = .ok (.iconst 1, 1) := by decide +kernel
theorem dL_years_932 : decode cL_years 932 = .ok (.iconst 5, 1) := by decide +kernel
theorem dL_years_933 : decode cL_years 933 = .ok (.invokevirtual 19, 3) := by decide +kernel
theorem dL_years_936 : decode cL_years 936 = .ok (.sipush 260, 3) := by decide +kernel
theorem dL_years_939 : decode cL_years 939 = .ok (.if_icmp .ne 62, 3) := by decide +kernel
theorem dL_years_942 : decode cL_years 942 = .ok (.aload_n 0, 1) := by decide +kernel
theorem dL_years_943 : decode cL_years 943 = .ok (.iconst 0, 1) := by decide +kernel
theorem dL_years_944 : decode cL_years 944 = .ok (.bipush 100, 2) := by decide +kernel
theorem dL_years_946 : decode cL_years 946 = .ok (.invokevirtual 68, 3) := by decide +kernel
theorem dL_years_949 : decode cL_years 949 = .ok (.bipush 100, 2) := by decide +kernel
theorem dL_years_951 : decode cL_years 951 = .ok (.if_icmp .ne 50, 3) := by decide +kernel
theorem dL_years_954 : decode cL_years 954 = .ok (.aload_n 0, 1) := by decide +kernel
theorem dL_years_955 : decode cL_years 955 = .ok (.iconst 0, 1) := by decide +kernel
theorem dL_years_956 : decode cL_years 956 = .ok (.iconst 0, 1) := by decide +kernel
theorem dL_years_957 : decode cL_years 957 = .ok (.invokevirtual 68, 3) := by decide +kernel
theorem dL_years_960 : decode cL_years 960 = .ok (.ifCond .ne 41, 3) := by decide +kernel
theorem dL_years_963 : decode cL_years 963 = .ok (.aload_n 0, 1) := by decide +kernel
theorem dL_years_964 : decode cL_years 964 = .ok (.iconst 0, 1) := by decide +kernel
theorem dL_years_965 : decode cL_years 965 = .ok (.invokevirtual 71, 3) := by decide +kernel
theorem dL_years_968 : decode cL_years 968 = .ok (.ifCond .ne 33, 3) := by decide +kernel
theorem dL_years_971 : decode cL_years 971 = .ok (.aload_n 0, 1) := by decide +kernel
theorem dL_years_972 : decode cL_years 972 = .ok (.iconst 1, 1) := by decide +kernel
theorem dL_years_973 : decode cL_years 973 = .ok (.invokevirtual 71, 3) := by decide +kernel
theorem dL_years_976 : decode cL_years 976 = .ok (.bipush 100, 2) := by decide +kernel
theorem dL_years_978 : decode cL_years 978 = .ok (.if_icmp .ne 23, 3) := by decide +kernel
theorem dL_years_981 : decode cL_years 981 = .ok (.aload_n 0, 1) := by decide +kernel
theorem dL_years_982 : decode cL_years 982 = .ok (.iconst 1, 1) := by decide +kernel
theorem dL_years_983 : decode cL_years 983 = .ok (.bipush 100, 2) := by decide +kernel
theorem dL_years_985 : decode cL_years 985 = .ok (.invokevirtual 68, 3) := by decide +kernel
theorem dL_years_988 : decode cL_years 988 = .ok (.sipush 200, 3) := by decide +kernel
theorem dL_years_991 : decode cL_years 991 = .ok (.if_icmp .ne 10, 3) := by decide +kernel
theorem dL_years_994 : decode cL_years 994 = .ok (.aload_n 0, 1) := by decide +kernel
theorem dL_years_995 : decode cL_years 995 = .ok (.invokestatic 94, 3) := by decide +kernel
theorem dL_years_998 : decode cL_years 998 = .ok (.ifCond .ne 5, 3) := by decide +kernel
theorem dL_years_1001 : decode cL_years 1001 = .ok (.iconst 0, 1) := by decide +kernel
theorem dL_years_1002 : decode cL_years 1002 = .ok (.ireturn, 1) := by decide +kernel
theorem dL_years_1003 : decode cL_years 1003 = .ok (.new 14, 3) := by decide +kernel
theorem dL_years_1006 : decode cL_years 1006 = .ok (.dup, 1) := by decide +kernel
theorem dL_years_1007 : decode cL_years 1007 = .ok (.invokespecial 83, 3) := by decide +kernel
theorem dL_years_1010 : decode cL_years 1010 = .ok (.astore_n 1, 1) := by decide +kernel
theorem dL_years_1011 : decode cL_years 1011 = .ok (.iconst 0, 1) := by decide +kernel
theorem dL_years_1012 : decode cL_years 1012 = .ok (.istore_n 2, 1) := by decide +kernel
theorem dL_years_1013 : decode cL_years 1013 = .ok (.iload_n 2, 1) := by decide +kernel
theorem dL_years_1014 : decode cL_years 1014 = .ok (.bipush 8, 2) := by decide +kernel
theorem dL_years_1016 : decode cL_years 1016 = .ok (.if_icmp .ge 22, 3) := by decide +kernel
theorem dL_years_1019 : decode cL_years 1019 = .ok (.aload_n 1, 1) := by decide +kernel
theorem dL_years_1020 : decode cL_years 1020 = .ok (.iload_n 2, 1) := by decide +kernel
theorem dL_years_1021 : decode cL_years 1021 = .ok (.iconst 1, 1) := by decide +kernel
theorem dL_years_1022 : decode cL_years 1022 = .ok (.iadd, 1) := by decide +kernel
theorem dL_years_1023 : decode cL_years 1023 = .ok (.invokevirtual 33, 3) := by decide +kernel
theorem dL_years_1026 : decode cL_years 1026 = .ok (.iload_n 2, 1) := by decide +kernel
theorem dL_years_1027 : decode cL_years 1027 = .ok (.if_icmp .eq 5, 3) := by decide +kernel
theorem dL_years_1030 : decode cL_years 1030 = .ok (.iconst 0, 1) := by decide +kernel
theorem dL_years_1031 : decode cL_years 1031 = .ok (.ireturn, 1) := by decide +kernel
theorem dL_years_1032 : decode cL_years 1032 = .ok (.iinc 2 1, 3) := by decide +kernel
theorem dL_years_1035 : decode cL_years 1035 = .ok (.goto (-22), 3) := by decide +kernel
theorem dL_years_1038 : decode cL_years 1038 = .ok (.iconst 0, 1) := by decide +kernel
theorem dL_years_1039 : decode cL_years 1039 = .ok (.istore_n 2, 1) := by decide +kernel
theorem dL_years_1040 : decode cL_years 1040 = .ok (.iload_n 2, 1) := by decide +kernel
theorem dL_years_1041 : decode cL_years 1041 = .ok (.bipush 20, 2) := by decide +kernel
theorem dL_years_1043 : decode cL_years 1043 = .ok (.if_icmp .ge 26, 3) := by decide +kernel
theorem dL_years_1046 : decode cL_years 1046 = .ok (.aload_n 1, 1) := by decide +kernel
theorem dL_years_1047 : decode cL_years 1047 = .ok (.iload_n 2, 1) := by decide +kernel
theorem dL_years_1048 : decode cL_years 1048 = .ok (.bipush 8, 2) := by decide +kernel
theorem dL_years_1050 : decode cL_years 1050 = .ok (.irem, 1) := by decide +kernel
theorem dL_years_1051 : decode cL_years 1051 = .ok (.iload_n 2, 1) := by decide +kernel
theorem dL_years_1052 : decode cL_years 1052 = .ok (.iconst 1, 1) := by decide +kernel
theorem dL_years_1053 : decode cL_years 1053 = .ok (.iadd, 1) := by decide +kernel
theorem dL_years_1054 : decode cL_years 1054 = .ok (.invokevirtual 38, 3) := by decide +kernel
theorem dL_years_1057 : decode cL_years 1057 = .ok (.iload_n 2, 1) := by decide +kernel
theorem dL_years_1058 : decode cL_years 1058 = .ok (.if_icmp .eq 5, 3) := by decide +kernel
theorem dL_years_1061 : decode cL_years 1061 = .ok (.iconst 0, 1) := by decide +kernel
theorem dL_years_1062 : decode cL_years 1062 = .ok (.ireturn, 1) := by decide +kernel
theorem dL_years_1063 : decode cL_years 1063 = .ok (.iinc 2 1, 3) := by decide +kernel
theorem dL_years_1066 : decode cL_years 1066 = .ok (.goto (-26), 3) := by decide +kernel
theorem dL_years_1069 : decode cL_years 1069 = .ok (.aload_n 1, 1) := by decide +kernel
theorem dL_years_1070 : decode cL_years 1070 = .ok (.iconst 5, 1) := by decide +kernel
theorem dL_years_1071 : decode cL_years 1071 = .ok (.invokevirtual 33, 3) := by decide +kernel
theorem dL_years_1074 : decode cL_years 1074 = .ok (.bipush (-3), 2) := by decide +kernel
theorem dL_years_1076 : decode cL_years 1076 = .ok (.if_icmp .ne 37, 3) := by decide +kernel
theorem dL_years_1079 : decode cL_years 1079 = .ok (.aload_n 1, 1) := by decide +kernel
theorem dL_years_1080 : decode cL_years 1080 = .ok (.iconst 0, 1) := by decide +kernel
theorem dL_years_1081 : decode cL_years 1081 = .ok (.iconst 5, 1) := by decide +kernel
theorem dL_years_1082 : decode cL_years 1082 = .ok (.invokevirtual 38, 3) := by decide +kernel
theorem dL_years_1085 : decode cL_years 1085 = .ok (.bipush (-3), 2) := by decide +kernel
theorem dL_years_1087 : decode cL_years 1087 = .ok (.if_icmp .ne 26, 3) := by decide +kernel
theorem dL_years_1090 : decode cL_years 1090 = .ok (.aload_n 1, 1) := by decide +kernel
theorem dL_years_1091 : decode cL_years 1091 = .ok (.iconst 0, 1) := by decide +kernel
theorem dL_years_1092 : decode cL_years 1092 = .ok (.bipush 21, 2) := by decide +kernel
theorem dL_years_1094 : decode cL_years 1094 = .ok (.invokevirtual 38, 3) := by decide +kernel
theorem dL_years_1097 : decode cL_years 1097 = .ok (.bipush (-2), 2) := by decide +kernel
theorem dL_years_1099 : decode cL_years 1099 = .ok (.if_icmp .ne 14, 3) := by decide +kernel
theorem dL_years_1102 : decode cL_years 1102 = .ok (.aload_n 1, 1) := by decide +kernel
theorem dL_years_1103 : decode cL_years 1103 = .ok (.bipush 19, 2) := by decide +kernel
theorem dL_years_1105 : decode cL_years 1105 = .ok (.iconst 1, 1) := by decide +kernel
theorem dL_years_1106 : decode cL_years 1106 = .ok (.invokevirtual 48, 3) := by decide +kernel
theorem dL_years_1109 : decode cL_years 1109 = .ok (.iconst 1, 1) := by decide +kernel
theorem dL_years_1110 : decode cL_years 1110 = .ok (.if_icmp .eq 5, 3) := by decide +kernel
theorem dL_years_1113 : decode cL_years 1113 = .ok (.iconst 0, 1) := by decide +kernel
theorem dL_years_1114 : decode cL_years 1114 = .ok (.ireturn, 1) := by decide +kernel
theorem dL_years_1115 : decode cL_years 1115 = .ok (.iconst 0, 1) := by decide +kernel
theorem dL_years_1116 : decode cL_years 1116 = .ok (.istore_n 2, 1) := by decide +kernel
theorem dL_years_1117 : decode cL_years 1117 = .ok (.iload_n 2, 1) := by decide +kernel
theorem dL_years_1118 : decode cL_years 1118 = .ok (.iconst 4, 1) := by decide +kernel
theorem dL_years_1119 : decode cL_years 1119 = .ok (.if_icmp .ge 19, 3) := by decide +kernel
theorem dL_years_1122 : decode cL_years 1122 = .ok (.aload_n 1, 1) := by decide +kernel
theorem dL_years_1123 : decode cL_years 1123 = .ok (.invokevirtual 91, 3) := by decide +kernel
theorem dL_years_1126 : decode cL_years 1126 = .ok (.iload_n 2, 1) := by decide +kernel
theorem dL_years_1127 : decode cL_years 1127 = .ok (.if_icmp .eq 5, 3) := by decide +kernel
theorem dL_years_1130 : decode cL_years 1130 = .ok (.iconst 0, 1) := by decide +kernel
theorem dL_years_1131 : decode cL_years 1131 = .ok (.ireturn, 1) := by decide +kernel
theorem dL_years_1132 : decode cL_years 1132 = .ok (.iinc 2 1, 3) := by decide +kernel
theorem dL_years_1135 : decode cL_years 1135 = .ok (.goto (-18), 3) := by decide +kernel
theorem dL_years_1138 : decode cL_years 1138 = .ok (.aload_n 1, 1) := by decide +kernel
theorem dL_years_1139 : decode cL_years 1139 = .ok (.invokevirtual 91, 3) := by decide +kernel
theorem dL_years_1142 : decode cL_years 1142 = .ok (.bipush (-3), 2) := by decide +kernel
theorem dL_years_1144 : decode cL_years 1144 = .ok (.if_icmp .ne 52, 3) := by decide +kernel
theorem dL_years_1147 : decode cL_years 1147 = .ok (.aload_n 1, 1) := by decide +kernel
theorem dL_years_1148 : decode cL_years 1148 = .ok (.iconst 5, 1) := by decide +kernel
theorem dL_years_1149 : decode cL_years 1149 = .ok (.invokevirtual 33, 3) := by decide +kernel
theorem dL_years_1152 : decode cL_years 1152 = .ok (.bipush (-3), 2) := by decide +kernel
theorem dL_years_1154 : decode cL_years 1154 = .ok (.if_icmp .ne 42, 3) := by decide +kernel
theorem dL_years_1157 : decode cL_years 1157 = .ok (.aload_n 1, 1) := by decide +kernel
theorem dL_years_1158 : decode cL_years 1158 = .ok (.iconst 0, 1) := by decide +kernel
theorem dL_years_1159 : decode cL_years 1159 = .ok (.invokevirtual 33, 3) := by decide +kernel
theorem dL_years_1162 : decode cL_years 1162 = .ok (.bipush (-2), 2) := by decide +kernel
theorem dL_years_1164 : decode cL_years 1164 = .ok (.if_icmp .ne 32, 3) := by decide +kernel
theorem dL_years_1167 : decode cL_years 1167 = .ok (.aload_n 1, 1) := by decide +kernel
theorem dL_years_1168 : decode cL_years 1168 = .ok (.bipush 10, 2) := by decide +kernel
theorem dL_years_1170 : decode cL_years 1170 = .ok (.invokevirtual 13, 3) := by decide +kernel
theorem dL_years_1173 : decode cL_years 1173 = .ok (.ifCond .ne 23, 3) := by decide +kernel
theorem dL_years_1176 : decode cL_years 1176 = .ok (.aload_n 1, 1) := by decide +kernel
theorem dL_years_1177 : decode cL_years 1177 = .ok (.bipush 7, 2) := by decide +kernel
theorem dL_years_1179 : decode cL_years 1179 = .ok (.invokevirtual 71, 3) := by decide +kernel
theorem dL_years_1182 : decode cL_years 1182 = .ok (.ifCond .ne 14, 3) := by decide +kernel
theorem dL_years_1185 : decode cL_years 1185 = .ok (.aload_n 1, 1) := by decide +kernel
theorem dL_years_1186 : decode cL_years 1186 = .ok (.invokestatic 94, 3) := by decide +kernel
theorem dL_years_1189 : decode cL_years 1189 = .ok (.ifCond .eq 7, 3) := by decide +kernel
theorem dL_years_1192 : decode cL_years 1192 = .ok (.iconst 1, 1) := by decide +kernel
theorem dL_years_1193 : decode cL_years 1193 = .ok (.goto 4, 3) := by decide +kernel
theorem dL_years_1196 : decode cL_years 1196 = .ok (.iconst 0, 1) := by decide +kernel
theorem dL_years_1197 : decode cL_years 1197 = .ok (.ireturn, 1) := by decide +kernel
set_option maxRecDepth 20000 in
theorem ggL_types_X5_type : GoodIn wsL_types wsX5_type := goodIn_r _ [6, 7, 8, 9, 10, 11, 12, 13, 14, 15, 16, 17, 18, 19, 20, 21, 22, 23, 24, 25, 26, 27, 28] (by decide +kernel) (by decide +kernel)
set_option maxRecDepth 20000 in
theorem gL_types_X5_type : GoodIn wsL_types (wsV RL 104 RX5 yX5_type wsX5_type) := goodIn_app (goodIn_of _ (by decide +kernel)) ggL_types_X5_type
theorem dL_types_0 : decode cL_types 0 = .ok (.iconst 1, 1) := by decide +kernel
theorem dL_types_1 : decode cL_types 1 = .ok (.istore_n 3, 1) := by decide +kernel
theorem dL_types_2 : decode cL_types 2 = .ok (.bipush 56, 2) := by decide +kernel
theorem dL_types_4 : decode cL_types 4 = .ok (.istore 4, 2) := by decide +kernel
theorem dL_types_6 : decode cL_types 6 = .ok (.iload 4, 2) := by decide +kernel
theorem dL_types_8 : decode cL_types 8 = .ok (.ifCond .lt 45, 3) := by decide +kernel
theorem dL_types_11 : decode cL_types 11 = .ok (.lload_n 1, 1) := by decide +kernel
theorem dL_types_12 : decode cL_types 12 = .ok (.iload 4, 2) := by decide +kernel
theorem dL_types_14 : decode cL_types 14 = .ok (.lshr, 1) := by decide +kernel
theorem dL_types_15 : decode cL_types 15 = .ok (.ldc2_w 102, 3) := by decide +kernel
theorem dL_types_18 : decode cL_types 18 = .ok (.land, 1) := by decide +kernel
theorem dL_types_19 : decode cL_types 19 = .ok (.l2i, 1) := by decide +kernel
theorem dL_types_20 : decode cL_types 20 = .ok (.istore 5, 2) := by decide +kernel
theorem dL_types_22 : decode cL_types 22 = .ok (.iload_n 3, 1) := by decide +kernel
theorem dL_types_23 : decode cL_types 23 = .ok (.ifCond .eq 22, 3) := by decide +kernel
theorem dL_types_26 : decode cL_types 26 = .ok (.iload 5, 2) := by decide +kernel
theorem dL_types_28 : decode cL_types 28 = .ok (.ifCond .eq 13, 3) := by decide +kernel
theorem dL_types_31 : decode cL_types 31 = .ok (.aload_n 0, 1) := by decide +kernel
theorem dL_types_32 : decode cL_types 32 = .ok (.iload 5, 2) := by decide +kernel
theorem dL_types_34 : decode cL_types 34 = .ok (.i2c, 1) := by decide +kernel
theorem dL_types_35 : decode cL_types 35 = .ok (.invokevirtual 104, 3) := by decide +kernel
theorem dL_types_38 : decode cL_types 38 = .ok (.ifCond .le 7, 3) := by decide +kernel
theorem dL_types_41 : decode cL_types 41 = .ok (.iconst 1, 1) := by decide +kernel
theorem dL_types_42 : decode cL_types 42 = .ok (.goto 4, 3) := by decide +kernel
theorem dL_types_45 : decode cL_types 45 = .ok (.iconst 0, 1) := by decide +kernel
theorem dL_types_46 : decode cL_types 46 = .ok (.istore_n 3, 1) := by decide +kernel
theorem dL_types_47 : decode cL_types 47 = .ok (.iinc 4 (-8), 3) := by decide +kernel
theorem dL_types_50 : decode cL_types 50 = .ok (.goto (-44), 3) := by decide +kernel
theorem dL_types_53 : decode cL_types 53 = .ok (.iload_n 3, 1) := by decide +kernel
theorem dL_types_54 : decode cL_types 54 = .ok (.ireturn, 1) := by decide +kernel
set_option maxRecDepth 20000 in
theorem ggL_faultOf_X5_init : GoodIn wsL_faultOf wsX5_init := goodIn_r _ [6, 7, 8, 9, 10, 11, 12, 13, 14, 15, 16, 17, 18, 19, 20, 21, 22, 23, 24, 25, 26, 27, 28, 29, 30, 31, 32, 33, 34, 35, 36, 37, 38, 39, 40, 41, 42, 43, 44, 45, 46, 47, 48, 49, 50, 51, 52, 53, 54, 55, 56, 57, 58, 59, 60, 61, 62, 63, 64, 65, 66, 67, 68, 69, 70, 71, 72, 73, 74, 75, 76, 77, 78, 79, 80, 81, 82, 83, 84, 85, 86, 87, 88, 89, 90, 91, 92, 93, 94, 95, 187, 188, 189, 190, 191, 192, 193, 194, 195, 196, 197, 198, 181, 182, 183, 184, 185, 186, 199, 200, 201, 202, 203, 204, 205, 206, 207, 208, 209, 210, 211, 212, 213, 214, 215, 216, 217, 218, 219, 220, 221] (by decide +kernel) (by decide +kernel)
set_option maxRecDepth 20000 in
theorem gL_faultOf_X5_init : GoodIn wsL_faultOf (wsX5_init) := ggL_faultOf_X5_init
set_option maxRecDepth 20000 in
theorem ggL_faultOf_L_types : GoodIn wsL_faultOf wsL_types := goodIn_r _ [99, 100, 101, 102, 103, 3, 104, 23, 105, 106, 107, 108, 22, 109, 80, 79, 181, 182, 183, 184, 185, 186, 202, 203, 204, 205, 206, 207, 208] (by decide +kernel) (by decide +kernel)
set_option maxRecDepth 20000 in
theorem gL_faultOf_L_types : GoodIn wsL_faultOf (va_wsS RL 108 yL_types wsL_types) := goodIn_app (goodIn_of _ (by decide +kernel)) ggL_faultOf_L_types
set_option maxRecDepth 20000 in
theorem ggL_faultOf_X5_readAll : GoodIn wsL_faultOf wsX5_readAll := goodIn_r _ [113, 23, 114, 13, 19, 115, 116, 117, 118, 22, 119, 81, 83, 80, 120, 121, 122, 123, 84, 82, 85, 124, 125, 126, 127, 128, 129, 130, 131, 79, 132, 133, 134, 135, 136, 137, 138, 139, 140, 141, 142, 143, 144, 145, 146, 147, 148, 149, 150, 151, 45, 152, 55, 153, 154, 155, 156, 157, 158, 159, 160, 18, 161, 70, 71, 72, 162, 163, 164, 12, 165, 32, 34, 166, 167, 168, 169, 35, 36, 37, 38, 40, 41, 42, 46, 47, 48, 170, 171, 172, 173, 53, 54, 56, 174, 57, 58, 59, 60, 175, 176, 177, 178, 179, 180, 181, 182, 183, 184, 185, 186, 202, 203, 204, 205, 206, 207, 208, 187, 188, 189, 190, 191, 192, 193, 194, 195, 196, 197, 198, 214, 215, 216, 217, 218, 219, 220, 221, 199, 200, 201] (by decide +kernel) (by decide +kernel)
set_option maxRecDepth 20000 in
theorem gL_faultOf_X5_readAll : GoodIn wsL_faultOf (wsV RL 112 RX5 yX5_readAll wsX5_readAll) := goodIn_app (goodIn_of _ (by decide +kernel)) ggL_faultOf_X5_readAll
theorem dL_faultOf_0 : decode cL_faultOf 0 = .ok (.new 14, 3) := by decide +kernel
theorem dL_faultOf_3 : decode cL_faultOf 3 = .ok (.dup, 1) := by decide +kernel
theorem dL_faultOf_4 : decode cL_faultOf 4 = .ok (.invokespecial 83, 3) := by decide +kernel
theorem dL_faultOf_7 : decode cL_faultOf 7 = .ok (.astore 4, 2) := by decide +kernel
theorem dL_faultOf_9 : decode cL_faultOf 9 = .ok (.aload 4, 2) := by decide +kernel
theorem dL_faultOf_11 : decode cL_faultOf 11 = .ok (.lload_n 0, 1) := by decide +kernel
theorem dL_faultOf_12 : decode cL_faultOf 12 = .ok (.invokestatic 108, 3) := by decide +kernel
theorem dL_faultOf_15 : decode cL_faultOf 15 = .ok (.ifCond .eq 12, 3) := by decide +kernel
theorem dL_faultOf_18 : decode cL_faultOf 18 = .ok (.aload 4, 2) := by decide +kernel
theorem dL_faultOf_20 : decode cL_faultOf 20 = .ok (.lload_n 2, 1) := by decide +kernel
theorem dL_faultOf_21 : decode cL_faultOf 21 = .ok (.invokestatic 108, 3) := by decide +kernel
theorem dL_faultOf_24 : decode cL_faultOf 24 = .ok (.ifCond .ne 6, 3) := by decide +kernel
theorem dL_faultOf_27 : decode cL_faultOf 27 = .ok (.bipush (-99), 2) := by decide +kernel
theorem dL_faultOf_29 : decode cL_faultOf 29 = .ok (.ireturn, 1) := by decide +kernel
theorem dL_faultOf_30 : decode cL_faultOf 30 = .ok (.aload 4, 2) := by decide +kernel
theorem dL_faultOf_32 : decode cL_faultOf 32 = .ok (.invokevirtual 112, 3) := by decide +kernel
theorem dL_faultOf_35 : decode cL_faultOf 35 = .ok (.istore 5, 2) := by decide +kernel
theorem dL_faultOf_37 : decode cL_faultOf 37 = .ok (.iload 5, 2) := by decide +kernel
theorem dL_faultOf_39 : decode cL_faultOf 39 = .ok (.iconst (-1), 1) := by decide +kernel
theorem dL_faultOf_40 : decode cL_faultOf 40 = .ok (.if_icmp .ne 7, 3) := by decide +kernel
theorem dL_faultOf_43 : decode cL_faultOf 43 = .ok (.iconst (-1), 1) := by decide +kernel
theorem dL_faultOf_44 : decode cL_faultOf 44 = .ok (.goto 8, 3) := by decide +kernel
theorem dL_faultOf_47 : decode cL_faultOf 47 = .ok (.bipush (-100), 2) := by decide +kernel
theorem dL_faultOf_49 : decode cL_faultOf 49 = .ok (.iload 5, 2) := by decide +kernel
theorem dL_faultOf_51 : decode cL_faultOf 51 = .ok (.isub, 1) := by decide +kernel
theorem dL_faultOf_52 : decode cL_faultOf 52 = .ok (.ireturn, 1) := by decide +kernel
set_option maxRecDepth 20000 in
theorem ggL_texts_L_faultOf : GoodIn wsL_texts wsL_faultOf := goodIn_r _ [27, 17, 18, 19, 28, 29, 30, 31, 32, 33, 34, 35, 36, 37, 38, 39, 40, 41, 42, 43, 44, 45, 46, 47, 48, 49, 50, 51, 52, 53, 54, 55, 56, 57, 58, 59, 60, 61, 62, 63, 64, 65, 66, 67, 68, 69, 70, 71, 72, 73, 74, 75, 76, 77, 78, 79, 80, 81, 82, 83, 84, 85, 86, 87, 88, 89, 90, 91, 92, 93, 94, 95, 96, 97, 98, 99, 100, 101, 102, 103, 104, 105, 106, 107, 108, 109, 110, 111, 112, 113, 114, 115, 116, 117, 118, 119, 120, 121, 26, 122, 123, 124, 125, 126, 127, 128, 129, 130, 131, 132, 133, 134, 135, 136, 137, 138, 139, 140, 141, 142, 143, 144, 145, 146, 147, 148, 149, 150, 151, 152, 153, 154, 155, 156, 157, 158, 159, 160, 161, 162, 163, 164, 165, 166, 167, 168, 169, 170, 171, 172, 173, 174, 175, 176, 177, 178, 179, 180, 181, 182, 183, 184, 185, 186, 187, 188, 189, 190, 191, 192, 193, 194, 195, 196, 197, 198, 199, 200, 201, 202, 203, 364, 365, 366, 367, 368, 369, 370, 371, 372, 373, 374, 375, 376, 377, 378, 379, 380, 381, 382, 383, 384, 385, 386, 387, 388, 389, 390, 391, 392, 393, 394, 395, 396, 397, 398, 399, 400, 401, 402, 403, 404] (by decide +kernel) (by decide +kernel)
set_option maxRecDepth 20000 in
theorem gL_texts_L_faultOf : GoodIn wsL_texts (va_wsS RL 115 yL_faultOf wsL_faultOf) := goodIn_app (goodIn_of _ (by decide +kernel)) ggL_texts_L_faultOf
set_option maxRecDepth 20000 in
theorem ggL_texts_X5_init : GoodIn wsL_texts wsX5_init := goodIn_r _ [30, 31, 32, 33, 34, 35, 36, 37, 38, 39, 40, 41, 42, 43, 44, 45, 46, 47, 48, 49, 50, 51, 52, 53, 54, 55, 56, 57, 58, 59, 60, 61, 62, 63, 64, 65, 66, 67, 68, 69, 70, 71, 72, 73, 74, 75, 76, 77, 78, 79, 80, 81, 82, 83, 84, 85, 86, 87, 88, 89, 90, 91, 92, 93, 94, 95, 96, 97, 98, 99, 100, 101, 102, 103, 104, 105, 106, 107, 108, 109, 110, 111, 112, 113, 114, 115, 116, 117, 118, 119, 370, 371, 372, 373, 374, 375, 376, 377, 378, 379, 380, 381, 364, 365, 366, 367, 368, 369, 382, 383, 384, 385, 386, 387, 388, 389, 390, 391, 392, 393, 394, 395, 396, 397, 398, 399, 400, 401, 402, 403, 404] (by decide +kernel) (by decide +kernel)
set_option maxRecDepth 20000 in
theorem gL_texts_X5_init : GoodIn wsL_texts (wsX5_init) := ggL_texts_X5_init
set_option maxRecDepth 20000 in
theorem ggL_texts_X5_addFlat : GoodIn wsL_texts wsX5_addFlat := goodIn_r _ [207, 37, 208, 209, 43, 210, 181, 182, 183, 42, 184, 94, 95, 96, 185, 186, 187, 36, 188, 56, 58, 189, 190, 191, 192, 59, 60, 61, 62, 64, 65, 66, 70, 71, 72, 193, 194, 195, 69, 196, 77, 78, 79, 80, 197, 81, 82, 83, 84, 364, 365, 366, 367, 368, 369, 370, 371, 372, 373, 374, 375, 376, 377, 378, 379, 380, 381, 382, 383, 384, 397, 398, 399, 400, 401, 402, 403, 404] (by decide +kernel) (by decide +kernel)
set_option maxRecDepth 20000 in
theorem gL_texts_X5_addFlat : GoodIn wsL_texts (wsV RL 33 RX5 yX5_addFlat wsX5_addFlat) := goodIn_app (goodIn_of _ (by decide +kernel)) ggL_texts_X5_addFlat
set_option maxRecDepth 20000 in
theorem ggL_texts_X5_addDevice : GoodIn wsL_texts wsX5_addDevice := goodIn_r _ [214, 37, 215, 216, 43, 217, 218, 219, 220, 221, 36, 222, 56, 181, 182, 183, 42, 184, 94, 95, 96, 185, 186, 187, 188, 58, 189, 190, 191, 192, 59, 60, 61, 62, 64, 65, 66, 70, 71, 72, 193, 194, 195, 69, 196, 77, 78, 79, 80, 197, 81, 82, 83, 84, 364, 365, 366, 367, 368, 369, 370, 371, 372, 373, 374, 375, 376, 377, 378, 379, 380, 381, 397, 398, 399, 400, 401, 402, 403, 404, 382, 383, 384] (by decide +kernel) (by decide +kernel)
set_option maxRecDepth 20000 in
theorem gL_texts_X5_addDevice : GoodIn wsL_texts (wsV RL 38 RX5 yX5_addDevice wsX5_addDevice) := goodIn_app (goodIn_of _ (by decide +kernel)) ggL_texts_X5_addDevice
set_option maxRecDepth 20000 in
theorem ggL_texts_X5_read : GoodIn wsL_texts wsX5_read := goodIn_r _ [226, 37, 215, 227, 228, 43, 229, 230, 173, 174, 69, 175, 79, 181, 182, 183, 42, 184, 94, 95, 96, 185, 186, 187, 36, 188, 56, 58, 189, 190, 191, 192, 59, 60, 61, 62, 64, 65, 66, 70, 71, 72, 193, 194, 195, 196, 77, 78, 80, 197, 81, 82, 83, 84, 231, 232, 233, 234, 235, 236, 237, 238, 239, 240, 241, 242, 243, 244, 245, 364, 365, 366, 367, 368, 369, 370, 371, 372, 373, 374, 375, 376, 377, 378, 379, 380, 381, 397, 398, 399, 400, 401, 402, 403, 404, 382, 383, 384] (by decide +kernel) (by decide +kernel)
set_option maxRecDepth 20000 in
theorem gL_texts_X5_read : GoodIn wsL_texts (wsV RL 45 RX5 yX5_read wsX5_read) := goodIn_app (goodIn_of _ (by decide +kernel)) ggL_texts_X5_read
set_option maxRecDepth 20000 in
theorem ggL_texts_X5_close : GoodIn wsL_texts wsX5_close := goodIn_r _ [249, 37, 209, 208, 43, 51, 215, 250, 181, 182, 183, 42, 184, 94, 95, 96, 185, 186, 187, 36, 188, 56, 58, 189, 190, 191, 192, 59, 60, 61, 62, 64, 65, 66, 70, 71, 72, 193, 194, 195, 69, 196, 77, 78, 79, 80, 197, 81, 82, 83, 84, 251, 252, 253, 19, 254, 231, 232, 233, 234, 235, 236, 237, 238, 239, 240, 241, 242, 243, 244, 245, 173, 174, 175, 255, 256, 257, 50, 258, 114, 259, 260, 261, 262, 263, 264, 86, 87, 88, 265, 266, 267, 268, 269, 270, 115, 116, 271, 272, 273, 274, 275, 276, 119, 277, 278, 279, 280, 281, 282, 283, 284, 285, 117, 286, 287, 288, 289, 290, 291, 292, 293, 294, 295, 296, 297, 298, 299, 300, 301, 302, 303, 304, 305, 306, 307, 308, 309, 310, 311, 312, 313, 314, 315, 316, 85, 364, 365, 366, 367, 368, 369, 370, 371, 372, 373, 374, 375, 376, 377, 378, 379, 380, 381, 392, 393, 394, 395, 396, 382, 383, 384, 397, 398, 399, 400, 401, 402, 403, 404] (by decide +kernel) (by decide +kernel)
set_option maxRecDepth 20000 in
theorem gL_texts_X5_close : GoodIn wsL_texts (wsV RL 91 RX5 yX5_close wsX5_close) := goodIn_app (goodIn_of _ (by decide +kernel)) ggL_texts_X5_close
set_option maxRecDepth 20000 in
theorem ggL_texts_X5_count : GoodIn wsL_texts wsX5_count := goodIn_r _ [320, 37, 209, 208, 215, 216, 210, 51, 321, 322, 323, 324, 43, 325, 47, 128, 326, 327, 328, 36, 329, 70, 235, 64, 330, 331, 332, 333, 334, 335, 65, 336, 271, 19, 272, 251, 252, 253, 254, 231, 232, 233, 234, 62, 61, 236, 60, 237, 238, 239, 240, 71, 241, 242, 243, 244, 72, 245, 173, 174, 69, 175, 79, 255, 256, 257, 50, 258, 114, 259, 260, 261, 262, 263, 264, 86, 87, 88, 265, 266, 267, 268, 269, 270, 115, 116, 273, 274, 275, 276, 119, 277, 278, 279, 280, 281, 337, 338, 339, 340, 312, 341, 342, 343, 344, 56, 345, 291, 292, 293, 80, 364, 365, 366, 367, 368, 369, 370, 371, 372, 373, 374, 375, 376, 377, 378, 379, 380, 381, 397, 398, 399, 400, 401, 402, 403, 404, 392, 393, 394, 395, 396, 382, 383, 384, 385, 386, 387, 388, 389, 390, 391] (by decide +kernel) (by decide +kernel)
set_option maxRecDepth 20000 in
theorem gL_texts_X5_count : GoodIn wsL_texts (wsV RL 13 RX5 yX5_count wsX5_count) := goodIn_app (goodIn_of _ (by decide +kernel)) ggL_texts_X5_count
set_option maxRecDepth 20000 in
theorem ggL_texts_L_types : GoodIn wsL_texts wsL_types := goodIn_r _ [122, 123, 124, 125, 126, 19, 127, 47, 128, 129, 130, 131, 46, 132, 104, 103, 364, 365, 366, 367, 368, 369, 385, 386, 387, 388, 389, 390, 391] (by decide +kernel) (by decide +kernel)
set_option maxRecDepth 20000 in
theorem gL_texts_L_types : GoodIn wsL_texts (va_wsS RL 108 yL_types wsL_types) := goodIn_app (goodIn_of _ (by decide +kernel)) ggL_texts_L_types
set_option maxRecDepth 20000 in
theorem ggL_texts_X5_readAll : GoodIn wsL_texts wsX5_readAll := goodIn_r _ [136, 47, 137, 37, 43, 138, 139, 140, 141, 46, 142, 105, 107, 104, 143, 144, 145, 146, 108, 106, 109, 147, 148, 149, 150, 151, 152, 153, 154, 103, 155, 156, 157, 158, 159, 160, 161, 162, 163, 164, 165, 166, 167, 168, 169, 170, 171, 172, 173, 174, 69, 175, 79, 176, 177, 178, 179, 180, 181, 182, 183, 42, 184, 94, 95, 96, 185, 186, 187, 36, 188, 56, 58, 189, 190, 191, 192, 59, 60, 61, 62, 64, 65, 66, 70, 71, 72, 193, 194, 195, 196, 77, 78, 80, 197, 81, 82, 83, 84, 198, 199, 200, 201, 202, 203, 364, 365, 366, 367, 368, 369, 385, 386, 387, 388, 389, 390, 391, 370, 371, 372, 373, 374, 375, 376, 377, 378, 379, 380, 381, 397, 398, 399, 400, 401, 402, 403, 404, 382, 383, 384] (by decide +kernel) (by decide +kernel)
set_option maxRecDepth 20000 in
theorem gL_texts_X5_readAll : GoodIn wsL_texts (wsV RL 112 RX5 yX5_readAll wsX5_readAll) := goodIn_app (goodIn_of _ (by decide +kernel)) ggL_texts_X5_readAll
set_option maxRecDepth 20000 in
theorem ggL_texts_X5_clearText : GoodIn wsL_texts wsX5_clearText := goodIn_r _ [349, 47, 128, 364, 365, 366, 367, 368, 369, 385, 386, 387, 388, 389, 390, 391] (by decide +kernel) (by decide +kernel)
set_option maxRecDepth 20000 in
theorem gL_texts_X5_clearText : GoodIn wsL_texts (wsV RL 153 RX5 yX5_clearText wsX5_clearText) := goodIn_app (goodIn_of _ (by decide +kernel)) ggL_texts_X5_clearText
set_option maxRecDepth 20000 in
theorem ggL_texts_X5_device : GoodIn wsL_texts wsX5_device := goodIn_r _ [353, 37, 215, 217, 218, 227, 228, 354, 229, 230, 173, 174, 69, 175, 79, 231, 232, 233, 36, 234, 70, 235, 64, 62, 61, 236, 60, 237, 238, 239, 240, 71, 65, 241, 242, 243, 244, 72, 245, 364, 365, 366, 367, 368, 369, 370, 371, 372, 373, 374, 375, 376, 377, 378, 379, 380, 381, 397, 398, 399, 400, 401, 402, 403, 404] (by decide +kernel) (by decide +kernel)
set_option maxRecDepth 20000 in
theorem gL_texts_X5_device : GoodIn wsL_texts (wsV RL 23 RX5 yX5_device wsX5_device) := goodIn_app (goodIn_of _ (by decide +kernel)) ggL_texts_X5_device
set_option maxRecDepth 20000 in
theorem ggL_texts_X5_undo : GoodIn wsL_texts wsX5_undo := goodIn_r _ [358, 43, 37, 325, 359, 360, 361, 42, 362, 96, 94, 95, 363, 186, 187, 36, 188, 56, 58, 189, 190, 191, 192, 59, 60, 61, 62, 64, 65, 66, 70, 71, 72, 193, 194, 195, 69, 196, 77, 78, 79, 80, 197, 81, 82, 83, 84, 364, 365, 366, 367, 368, 369, 382, 383, 384, 370, 371, 372, 373, 374, 375, 376, 377, 378, 379, 380, 381, 397, 398, 399, 400, 401, 402, 403, 404] (by decide +kernel) (by decide +kernel)
set_option maxRecDepth 20000 in
theorem gL_texts_X5_undo : GoodIn wsL_texts (wsV RL 84 RX5 yX5_undo wsX5_undo) := goodIn_app (goodIn_of _ (by decide +kernel)) ggL_texts_X5_undo
set_option maxRecDepth 20000 in
theorem ggL_texts_X5_type : GoodIn wsL_texts wsX5_type := goodIn_r _ [127, 47, 128, 129, 130, 131, 46, 132, 104, 103, 364, 365, 366, 367, 368, 369, 385, 386, 387, 388, 389, 390, 391] (by decide +kernel) (by decide +kernel)
set_option maxRecDepth 20000 in
theorem gL_texts_X5_type : GoodIn wsL_texts (wsV RL 104 RX5 yX5_type wsX5_type) := goodIn_app (goodIn_of _ (by decide +kernel)) ggL_texts_X5_type
theorem dL_texts_0 : decode cL_texts 0 = .ok (.lconst 0, 1) := by decide +kernel
theorem dL_texts_1 : decode cL_texts 1 = .ok (.lconst 0, 1) := by decide +kernel
theorem dL_texts_2 : decode cL_texts 2 = .ok (.invokestatic 115, 3) := by decide +kernel
theorem dL_texts_5 : decode cL_texts 5 = .ok (.ifCond .ne 81, 3) := by decide +kernel
theorem dL_texts_8 : decode cL_texts 8 = .ok (.ldc2_w 119, 3) := by decide +kernel
theorem dL_texts_11 : decode cL_texts 11 = .ok (.lconst 0, 1) := by decide +kernel
theorem dL_texts_12 : decode cL_texts 12 = .ok (.invokestatic 115, 3) := by decide +kernel
theorem dL_texts_15 : decode cL_texts 15 = .ok (.iconst 1, 1) := by decide +kernel
theorem dL_texts_16 : decode cL_texts 16 = .ok (.if_icmp .ne 70, 3) := by decide +kernel
theorem dL_texts_19 : decode cL_texts 19 = .ok (.ldc2_w 121, 3) := by decide +kernel
theorem dL_texts_22 : decode cL_texts 22 = .ok (.lconst 0, 1) := by decide +kernel
theorem dL_texts_23 : decode cL_texts 23 = .ok (.invokestatic 115, 3) := by decide +kernel
theorem dL_texts_26 : decode cL_texts 26 = .ok (.iconst 3, 1) := by decide +kernel
theorem dL_texts_27 : decode cL_texts 27 = .ok (.if_icmp .ne 59, 3) := by decide +kernel
theorem dL_texts_30 : decode cL_texts 30 = .ok (.ldc2_w 123, 3) := by decide +kernel
theorem dL_texts_33 : decode cL_texts 33 = .ok (.lconst 0, 1) := by decide +kernel
theorem dL_texts_34 : decode cL_texts 34 = .ok (.invokestatic 115, 3) := by decide +kernel
theorem dL_texts_37 : decode cL_texts 37 = .ok (.iconst 1, 1) := by decide +kernel
theorem dL_texts_38 : decode cL_texts 38 = .ok (.if_icmp .ne 48, 3) := by decide +kernel
theorem dL_texts_41 : decode cL_texts 41 = .ok (.ldc2_w 125, 3) := by decide +kernel
theorem dL_texts_44 : decode cL_texts 44 = .ok (.lconst 0, 1) := by decide +kernel
theorem dL_texts_45 : decode cL_texts 45 = .ok (.invokestatic 115, 3) := by decide +kernel
theorem dL_texts_48 : decode cL_texts 48 = .ok (.iconst 3, 1) := by decide +kernel
theorem dL_texts_49 : decode cL_texts 49 = .ok (.if_icmp .ne 37, 3) := by decide +kernel
theorem dL_texts_52 : decode cL_texts 52 = .ok (.ldc2_w 127, 3) := by decide +kernel
theorem dL_texts_55 : decode cL_texts 55 = .ok (.lconst 0, 1) := by decide +kernel
theorem dL_texts_56 : decode cL_texts 56 = .ok (.invokestatic 115, 3) := by decide +kernel
theorem dL_texts_59 : decode cL_texts 59 = .ok (.bipush 6, 2) := by decide +kernel
theorem dL_texts_61 : decode cL_texts 61 = .ok (.if_icmp .ne 25, 3) := by decide +kernel
theorem dL_texts_64 : decode cL_texts 64 = .ok (.ldc2_w 129, 3) := by decide +kernel
theorem dL_texts_67 : decode cL_texts 67 = .ok (.lconst 0, 1) := by decide +kernel
theorem dL_texts_68 : decode cL_texts 68 = .ok (.invokestatic 115, 3) := by decide +kernel
theorem dL_texts_71 : decode cL_texts 71 = .ok (.iconst (-1), 1) := by decide +kernel
theorem dL_texts_72 : decode cL_texts 72 = .ok (.if_icmp .ne 14, 3) := by decide +kernel
theorem dL_texts_75 : decode cL_texts 75 = .ok (.ldc2_w 131, 3) := by decide +kernel
theorem dL_texts_78 : decode cL_texts 78 = .ok (.lconst 0, 1) := by decide +kernel
theorem dL_texts_79 : decode cL_texts 79 = .ok (.invokestatic 115, 3) := by decide +kernel
theorem dL_texts_82 : decode cL_texts 82 = .ok (.iconst 2, 1) := by decide +kernel
theorem dL_texts_83 : decode cL_texts 83 = .ok (.if_icmp .eq 5, 3) := by decide +kernel
theorem dL_texts_86 : decode cL_texts 86 = .ok (.iconst 0, 1) := by decide +kernel
theorem dL_texts_87 : decode cL_texts 87 = .ok (.ireturn, 1) := by decide +kernel
theorem dL_texts_88 : decode cL_texts 88 = .ok (.ldc2_w 133, 3) := by decide +kernel
theorem dL_texts_91 : decode cL_texts 91 = .ok (.lconst 0, 1) := by decide +kernel
theorem dL_texts_92 : decode cL_texts 92 = .ok (.invokestatic 115, 3) := by decide +kernel
theorem dL_texts_95 : decode cL_texts 95 = .ok (.iconst 1, 1) := by decide +kernel
theorem dL_texts_96 : decode cL_texts 96 = .ok (.if_icmp .ne 81, 3) := by decide +kernel
theorem dL_texts_99 : decode cL_texts 99 = .ok (.ldc2_w 135, 3) := by decide +kernel
theorem dL_texts_102 : decode cL_texts 102 = .ok (.lconst 0, 1) := by decide +kernel
theorem dL_texts_103 : decode cL_texts 103 = .ok (.invokestatic 115, 3) := by decide +kernel
theorem dL_texts_106 : decode cL_texts 106 = .ok (.iconst 4, 1) := by decide +kernel
theorem dL_texts_107 : decode cL_texts 107 = .ok (.if_icmp .ne 70, 3) := by decide +kernel
theorem dL_texts_110 : decode cL_texts 110 = .ok (.ldc2_w 137, 3) := by decide +kernel
theorem dL_texts_113 : decode cL_texts 113 = .ok (.lconst 0, 1) := by decide +kernel
theorem dL_texts_114 : decode cL_texts 114 = .ok (.invokestatic 115, 3) := by decide +kernel
theorem dL_texts_117 : decode cL_texts 117 = .ok (.iconst 3, 1) := by decide +kernel
theorem dL_texts_118 : decode cL_texts 118 = .ok (.if_icmp .ne 59, 3) := by decide +kernel
theorem dL_texts_121 : decode cL_texts 121 = .ok (.ldc2_w 139, 3) := by decide +kernel
theorem dL_texts_124 : decode cL_texts 124 = .ok (.lconst 0, 1) := by decide +kernel
theorem dL_texts_125 : decode cL_texts 125 = .ok (.invokestatic 115, 3) := by decide +kernel
theorem dL_texts_128 : decode cL_texts 128 = .ok (.ifCond .ne 49, 3) := by decide +kernel
theorem dL_texts_131 : decode cL_texts 131 = .ok (.ldc2_w 141, 3) := by decide +kernel
theorem dL_texts_134 : decode cL_texts 134 = .ok (.ldc2_w 143, 3) := by decide +kernel
theorem dL_texts_137 : decode cL_texts 137 = .ok (.invokestatic 115, 3) := by decide +kernel
theorem dL_texts_140 : decode cL_texts 140 = .ok (.iconst (-1), 1) := by decide +kernel
theorem dL_texts_141 : decode cL_texts 141 = .ok (.if_icmp .ne 36, 3) := by decide +kernel
theorem dL_texts_144 : decode cL_texts 144 = .ok (.ldc2_w 145, 3) := by decide +kernel
theorem dL_texts_147 : decode cL_texts 147 = .ok (.lconst 0, 1) := by decide +kernel
theorem dL_texts_148 : decode cL_texts 148 = .ok (.invokestatic 115, 3) := by decide +kernel
theorem dL_texts_151 : decode cL_texts 151 = .ok (.iconst 3, 1) := by decide +kernel
theorem dL_texts_152 : decode cL_texts 152 = .ok (.if_icmp .ne 25, 3) := by decide +kernel
theorem dL_texts_155 : decode cL_texts 155 = .ok (.ldc2_w 147, 3) := by decide +kernel
theorem dL_texts_158 : decode cL_texts 158 = .ok (.lconst 0, 1) := by decide +kernel
theorem dL_texts_159 : decode cL_texts 159 = .ok (.invokestatic 115, 3) := by decide +kernel
theorem dL_texts_162 : decode cL_texts 162 = .ok (.iconst 5, 1) := by decide +kernel
theorem dL_texts_163 : decode cL_texts 163 = .ok (.if_icmp .ne 14, 3) := by decide +kernel
theorem dL_texts_166 : decode cL_texts 166 = .ok (.ldc2_w 149, 3) := by decide +kernel
theorem dL_texts_169 : decode cL_texts 169 = .ok (.lconst 0, 1) := by decide +kernel
theorem dL_texts_170 : decode cL_texts 170 = .ok (.invokestatic 115, 3) := by decide +kernel
theorem dL_texts_173 : decode cL_texts 173 = .ok (.iconst 1, 1) := by decide +kernel
theorem dL_texts_174 : decode cL_texts 174 = .ok (.if_icmp .eq 5, 3) := by decide +kernel
theorem dL_texts_177 : decode cL_texts 177 = .ok (.iconst 0, 1) := by decide +kernel
theorem dL_texts_178 : decode cL_texts 178 = .ok (.ireturn, 1) := by decide +kernel
theorem dL_texts_179 : decode cL_texts 179 = .ok (.new 14, 3) := by decide +kernel
