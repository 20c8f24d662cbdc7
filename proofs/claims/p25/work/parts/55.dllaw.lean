set_option maxRecDepth 20000 in
theorem ggL_law_X4_init : GoodIn wsL_law wsX4_init := goodIn_r _ [10, 11, 12, 13, 14, 15, 16, 17, 18, 19, 20, 21, 22, 23, 24, 25, 26, 27, 28, 29, 3, 30, 31, 32, 33, 34, 35, 36, 37, 397, 398, 399, 400, 401, 402, 403, 404, 405, 406, 407, 408, 409, 410] (by decide +kernel) (by decide +kernel)
set_option maxRecDepth 20000 in
theorem gL_law_X4_init : GoodIn wsL_law (wsX4_init) := ggL_law_X4_init
set_option maxRecDepth 20000 in
theorem ggL_law_L_isRefused_1 : GoodIn wsL_law wsL_isRefused_r1 := goodIn_r _ [42, 5, 7, 6, 43, 44, 45, 2, 46, 47, 48, 49, 40, 50, 51, 52, 53, 54, 55, 56, 57, 58, 59, 60] (by decide +kernel) (by decide +kernel)
theorem ggL_law_L_isRefused_2 : GoodIn wsL_law wsL_isRefused_r2 := goodIn_r _ [61, 62, 63, 64, 65, 66, 67, 68, 69, 70, 71, 72, 73, 74, 75, 76, 77, 78, 79, 80, 81, 23, 82, 83] (by decide +kernel) (by decide +kernel)
theorem ggL_law_L_isRefused_3 : GoodIn wsL_law wsL_isRefused_r3 := goodIn_r _ [84, 85, 86, 87, 88, 89, 90, 91, 92, 93, 94, 95, 96, 97, 98, 99, 100, 101, 102, 103, 104, 105, 106, 107] (by decide +kernel) (by decide +kernel)
theorem ggL_law_L_isRefused_4 : GoodIn wsL_law wsL_isRefused_r4 := goodIn_r _ [108, 109, 110, 111, 112, 113, 114, 115, 116, 117, 118, 119, 120, 121, 122, 123, 124, 125, 126, 127, 128, 129, 130, 131] (by decide +kernel) (by decide +kernel)
theorem ggL_law_L_isRefused_5 : GoodIn wsL_law wsL_isRefused_r5 := goodIn_r _ [132, 133, 134, 135, 136, 137, 138, 139, 140, 141, 142, 143, 144, 145, 146, 147, 148, 149, 150, 151, 152, 153, 154, 155] (by decide +kernel) (by decide +kernel)
theorem ggL_law_L_isRefused_6 : GoodIn wsL_law wsL_isRefused_r6 := goodIn_r _ [156, 157, 158, 159, 160, 161, 162, 163, 164, 165, 166, 19, 167, 168, 169, 21, 170, 171, 34, 35, 37, 172, 173, 174] (by decide +kernel) (by decide +kernel)
theorem ggL_law_L_isRefused_7 : GoodIn wsL_law wsL_isRefused_r7 := goodIn_r _ [175, 176, 177, 178, 179, 15, 180, 181, 182, 17, 183, 30, 184, 185, 186, 187, 188, 189, 190, 191, 192, 193, 194, 195] (by decide +kernel) (by decide +kernel)
theorem ggL_law_L_isRefused_8 : GoodIn wsL_law wsL_isRefused_r8 := goodIn_r _ [196, 197, 198, 199, 200, 201, 202, 203, 204, 205, 206, 207, 208, 209, 22, 210, 211, 212, 213, 214, 215, 216, 217, 218] (by decide +kernel) (by decide +kernel)
theorem ggL_law_L_isRefused_9 : GoodIn wsL_law wsL_isRefused_r9 := goodIn_r _ [12, 13, 219, 220, 221, 222, 223, 224, 225, 226, 227, 228, 229, 230, 231, 232, 233, 234, 235, 236, 237, 238, 239, 240] (by decide +kernel) (by decide +kernel)
theorem ggL_law_L_isRefused_10 : GoodIn wsL_law wsL_isRefused_r10 := goodIn_r _ [241, 242, 243, 244, 27, 245, 246, 247, 248, 249, 250, 251, 252, 29, 253, 254, 255, 256, 28, 257, 258, 259, 260, 261] (by decide +kernel) (by decide +kernel)
theorem ggL_law_L_isRefused_11 : GoodIn wsL_law wsL_isRefused_r11 := goodIn_r _ [262, 263, 264, 265, 266, 267, 268, 269, 270, 271, 272, 273, 274, 275, 276, 277, 278, 279, 280, 281, 282, 283, 284, 285] (by decide +kernel) (by decide +kernel)
theorem ggL_law_L_isRefused_12 : GoodIn wsL_law wsL_isRefused_r12 := goodIn_r _ [286, 287, 288, 289, 290, 291, 292, 293, 294, 295, 296, 297, 298, 299, 300, 301, 302, 303, 304, 305, 306, 307, 308, 309] (by decide +kernel) (by decide +kernel)
theorem ggL_law_L_isRefused_13 : GoodIn wsL_law wsL_isRefused_r13 := goodIn_r _ [310, 311, 312, 313, 314, 315, 316, 317, 318, 319, 320, 321, 322, 323, 324, 325, 326, 327, 328, 329, 330, 331, 332, 333] (by decide +kernel) (by decide +kernel)
theorem ggL_law_L_isRefused_14 : GoodIn wsL_law wsL_isRefused_r14 := goodIn_r _ [334, 335, 336, 337, 338, 339, 340, 341, 342, 343, 344, 345, 346, 347, 348, 349, 350, 351, 352, 353, 354, 355, 356, 357] (by decide +kernel) (by decide +kernel)
theorem ggL_law_L_isRefused_15 : GoodIn wsL_law wsL_isRefused_r15 := goodIn_r _ [358, 359, 360, 361, 362, 363, 364, 365, 366, 367, 368, 369] (by decide +kernel) (by decide +kernel)
theorem ggL_law_L_isRefused_16 : GoodIn wsL_law wsX40 := goodIn_r _ [397, 398, 399, 400, 401, 402] (by decide +kernel) (by decide +kernel)
theorem ggL_law_L_isRefused_17 : GoodIn wsL_law wsX30 := goodIn_r _ [411, 412, 413, 414, 415, 416, 417, 418, 419] (by decide +kernel) (by decide +kernel)
theorem ggL_law_L_isRefused_18 : GoodIn wsL_law wsX10 := goodIn_r _ [420, 421, 422, 423] (by decide +kernel) (by decide +kernel)
theorem ggL_law_L_isRefused_19 : GoodIn wsL_law wsX00 := goodIn_r _ [407, 408, 409, 410] (by decide +kernel) (by decide +kernel)
theorem ggL_law_L_isRefused_20 : GoodIn wsL_law wsX20 := goodIn_r _ [403, 404, 405, 406] (by decide +kernel) (by decide +kernel)
theorem ggL_law_L_isRefused_0 : GoodIn wsL_law [.code yL_isRefused cL_isRefused 14 (some .boolean)] := goodIn_r _ [41] (by first | rfl | decide +kernel) (by decide +kernel)
theorem ggL_law_L_isRefused : GoodIn wsL_law wsL_isRefused := goodIn_ca (goodIn_ca (goodIn_ca ((goodIn_app (a := [.code yL_isRefused cL_isRefused 14 (some .boolean)]) ggL_law_L_isRefused_0 (goodIn_app (goodIn_app (goodIn_app (goodIn_app (goodIn_app (goodIn_app ggL_law_L_isRefused_1 (goodIn_app ggL_law_L_isRefused_2 (goodIn_app ggL_law_L_isRefused_3 (goodIn_app ggL_law_L_isRefused_4 (goodIn_app ggL_law_L_isRefused_5 (goodIn_app ggL_law_L_isRefused_6 (goodIn_app ggL_law_L_isRefused_7 (goodIn_app ggL_law_L_isRefused_8 (goodIn_app ggL_law_L_isRefused_9 (goodIn_app ggL_law_L_isRefused_10 (goodIn_app ggL_law_L_isRefused_11 (goodIn_app ggL_law_L_isRefused_12 (goodIn_app ggL_law_L_isRefused_13 (goodIn_app ggL_law_L_isRefused_14 ggL_law_L_isRefused_15)))))))))))))) ggL_law_L_isRefused_16) ggL_law_L_isRefused_17) ggL_law_L_isRefused_18) ggL_law_L_isRefused_19) ggL_law_L_isRefused_20))) (goodIn_sub (fun _ h => List.mem_append_left _ (List.mem_append_left _ (List.mem_append_right _ h))) (by decide +kernel))) (goodIn_sub (fun _ h => List.mem_append_left _ (List.mem_append_right _ h)) (by decide +kernel))) (goodIn_sub (fun _ h => List.mem_append_right _ h) (by decide +kernel))
set_option maxRecDepth 20000 in
theorem gL_law_L_isRefused : GoodIn wsL_law (va_wsS RL 150 yL_isRefused wsL_isRefused) := goodIn_app (goodIn_of _ (by decide +kernel)) ggL_law_L_isRefused
set_option maxRecDepth 20000 in
theorem ggL_law_L_stock : GoodIn wsL_law wsL_stock := goodIn_ca (goodIn_r _ [372, 172, 173, 174, 2, 175, 160, 161, 176, 177, 178, 179, 15, 180, 181, 182, 17, 183, 30, 397, 398, 399, 400, 401, 402, 403, 404, 405, 406] (by decide +kernel) (by decide +kernel)) (goodIn_sub (fun _ h => List.mem_append_left _ (List.mem_append_right _ h)) (by decide +kernel))
set_option maxRecDepth 20000 in
theorem gL_law_L_stock : GoodIn wsL_law (va_wsS RL 137 yL_stock wsL_stock) := goodIn_app (goodIn_of _ (by decide +kernel)) ggL_law_L_stock
set_option maxRecDepth 20000 in
theorem ggL_law_L_dice : GoodIn wsL_law wsL_dice := goodIn_r _ [375, 376, 377] (by decide +kernel) (by decide +kernel)
set_option maxRecDepth 20000 in
theorem gL_law_L_dice : GoodIn wsL_law (va_wsS RL 154 yL_dice wsL_dice) := goodIn_app (goodIn_of _ (by decide +kernel)) ggL_law_L_dice
set_option maxRecDepth 20000 in
theorem ggL_law_X4_sales : GoodIn wsL_law wsX4_sales := goodIn_r _ [46, 47, 397, 398, 399, 400, 401, 402] (by decide +kernel) (by decide +kernel)
set_option maxRecDepth 20000 in
theorem gL_law_X4_sales : GoodIn wsL_law (wsV RL 98 RX4 yX4_sales wsX4_sales) := goodIn_app (goodIn_of _ (by decide +kernel)) ggL_law_X4_sales
set_option maxRecDepth 20000 in
theorem ggL_law_L_desk_1 : GoodIn wsL_law wsL_desk_r1 := goodIn_r _ [187, 188, 42, 6, 189, 190, 191, 2, 192, 160, 161, 193, 194, 195, 196, 176, 177, 178, 179, 15, 197, 198, 199, 200] (by decide +kernel) (by decide +kernel)
theorem ggL_law_L_desk_2 : GoodIn wsL_law wsL_desk_r2 := goodIn_r _ [201, 202, 203, 204, 205, 162, 206, 207, 208, 209, 22, 210, 89, 47, 163, 164, 165, 166, 19, 211, 212, 213, 214, 23] (by decide +kernel) (by decide +kernel)
theorem ggL_law_L_desk_3 : GoodIn wsL_law wsL_desk_r3 := goodIn_r _ [215, 216, 217, 218, 12, 13, 219, 91, 220, 221, 222, 223, 224, 225, 226, 227, 228, 229, 230, 231, 232, 233, 234, 235] (by decide +kernel) (by decide +kernel)
theorem ggL_law_L_desk_4 : GoodIn wsL_law wsL_desk_r4 := goodIn_r _ [236, 17, 237, 238, 239, 240, 241, 242, 243, 244, 27, 245, 246, 247, 248, 249, 250, 251, 252, 29, 253, 254, 255, 256] (by decide +kernel) (by decide +kernel)
theorem ggL_law_L_desk_5 : GoodIn wsL_law wsL_desk_r5 := goodIn_r _ [28, 257, 258, 259, 260, 261, 262, 263, 264, 265, 172, 173, 174, 175, 180, 181, 182, 183, 30, 266, 267, 268, 269, 270] (by decide +kernel) (by decide +kernel)
theorem ggL_law_L_desk_6 : GoodIn wsL_law wsL_desk_r6 := goodIn_r _ [271, 272, 273, 156, 157, 158, 159, 167, 168, 169, 21, 170, 171, 34, 35, 37] (by decide +kernel) (by decide +kernel)
theorem ggL_law_L_desk_7 : GoodIn wsL_law wsX20 := goodIn_r _ [403, 404, 405, 406] (by decide +kernel) (by decide +kernel)
theorem ggL_law_L_desk_8 : GoodIn wsL_law wsX40 := goodIn_r _ [397, 398, 399, 400, 401, 402] (by decide +kernel) (by decide +kernel)
theorem ggL_law_L_desk_9 : GoodIn wsL_law wsX30 := goodIn_r _ [411, 412, 413, 414, 415, 416, 417, 418, 419] (by decide +kernel) (by decide +kernel)
theorem ggL_law_L_desk_10 : GoodIn wsL_law wsX00 := goodIn_r _ [407, 408, 409, 410] (by decide +kernel) (by decide +kernel)
theorem ggL_law_L_desk_0 : GoodIn wsL_law [.codeWith yL_desk cL_desk 7 (some .int) [(0, 114, 115, 39), (0, 114, 120, 42)]] := goodIn_r _ [186] (by first | rfl | decide +kernel) (by decide +kernel)
theorem ggL_law_L_desk : GoodIn wsL_law wsL_desk := goodIn_ca (goodIn_ca ((goodIn_app (a := [.codeWith yL_desk cL_desk 7 (some .int) [(0, 114, 115, 39), (0, 114, 120, 42)]]) ggL_law_L_desk_0 (goodIn_app (goodIn_app (goodIn_app (goodIn_app (goodIn_app ggL_law_L_desk_1 (goodIn_app ggL_law_L_desk_2 (goodIn_app ggL_law_L_desk_3 (goodIn_app ggL_law_L_desk_4 (goodIn_app ggL_law_L_desk_5 ggL_law_L_desk_6))))) ggL_law_L_desk_7) ggL_law_L_desk_8) ggL_law_L_desk_9) ggL_law_L_desk_10))) (goodIn_sub (fun _ h => List.mem_append_left _ (List.mem_append_right _ h)) (by decide +kernel))) (goodIn_sub (fun _ h => List.mem_append_right _ h) (by decide +kernel))
set_option maxRecDepth 20000 in
theorem gL_law_L_desk : GoodIn wsL_law (va_wsS RL 123 yL_desk wsL_desk) := goodIn_app (goodIn_of _ (by decide +kernel)) ggL_law_L_desk
set_option maxRecDepth 20000 in
theorem ggL_law_X4_paid : GoodIn wsL_law wsX4_paid := goodIn_ca (goodIn_r _ [70, 71, 72, 73, 74, 2, 75, 76, 77, 78, 79, 80, 81, 23, 411, 412, 413, 414, 415, 416, 417, 418, 419, 397, 398, 399, 400, 401, 402] (by decide +kernel) (by decide +kernel)) (goodIn_sub (fun _ h => List.mem_append_left _ (List.mem_append_left _ (List.mem_append_right _ h))) (by decide +kernel))
set_option maxRecDepth 20000 in
theorem gL_law_X4_paid : GoodIn wsL_law (wsV RL 55 RX4 yX4_paid wsX4_paid) := goodIn_app (goodIn_of _ (by decide +kernel)) ggL_law_X4_paid
set_option maxRecDepth 20000 in
theorem ggL_law_X4_firstSale : GoodIn wsL_law wsX4_firstSale := goodIn_ca (goodIn_r _ [113, 114, 72, 73, 74, 2, 75, 76, 77, 78, 79, 80, 81, 23, 411, 412, 413, 414, 415, 416, 417, 418, 419, 397, 398, 399, 400, 401, 402] (by decide +kernel) (by decide +kernel)) (goodIn_sub (fun _ h => List.mem_append_left _ (List.mem_append_left _ (List.mem_append_right _ h))) (by decide +kernel))
set_option maxRecDepth 20000 in
theorem gL_law_X4_firstSale : GoodIn wsL_law (wsV RL 64 RX4 yX4_firstSale wsX4_firstSale) := goodIn_app (goodIn_of _ (by decide +kernel)) ggL_law_X4_firstSale
set_option maxRecDepth 20000 in
theorem ggL_law_L_isPassed_1 : GoodIn wsL_law wsL_isPassed_r1 := goodIn_r _ [54, 52, 4, 6, 55, 56, 57, 2, 58, 59, 370, 371, 40, 372, 172, 173, 174, 175, 160, 161, 176, 177, 178, 179] (by decide +kernel) (by decide +kernel)
theorem ggL_law_L_isPassed_2 : GoodIn wsL_law wsL_isPassed_r2 := goodIn_r _ [15, 180, 181, 182, 17, 183, 30, 156, 157, 158, 159, 162, 163, 164, 165, 166, 19, 167, 168, 169, 21, 170, 171, 34] (by decide +kernel) (by decide +kernel)
theorem ggL_law_L_isPassed_3 : GoodIn wsL_law wsL_isPassed_r3 := goodIn_r _ [35, 37, 43, 44, 45, 46, 47, 60, 61, 62, 63, 64, 51, 65, 66, 67, 68, 69, 70, 71, 72, 73, 74, 75] (by decide +kernel) (by decide +kernel)
theorem ggL_law_L_isPassed_4 : GoodIn wsL_law wsL_isPassed_r4 := goodIn_r _ [76, 77, 78, 79, 80, 81, 23, 82, 83, 84, 85, 86, 87, 88, 89, 90, 91, 92, 93, 94, 95, 96, 97, 98] (by decide +kernel) (by decide +kernel)
theorem ggL_law_L_isPassed_5 : GoodIn wsL_law wsL_isPassed_r5 := goodIn_r _ [99, 100, 101, 102, 103, 104, 105, 106, 107, 108, 109, 110, 111, 112, 113, 114, 115, 116, 117, 118, 119, 120, 121, 122] (by decide +kernel) (by decide +kernel)
theorem ggL_law_L_isPassed_6 : GoodIn wsL_law wsL_isPassed_r6 := goodIn_r _ [123, 124, 125, 126, 127, 128, 129, 130, 131, 132, 133, 134, 135, 136, 137, 138, 139, 140, 141, 142, 143, 144, 145, 146] (by decide +kernel) (by decide +kernel)
theorem ggL_law_L_isPassed_7 : GoodIn wsL_law wsL_isPassed_r7 := goodIn_r _ [147, 148, 149, 150, 151, 152, 153, 154, 155, 184, 185, 186, 187, 188, 42, 189, 190, 191, 192, 193, 194, 195, 196, 197] (by decide +kernel) (by decide +kernel)
theorem ggL_law_L_isPassed_8 : GoodIn wsL_law wsL_isPassed_r8 := goodIn_r _ [198, 199, 200, 201, 202, 203, 204, 205, 206, 207, 208, 209, 22, 210, 211, 212, 213, 214, 215, 216, 217, 218, 12, 13] (by decide +kernel) (by decide +kernel)
theorem ggL_law_L_isPassed_9 : GoodIn wsL_law wsL_isPassed_r9 := goodIn_r _ [219, 220, 221, 222, 223, 224, 225, 226, 227, 228, 229, 230, 231, 232, 233, 234, 235, 236, 237, 238, 239, 240, 241, 242] (by decide +kernel) (by decide +kernel)
theorem ggL_law_L_isPassed_10 : GoodIn wsL_law wsL_isPassed_r10 := goodIn_r _ [243, 244, 27, 245, 246, 247, 248, 249, 250, 251, 252, 29, 253, 254, 255, 256, 28, 257, 258, 259, 260, 261, 262, 263] (by decide +kernel) (by decide +kernel)
theorem ggL_law_L_isPassed_11 : GoodIn wsL_law wsL_isPassed_r11 := goodIn_r _ [264, 265, 266, 267, 268, 269, 270, 271, 272, 273] (by decide +kernel) (by decide +kernel)
theorem ggL_law_L_isPassed_12 : GoodIn wsL_law wsX40 := goodIn_r _ [397, 398, 399, 400, 401, 402] (by decide +kernel) (by decide +kernel)
theorem ggL_law_L_isPassed_13 : GoodIn wsL_law wsX20 := goodIn_r _ [403, 404, 405, 406] (by decide +kernel) (by decide +kernel)
theorem ggL_law_L_isPassed_14 : GoodIn wsL_law wsX00 := goodIn_r _ [407, 408, 409, 410] (by decide +kernel) (by decide +kernel)
theorem ggL_law_L_isPassed_15 : GoodIn wsL_law wsX30 := goodIn_r _ [411, 412, 413, 414, 415, 416, 417, 418, 419] (by decide +kernel) (by decide +kernel)
theorem ggL_law_L_isPassed_16 : GoodIn wsL_law wsX10 := goodIn_r _ [420, 421, 422, 423] (by decide +kernel) (by decide +kernel)
theorem ggL_law_L_isPassed_0 : GoodIn wsL_law [.code yL_isPassed cL_isPassed 12 (some .boolean)] := goodIn_r _ [380] (by first | rfl | decide +kernel) (by decide +kernel)
theorem ggL_law_L_isPassed : GoodIn wsL_law wsL_isPassed := goodIn_ca (goodIn_ca (goodIn_ca ((goodIn_app (a := [.code yL_isPassed cL_isPassed 12 (some .boolean)]) ggL_law_L_isPassed_0 (goodIn_app (goodIn_app (goodIn_app (goodIn_app (goodIn_app (goodIn_app ggL_law_L_isPassed_1 (goodIn_app ggL_law_L_isPassed_2 (goodIn_app ggL_law_L_isPassed_3 (goodIn_app ggL_law_L_isPassed_4 (goodIn_app ggL_law_L_isPassed_5 (goodIn_app ggL_law_L_isPassed_6 (goodIn_app ggL_law_L_isPassed_7 (goodIn_app ggL_law_L_isPassed_8 (goodIn_app ggL_law_L_isPassed_9 (goodIn_app ggL_law_L_isPassed_10 ggL_law_L_isPassed_11)))))))))) ggL_law_L_isPassed_12) ggL_law_L_isPassed_13) ggL_law_L_isPassed_14) ggL_law_L_isPassed_15) ggL_law_L_isPassed_16))) (goodIn_sub (fun _ h => List.mem_append_left _ (List.mem_append_right _ h)) (by decide +kernel))) (goodIn_sub (fun _ h => List.mem_append_left _ (List.mem_append_left _ (List.mem_append_right _ h))) (by decide +kernel))) (goodIn_sub (fun _ h => List.mem_append_right _ h) (by decide +kernel))
set_option maxRecDepth 20000 in
theorem gL_law_L_isPassed : GoodIn wsL_law (va_wsS RL 158 yL_isPassed wsL_isPassed) := goodIn_app (goodIn_of _ (by decide +kernel)) ggL_law_L_isPassed
set_option maxRecDepth 20000 in
theorem ggL_law_L_add_1 : GoodIn wsL_law wsL_add_r1 := goodIn_r _ [277, 187, 188, 7, 42, 6, 358, 359, 360, 2, 361, 160, 161, 204, 205, 293, 362, 330, 331, 96, 72, 73, 74, 75] (by decide +kernel) (by decide +kernel)
theorem ggL_law_L_add_2 : GoodIn wsL_law wsL_add_r2 := goodIn_r _ [76, 77, 78, 79, 80, 81, 23, 176, 177, 178, 179, 15, 286, 287, 288, 332, 333, 334, 335, 12, 13, 336, 337, 338] (by decide +kernel) (by decide +kernel)
theorem ggL_law_L_add_3 : GoodIn wsL_law wsL_add_r3 := goodIn_r _ [98, 339, 340, 341, 89, 342, 343, 91] (by decide +kernel) (by decide +kernel)
theorem ggL_law_L_add_4 : GoodIn wsL_law wsX30 := goodIn_r _ [411, 412, 413, 414, 415, 416, 417, 418, 419] (by decide +kernel) (by decide +kernel)
theorem ggL_law_L_add_5 : GoodIn wsL_law wsX10 := goodIn_r _ [420, 421, 422, 423] (by decide +kernel) (by decide +kernel)
theorem ggL_law_L_add_6 : GoodIn wsL_law wsX40 := goodIn_r _ [397, 398, 399, 400, 401, 402] (by decide +kernel) (by decide +kernel)
theorem ggL_law_L_add_7 : GoodIn wsL_law wsX20 := goodIn_r _ [403, 404, 405, 406] (by decide +kernel) (by decide +kernel)
theorem ggL_law_L_add_0 : GoodIn wsL_law [.codeWith yL_add cL_add 5 (some .int) [(0, 7, 8, 49), (0, 7, 13, 39), (0, 7, 18, 42)]] := goodIn_r _ [357] (by first | rfl | decide +kernel) (by decide +kernel)
theorem ggL_law_L_add : GoodIn wsL_law wsL_add := goodIn_ca (goodIn_ca (goodIn_ca ((goodIn_app (a := [.codeWith yL_add cL_add 5 (some .int) [(0, 7, 8, 49), (0, 7, 13, 39), (0, 7, 18, 42)]]) ggL_law_L_add_0 (goodIn_app (goodIn_app (goodIn_app (goodIn_app (goodIn_app ggL_law_L_add_1 (goodIn_app ggL_law_L_add_2 ggL_law_L_add_3)) ggL_law_L_add_4) ggL_law_L_add_5) ggL_law_L_add_6) ggL_law_L_add_7))) (goodIn_sub (fun _ h => List.mem_append_left _ (List.mem_append_right _ h)) (by decide +kernel))) (goodIn_sub (fun _ h => List.mem_append_right _ h) (by decide +kernel))) (goodIn_sub (fun _ h => List.mem_append_left _ (List.mem_append_left _ (List.mem_append_right _ h))) (by decide +kernel))
set_option maxRecDepth 20000 in
theorem gL_law_L_add : GoodIn wsL_law (va_wsS RL 132 yL_add wsL_add) := goodIn_app (goodIn_of _ (by decide +kernel)) ggL_law_L_add
set_option maxRecDepth 20000 in
theorem ggL_law_L_pay_1 : GoodIn wsL_law wsL_pay_r1 := goodIn_r _ [277, 188, 7, 6, 366, 367, 368, 2, 369, 204, 205, 293, 362, 162, 71, 72, 73, 74, 75, 76, 77, 78, 79, 80] (by decide +kernel) (by decide +kernel)
theorem ggL_law_L_pay_2 : GoodIn wsL_law wsL_pay_r2 := goodIn_r _ [81, 23, 344, 345, 346, 89, 347, 91, 348, 92, 349, 350, 312, 132, 87, 88, 90, 93, 94, 95, 96, 97, 98, 100] (by decide +kernel) (by decide +kernel)
theorem ggL_law_L_pay_3 : GoodIn wsL_law wsL_pay_r3 := goodIn_r _ [101, 102, 103, 104] (by decide +kernel) (by decide +kernel)
theorem ggL_law_L_pay_4 : GoodIn wsL_law wsX30 := goodIn_r _ [411, 412, 413, 414, 415, 416, 417, 418, 419] (by decide +kernel) (by decide +kernel)
theorem ggL_law_L_pay_5 : GoodIn wsL_law wsX40 := goodIn_r _ [397, 398, 399, 400, 401, 402] (by decide +kernel) (by decide +kernel)
theorem ggL_law_L_pay_6 : GoodIn wsL_law wsX10 := goodIn_r _ [420, 421, 422, 423] (by decide +kernel) (by decide +kernel)
theorem ggL_law_L_pay_0 : GoodIn wsL_law [.codeWith yL_pay cL_pay 3 (some .int) [(0, 5, 6, 49), (0, 5, 10, 42)]] := goodIn_r _ [365] (by first | rfl | decide +kernel) (by decide +kernel)
theorem ggL_law_L_pay : GoodIn wsL_law wsL_pay := goodIn_ca (goodIn_ca ((goodIn_app (a := [.codeWith yL_pay cL_pay 3 (some .int) [(0, 5, 6, 49), (0, 5, 10, 42)]]) ggL_law_L_pay_0 (goodIn_app (goodIn_app (goodIn_app (goodIn_app ggL_law_L_pay_1 (goodIn_app ggL_law_L_pay_2 ggL_law_L_pay_3)) ggL_law_L_pay_4) ggL_law_L_pay_5) ggL_law_L_pay_6))) (goodIn_sub (fun _ h => List.mem_append_right _ h) (by decide +kernel))) (goodIn_sub (fun _ h => List.mem_append_left _ (List.mem_append_left _ (List.mem_append_right _ h))) (by decide +kernel))
set_option maxRecDepth 20000 in
theorem gL_law_L_pay : GoodIn wsL_law (va_wsS RL 134 yL_pay wsL_pay) := goodIn_app (goodIn_of _ (by decide +kernel)) ggL_law_L_pay
set_option maxRecDepth 20000 in
theorem ggL_law_X4_keptValue : GoodIn wsL_law wsX4_keptValue := goodIn_ca (goodIn_r _ [85, 72, 73, 74, 2, 75, 76, 77, 78, 79, 80, 81, 23, 86, 87, 88, 89, 90, 91, 92, 93, 94, 95, 96, 97, 98, 99, 100, 101, 102, 103, 104, 397, 398, 399, 400, 401, 402, 411, 412, 413, 414, 415, 416, 417, 418, 419, 420, 421, 422, 423] (by decide +kernel) (by decide +kernel)) (goodIn_sub (fun _ h => List.mem_append_left _ (List.mem_append_left _ (List.mem_append_right _ h))) (by decide +kernel))
set_option maxRecDepth 20000 in
theorem gL_law_X4_keptValue : GoodIn wsL_law (wsV RL 58 RX4 yX4_keptValue wsX4_keptValue) := goodIn_app (goodIn_of _ (by decide +kernel)) ggL_law_X4_keptValue
set_option maxRecDepth 20000 in
theorem ggL_law_L_units : GoodIn wsL_law wsL_units := goodIn_ca (goodIn_r _ [383, 147, 148, 149, 2, 150, 151, 152, 153, 154, 155, 76, 77, 72, 73, 74, 75, 78, 79, 80, 81, 23, 124, 125, 126, 89, 127, 91, 420, 421, 422, 423, 397, 398, 399, 400, 401, 402, 411, 412, 413, 414, 415, 416, 417, 418, 419] (by decide +kernel) (by decide +kernel)) (goodIn_sub (fun _ h => List.mem_append_left _ (List.mem_append_left _ (List.mem_append_right _ h))) (by decide +kernel))
set_option maxRecDepth 20000 in
theorem gL_law_L_units : GoodIn wsL_law (va_wsS RL 162 yL_units wsL_units) := goodIn_app (goodIn_of _ (by decide +kernel)) ggL_law_L_units
set_option maxRecDepth 20000 in
theorem ggL_law_X4_released : GoodIn wsL_law wsX4_released := goodIn_ca (goodIn_r _ [108, 109, 72, 73, 74, 2, 75, 76, 77, 78, 79, 80, 81, 23, 411, 412, 413, 414, 415, 416, 417, 418, 419, 397, 398, 399, 400, 401, 402] (by decide +kernel) (by decide +kernel)) (goodIn_sub (fun _ h => List.mem_append_left _ (List.mem_append_left _ (List.mem_append_right _ h))) (by decide +kernel))
set_option maxRecDepth 20000 in
theorem gL_law_X4_released : GoodIn wsL_law (wsV RL 61 RX4 yX4_released wsX4_released) := goodIn_app (goodIn_of _ (by decide +kernel)) ggL_law_X4_released
set_option maxRecDepth 20000 in
theorem ggL_law_L_back_1 : GoodIn wsL_law wsL_back_r1 := goodIn_r _ [277, 187, 188, 7, 42, 6, 281, 282, 283, 2, 284, 160, 161, 204, 205, 285, 59, 152, 153, 154, 155, 76, 77, 72] (by decide +kernel) (by decide +kernel)
theorem ggL_law_L_back_2 : GoodIn wsL_law wsL_back_r2 := goodIn_r _ [73, 74, 75, 78, 79, 80, 81, 23, 124, 125, 126, 89, 127, 91, 286, 287, 288, 231, 232, 233, 289, 290, 291, 292] (by decide +kernel) (by decide +kernel)
theorem ggL_law_L_back_3 : GoodIn wsL_law wsL_back_r3 := goodIn_r _ [293, 151, 294, 295, 296, 297, 162, 298, 299, 300, 301, 302, 167, 168, 169, 21, 170, 171, 34, 35, 37, 303, 304, 305] (by decide +kernel) (by decide +kernel)
theorem ggL_law_L_back_4 : GoodIn wsL_law wsL_back_r4 := goodIn_r _ [306, 109, 307, 308, 309, 310, 311, 312, 313, 314, 246, 247, 248, 132, 87, 88, 90, 92, 93, 94, 95, 96, 97, 98] (by decide +kernel) (by decide +kernel)
theorem ggL_law_L_back_5 : GoodIn wsL_law wsL_back_r5 := goodIn_r _ [100, 101, 102, 103, 104, 234, 235, 236, 17, 237, 238, 239, 240, 241, 242, 243, 244, 27, 245, 249, 250, 251, 252, 29] (by decide +kernel) (by decide +kernel)
theorem ggL_law_L_back_6 : GoodIn wsL_law wsL_back_r6 := goodIn_r _ [253, 254, 255, 256, 28, 257, 258, 259, 260, 270, 271, 272, 273, 30, 315, 316, 317, 318, 319, 320, 321, 322, 323, 324] (by decide +kernel) (by decide +kernel)
theorem ggL_law_L_back_7 : GoodIn wsL_law wsL_back_r7 := goodIn_r _ [325, 326, 327, 328, 329, 119, 22, 210, 114, 330, 331, 71, 176, 177, 178, 179, 15, 211, 212, 213, 214, 47, 215, 216] (by decide +kernel) (by decide +kernel)
theorem ggL_law_L_back_8 : GoodIn wsL_law wsL_back_r8 := goodIn_r _ [217, 218, 12, 13, 219, 220, 221, 222, 332, 333, 334, 335, 336, 337, 338, 339, 340, 341, 342, 343, 344, 345, 346, 347] (by decide +kernel) (by decide +kernel)
theorem ggL_law_L_back_9 : GoodIn wsL_law wsL_back_r9 := goodIn_r _ [348, 349, 350, 223, 224, 225, 226, 351, 352, 353, 354] (by decide +kernel) (by decide +kernel)
theorem ggL_law_L_back_10 : GoodIn wsL_law wsX30 := goodIn_r _ [411, 412, 413, 414, 415, 416, 417, 418, 419] (by decide +kernel) (by decide +kernel)
theorem ggL_law_L_back_11 : GoodIn wsL_law wsX40 := goodIn_r _ [397, 398, 399, 400, 401, 402] (by decide +kernel) (by decide +kernel)
theorem ggL_law_L_back_12 : GoodIn wsL_law wsX10 := goodIn_r _ [420, 421, 422, 423] (by decide +kernel) (by decide +kernel)
theorem ggL_law_L_back_13 : GoodIn wsL_law wsX00 := goodIn_r _ [407, 408, 409, 410] (by decide +kernel) (by decide +kernel)
theorem ggL_law_L_back_14 : GoodIn wsL_law wsX20 := goodIn_r _ [403, 404, 405, 406] (by decide +kernel) (by decide +kernel)
theorem ggL_law_L_back_0 : GoodIn wsL_law [.codeWith yL_back cL_back 8 (some .int) [(0, 47, 48, 49), (0, 47, 53, 39), (0, 47, 58, 42)]] := goodIn_r _ [280] (by first | rfl | decide +kernel) (by decide +kernel)
theorem ggL_law_L_back : GoodIn wsL_law wsL_back := goodIn_ca (goodIn_ca (goodIn_ca ((goodIn_app (a := [.codeWith yL_back cL_back 8 (some .int) [(0, 47, 48, 49), (0, 47, 53, 39), (0, 47, 58, 42)]]) ggL_law_L_back_0 (goodIn_app (goodIn_app (goodIn_app (goodIn_app (goodIn_app (goodIn_app ggL_law_L_back_1 (goodIn_app ggL_law_L_back_2 (goodIn_app ggL_law_L_back_3 (goodIn_app ggL_law_L_back_4 (goodIn_app ggL_law_L_back_5 (goodIn_app ggL_law_L_back_6 (goodIn_app ggL_law_L_back_7 (goodIn_app ggL_law_L_back_8 ggL_law_L_back_9)))))))) ggL_law_L_back_10) ggL_law_L_back_11) ggL_law_L_back_12) ggL_law_L_back_13) ggL_law_L_back_14))) (goodIn_sub (fun _ h => List.mem_append_left _ (List.mem_append_right _ h)) (by decide +kernel))) (goodIn_sub (fun _ h => List.mem_append_right _ h) (by decide +kernel))) (goodIn_sub (fun _ h => List.mem_append_left _ (List.mem_append_left _ (List.mem_append_right _ h))) (by decide +kernel))
set_option maxRecDepth 20000 in
theorem gL_law_L_back : GoodIn wsL_law (va_wsS RL 128 yL_back wsL_back) := goodIn_app (goodIn_of _ (by decide +kernel)) ggL_law_L_back
