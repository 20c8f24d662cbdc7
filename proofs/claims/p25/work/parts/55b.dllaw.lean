set_option maxRecDepth 20000 in
theorem ggL_law_L_isBack_1 : GoodIn wsL_law wsL_isBack_r1 := goodIn_r _ [6, 387, 388, 389, 390, 110, 111, 112, 2, 113, 114, 72, 73, 74, 75, 76, 77, 78, 79, 80, 81, 23, 147, 148] (by decide +kernel) (by decide +kernel)
theorem ggL_law_L_isBack_2 : GoodIn wsL_law wsL_isBack_r2 := goodIn_r _ [149, 150, 151, 152, 153, 154, 155, 124, 125, 126, 89, 127, 91, 156, 157, 158, 159, 160, 161, 162, 163, 164, 165, 166] (by decide +kernel) (by decide +kernel)
theorem ggL_law_L_isBack_3 : GoodIn wsL_law wsL_isBack_r3 := goodIn_r _ [19, 167, 168, 169, 21, 170, 171, 34, 35, 37, 43, 44, 45, 46, 47, 105, 106, 107, 108, 109, 55, 56, 57, 58] (by decide +kernel) (by decide +kernel)
theorem ggL_law_L_isBack_4 : GoodIn wsL_law wsL_isBack_r4 := goodIn_r _ [59, 227, 228, 229, 230, 176, 177, 178, 179, 15, 231, 232, 233, 234, 235, 236, 17, 237, 238, 239, 240, 241, 242, 243] (by decide +kernel) (by decide +kernel)
theorem ggL_law_L_isBack_5 : GoodIn wsL_law wsL_isBack_r5 := goodIn_r _ [244, 27, 245, 246, 247, 248, 249, 250, 251, 252, 29, 253, 254, 255, 256, 28, 257, 258, 259, 260, 172, 173, 174, 175] (by decide +kernel) (by decide +kernel)
theorem ggL_law_L_isBack_6 : GoodIn wsL_law wsL_isBack_r6 := goodIn_r _ [180, 181, 182, 183, 30, 370, 371, 40, 372, 278, 279, 280, 277, 187, 188, 7, 42, 281, 282, 283, 284, 204, 205, 285] (by decide +kernel) (by decide +kernel)
theorem ggL_law_L_isBack_7 : GoodIn wsL_law wsL_isBack_r7 := goodIn_r _ [286, 287, 288, 289, 290, 291, 292, 293, 294, 295, 296, 297, 298, 299, 300, 301, 302, 303, 304, 305, 306, 307, 308, 309] (by decide +kernel) (by decide +kernel)
theorem ggL_law_L_isBack_8 : GoodIn wsL_law wsL_isBack_r8 := goodIn_r _ [310, 311, 312, 313, 314, 132, 87, 88, 90, 92, 93, 94, 95, 96, 97, 98, 100, 101, 102, 103, 104, 270, 271, 272] (by decide +kernel) (by decide +kernel)
theorem ggL_law_L_isBack_9 : GoodIn wsL_law wsL_isBack_r9 := goodIn_r _ [273, 315, 316, 317, 318, 319, 320, 321, 322, 323, 324, 325, 326, 327, 328, 329, 119, 22, 210, 330, 331, 71, 211, 212] (by decide +kernel) (by decide +kernel)
theorem ggL_law_L_isBack_10 : GoodIn wsL_law wsL_isBack_r10 := goodIn_r _ [213, 214, 215, 216, 217, 218, 12, 13, 219, 220, 221, 222, 332, 333, 334, 335, 336, 337, 338, 339, 340, 341, 342, 343] (by decide +kernel) (by decide +kernel)
theorem ggL_law_L_isBack_11 : GoodIn wsL_law wsL_isBack_r11 := goodIn_r _ [344, 345, 346, 347, 348, 349, 350, 223, 224, 225, 226, 351, 352, 353, 354, 48, 49, 50, 51, 52, 53, 54, 60, 61] (by decide +kernel) (by decide +kernel)
theorem ggL_law_L_isBack_12 : GoodIn wsL_law wsL_isBack_r12 := goodIn_r _ [62, 63, 64, 65, 66, 67, 68, 69, 70, 82, 83, 84, 85, 86, 99, 115, 116, 117, 118, 120, 121, 122, 123, 128] (by decide +kernel) (by decide +kernel)
theorem ggL_law_L_isBack_13 : GoodIn wsL_law wsL_isBack_r13 := goodIn_r _ [129, 130, 131, 133, 134, 135, 136, 137, 138, 139, 140, 141, 142, 143, 144, 145, 146] (by decide +kernel) (by decide +kernel)
theorem ggL_law_L_isBack_14 : GoodIn wsL_law wsX30 := goodIn_r _ [411, 412, 413, 414, 415, 416, 417, 418, 419] (by decide +kernel) (by decide +kernel)
theorem ggL_law_L_isBack_15 : GoodIn wsL_law wsX40 := goodIn_r _ [397, 398, 399, 400, 401, 402] (by decide +kernel) (by decide +kernel)
theorem ggL_law_L_isBack_16 : GoodIn wsL_law wsX10 := goodIn_r _ [420, 421, 422, 423] (by decide +kernel) (by decide +kernel)
theorem ggL_law_L_isBack_17 : GoodIn wsL_law wsX00 := goodIn_r _ [407, 408, 409, 410] (by decide +kernel) (by decide +kernel)
theorem ggL_law_L_isBack_18 : GoodIn wsL_law wsX20 := goodIn_r _ [403, 404, 405, 406] (by decide +kernel) (by decide +kernel)
theorem ggL_law_L_isBack_0 : GoodIn wsL_law [.code yL_isBack cL_isBack 38 (some .boolean)] := goodIn_r _ [386] (by first | rfl | decide +kernel) (by decide +kernel)
theorem ggL_law_L_isBack : GoodIn wsL_law wsL_isBack := goodIn_ca (goodIn_ca (goodIn_ca ((goodIn_app (a := [.code yL_isBack cL_isBack 38 (some .boolean)]) ggL_law_L_isBack_0 (goodIn_app (goodIn_app (goodIn_app (goodIn_app (goodIn_app (goodIn_app ggL_law_L_isBack_1 (goodIn_app ggL_law_L_isBack_2 (goodIn_app ggL_law_L_isBack_3 (goodIn_app ggL_law_L_isBack_4 (goodIn_app ggL_law_L_isBack_5 (goodIn_app ggL_law_L_isBack_6 (goodIn_app ggL_law_L_isBack_7 (goodIn_app ggL_law_L_isBack_8 (goodIn_app ggL_law_L_isBack_9 (goodIn_app ggL_law_L_isBack_10 (goodIn_app ggL_law_L_isBack_11 (goodIn_app ggL_law_L_isBack_12 ggL_law_L_isBack_13)))))))))))) ggL_law_L_isBack_14) ggL_law_L_isBack_15) ggL_law_L_isBack_16) ggL_law_L_isBack_17) ggL_law_L_isBack_18))) (goodIn_sub (fun _ h => List.mem_append_left _ (List.mem_append_left _ (List.mem_append_right _ h))) (by decide +kernel))) (goodIn_sub (fun _ h => List.mem_append_left _ (List.mem_append_right _ h)) (by decide +kernel))) (goodIn_sub (fun _ h => List.mem_append_right _ h) (by decide +kernel))
set_option maxRecDepth 20000 in
theorem gL_law_L_isBack : GoodIn wsL_law (va_wsS RL 166 yL_isBack wsL_isBack) := goodIn_app (goodIn_of _ (by decide +kernel)) ggL_law_L_isBack
set_option maxRecDepth 20000 in
theorem ggL_law_X4_stock : GoodIn wsL_law wsX4_stock := goodIn_ca (goodIn_r _ [175, 160, 161, 176, 177, 178, 2, 179, 15, 180, 181, 182, 17, 183, 30, 397, 398, 399, 400, 401, 402, 403, 404, 405, 406] (by decide +kernel) (by decide +kernel)) (goodIn_sub (fun _ h => List.mem_append_left _ (List.mem_append_right _ h)) (by decide +kernel))
set_option maxRecDepth 20000 in
theorem gL_law_X4_stock : GoodIn wsL_law (wsV RL 29 RX4 yX4_stock wsX4_stock) := goodIn_app (goodIn_of _ (by decide +kernel)) ggL_law_X4_stock
set_option maxRecDepth 20000 in
theorem ggL_law_X4_bestOption : GoodIn wsL_law wsX4_bestOption := goodIn_ca (goodIn_r _ [230, 160, 161, 176, 177, 178, 2, 179, 15, 231, 232, 233, 234, 235, 236, 17, 237, 238, 239, 240, 241, 242, 243, 244, 27, 245, 246, 247, 248, 249, 250, 251, 252, 29, 253, 254, 255, 256, 28, 257, 258, 259, 260, 397, 398, 399, 400, 401, 402, 403, 404, 405, 406] (by decide +kernel) (by decide +kernel)) (goodIn_sub (fun _ h => List.mem_append_left _ (List.mem_append_right _ h)) (by decide +kernel))
set_option maxRecDepth 20000 in
theorem gL_law_X4_bestOption : GoodIn wsL_law (wsV RL 22 RX4 yX4_bestOption wsX4_bestOption) := goodIn_app (goodIn_of _ (by decide +kernel)) ggL_law_X4_bestOption
set_option maxRecDepth 20000 in
theorem ggL_law_L_areOptions_1 : GoodIn wsL_law wsL_areOptions_r1 := goodIn_r _ [261, 262, 263, 2, 264, 160, 161, 176, 177, 178, 179, 15, 231, 232, 233, 234, 235, 236, 17, 237, 238, 239, 240, 241] (by decide +kernel) (by decide +kernel)
theorem ggL_law_L_areOptions_2 : GoodIn wsL_law wsL_areOptions_r2 := goodIn_r _ [242, 243, 244, 27, 245, 246, 247, 248, 249, 250, 251, 252, 29, 253, 254, 255, 256, 28, 257, 258, 259, 260, 265, 227] (by decide +kernel) (by decide +kernel)
theorem ggL_law_L_areOptions_3 : GoodIn wsL_law wsL_areOptions_r3 := goodIn_r _ [228, 229, 230] (by decide +kernel) (by decide +kernel)
theorem ggL_law_L_areOptions_4 : GoodIn wsL_law wsX40 := goodIn_r _ [397, 398, 399, 400, 401, 402] (by decide +kernel) (by decide +kernel)
theorem ggL_law_L_areOptions_5 : GoodIn wsL_law wsX20 := goodIn_r _ [403, 404, 405, 406] (by decide +kernel) (by decide +kernel)
theorem ggL_law_L_areOptions_0 : GoodIn wsL_law [.code yL_areOptions cL_areOptions 11 (some .boolean)] := goodIn_r _ [393] (by first | rfl | decide +kernel) (by decide +kernel)
theorem ggL_law_L_areOptions : GoodIn wsL_law wsL_areOptions := goodIn_ca ((goodIn_app (a := [.code yL_areOptions cL_areOptions 11 (some .boolean)]) ggL_law_L_areOptions_0 (goodIn_app (goodIn_app (goodIn_app ggL_law_L_areOptions_1 (goodIn_app ggL_law_L_areOptions_2 ggL_law_L_areOptions_3)) ggL_law_L_areOptions_4) ggL_law_L_areOptions_5))) (goodIn_sub (fun _ h => List.mem_append_left _ (List.mem_append_right _ h)) (by decide +kernel))
set_option maxRecDepth 20000 in
theorem gL_law_L_areOptions : GoodIn wsL_law (va_wsS RL 170 yL_areOptions wsL_areOptions) := goodIn_app (goodIn_of _ (by decide +kernel)) ggL_law_L_areOptions
set_option maxRecDepth 20000 in
theorem ggL_law_L_isSale_1 : GoodIn wsL_law wsL_isSale_r1 := goodIn_r _ [7, 110, 111, 112, 2, 113, 114, 72, 73, 74, 75, 76, 77, 78, 79, 80, 81, 23, 274, 275, 40, 276, 277, 67] (by decide +kernel) (by decide +kernel)
theorem ggL_law_L_isSale_2 : GoodIn wsL_law wsL_isSale_r2 := goodIn_r _ [68, 69, 70, 71, 82, 83, 84, 85, 86, 87, 88, 89, 90, 91, 92, 93, 94, 95, 96, 97, 98, 99, 100, 101] (by decide +kernel) (by decide +kernel)
theorem ggL_law_L_isSale_3 : GoodIn wsL_law wsL_isSale_r3 := goodIn_r _ [102, 103, 104, 105, 106, 107, 108, 109, 115, 116, 117, 118, 119, 147, 148, 149, 150, 151, 152, 153, 154, 155, 124, 125] (by decide +kernel) (by decide +kernel)
theorem ggL_law_L_isSale_4 : GoodIn wsL_law wsL_isSale_r4 := goodIn_r _ [126, 127, 120, 121, 122, 123, 128, 129, 130, 131, 132, 133, 134, 135, 136, 137, 138, 139, 140, 141, 142, 143, 144, 145] (by decide +kernel) (by decide +kernel)
theorem ggL_law_L_isSale_5 : GoodIn wsL_law wsL_isSale_r5 := goodIn_r _ [146] (by decide +kernel) (by decide +kernel)
theorem ggL_law_L_isSale_6 : GoodIn wsL_law wsX30 := goodIn_r _ [411, 412, 413, 414, 415, 416, 417, 418, 419] (by decide +kernel) (by decide +kernel)
theorem ggL_law_L_isSale_7 : GoodIn wsL_law wsX40 := goodIn_r _ [397, 398, 399, 400, 401, 402] (by decide +kernel) (by decide +kernel)
theorem ggL_law_L_isSale_8 : GoodIn wsL_law wsX10 := goodIn_r _ [420, 421, 422, 423] (by decide +kernel) (by decide +kernel)
theorem ggL_law_L_isSale_0 : GoodIn wsL_law [.code yL_isSale cL_isSale 11 (some .boolean)] := goodIn_r _ [396] (by first | rfl | decide +kernel) (by decide +kernel)
theorem ggL_law_L_isSale : GoodIn wsL_law wsL_isSale := goodIn_ca ((goodIn_app (a := [.code yL_isSale cL_isSale 11 (some .boolean)]) ggL_law_L_isSale_0 (goodIn_app (goodIn_app (goodIn_app (goodIn_app ggL_law_L_isSale_1 (goodIn_app ggL_law_L_isSale_2 (goodIn_app ggL_law_L_isSale_3 (goodIn_app ggL_law_L_isSale_4 ggL_law_L_isSale_5)))) ggL_law_L_isSale_6) ggL_law_L_isSale_7) ggL_law_L_isSale_8))) (goodIn_sub (fun _ h => List.mem_append_left _ (List.mem_append_left _ (List.mem_append_right _ h))) (by decide +kernel))
set_option maxRecDepth 20000 in
theorem gL_law_L_isSale : GoodIn wsL_law (va_wsS RL 174 yL_isSale wsL_isSale) := goodIn_app (goodIn_of _ (by decide +kernel)) ggL_law_L_isSale
