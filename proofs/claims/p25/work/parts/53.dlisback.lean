set_option maxRecDepth 20000 in
theorem ggL_isBack_X4_firstSale : GoodIn wsL_isBack wsX4_firstSale := goodIn_ca (goodIn_r _ [10, 11, 12, 13, 14, 9, 15, 16, 17, 18, 19, 20, 21, 22, 306, 307, 308, 309, 310, 311, 312, 313, 314, 315, 316, 317, 318, 319, 320] (by decide +kernel) (by decide +kernel)) (goodIn_sub (fun _ h => List.mem_cons_of_mem _ (List.mem_append_left _ (List.mem_append_left _ (List.mem_append_right _ h)))) (by decide +kernel))
set_option maxRecDepth 20000 in
theorem gL_isBack_X4_firstSale : GoodIn wsL_isBack (wsV RL 64 RX4 yX4_firstSale wsX4_firstSale) := goodIn_app (goodIn_of _ (by decide +kernel)) ggL_isBack_X4_firstSale
set_option maxRecDepth 20000 in
theorem ggL_isBack_X4_kept : GoodIn wsL_isBack wsX4_kept := goodIn_ca (goodIn_r _ [26, 27, 28, 29, 30, 9, 31, 16, 17, 12, 13, 14, 15, 18, 19, 20, 21, 22, 32, 33, 34, 35, 36, 37, 321, 322, 323, 324, 315, 316, 317, 318, 319, 320, 306, 307, 308, 309, 310, 311, 312, 313, 314] (by decide +kernel) (by decide +kernel)) (goodIn_sub (fun _ h => List.mem_cons_of_mem _ (List.mem_append_left _ (List.mem_append_left _ (List.mem_append_right _ h)))) (by decide +kernel))
set_option maxRecDepth 20000 in
theorem gL_isBack_X4_kept : GoodIn wsL_isBack (wsV RL 70 RX4 yX4_kept wsX4_kept) := goodIn_app (goodIn_of _ (by decide +kernel)) ggL_isBack_X4_kept
set_option maxRecDepth 20000 in
theorem ggL_isBack_X4_score : GoodIn wsL_isBack wsX4_score := goodIn_ca (goodIn_r _ [41, 42, 43, 44, 45, 46, 47, 9, 48, 49, 50, 51, 52, 53, 54, 55, 56, 57, 58, 315, 316, 317, 318, 319, 320, 325, 326, 327, 328] (by decide +kernel) (by decide +kernel)) (goodIn_sub (fun _ h => List.mem_cons_of_mem _ (List.mem_append_left _ (List.mem_append_right _ h))) (by decide +kernel))
set_option maxRecDepth 20000 in
theorem gL_isBack_X4_score : GoodIn wsL_isBack (wsV RL 36 RX4 yX4_score wsX4_score) := goodIn_app (goodIn_of _ (by decide +kernel)) ggL_isBack_X4_score
set_option maxRecDepth 20000 in
theorem ggL_isBack_X4_sales : GoodIn wsL_isBack wsX4_sales := goodIn_r _ [62, 63, 315, 316, 317, 318, 319, 320] (by decide +kernel) (by decide +kernel)
set_option maxRecDepth 20000 in
theorem gL_isBack_X4_sales : GoodIn wsL_isBack (wsV RL 98 RX4 yX4_sales wsX4_sales) := goodIn_app (goodIn_of _ (by decide +kernel)) ggL_isBack_X4_sales
set_option maxRecDepth 20000 in
theorem ggL_isBack_X4_released : GoodIn wsL_isBack wsX4_released := goodIn_ca (goodIn_r _ [67, 68, 12, 13, 14, 9, 15, 16, 17, 18, 19, 20, 21, 22, 306, 307, 308, 309, 310, 311, 312, 313, 314, 315, 316, 317, 318, 319, 320] (by decide +kernel) (by decide +kernel)) (goodIn_sub (fun _ h => List.mem_cons_of_mem _ (List.mem_append_left _ (List.mem_append_left _ (List.mem_append_right _ h)))) (by decide +kernel))
set_option maxRecDepth 20000 in
theorem gL_isBack_X4_released : GoodIn wsL_isBack (wsV RL 61 RX4 yX4_released wsX4_released) := goodIn_app (goodIn_of _ (by decide +kernel)) ggL_isBack_X4_released
set_option maxRecDepth 20000 in
theorem ggL_isBack_X4_fees : GoodIn wsL_isBack wsX4_fees := goodIn_r _ [72, 73, 315, 316, 317, 318, 319, 320] (by decide +kernel) (by decide +kernel)
set_option maxRecDepth 20000 in
theorem gL_isBack_X4_fees : GoodIn wsL_isBack (wsV RL 102 RX4 yX4_fees wsX4_fees) := goodIn_app (goodIn_of _ (by decide +kernel)) ggL_isBack_X4_fees
set_option maxRecDepth 20000 in
theorem ggL_isBack_X4_bestOption : GoodIn wsL_isBack wsX4_bestOption := goodIn_ca (goodIn_r _ [77, 42, 43, 78, 79, 80, 9, 81, 82, 83, 84, 85, 86, 87, 88, 89, 90, 91, 92, 93, 94, 95, 96, 97, 98, 99, 100, 101, 102, 103, 104, 105, 106, 107, 108, 109, 110, 111, 112, 113, 114, 115, 116, 315, 316, 317, 318, 319, 320, 329, 330, 331, 332] (by decide +kernel) (by decide +kernel)) (goodIn_sub (fun _ h => List.mem_cons_of_mem _ (List.mem_append_left _ (List.mem_append_right _ h))) (by decide +kernel))
set_option maxRecDepth 20000 in
theorem gL_isBack_X4_bestOption : GoodIn wsL_isBack (wsV RL 22 RX4 yX4_bestOption wsX4_bestOption) := goodIn_app (goodIn_of _ (by decide +kernel)) ggL_isBack_X4_bestOption
set_option maxRecDepth 20000 in
theorem ggL_isBack_X4_stock : GoodIn wsL_isBack wsX4_stock := goodIn_ca (goodIn_r _ [120, 42, 43, 78, 79, 80, 9, 81, 82, 121, 122, 123, 89, 124, 125, 315, 316, 317, 318, 319, 320, 329, 330, 331, 332] (by decide +kernel) (by decide +kernel)) (goodIn_sub (fun _ h => List.mem_cons_of_mem _ (List.mem_append_left _ (List.mem_append_right _ h))) (by decide +kernel))
set_option maxRecDepth 20000 in
theorem gL_isBack_X4_stock : GoodIn wsL_isBack (wsV RL 29 RX4 yX4_stock wsX4_stock) := goodIn_app (goodIn_of _ (by decide +kernel)) ggL_isBack_X4_stock
set_option maxRecDepth 20000 in
theorem ggL_isBack_L_stock : GoodIn wsL_isBack wsL_stock := goodIn_ca (goodIn_r _ [129, 117, 118, 119, 9, 120, 42, 43, 78, 79, 80, 81, 82, 121, 122, 123, 89, 124, 125, 315, 316, 317, 318, 319, 320, 329, 330, 331, 332] (by decide +kernel) (by decide +kernel)) (goodIn_sub (fun _ h => List.mem_cons_of_mem _ (List.mem_append_left _ (List.mem_append_right _ h))) (by decide +kernel))
set_option maxRecDepth 20000 in
theorem gL_isBack_L_stock : GoodIn wsL_isBack (va_wsS RL 137 yL_stock wsL_stock) := goodIn_app (goodIn_of _ (by decide +kernel)) ggL_isBack_L_stock
set_option maxRecDepth 20000 in
theorem ggL_isBack_L_back : GoodIn wsL_isBack wsL_back := goodIn_ca (goodIn_ca (goodIn_ca (goodIn_r _ [132, 133, 134, 135, 136, 137, 1, 138, 139, 140, 9, 141, 42, 43, 142, 143, 144, 73, 28, 29, 30, 31, 16, 17, 12, 13, 14, 15, 18, 19, 20, 21, 22, 32, 33, 34, 35, 36, 37, 145, 146, 147, 83, 84, 85, 148, 149, 150, 151, 152, 27, 153, 154, 155, 156, 44, 157, 158, 159, 160, 161, 50, 51, 52, 53, 54, 55, 56, 57, 58, 162, 163, 164, 165, 68, 166, 167, 168, 169, 170, 171, 172, 173, 100, 101, 102, 174, 175, 176, 177, 178, 179, 180, 181, 182, 183, 184, 185, 186, 187, 188, 189, 86, 87, 88, 89, 90, 91, 92, 93, 94, 95, 96, 97, 98, 99, 103, 104, 105, 106, 107, 108, 109, 110, 111, 112, 113, 114, 115, 116, 190, 191, 192, 193, 125, 194, 195, 196, 197, 198, 199, 200, 201, 202, 203, 204, 205, 206, 207, 208, 209, 210, 211, 11, 212, 213, 214, 78, 79, 80, 81, 82, 215, 216, 217, 218, 63, 219, 220, 221, 222, 223, 224, 225, 226, 227, 228, 229, 230, 231, 232, 233, 234, 235, 236, 237, 238, 239, 240, 241, 242, 243, 244, 245, 246, 247, 248, 249, 250, 251, 252, 253, 254, 255, 306, 307, 308, 309, 310, 311, 312, 313, 314, 315, 316, 317, 318, 319, 320, 321, 322, 323, 324, 325, 326, 327, 328, 329, 330, 331, 332] (by decide +kernel) (by decide +kernel)) (goodIn_sub (fun _ h => List.mem_cons_of_mem _ (List.mem_append_left _ (List.mem_append_right _ h))) (by decide +kernel))) (goodIn_sub (fun _ h => List.mem_cons_of_mem _ (List.mem_append_right _ h)) (by decide +kernel))) (goodIn_sub (fun _ h => List.mem_cons_of_mem _ (List.mem_append_left _ (List.mem_append_left _ (List.mem_append_right _ h)))) (by decide +kernel))
set_option maxRecDepth 20000 in
theorem gL_isBack_L_back : GoodIn wsL_isBack (va_wsS RL 128 yL_back wsL_back) := goodIn_app (goodIn_of _ (by decide +kernel)) ggL_isBack_L_back
set_option maxRecDepth 20000 in
theorem ggL_isBack_L_all : GoodIn wsL_isBack wsL_all := goodIn_ca (goodIn_ca (goodIn_r _ [258, 259, 260, 261, 262, 59, 60, 61, 9, 62, 63, 69, 70, 71, 72, 73, 263, 264, 128, 265, 266, 267, 268, 269, 270, 271, 272, 273, 214, 12, 13, 14, 15, 16, 17, 18, 19, 20, 21, 22, 274, 275, 276, 277, 278, 175, 176, 35, 177, 37, 178, 179, 180, 181, 182, 183, 184, 279, 185, 186, 187, 188, 189, 64, 65, 66, 67, 68, 6, 7, 8, 10, 11, 280, 281, 282, 283, 209, 284, 285, 286, 287, 32, 33, 34, 36, 288, 289, 290, 291, 174, 292, 293, 294, 295, 296, 297, 298, 299, 300, 301, 302, 303, 304, 305, 23, 24, 25, 26, 27, 28, 29, 30, 31, 38, 39, 40, 41, 42, 43, 44, 45, 46, 47, 48, 49, 50, 51, 52, 53, 54, 55, 56, 57, 58, 117, 118, 119, 120, 78, 79, 80, 81, 82, 121, 122, 123, 89, 124, 125, 315, 316, 317, 318, 319, 320, 306, 307, 308, 309, 310, 311, 312, 313, 314, 321, 322, 323, 324, 325, 326, 327, 328, 329, 330, 331, 332] (by decide +kernel) (by decide +kernel)) (goodIn_sub (fun _ h => List.mem_cons_of_mem _ (List.mem_append_left _ (List.mem_append_left _ (List.mem_append_right _ h)))) (by decide +kernel))) (goodIn_sub (fun _ h => List.mem_cons_of_mem _ (List.mem_append_left _ (List.mem_append_right _ h))) (by decide +kernel))
set_option maxRecDepth 20000 in
theorem gL_isBack_L_all : GoodIn wsL_isBack (va_wsS RL 119 yL_all wsL_all) := goodIn_app (goodIn_of _ (by decide +kernel)) ggL_isBack_L_all
set_option maxRecDepth 20000 in
theorem ggL_isBack_X4_paid : GoodIn wsL_isBack wsX4_paid := goodIn_ca (goodIn_r _ [273, 214, 12, 13, 14, 9, 15, 16, 17, 18, 19, 20, 21, 22, 306, 307, 308, 309, 310, 311, 312, 313, 314, 315, 316, 317, 318, 319, 320] (by decide +kernel) (by decide +kernel)) (goodIn_sub (fun _ h => List.mem_cons_of_mem _ (List.mem_append_left _ (List.mem_append_left _ (List.mem_append_right _ h)))) (by decide +kernel))
set_option maxRecDepth 20000 in
theorem gL_isBack_X4_paid : GoodIn wsL_isBack (wsV RL 55 RX4 yX4_paid wsX4_paid) := goodIn_app (goodIn_of _ (by decide +kernel)) ggL_isBack_X4_paid
set_option maxRecDepth 20000 in
theorem ggL_isBack_X4_keptValue : GoodIn wsL_isBack wsX4_keptValue := goodIn_ca (goodIn_r _ [277, 12, 13, 14, 9, 15, 16, 17, 18, 19, 20, 21, 22, 278, 175, 176, 35, 177, 37, 178, 179, 180, 181, 182, 183, 184, 279, 185, 186, 187, 188, 189, 315, 316, 317, 318, 319, 320, 306, 307, 308, 309, 310, 311, 312, 313, 314, 321, 322, 323, 324] (by decide +kernel) (by decide +kernel)) (goodIn_sub (fun _ h => List.mem_cons_of_mem _ (List.mem_append_left _ (List.mem_append_left _ (List.mem_append_right _ h)))) (by decide +kernel))
set_option maxRecDepth 20000 in
theorem gL_isBack_X4_keptValue : GoodIn wsL_isBack (wsV RL 58 RX4 yX4_keptValue wsX4_keptValue) := goodIn_app (goodIn_of _ (by decide +kernel)) ggL_isBack_X4_keptValue
set_option maxRecDepth 20000 in
theorem ggL_isBack_X4_exchanges : GoodIn wsL_isBack wsX4_exchanges := goodIn_ca (goodIn_r _ [283, 209, 12, 13, 14, 9, 15, 16, 17, 18, 19, 20, 21, 22, 306, 307, 308, 309, 310, 311, 312, 313, 314, 315, 316, 317, 318, 319, 320] (by decide +kernel) (by decide +kernel)) (goodIn_sub (fun _ h => List.mem_cons_of_mem _ (List.mem_append_left _ (List.mem_append_left _ (List.mem_append_right _ h)))) (by decide +kernel))
set_option maxRecDepth 20000 in
theorem gL_isBack_X4_exchanges : GoodIn wsL_isBack (wsV RL 67 RX4 yX4_exchanges wsX4_exchanges) := goodIn_app (goodIn_of _ (by decide +kernel)) ggL_isBack_X4_exchanges
theorem dL_isBack_0 : decode cL_isBack 0 = .ok (.aload 8, 2) := by decide +kernel
theorem dL_isBack_2 : decode cL_isBack 2 = .ok (.iload_n 2, 1) := by decide +kernel
theorem dL_isBack_3 : decode cL_isBack 3 = .ok (.iaload, 1) := by decide +kernel
theorem dL_isBack_4 : decode cL_isBack 4 = .ok (.ifCond .ge 7, 3) := by decide +kernel
theorem dL_isBack_7 : decode cL_isBack 7 = .ok (.iconst 0, 1) := by decide +kernel
theorem dL_isBack_8 : decode cL_isBack 8 = .ok (.goto 14, 3) := by decide +kernel
theorem dL_isBack_11 : decode cL_isBack 11 = .ok (.iload 7, 2) := by decide +kernel
theorem dL_isBack_13 : decode cL_isBack 13 = .ok (.aload 8, 2) := by decide +kernel
theorem dL_isBack_15 : decode cL_isBack 15 = .ok (.aload_n 0, 1) := by decide +kernel
theorem dL_isBack_16 : decode cL_isBack 16 = .ok (.iload_n 2, 1) := by decide +kernel
theorem dL_isBack_17 : decode cL_isBack 17 = .ok (.invokevirtual 64, 3) := by decide +kernel
theorem dL_isBack_20 : decode cL_isBack 20 = .ok (.iaload, 1) := by decide +kernel
theorem dL_isBack_21 : decode cL_isBack 21 = .ok (.isub, 1) := by decide +kernel
theorem dL_isBack_22 : decode cL_isBack 22 = .ok (.istore 13, 2) := by decide +kernel
theorem dL_isBack_24 : decode cL_isBack 24 = .ok (.aload 8, 2) := by decide +kernel
theorem dL_isBack_26 : decode cL_isBack 26 = .ok (.iload_n 2, 1) := by decide +kernel
theorem dL_isBack_27 : decode cL_isBack 27 = .ok (.iaload, 1) := by decide +kernel
theorem dL_isBack_28 : decode cL_isBack 28 = .ok (.ifCond .lt 25, 3) := by decide +kernel
theorem dL_isBack_31 : decode cL_isBack 31 = .ok (.iload 13, 2) := by decide +kernel
theorem dL_isBack_33 : decode cL_isBack 33 = .ok (.bipush 60, 2) := by decide +kernel
theorem dL_isBack_35 : decode cL_isBack 35 = .ok (.if_icmp .gt 18, 3) := by decide +kernel
theorem dL_isBack_38 : decode cL_isBack 38 = .ok (.aload_n 0, 1) := by decide +kernel
theorem dL_isBack_39 : decode cL_isBack 39 = .ok (.iload_n 2, 1) := by decide +kernel
theorem dL_isBack_40 : decode cL_isBack 40 = .ok (.iload_n 3, 1) := by decide +kernel
theorem dL_isBack_41 : decode cL_isBack 41 = .ok (.invokevirtual 70, 3) := by decide +kernel
theorem dL_isBack_44 : decode cL_isBack 44 = .ok (.iload 4, 2) := by decide +kernel
theorem dL_isBack_46 : decode cL_isBack 46 = .ok (.if_icmp .lt 7, 3) := by decide +kernel
theorem dL_isBack_49 : decode cL_isBack 49 = .ok (.iconst 1, 1) := by decide +kernel
theorem dL_isBack_50 : decode cL_isBack 50 = .ok (.goto 4, 3) := by decide +kernel
theorem dL_isBack_53 : decode cL_isBack 53 = .ok (.iconst 0, 1) := by decide +kernel
theorem dL_isBack_54 : decode cL_isBack 54 = .ok (.istore 14, 2) := by decide +kernel
theorem dL_isBack_56 : decode cL_isBack 56 = .ok (.aload 9, 2) := by decide +kernel
theorem dL_isBack_58 : decode cL_isBack 58 = .ok (.iload_n 2, 1) := by decide +kernel
theorem dL_isBack_59 : decode cL_isBack 59 = .ok (.iaload, 1) := by decide +kernel
theorem dL_isBack_60 : decode cL_isBack 60 = .ok (.istore 15, 2) := by decide +kernel
theorem dL_isBack_62 : decode cL_isBack 62 = .ok (.aload_n 0, 1) := by decide +kernel
theorem dL_isBack_63 : decode cL_isBack 63 = .ok (.iload 15, 2) := by decide +kernel
theorem dL_isBack_65 : decode cL_isBack 65 = .ok (.invokevirtual 36, 3) := by decide +kernel
theorem dL_isBack_68 : decode cL_isBack 68 = .ok (.istore 16, 2) := by decide +kernel
theorem dL_isBack_70 : decode cL_isBack 70 = .ok (.iload 16, 2) := by decide +kernel
theorem dL_isBack_72 : decode cL_isBack 72 = .ok (.bipush 100, 2) := by decide +kernel
theorem dL_isBack_74 : decode cL_isBack 74 = .ok (.if_icmp .ge 17, 3) := by decide +kernel
theorem dL_isBack_77 : decode cL_isBack 77 = .ok (.iload_n 1, 1) := by decide +kernel
theorem dL_isBack_78 : decode cL_isBack 78 = .ok (.iconst 1, 1) := by decide +kernel
theorem dL_isBack_79 : decode cL_isBack 79 = .ok (.if_icmp .ne 16, 3) := by decide +kernel
theorem dL_isBack_82 : decode cL_isBack 82 = .ok (.aload_n 0, 1) := by decide +kernel
theorem dL_isBack_83 : decode cL_isBack 83 = .ok (.invokevirtual 98, 3) := by decide +kernel
theorem dL_isBack_86 : decode cL_isBack 86 = .ok (.bipush 40, 2) := by decide +kernel
theorem dL_isBack_88 : decode cL_isBack 88 = .ok (.if_icmp .ne 7, 3) := by decide +kernel
theorem dL_isBack_91 : decode cL_isBack 91 = .ok (.iconst 1, 1) := by decide +kernel
theorem dL_isBack_92 : decode cL_isBack 92 = .ok (.goto 4, 3) := by decide +kernel
theorem dL_isBack_95 : decode cL_isBack 95 = .ok (.iconst 0, 1) := by decide +kernel
theorem dL_isBack_96 : decode cL_isBack 96 = .ok (.istore 17, 2) := by decide +kernel
theorem dL_isBack_98 : decode cL_isBack 98 = .ok (.aload_n 0, 1) := by decide +kernel
theorem dL_isBack_99 : decode cL_isBack 99 = .ok (.iload_n 2, 1) := by decide +kernel
theorem dL_isBack_100 : decode cL_isBack 100 = .ok (.invokevirtual 61, 3) := by decide +kernel
theorem dL_isBack_103 : decode cL_isBack 103 = .ok (.istore 18, 2) := by decide +kernel
theorem dL_isBack_105 : decode cL_isBack 105 = .ok (.aload_n 0, 1) := by decide +kernel
theorem dL_isBack_106 : decode cL_isBack 106 = .ok (.iload_n 2, 1) := by decide +kernel
theorem dL_isBack_107 : decode cL_isBack 107 = .ok (.iload_n 3, 1) := by decide +kernel
theorem dL_isBack_108 : decode cL_isBack 108 = .ok (.invokevirtual 70, 3) := by decide +kernel
theorem dL_isBack_111 : decode cL_isBack 111 = .ok (.istore 19, 2) := by decide +kernel
theorem dL_isBack_113 : decode cL_isBack 113 = .ok (.aload_n 0, 1) := by decide +kernel
theorem dL_isBack_114 : decode cL_isBack 114 = .ok (.invokevirtual 102, 3) := by decide +kernel
theorem dL_isBack_117 : decode cL_isBack 117 = .ok (.istore 20, 2) := by decide +kernel
theorem dL_isBack_119 : decode cL_isBack 119 = .ok (.aload 11, 2) := by decide +kernel
theorem dL_isBack_121 : decode cL_isBack 121 = .ok (.bipush 6, 2) := by decide +kernel
theorem dL_isBack_123 : decode cL_isBack 123 = .ok (.iload_n 2, 1) := by decide +kernel
theorem dL_isBack_124 : decode cL_isBack 124 = .ok (.imul, 1) := by decide +kernel
theorem dL_isBack_125 : decode cL_isBack 125 = .ok (.iload_n 3, 1) := by decide +kernel
theorem dL_isBack_126 : decode cL_isBack 126 = .ok (.iadd, 1) := by decide +kernel
theorem dL_isBack_127 : decode cL_isBack 127 = .ok (.iaload, 1) := by decide +kernel
theorem dL_isBack_128 : decode cL_isBack 128 = .ok (.istore 21, 2) := by decide +kernel
theorem dL_isBack_130 : decode cL_isBack 130 = .ok (.aload_n 0, 1) := by decide +kernel
theorem dL_isBack_131 : decode cL_isBack 131 = .ok (.iload 21, 2) := by decide +kernel
theorem dL_isBack_133 : decode cL_isBack 133 = .ok (.iload 5, 2) := by decide +kernel
theorem dL_isBack_135 : decode cL_isBack 135 = .ok (.invokevirtual 22, 3) := by decide +kernel
theorem dL_isBack_138 : decode cL_isBack 138 = .ok (.istore 22, 2) := by decide +kernel
theorem dL_isBack_140 : decode cL_isBack 140 = .ok (.aload_n 0, 1) := by decide +kernel
theorem dL_isBack_141 : decode cL_isBack 141 = .ok (.iload 21, 2) := by decide +kernel
theorem dL_isBack_143 : decode cL_isBack 143 = .ok (.iload 22, 2) := by decide +kernel
theorem dL_isBack_145 : decode cL_isBack 145 = .ok (.invokevirtual 29, 3) := by decide +kernel
theorem dL_isBack_148 : decode cL_isBack 148 = .ok (.istore 23, 2) := by decide +kernel
theorem dL_isBack_150 : decode cL_isBack 150 = .ok (.aload_n 0, 1) := by decide +kernel
theorem dL_isBack_151 : decode cL_isBack 151 = .ok (.invokestatic 137, 3) := by decide +kernel
theorem dL_isBack_154 : decode cL_isBack 154 = .ok (.istore 24, 2) := by decide +kernel
theorem dL_isBack_156 : decode cL_isBack 156 = .ok (.aload_n 0, 1) := by decide +kernel
theorem dL_isBack_157 : decode cL_isBack 157 = .ok (.invokevirtual 98, 3) := by decide +kernel
theorem dL_isBack_160 : decode cL_isBack 160 = .ok (.istore 25, 2) := by decide +kernel
theorem dL_isBack_162 : decode cL_isBack 162 = .ok (.aload_n 0, 1) := by decide +kernel
theorem dL_isBack_163 : decode cL_isBack 163 = .ok (.iconst 2, 1) := by decide +kernel
theorem dL_isBack_164 : decode cL_isBack 164 = .ok (.iload_n 2, 1) := by decide +kernel
theorem dL_isBack_165 : decode cL_isBack 165 = .ok (.iload_n 3, 1) := by decide +kernel
theorem dL_isBack_166 : decode cL_isBack 166 = .ok (.iload 4, 2) := by decide +kernel
theorem dL_isBack_168 : decode cL_isBack 168 = .ok (.iload 5, 2) := by decide +kernel
theorem dL_isBack_170 : decode cL_isBack 170 = .ok (.iconst 0, 1) := by decide +kernel
theorem dL_isBack_171 : decode cL_isBack 171 = .ok (.invokestatic 128, 3) := by decide +kernel
theorem dL_isBack_174 : decode cL_isBack 174 = .ok (.istore 26, 2) := by decide +kernel
theorem dL_isBack_176 : decode cL_isBack 176 = .ok (.iload 14, 2) := by decide +kernel
theorem dL_isBack_178 : decode cL_isBack 178 = .ok (.ifCond .eq 12, 3) := by decide +kernel
theorem dL_isBack_181 : decode cL_isBack 181 = .ok (.iload 17, 2) := by decide +kernel
theorem dL_isBack_183 : decode cL_isBack 183 = .ok (.ifCond .ne 7, 3) := by decide +kernel
theorem dL_isBack_186 : decode cL_isBack 186 = .ok (.lconst 0, 1) := by decide +kernel
theorem dL_isBack_187 : decode cL_isBack 187 = .ok (.goto 9, 3) := by decide +kernel
theorem dL_isBack_190 : decode cL_isBack 190 = .ok (.aload_n 0, 1) := by decide +kernel
theorem dL_isBack_191 : decode cL_isBack 191 = .ok (.aload 10, 2) := by decide +kernel
theorem dL_isBack_193 : decode cL_isBack 193 = .ok (.invokestatic 119, 3) := by decide +kernel
theorem dL_isBack_196 : decode cL_isBack 196 = .ok (.lstore 27, 2) := by decide +kernel
theorem dL_isBack_198 : decode cL_isBack 198 = .ok (.aload_n 0, 1) := by decide +kernel
theorem dL_isBack_199 : decode cL_isBack 199 = .ok (.iload_n 1, 1) := by decide +kernel
theorem dL_isBack_200 : decode cL_isBack 200 = .ok (.iload_n 2, 1) := by decide +kernel
theorem dL_isBack_201 : decode cL_isBack 201 = .ok (.iload_n 3, 1) := by decide +kernel
theorem dL_isBack_202 : decode cL_isBack 202 = .ok (.iload 4, 2) := by decide +kernel
theorem dL_isBack_204 : decode cL_isBack 204 = .ok (.iload 5, 2) := by decide +kernel
theorem dL_isBack_206 : decode cL_isBack 206 = .ok (.iload 6, 2) := by decide +kernel
theorem dL_isBack_208 : decode cL_isBack 208 = .ok (.invokestatic 128, 3) := by decide +kernel
theorem dL_isBack_211 : decode cL_isBack 211 = .ok (.istore 29, 2) := by decide +kernel
theorem dL_isBack_213 : decode cL_isBack 213 = .ok (.iload 14, 2) := by decide +kernel
theorem dL_isBack_215 : decode cL_isBack 215 = .ok (.ifCond .eq 8, 3) := by decide +kernel
theorem dL_isBack_218 : decode cL_isBack 218 = .ok (.iload 17, 2) := by decide +kernel
theorem dL_isBack_220 : decode cL_isBack 220 = .ok (.ifCond .eq 53, 3) := by decide +kernel
theorem dL_isBack_223 : decode cL_isBack 223 = .ok (.iload 29, 2) := by decide +kernel
theorem dL_isBack_225 : decode cL_isBack 225 = .ok (.ldc 44, 2) := by decide +kernel
theorem dL_isBack_227 : decode cL_isBack 227 = .ok (.if_icmp .ne 44, 3) := by decide +kernel
theorem dL_isBack_230 : decode cL_isBack 230 = .ok (.iload 26, 2) := by decide +kernel
theorem dL_isBack_232 : decode cL_isBack 232 = .ok (.ldc 44, 2) := by decide +kernel
theorem dL_isBack_234 : decode cL_isBack 234 = .ok (.if_icmp .ne 7, 3) := by decide +kernel
theorem dL_isBack_237 : decode cL_isBack 237 = .ok (.iconst 1, 1) := by decide +kernel
theorem dL_isBack_238 : decode cL_isBack 238 = .ok (.goto 4, 3) := by decide +kernel
theorem dL_isBack_241 : decode cL_isBack 241 = .ok (.iconst 0, 1) := by decide +kernel
theorem dL_isBack_242 : decode cL_isBack 242 = .ok (.iload 14, 2) := by decide +kernel
theorem dL_isBack_244 : decode cL_isBack 244 = .ok (.ifCond .ne 7, 3) := by decide +kernel
theorem dL_isBack_247 : decode cL_isBack 247 = .ok (.iconst 1, 1) := by decide +kernel
theorem dL_isBack_248 : decode cL_isBack 248 = .ok (.goto 4, 3) := by decide +kernel
theorem dL_isBack_251 : decode cL_isBack 251 = .ok (.iconst 0, 1) := by decide +kernel
theorem dL_isBack_252 : decode cL_isBack 252 = .ok (.if_icmp .ne 19, 3) := by decide +kernel
theorem dL_isBack_255 : decode cL_isBack 255 = .ok (.aload_n 0, 1) := by decide +kernel
theorem dL_isBack_256 : decode cL_isBack 256 = .ok (.aload 10, 2) := by decide +kernel
theorem dL_isBack_258 : decode cL_isBack 258 = .ok (.invokestatic 119, 3) := by decide +kernel
theorem dL_isBack_261 : decode cL_isBack 261 = .ok (.lload 27, 2) := by decide +kernel
theorem dL_isBack_263 : decode cL_isBack 263 = .ok (.lcmp, 1) := by decide +kernel
theorem dL_isBack_264 : decode cL_isBack 264 = .ok (.ifCond .ne 7, 3) := by decide +kernel
theorem dL_isBack_267 : decode cL_isBack 267 = .ok (.iconst 1, 1) := by decide +kernel
theorem dL_isBack_268 : decode cL_isBack 268 = .ok (.goto 4, 3) := by decide +kernel
theorem dL_isBack_271 : decode cL_isBack 271 = .ok (.iconst 0, 1) := by decide +kernel
theorem dL_isBack_272 : decode cL_isBack 272 = .ok (.ireturn, 1) := by decide +kernel
theorem dL_isBack_273 : decode cL_isBack 273 = .ok (.aload_n 0, 1) := by decide +kernel
theorem dL_isBack_274 : decode cL_isBack 274 = .ok (.iload_n 2, 1) := by decide +kernel
theorem dL_isBack_275 : decode cL_isBack 275 = .ok (.invokevirtual 61, 3) := by decide +kernel
theorem dL_isBack_278 : decode cL_isBack 278 = .ok (.iload 18, 2) := by decide +kernel
theorem dL_isBack_280 : decode cL_isBack 280 = .ok (.isub, 1) := by decide +kernel
theorem dL_isBack_281 : decode cL_isBack 281 = .ok (.istore 30, 2) := by decide +kernel
theorem dL_isBack_283 : decode cL_isBack 283 = .ok (.aload_n 0, 1) := by decide +kernel
theorem dL_isBack_284 : decode cL_isBack 284 = .ok (.iload_n 2, 1) := by decide +kernel
theorem dL_isBack_285 : decode cL_isBack 285 = .ok (.invokevirtual 55, 3) := by decide +kernel
theorem dL_isBack_288 : decode cL_isBack 288 = .ok (.iload 18, 2) := by decide +kernel
theorem dL_isBack_290 : decode cL_isBack 290 = .ok (.isub, 1) := by decide +kernel
theorem dL_isBack_291 : decode cL_isBack 291 = .ok (.aload_n 0, 1) := by decide +kernel
theorem dL_isBack_292 : decode cL_isBack 292 = .ok (.iload_n 2, 1) := by decide +kernel
theorem dL_isBack_293 : decode cL_isBack 293 = .ok (.invokevirtual 58, 3) := by decide +kernel
theorem dL_isBack_296 : decode cL_isBack 296 = .ok (.isub, 1) := by decide +kernel
theorem dL_isBack_297 : decode cL_isBack 297 = .ok (.istore 31, 2) := by decide +kernel
theorem dL_isBack_299 : decode cL_isBack 299 = .ok (.iload 5, 2) := by decide +kernel
theorem dL_isBack_301 : decode cL_isBack 301 = .ok (.iconst 3, 1) := by decide +kernel
theorem dL_isBack_302 : decode cL_isBack 302 = .ok (.if_icmp .eq 10, 3) := by decide +kernel
theorem dL_isBack_305 : decode cL_isBack 305 = .ok (.iload 13, 2) := by decide +kernel
theorem dL_isBack_307 : decode cL_isBack 307 = .ok (.bipush 15, 2) := by decide +kernel
theorem dL_isBack_309 : decode cL_isBack 309 = .ok (.if_icmp .ge 7, 3) := by decide +kernel
theorem dL_isBack_312 : decode cL_isBack 312 = .ok (.iconst 0, 1) := by decide +kernel
theorem dL_isBack_313 : decode cL_isBack 313 = .ok (.goto 27, 3) := by decide +kernel
theorem dL_isBack_316 : decode cL_isBack 316 = .ok (.iload 30, 2) := by decide +kernel
theorem dL_isBack_318 : decode cL_isBack 318 = .ok (.i2l, 1) := by decide +kernel
theorem dL_isBack_319 : decode cL_isBack 319 = .ok (.iload 13, 2) := by decide +kernel
theorem dL_isBack_321 : decode cL_isBack 321 = .ok (.bipush 31, 2) := by decide +kernel
theorem dL_isBack_323 : decode cL_isBack 323 = .ok (.if_icmp .ge 8, 3) := by decide +kernel
theorem dL_isBack_326 : decode cL_isBack 326 = .ok (.bipush 15, 2) := by decide +kernel
theorem dL_isBack_328 : decode cL_isBack 328 = .ok (.goto 5, 3) := by decide +kernel
theorem dL_isBack_331 : decode cL_isBack 331 = .ok (.bipush 50, 2) := by decide +kernel
theorem dL_isBack_333 : decode cL_isBack 333 = .ok (.i2l, 1) := by decide +kernel
theorem dL_isBack_334 : decode cL_isBack 334 = .ok (.lmul, 1) := by decide +kernel
theorem dL_isBack_335 : decode cL_isBack 335 = .ok (.ldc2_w 140, 3) := by decide +kernel
theorem dL_isBack_338 : decode cL_isBack 338 = .ok (.ldiv, 1) := by decide +kernel
theorem dL_isBack_339 : decode cL_isBack 339 = .ok (.l2i, 1) := by decide +kernel
theorem dL_isBack_340 : decode cL_isBack 340 = .ok (.istore 32, 2) := by decide +kernel
theorem dL_isBack_342 : decode cL_isBack 342 = .ok (.bipush 10, 2) := by decide +kernel
theorem dL_isBack_344 : decode cL_isBack 344 = .ok (.iload 4, 2) := by decide +kernel
theorem dL_isBack_346 : decode cL_isBack 346 = .ok (.imul, 1) := by decide +kernel
theorem dL_isBack_347 : decode cL_isBack 347 = .ok (.iconst 5, 1) := by decide +kernel
theorem dL_isBack_348 : decode cL_isBack 348 = .ok (.iadd, 1) := by decide +kernel
theorem dL_isBack_349 : decode cL_isBack 349 = .ok (.iload_n 1, 1) := by decide +kernel
theorem dL_isBack_350 : decode cL_isBack 350 = .ok (.iconst 1, 1) := by decide +kernel
theorem dL_isBack_351 : decode cL_isBack 351 = .ok (.if_icmp .ne 16, 3) := by decide +kernel
theorem dL_isBack_354 : decode cL_isBack 354 = .ok (.aload_n 0, 1) := by decide +kernel
theorem dL_isBack_355 : decode cL_isBack 355 = .ok (.iload_n 2, 1) := by decide +kernel
theorem dL_isBack_356 : decode cL_isBack 356 = .ok (.invokevirtual 67, 3) := by decide +kernel
theorem dL_isBack_359 : decode cL_isBack 359 = .ok (.ifCond .le 8, 3) := by decide +kernel
theorem dL_isBack_362 : decode cL_isBack 362 = .ok (.bipush 20, 2) := by decide +kernel
theorem dL_isBack_364 : decode cL_isBack 364 = .ok (.goto 4, 3) := by decide +kernel
theorem dL_isBack_367 : decode cL_isBack 367 = .ok (.iconst 0, 1) := by decide +kernel
theorem dL_isBack_368 : decode cL_isBack 368 = .ok (.iadd, 1) := by decide +kernel
theorem dL_isBack_369 : decode cL_isBack 369 = .ok (.istore 33, 2) := by decide +kernel
theorem dL_isBack_371 : decode cL_isBack 371 = .ok (.iload 30, 2) := by decide +kernel
theorem dL_isBack_373 : decode cL_isBack 373 = .ok (.iload 31, 2) := by decide +kernel
theorem dL_isBack_375 : decode cL_isBack 375 = .ok (.ifCond .le 8, 3) := by decide +kernel
theorem dL_isBack_378 : decode cL_isBack 378 = .ok (.iload 31, 2) := by decide +kernel
theorem dL_isBack_380 : decode cL_isBack 380 = .ok (.goto 4, 3) := by decide +kernel
theorem dL_isBack_383 : decode cL_isBack 383 = .ok (.iconst 0, 1) := by decide +kernel
theorem dL_isBack_384 : decode cL_isBack 384 = .ok (.if_icmp .ne 73, 3) := by decide +kernel
theorem dL_isBack_387 : decode cL_isBack 387 = .ok (.aload_n 0, 1) := by decide +kernel
theorem dL_isBack_388 : decode cL_isBack 388 = .ok (.iload_n 2, 1) := by decide +kernel
theorem dL_isBack_389 : decode cL_isBack 389 = .ok (.iload_n 3, 1) := by decide +kernel
theorem dL_isBack_390 : decode cL_isBack 390 = .ok (.invokevirtual 70, 3) := by decide +kernel
theorem dL_isBack_393 : decode cL_isBack 393 = .ok (.iload 19, 2) := by decide +kernel
theorem dL_isBack_395 : decode cL_isBack 395 = .ok (.iload 4, 2) := by decide +kernel
theorem dL_isBack_397 : decode cL_isBack 397 = .ok (.isub, 1) := by decide +kernel
theorem dL_isBack_398 : decode cL_isBack 398 = .ok (.if_icmp .ne 59, 3) := by decide +kernel
theorem dL_isBack_401 : decode cL_isBack 401 = .ok (.aload_n 0, 1) := by decide +kernel
theorem dL_isBack_402 : decode cL_isBack 402 = .ok (.iload 21, 2) := by decide +kernel
theorem dL_isBack_404 : decode cL_isBack 404 = .ok (.iload 22, 2) := by decide +kernel
theorem dL_isBack_406 : decode cL_isBack 406 = .ok (.invokevirtual 29, 3) := by decide +kernel
theorem dL_isBack_409 : decode cL_isBack 409 = .ok (.iload 23, 2) := by decide +kernel
theorem dL_isBack_411 : decode cL_isBack 411 = .ok (.iload 4, 2) := by decide +kernel
theorem dL_isBack_413 : decode cL_isBack 413 = .ok (.iadd, 1) := by decide +kernel
theorem dL_isBack_414 : decode cL_isBack 414 = .ok (.if_icmp .ne 43, 3) := by decide +kernel
theorem dL_isBack_417 : decode cL_isBack 417 = .ok (.aload_n 0, 1) := by decide +kernel
theorem dL_isBack_418 : decode cL_isBack 418 = .ok (.invokestatic 137, 3) := by decide +kernel
theorem dL_isBack_421 : decode cL_isBack 421 = .ok (.iload 24, 2) := by decide +kernel
theorem dL_isBack_423 : decode cL_isBack 423 = .ok (.iload 4, 2) := by decide +kernel
theorem dL_isBack_425 : decode cL_isBack 425 = .ok (.iadd, 1) := by decide +kernel
theorem dL_isBack_426 : decode cL_isBack 426 = .ok (.if_icmp .ne 31, 3) := by decide +kernel
theorem dL_isBack_429 : decode cL_isBack 429 = .ok (.aload_n 0, 1) := by decide +kernel
theorem dL_isBack_430 : decode cL_isBack 430 = .ok (.iload 15, 2) := by decide +kernel
theorem dL_isBack_432 : decode cL_isBack 432 = .ok (.invokevirtual 36, 3) := by decide +kernel
theorem dL_isBack_435 : decode cL_isBack 435 = .ok (.iload 16, 2) := by decide +kernel
theorem dL_isBack_437 : decode cL_isBack 437 = .ok (.iload 33, 2) := by decide +kernel
theorem dL_isBack_439 : decode cL_isBack 439 = .ok (.iadd, 1) := by decide +kernel
theorem dL_isBack_440 : decode cL_isBack 440 = .ok (.if_icmp .ne 17, 3) := by decide +kernel
theorem dL_isBack_443 : decode cL_isBack 443 = .ok (.iload 26, 2) := by decide +kernel
theorem dL_isBack_445 : decode cL_isBack 445 = .ok (.iload 30, 2) := by decide +kernel
theorem dL_isBack_447 : decode cL_isBack 447 = .ok (.iload 32, 2) := by decide +kernel
theorem dL_isBack_449 : decode cL_isBack 449 = .ok (.isub, 1) := by decide +kernel
theorem dL_isBack_450 : decode cL_isBack 450 = .ok (.if_icmp .ne 7, 3) := by decide +kernel
theorem dL_isBack_453 : decode cL_isBack 453 = .ok (.iconst 1, 1) := by decide +kernel
theorem dL_isBack_454 : decode cL_isBack 454 = .ok (.goto 4, 3) := by decide +kernel
theorem dL_isBack_457 : decode cL_isBack 457 = .ok (.iconst 0, 1) := by decide +kernel
theorem dL_isBack_458 : decode cL_isBack 458 = .ok (.istore 34, 2) := by decide +kernel
theorem dL_isBack_460 : decode cL_isBack 460 = .ok (.iload_n 1, 1) := by decide +kernel
theorem dL_isBack_461 : decode cL_isBack 461 = .ok (.ifCond .ne 42, 3) := by decide +kernel
theorem dL_isBack_464 : decode cL_isBack 464 = .ok (.iload 34, 2) := by decide +kernel
theorem dL_isBack_466 : decode cL_isBack 466 = .ok (.ifCond .eq 35, 3) := by decide +kernel
theorem dL_isBack_469 : decode cL_isBack 469 = .ok (.iload 29, 2) := by decide +kernel
theorem dL_isBack_471 : decode cL_isBack 471 = .ok (.iload 26, 2) := by decide +kernel
theorem dL_isBack_473 : decode cL_isBack 473 = .ok (.if_icmp .ne 28, 3) := by decide +kernel
theorem dL_isBack_476 : decode cL_isBack 476 = .ok (.aload_n 0, 1) := by decide +kernel
theorem dL_isBack_477 : decode cL_isBack 477 = .ok (.invokevirtual 102, 3) := by decide +kernel
theorem dL_isBack_480 : decode cL_isBack 480 = .ok (.iload 20, 2) := by decide +kernel
theorem dL_isBack_482 : decode cL_isBack 482 = .ok (.iload 32, 2) := by decide +kernel
theorem dL_isBack_484 : decode cL_isBack 484 = .ok (.iadd, 1) := by decide +kernel
theorem dL_isBack_485 : decode cL_isBack 485 = .ok (.if_icmp .ne 16, 3) := by decide +kernel
theorem dL_isBack_488 : decode cL_isBack 488 = .ok (.aload_n 0, 1) := by decide +kernel
theorem dL_isBack_489 : decode cL_isBack 489 = .ok (.invokevirtual 98, 3) := by decide +kernel
theorem dL_isBack_492 : decode cL_isBack 492 = .ok (.iload 25, 2) := by decide +kernel
theorem dL_isBack_494 : decode cL_isBack 494 = .ok (.if_icmp .ne 7, 3) := by decide +kernel
theorem dL_isBack_497 : decode cL_isBack 497 = .ok (.iconst 1, 1) := by decide +kernel
theorem dL_isBack_498 : decode cL_isBack 498 = .ok (.goto 4, 3) := by decide +kernel
theorem dL_isBack_501 : decode cL_isBack 501 = .ok (.iconst 0, 1) := by decide +kernel
theorem dL_isBack_502 : decode cL_isBack 502 = .ok (.ireturn, 1) := by decide +kernel
theorem dL_isBack_503 : decode cL_isBack 503 = .ok (.aload 8, 2) := by decide +kernel
theorem dL_isBack_505 : decode cL_isBack 505 = .ok (.iload 25, 2) := by decide +kernel
theorem dL_isBack_507 : decode cL_isBack 507 = .ok (.iload 7, 2) := by decide +kernel
theorem dL_isBack_509 : decode cL_isBack 509 = .ok (.iastore, 1) := by decide +kernel
theorem dL_isBack_510 : decode cL_isBack 510 = .ok (.aload 9, 2) := by decide +kernel
theorem dL_isBack_512 : decode cL_isBack 512 = .ok (.iload 25, 2) := by decide +kernel
theorem dL_isBack_514 : decode cL_isBack 514 = .ok (.iload 15, 2) := by decide +kernel
theorem dL_isBack_516 : decode cL_isBack 516 = .ok (.iastore, 1) := by decide +kernel
theorem dL_isBack_517 : decode cL_isBack 517 = .ok (.aload 10, 2) := by decide +kernel
theorem dL_isBack_519 : decode cL_isBack 519 = .ok (.iload 25, 2) := by decide +kernel
theorem dL_isBack_521 : decode cL_isBack 521 = .ok (.iconst 1, 1) := by decide +kernel
theorem dL_isBack_522 : decode cL_isBack 522 = .ok (.iastore, 1) := by decide +kernel
theorem dL_isBack_523 : decode cL_isBack 523 = .ok (.iload 4, 2) := by decide +kernel
theorem dL_isBack_525 : decode cL_isBack 525 = .ok (.i2l, 1) := by decide +kernel
theorem dL_isBack_526 : decode cL_isBack 526 = .ok (.aload 12, 2) := by decide +kernel
theorem dL_isBack_528 : decode cL_isBack 528 = .ok (.iload 6, 2) := by decide +kernel
theorem dL_isBack_530 : decode cL_isBack 530 = .ok (.iaload, 1) := by decide +kernel
theorem dL_isBack_531 : decode cL_isBack 531 = .ok (.i2l, 1) := by decide +kernel
theorem dL_isBack_532 : decode cL_isBack 532 = .ok (.lmul, 1) := by decide +kernel
theorem dL_isBack_533 : decode cL_isBack 533 = .ok (.lstore 35, 2) := by decide +kernel
theorem dL_isBack_535 : decode cL_isBack 535 = .ok (.lload 35, 2) := by decide +kernel
theorem dL_isBack_537 : decode cL_isBack 537 = .ok (.ldc2_w 142, 3) := by decide +kernel
theorem dL_isBack_540 : decode cL_isBack 540 = .ok (.lcmp, 1) := by decide +kernel
theorem dL_isBack_541 : decode cL_isBack 541 = .ok (.ifCond .ge 7, 3) := by decide +kernel
theorem dL_isBack_544 : decode cL_isBack 544 = .ok (.iconst 0, 1) := by decide +kernel
theorem dL_isBack_545 : decode cL_isBack 545 = .ok (.goto 32, 3) := by decide +kernel
theorem dL_isBack_548 : decode cL_isBack 548 = .ok (.lload 35, 2) := by decide +kernel
theorem dL_isBack_550 : decode cL_isBack 550 = .ok (.ldc2_w 144, 3) := by decide +kernel
theorem dL_isBack_553 : decode cL_isBack 553 = .ok (.lcmp, 1) := by decide +kernel
theorem dL_isBack_554 : decode cL_isBack 554 = .ok (.ifCond .ge 7, 3) := by decide +kernel
theorem dL_isBack_557 : decode cL_isBack 557 = .ok (.iconst 5, 1) := by decide +kernel
theorem dL_isBack_558 : decode cL_isBack 558 = .ok (.goto 19, 3) := by decide +kernel
theorem dL_isBack_561 : decode cL_isBack 561 = .ok (.lload 35, 2) := by decide +kernel
theorem dL_isBack_563 : decode cL_isBack 563 = .ok (.ldc2_w 146, 3) := by decide +kernel
theorem dL_isBack_566 : decode cL_isBack 566 = .ok (.lcmp, 1) := by decide +kernel
theorem dL_isBack_567 : decode cL_isBack 567 = .ok (.ifCond .ge 8, 3) := by decide +kernel
theorem dL_isBack_570 : decode cL_isBack 570 = .ok (.bipush 10, 2) := by decide +kernel
theorem dL_isBack_572 : decode cL_isBack 572 = .ok (.goto 5, 3) := by decide +kernel
theorem dL_isBack_575 : decode cL_isBack 575 = .ok (.bipush 15, 2) := by decide +kernel
theorem dL_isBack_577 : decode cL_isBack 577 = .ok (.istore 37, 2) := by decide +kernel
theorem dL_isBack_579 : decode cL_isBack 579 = .ok (.iload 34, 2) := by decide +kernel
theorem dL_isBack_581 : decode cL_isBack 581 = .ok (.ifCond .eq 131, 3) := by decide +kernel
theorem dL_isBack_584 : decode cL_isBack 584 = .ok (.aload_n 0, 1) := by decide +kernel
theorem dL_isBack_585 : decode cL_isBack 585 = .ok (.invokevirtual 102, 3) := by decide +kernel
theorem dL_isBack_588 : decode cL_isBack 588 = .ok (.iload 20, 2) := by decide +kernel
theorem dL_isBack_590 : decode cL_isBack 590 = .ok (.if_icmp .ne 122, 3) := by decide +kernel
theorem dL_isBack_593 : decode cL_isBack 593 = .ok (.aload_n 0, 1) := by decide +kernel
theorem dL_isBack_594 : decode cL_isBack 594 = .ok (.invokevirtual 98, 3) := by decide +kernel
theorem dL_isBack_597 : decode cL_isBack 597 = .ok (.iload 25, 2) := by decide +kernel
theorem dL_isBack_599 : decode cL_isBack 599 = .ok (.iconst 1, 1) := by decide +kernel
theorem dL_isBack_600 : decode cL_isBack 600 = .ok (.iadd, 1) := by decide +kernel
theorem dL_isBack_601 : decode cL_isBack 601 = .ok (.if_icmp .ne 111, 3) := by decide +kernel
theorem dL_isBack_604 : decode cL_isBack 604 = .ok (.aload_n 0, 1) := by decide +kernel
theorem dL_isBack_605 : decode cL_isBack 605 = .ok (.iload 25, 2) := by decide +kernel
theorem dL_isBack_607 : decode cL_isBack 607 = .ok (.iconst 0, 1) := by decide +kernel
theorem dL_isBack_608 : decode cL_isBack 608 = .ok (.invokevirtual 70, 3) := by decide +kernel
theorem dL_isBack_611 : decode cL_isBack 611 = .ok (.iload 4, 2) := by decide +kernel
theorem dL_isBack_613 : decode cL_isBack 613 = .ok (.if_icmp .ne 99, 3) := by decide +kernel
theorem dL_isBack_616 : decode cL_isBack 616 = .ok (.aload_n 0, 1) := by decide +kernel
theorem dL_isBack_617 : decode cL_isBack 617 = .ok (.iload 25, 2) := by decide +kernel
theorem dL_isBack_619 : decode cL_isBack 619 = .ok (.invokevirtual 55, 3) := by decide +kernel
theorem dL_isBack_622 : decode cL_isBack 622 = .ok (.i2l, 1) := by decide +kernel
theorem dL_isBack_623 : decode cL_isBack 623 = .ok (.lload 35, 2) := by decide +kernel
theorem dL_isBack_625 : decode cL_isBack 625 = .ok (.lload 35, 2) := by decide +kernel
theorem dL_isBack_627 : decode cL_isBack 627 = .ok (.iload 37, 2) := by decide +kernel
theorem dL_isBack_629 : decode cL_isBack 629 = .ok (.i2l, 1) := by decide +kernel
theorem dL_isBack_630 : decode cL_isBack 630 = .ok (.lmul, 1) := by decide +kernel
theorem dL_isBack_631 : decode cL_isBack 631 = .ok (.ldc2_w 140, 3) := by decide +kernel
theorem dL_isBack_634 : decode cL_isBack 634 = .ok (.ldiv, 1) := by decide +kernel
theorem dL_isBack_635 : decode cL_isBack 635 = .ok (.lsub, 1) := by decide +kernel
theorem dL_isBack_636 : decode cL_isBack 636 = .ok (.lcmp, 1) := by decide +kernel
theorem dL_isBack_637 : decode cL_isBack 637 = .ok (.ifCond .ne 75, 3) := by decide +kernel
theorem dL_isBack_640 : decode cL_isBack 640 = .ok (.iload 29, 2) := by decide +kernel
theorem dL_isBack_642 : decode cL_isBack 642 = .ok (.aload_n 0, 1) := by decide +kernel
theorem dL_isBack_643 : decode cL_isBack 643 = .ok (.iload 25, 2) := by decide +kernel
theorem dL_isBack_645 : decode cL_isBack 645 = .ok (.invokevirtual 55, 3) := by decide +kernel
theorem dL_isBack_648 : decode cL_isBack 648 = .ok (.iload 30, 2) := by decide +kernel
theorem dL_isBack_650 : decode cL_isBack 650 = .ok (.isub, 1) := by decide +kernel
theorem dL_isBack_651 : decode cL_isBack 651 = .ok (.if_icmp .ne 61, 3) := by decide +kernel
theorem dL_isBack_654 : decode cL_isBack 654 = .ok (.aload_n 0, 1) := by decide +kernel
theorem dL_isBack_655 : decode cL_isBack 655 = .ok (.iload 25, 2) := by decide +kernel
theorem dL_isBack_657 : decode cL_isBack 657 = .ok (.invokevirtual 64, 3) := by decide +kernel
theorem dL_isBack_660 : decode cL_isBack 660 = .ok (.aload_n 0, 1) := by decide +kernel
theorem dL_isBack_661 : decode cL_isBack 661 = .ok (.iload_n 2, 1) := by decide +kernel
theorem dL_isBack_662 : decode cL_isBack 662 = .ok (.invokevirtual 64, 3) := by decide +kernel
theorem dL_isBack_665 : decode cL_isBack 665 = .ok (.if_icmp .ne 47, 3) := by decide +kernel
theorem dL_isBack_668 : decode cL_isBack 668 = .ok (.aload_n 0, 1) := by decide +kernel
theorem dL_isBack_669 : decode cL_isBack 669 = .ok (.iload 25, 2) := by decide +kernel
theorem dL_isBack_671 : decode cL_isBack 671 = .ok (.invokevirtual 67, 3) := by decide +kernel
theorem dL_isBack_674 : decode cL_isBack 674 = .ok (.aload_n 0, 1) := by decide +kernel
theorem dL_isBack_675 : decode cL_isBack 675 = .ok (.iload_n 2, 1) := by decide +kernel
theorem dL_isBack_676 : decode cL_isBack 676 = .ok (.invokevirtual 67, 3) := by decide +kernel
theorem dL_isBack_679 : decode cL_isBack 679 = .ok (.iconst 1, 1) := by decide +kernel
theorem dL_isBack_680 : decode cL_isBack 680 = .ok (.iadd, 1) := by decide +kernel
theorem dL_isBack_681 : decode cL_isBack 681 = .ok (.if_icmp .ne 31, 3) := by decide +kernel
theorem dL_isBack_684 : decode cL_isBack 684 = .ok (.aload_n 0, 1) := by decide +kernel
theorem dL_isBack_685 : decode cL_isBack 685 = .ok (.iload 25, 2) := by decide +kernel
theorem dL_isBack_687 : decode cL_isBack 687 = .ok (.invokevirtual 58, 3) := by decide +kernel
theorem dL_isBack_690 : decode cL_isBack 690 = .ok (.aload_n 0, 1) := by decide +kernel
theorem dL_isBack_691 : decode cL_isBack 691 = .ok (.iload 25, 2) := by decide +kernel
theorem dL_isBack_693 : decode cL_isBack 693 = .ok (.invokevirtual 55, 3) := by decide +kernel
theorem dL_isBack_696 : decode cL_isBack 696 = .ok (.if_icmp .ne 16, 3) := by decide +kernel
theorem dL_isBack_699 : decode cL_isBack 699 = .ok (.aload_n 0, 1) := by decide +kernel
theorem dL_isBack_700 : decode cL_isBack 700 = .ok (.iload 25, 2) := by decide +kernel
theorem dL_isBack_702 : decode cL_isBack 702 = .ok (.invokevirtual 61, 3) := by decide +kernel
theorem dL_isBack_705 : decode cL_isBack 705 = .ok (.ifCond .ne 7, 3) := by decide +kernel
theorem dL_isBack_708 : decode cL_isBack 708 = .ok (.iconst 1, 1) := by decide +kernel
theorem dL_isBack_709 : decode cL_isBack 709 = .ok (.goto 4, 3) := by decide +kernel
theorem dL_isBack_712 : decode cL_isBack 712 = .ok (.iconst 0, 1) := by decide +kernel
theorem dL_isBack_713 : decode cL_isBack 713 = .ok (.ireturn, 1) := by decide +kernel
